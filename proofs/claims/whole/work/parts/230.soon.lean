/-! ===== pure 30: soonest() the same on both sides ===== -/
/-- the places of the first row of steps, from its end back -/
def epr (nx : Nat → Nat → St → Option St) (s0 : St) (n e : Nat) : Nat → Nat
  | 0 => e
  | r + 1 => (lay nx s0 (n - r)).2.2.1 (epr nx s0 n e r) / 11
def dor (nx : Nat → Nat → St → Option St) (s0 : St) (n e k : Nat) : Nat := (lay nx s0 (k + 1)).2.2.1 (epr nx s0 n e (n - (k + 1))) % 11
def eps (nx : Nat → Nat → St → Option St) (s0 : St) (n e t : Nat) : Nat := epr nx s0 n e (n - t)
theorem epr_ok {R : Nat} {nx : Nat → Nat → St → Option St} {s0 : St} {x n e : Nat} (hR : R ≤ 7) (hn : nxV R nx) (h0 : vS R s0) (he : ff (fun j => ((lay nx s0 n).2.1 j).1 == x) (lay nx s0 n).1 = some e) : ∀ r, r ≤ n → epr nx s0 n e r < (lay nx s0 (n - r)).1 ∧ GB nx x n r ((lay nx s0 (n - r)).2.1 (epr nx s0 n e r)) = true ∧ ∀ j, j < epr nx s0 n e r → GB nx x n r ((lay nx s0 (n - r)).2.1 j) = false := by
  intro r
  induction r with
  | zero =>
    intro _
    obtain ⟨h1, h2, h3⟩ := ff_some he
    exact ⟨h1, h2, h3⟩
  | succ r ih =>
    intro hr
    obtain ⟨i1, i2, i3⟩ := ih (by omega)
    have lb := lay_back hR hn h0 (n - (r + 1)) (GB nx x n (r + 1)) (GB nx x n r) (fun s => GB_iff s) (epr nx s0 n e r)
    rw [show n - (r + 1) + 1 = n - r by omega] at lb
    obtain ⟨b1, b2, b3, _, _⟩ := lb i1 i2 i3
    exact ⟨b1, b2, b3⟩
theorem eps_ok {R : Nat} {nx : Nat → Nat → St → Option St} {s0 : St} {x n e : Nat} (hR : R ≤ 7) (hn : nxV R nx) (h0 : vS R s0) (he : ff (fun j => ((lay nx s0 n).2.1 j).1 == x) (lay nx s0 n).1 = some e) : (∀ t, t ≤ n → eps nx s0 n e t < (lay nx s0 t).1) ∧ ∀ t, t < n → eps nx s0 n e t = (lay nx s0 (t + 1)).2.2.1 (eps nx s0 n e (t + 1)) / 11 ∧ dor nx s0 n e t ≤ 10 ∧ nx t (dor nx s0 n e t) ((lay nx s0 t).2.1 (eps nx s0 n e t)) = some ((lay nx s0 (t + 1)).2.1 (eps nx s0 n e (t + 1))) ∧ GB nx x n (n - (t + 1)) ((lay nx s0 (t + 1)).2.1 (eps nx s0 n e (t + 1))) = true ∧ ∀ d, d < dor nx s0 n e t → ∀ s', nx t d ((lay nx s0 t).2.1 (eps nx s0 n e t)) = some s' → GB nx x n (n - (t + 1)) s' = false := by
  refine ⟨fun t ht => ?_, fun t ht => ?_⟩
  · have := (epr_ok hR hn h0 he (n - t) (by omega)).1
    rw [show n - (n - t) = t by omega] at this
    exact this
  · obtain ⟨r, hr⟩ : ∃ r, n - (t + 1) = r := ⟨_, rfl⟩
    have e1 : n - t = r + 1 := by omega
    have e2 : n - r = t + 1 := by omega
    have e3 : n - (r + 1) = t := by omega
    obtain ⟨i1, i2, i3⟩ := epr_ok hR hn h0 he r (by omega)
    have lb := lay_back hR hn h0 (n - (r + 1)) (GB nx x n (r + 1)) (GB nx x n r) (fun s => GB_iff s) (epr nx s0 n e r)
    rw [e3] at lb
    rw [e2] at i1 i2 i3
    obtain ⟨b1, b2, b3, b4, b5⟩ := lb i1 i2 i3
    have ee : eps nx s0 n e t = (lay nx s0 (t + 1)).2.2.1 (eps nx s0 n e (t + 1)) / 11 := by
      unfold eps
      rw [e1, hr, epr, e2]
    have ee2 : eps nx s0 n e (t + 1) = epr nx s0 n e r := by unfold eps; rw [hr]
    have ed : dor nx s0 n e t = (lay nx s0 (t + 1)).2.2.1 (epr nx s0 n e r) % 11 := by unfold dor; rw [hr]
    have hm : (lay nx s0 (t + 1)).2.2.1 (epr nx s0 n e r) % 11 < 11 := Nat.mod_lt _ (by decide)
    refine ⟨ee, by omega, ?_, ?_, ?_⟩
    · rw [ee, ee2, ed]; exact b4
    · rw [ee2, hr]; exact i2
    · rw [ee, ee2, ed, hr]; exact b5
theorem p_stepOf {R : Nat} {nx : Nat → Nat → St → Option St} {s0 : St} {x n e k : Nat} {pairs parents sizes steps : Nat → Int32} (hR : R ≤ 7) (hn : nxV R nx) (h0 : vS R s0) (he : ff (fun j => ((lay nx s0 n).2.1 j).1 == x) (lay nx s0 n).1 = some e) (hL : LOK nx s0 n pairs parents sizes steps) (hn24 : n ≤ 24) (hk : k < 24) : f_X4_stepOf parents steps (nI n) (nI e) (nI k) = some (if k < n then nI (dor nx s0 n e k) else -4) := by
  unfold f_X4_stepOf
  by_cases hkn : k < n
  · obtain ⟨p1, p2⟩ := eps_ok hR hn h0 he
    have hsz := fun t => (lay_v hR hn h0 t).2.1
    rw [if_pos (nI_lt hkn (by omega)), if_pos hkn, show nI k + (1 : Int32) = nI (k + 1) from nI_1 k]
    have h := itr_count (step := un2 (b_X4_stepOf_14 parents (nI k))) (fun i => (nI (eps nx s0 n e (n - i)), nI (n - i))) (n - (k + 1)) (nI (eps nx s0 n e (k + 1)), nI (k + 1)) ?_ ?_ FU (by unfold FU; omega)
    · have e0 : eps nx s0 n e (n - 0) = e := by unfold eps; rw [show n - (n - 0) = 0 by omega]; rfl
      have h' : itr (un2 (b_X4_stepOf_14 parents (nI k))) FU (nI e, nI n) = some (nI (eps nx s0 n e (k + 1)), nI (k + 1)) := by
        have h2 := h
        simp only [e0, Nat.sub_zero] at h2
        rw [Nat.sub_zero] at e0
        rw [e0] at h2
        exact h2
      have a1 := p1 (k + 1) (by omega)
      have a2 := hsz (k + 1)
      rw [h', ob2_s, show nI (k + 1) * (56 : Int32) = nI ((k + 1) * 56) from pk_mul _ 56, nI_add, gin_k (by omega) (by omega), nI_cl (by omega), show (k + 1) * 56 + eps nx s0 n e (k + 1) = 56 * (k + 1) + eps nx s0 n e (k + 1) by omega]
      rw [((hL (k + 1) (by omega)).2.2 (by omega) _ a1).2]
      rfl
    · intro i hi
      skip
      obtain ⟨t, ht⟩ : ∃ t, n - i = t + 1 := ⟨n - i - 1, by omega⟩
      have a1 := p1 (t + 1) (by omega)
      have a2 := hsz (t + 1)
      rw [ht, show n - (i + 1) = t by omega, un2_s]
      unfold b_X4_stepOf_14
      rw [show nI k + (1 : Int32) = nI (k + 1) from nI_1 k, if_neg (nI_ge (show k + 1 < t + 1 by omega) (by omega)), show nI (t + 1) * (56 : Int32) = nI ((t + 1) * 56) from pk_mul _ 56, nI_add, gin_k (by omega) (by omega), nI_cl (by omega), show (t + 1) * 56 + eps nx s0 n e (t + 1) = 56 * (t + 1) + eps nx s0 n e (t + 1) by omega]
      rw [((hL (t + 1) (by omega)).2.2 (by omega) _ a1).1, bnd_s, bnd_s, pk_m1, (p2 t (by omega)).1]
    · skip
      rw [show n - (n - (k + 1)) = k + 1 by omega, un2_s]
      unfold b_X4_stepOf_14
      rw [show nI k + (1 : Int32) = nI (k + 1) from nI_1 k, if_pos (nI_le (Nat.le_refl _) (by omega))]
  · rw [if_neg (nI_nlt (by omega) (by omega)), if_neg hkn]
/-- in which layer he is first in a room -/
def lyr (nx : Nat → Nat → St → Option St) (s0 : St) (x t : Nat) : Bool := (ff (fun j => ((lay nx s0 t).2.1 j).1 == x) (lay nx s0 t).1).isSome
def fl (o : Option Nat) : Nat := match o with | some n => n | none => 25
theorem fl_lt {p : Nat → Bool} {i : Nat} (h : i < fl (ff p 25)) : i < 25 ∧ p i = false := by
  cases hf : ff p 25 with
  | none => rw [hf] at h; exact ⟨h, ff_none hf i h⟩
  | some n =>
    rw [hf] at h
    obtain ⟨h1, _, h3⟩ := ff_some hf
    have h' : i < n := h
    exact ⟨by omega, h3 i h'⟩
theorem p_grow24 {m : Int64} {b1 b2 b3 b4 b5 b6 b7 : Int32} {f1 f2 f3 f4 f5 f6 f7 f8 : Nat → Int32} : f_X4_grow m b1 b2 b3 b4 b5 b6 b7 f1 f2 f3 f4 f5 f6 f7 f8 (nI 24) = some (b1, b4, f3, m, f4, f5, f6, f7, f8) := by
  unfold f_X4_grow
  rw [if_neg (show ¬ nI 24 < (24 : Int32) from by decide)]
def sRes (nx : Nat → Nat → St → Option St) (s0 : St) (n e w : Nat) : Int32 := if w = 0 then nI n else if w - 10 < n then nI (dor nx s0 n e (w - 10)) else -4
theorem p_soonLoop {R Dn K SL : Nat} {a rl : Nat → Nat} {per st hb x w : Nat} {s0 : St} {w0 : (Nat → Nat) × Nat} {met : Int64} {pairs parents pr sizes steps strg : Nat → Int32} (y1 y2 y4 y5 : Int32) (hP : PlO R Dn K SL a rl) (hW0 : Wok R Dn w0) (hp : 0 < per) (hp6 : per ≤ 6) (hst : st ≤ 999) (hh : hb < 4) (h0 : vS R s0) (hx : x < 7) (hw : w = 0 ∨ (10 ≤ w ∧ w ≤ 33)) (hL : LOK (nxg a Dn st hb (tw R K rl per st w0)) s0 0 pairs parents sizes steps) : ∃ o, itr (un10 (b_X7_soonest_58 (nI R) (nI Dn) (nI K) (rI a) (rI rl) (nI x) (nI w) y1 y2 (nI hb) y4 y5 (nI per) strg)) FU ((0 : Int32), nI w0.2, nI st, rI w0.1, met, pairs, parents, pr, sizes, steps) = some o ∧ (match ff (lyr (nxg a Dn st hb (tw R K rl per st w0)) s0 x) 25 with
    | none => ∃ (v bd sp : Int32) (b1 : Nat → Nat) (met' : Int64) (pairs' parents' pr' sizes' steps' : Nat → Int32), o = .inr (v, bd, sp, rI b1, met', pairs', parents', pr', sizes', steps') ∧ lt7 b1 ∧ z0 10 b1
    | some n => ∃ (bd sp : Int32) (b1 : Nat → Nat) (met' : Int64) (pairs' parents' pr' sizes' steps' : Nat → Int32) (e : Nat), ff (fun j => ((lay (nxg a Dn st hb (tw R K rl per st w0)) s0 n).2.1 j).1 == x) (lay (nxg a Dn st hb (tw R K rl per st w0)) s0 n).1 = some e ∧ o = .inl (sRes (nxg a Dn st hb (tw R K rl per st w0)) s0 n e w, bd, y1, y2, nI hb, y4, y5, nI per, sp, rI b1, strg, met', pairs', parents', pr', sizes', steps') ∧ lt7 b1 ∧ z0 10 b1) := by
  have hP' := hP
  obtain ⟨q1, q2, q3, q4, q5, q6, q7, q8, q9, q10, q11⟩ := hP
  have hT := fun t => Wok_tw (per := per) (st := st) (K := K) q3 q11 (by omega) q2 hW0 t
  have hn : nxV R (nxg a Dn st hb (tw R K rl per st w0)) := nxg_v q3 q8 hT
  have hgr := fun (T : Nat) (met : Int64) (pairs parents pr sizes steps : Nat → Int32) (hT : T + 1 ≤ 24) hL => p_grow (T := T) (met := met) (pairs := pairs) (parents := parents) (pr := pr) (sizes := sizes) (steps := steps) hP' hW0 hp hp6 hst hh h0 hT hL
  have htw0 : tw R K rl per st w0 0 = w0 := rfl
  generalize hws : tw R K rl per st w0 = ws at *
  generalize hnx : nxg a Dn st hb ws = nx at *
  have hle : fl (ff (lyr nx s0 x) 25) ≤ 25 := by
    cases hf : ff (lyr nx s0 x) 25 with
    | none => exact Nat.le_refl _
    | some n => obtain ⟨h1, _, _⟩ := ff_some hf; show n ≤ 25; omega
  refine itr_inv (step := un10 (b_X7_soonest_58 (nI R) (nI Dn) (nI K) (rI a) (rI rl) (nI x) (nI w) y1 y2 (nI hb) y4 y5 (nI per) strg)) (fun i y => y.1 = nI i ∧ (i ≤ 24 → GrP nx s0 ws st i y.2.1 y.2.2.1 y.2.2.2.1 y.2.2.2.2.2.1 y.2.2.2.2.2.2.1 y.2.2.2.2.2.2.2.2.1 y.2.2.2.2.2.2.2.2.2) ∧ ∃ b1, y.2.2.2.1 = rI b1 ∧ lt7 b1 ∧ z0 10 b1) (fl (ff (lyr nx s0 x) 25)) _ ?_ ?_ ((0 : Int32), nI w0.2, nI st, rI w0.1, met, pairs, parents, pr, sizes, steps) ⟨rfl, fun _ => ⟨by rw [htw0], rfl, by rw [htw0], hL⟩, w0.1, rfl, hW0.1, hW0.2.1⟩ FU (by unfold FU; omega)
  · rintro i ⟨x1, x2, x3, x4, x5, x6, x7, x8, x9, x10⟩ hi ⟨z1, z2, z3⟩
    simp only at z1 z2 z3
    obtain ⟨hi25, hpi⟩ := fl_lt hi
    obtain ⟨g1, g2, g3, g4⟩ := z2 (by omega)
    subst z1; subst g1; subst g2; subst g3
    have hno : ff (fun j => ((lay nx s0 i).2.1 j).1 == x) (lay nx s0 i).1 = none := by
      unfold lyr at hpi
      cases hf : ff (fun j => ((lay nx s0 i).2.1 j).1 == x) (lay nx s0 i).1 with
      | none => rfl
      | some k => rw [hf] at hpi; cases hpi
    have hfi := p_firstIn (x := x) q2 hn h0 g4 (Nat.le_refl i) (by omega) hx
    rw [hno] at hfi
    by_cases c : i = 24
    · subst c
      refine ⟨(nI 25, nI (ws 24).2, nI (st + 24), rI (ws 24).1, x5, x6, x7, x8, x9, x10), ?_, rfl, fun h => absurd h (by decide), z3⟩
      rw [un10_s]
      unfold b_X7_soonest_58
      rw [if_neg (show ¬ (24 : Int32) < nI 24 from by decide), hfi, ob1_s, if_pos rfl, p_grow24, ob9_s, bnd_s]
      rfl
    · obtain ⟨met', pairs', parents', pr', sizes', steps', eg, hL'⟩ := hgr i x5 x6 x7 x8 x9 x10 (by omega) g4
      refine ⟨(nI (i + 1), nI (ws (i + 1)).2, nI (st + (i + 1)), rI (ws (i + 1)).1, met', pairs', parents', pr', sizes', steps'), ?_, rfl, fun _ => ⟨rfl, rfl, rfl, hL'⟩, _, rfl, (hT (i + 1)).1, (hT (i + 1)).2.1⟩
      rw [un10_s]
      unfold b_X7_soonest_58
      rw [if_neg (show ¬ (24 : Int32) < nI i from nI_nlt (a := 24) (by omega) (by omega)), hfi, ob1_s, if_pos rfl, eg, ob9_s, bnd_s, show nI i + (1 : Int32) = nI (i + 1) from nI_1 i]
  · rintro ⟨x1, x2, x3, x4, x5, x6, x7, x8, x9, x10⟩ ⟨z1, z2, z3⟩
    simp only at z1 z2 z3
    obtain ⟨b1, rfl, hb1, hb2⟩ := z3
    subst z1
    cases hf : ff (lyr nx s0 x) 25 with
    | none =>
      refine ⟨.inr (nI 25, x2, x3, rI b1, x5, x6, x7, x8, x9, x10), ?_, nI 25, x2, x3, b1, x5, x6, x7, x8, x9, x10, rfl, hb1, hb2⟩
      rw [un10_s]
      unfold b_X7_soonest_58
      rw [show fl none = 25 from rfl, if_pos (show (24 : Int32) < nI 25 from by decide)]
    | some n =>
      rw [hf] at z2
      obtain ⟨f1, f2, f3⟩ := ff_some hf
      have hn24 : n ≤ 24 := by omega
      obtain ⟨g1, g2, g3, g4⟩ := z2 hn24
      simp only [show fl (some n) = n from rfl] at g1 g2 g3 g4 ⊢
      cases he : ff (fun j => ((lay nx s0 n).2.1 j).1 == x) (lay nx s0 n).1 with
      | none => unfold lyr at f2; rw [he] at f2; cases f2
      | some e =>
        have hfi := p_firstIn (x := x) q2 hn h0 g4 (Nat.le_refl n) hn24 hx
        rw [he] at hfi
        have hen : e < 56 := by
          have := (ff_some he).1
          have := (lay_v q2 hn h0 n).2.1
          omega
        refine ⟨.inl (sRes nx s0 n e w, x2, y1, y2, nI hb, y4, y5, nI per, x3, rI b1, strg, x5, x6, x7, x8, x9, x10), ?_, x2, x3, b1, x5, x6, x7, x8, x9, x10, e, rfl, rfl, hb1, hb2⟩
        rw [un10_s]
        unfold b_X7_soonest_58
        rw [if_neg (show ¬ (24 : Int32) < nI n from nI_nlt (a := 24) (by omega) (by omega)), hfi, ob1_s, if_neg (show ¬ nI e = (-4 : Int32) from ne4 (by omega))]
        unfold sRes
        rcases hw with h | ⟨h, h'⟩
        · subst h
          rw [if_pos (show nI 0 = (0 : Int32) from rfl), if_pos rfl]
        · rw [if_neg (nI_ne0 (by omega) (by omega)), if_neg (by omega), show nI w - (10 : Int32) = nI (w - 10) from pk_sub (b := 10) (by omega), p_stepOf q2 hn h0 he g4 hn24 (by omega), ob1_s]
