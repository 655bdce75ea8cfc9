/-! ===== pure 21: doors in the steps to come; lair ===== -/
def tw (R K : Nat) (rl : Nat → Nat) (per st : Nat) (w : (Nat → Nat) × Nat) : Nat → (Nat → Nat) × Nat
  | 0 => w
  | t + 1 => tick R K rl per (st + t) (tw R K rl per st w t)
theorem Wok_tw {R Dn K per st : Nat} {rl : Nat → Nat} {w : (Nat → Nat) × Nat} (hD : Dn ≤ 10) (hok : ∀ k, k < K → lok Dn (rl k)) (hR : 0 < R) (hR7 : R ≤ 7) (h : Wok R Dn w) (t : Nat) : Wok R Dn (tw R K rl per st w t) := by
  induction t with
  | zero => exact h
  | succ t ih => exact Wok_tick hD hok hR hR7 ih
theorem m_layRow {wk pg : Nat → Int32} {t : Nat} (ht : t ≤ 24) : ∃ pg' x, itr (un2 (b_X8_layPages_14 (nI t) wk)) FU ((0 : Int32), pg) = some (x, pg') ∧ (∀ k, k < 30 → pg' (30 * t + k) = wk k) ∧ ∀ j, (j < 30 * t ∨ 30 * t + 30 ≤ j) → pg' j = pg j := by
  have hh := itr_inv (step := un2 (b_X8_layPages_14 (nI t) wk)) (fun i x => x.1 = nI i ∧ (∀ k, k < i → x.2 (30 * t + k) = wk k) ∧ ∀ j, (j < 30 * t ∨ 30 * t + i ≤ j) → x.2 j = pg j) 30 (fun o => (∀ k, k < 30 → o.2 (30 * t + k) = wk k) ∧ ∀ j, (j < 30 * t ∨ 30 * t + 30 ≤ j) → o.2 j = pg j) ?_ ?_ ((0 : Int32), pg) ⟨rfl, fun k hk => absurd hk (Nat.not_lt_zero _), fun _ _ => rfl⟩ FU (by unfold FU; omega)
  · obtain ⟨⟨o1, o2⟩, e, q1⟩ := hh
    exact ⟨o2, o1, e, q1⟩
  · rintro i ⟨x1, x2⟩ hi ⟨h1, h2, h3⟩
    simp only at h1 h2 h3
    subst h1
    refine ⟨(nI (i + 1), upd x2 (30 * t + i) (wk i)), ?_, rfl, ?_, ?_⟩
    · rw [un2_s]
      unfold b_X8_layPages_14
      rw [if_neg (show ¬ (30 : Int32) ≤ nI i from nI_ge (b := 30) hi (by omega)), show (30 : Int32) * nI t = nI (30 * t) from pk_mul 30 t, nI_add, gin_k (by omega) (by omega), gin_k (by omega) (by omega), nI_cl (by omega), nI_cl (by omega), bnd_s, bnd_s, show nI i + 1 = nI (i + 1) from nI_1 i]
    · intro k hk
      simp only
      by_cases c : k = i
      · rw [c, pk_us]
      · rw [pk_un (by omega)]; exact h2 k (by omega)
    · intro j hj
      simp only
      rw [pk_un (by omega)]; exact h3 j (by omega)
  · rintro ⟨x1, x2⟩ ⟨h1, h2, h3⟩
    simp only at h1 h2 h3
    subst h1
    refine ⟨(nI 30, x2), ?_, h2, h3⟩
    rw [un2_s]
    unfold b_X8_layPages_14
    rw [if_pos (show (30 : Int32) ≤ nI 30 from nI_le (a := 30) (Nat.le_refl 30) (by omega))]
theorem hse_move {g g' : Nat → Int32} {o o' Dn bm : Nat} {a b : Nat → Nat} (h : hse g o Dn a b bm) (hD : Dn ≤ 10) (hg : ∀ k, k < 30 → g' (o' + k) = g (o + k)) : hse g' o' Dn a b bm := by
  intro d hd
  have z := h d hd
  have e1 := hg (3 * d) (by omega)
  have e2 := hg (3 * d + 1) (by omega)
  have e3 := hg (3 * d + 2) (by omega)
  refine ⟨e1.trans z.1, ?_, ?_⟩
  · rw [show o' + 3 * d + 1 = o' + (3 * d + 1) by omega, e2, ← show o + 3 * d + 1 = o + (3 * d + 1) by omega]; exact z.2.1
  · rw [show o' + 3 * d + 2 = o' + (3 * d + 2) by omega, e3, ← show o + 3 * d + 2 = o + (3 * d + 2) by omega]; exact z.2.2
theorem m_layPages {R K Dn SL : Nat} {a b rl : Nat → Nat} {bm per st : Nat} {g lw wk pg : Nat → Int32} (hP : PlO R Dn K SL a rl) (hl : lwr lw K rl) (hW : Wok R Dn (b, bm)) (hp : 0 < per) (hp6 : per ≤ 6) (hst : st ≤ 999) (h1 : hse g 0 Dn a b bm) (h30 : g 30 = nI (per - 1)) (h47 : g 47 = nI st) : ∃ pg' w', f_X8_layPages (nI R) (nI K) lw pg g wk = some (pg', w') ∧ ∀ t, t ≤ 24 → hse pg' (30 * t) Dn a (tw R K rl per st (b, bm) t).1 (tw R K rl per st (b, bm) t).2 := by
  obtain ⟨q1, q2, q3, q4, q5, q6, q7, q8, q9, q10, q11⟩ := hP
  have hT := fun t => Wok_tw (per := per) (st := st) (K := K) q3 q11 (by omega) q2 hW t
  unfold f_X8_layPages
  obtain ⟨w1, e1, z1, z2⟩ := m_worksNow g wk
  rw [e1, ob1_s]
  have hh := itr_inv (step := un3 (b_X8_layPages_6 (nI R) (nI K) lw g)) (fun i x => x.1 = nI i ∧ (∀ t, t < i → hse x.2.1 (30 * t) Dn a (tw R K rl per st (b, bm) t).1 (tw R K rl per st (b, bm) t).2) ∧ hse x.2.2 0 Dn a (tw R K rl per st (b, bm) i).1 (tw R K rl per st (b, bm) i).2) 25 (fun o => ∀ t, t < 25 → hse o.2.1 (30 * t) Dn a (tw R K rl per st (b, bm) t).1 (tw R K rl per st (b, bm) t).2) ?_ ?_ ((0 : Int32), pg, w1) ⟨rfl, fun t ht => absurd ht (Nat.not_lt_zero _), hse_of h1 q3 z1⟩ FU (by unfold FU; omega)
  · obtain ⟨⟨o1, o2, o3⟩, e, q⟩ := hh
    rw [e, ob3_s]
    exact ⟨o2, o3, rfl, fun t ht => q t (by omega)⟩
  · rintro i ⟨x1, x2, x3⟩ hi ⟨y1, y2, y3⟩
    simp only at y1 y2 y3
    subst y1
    obtain ⟨pg', xx, e2, u1, u2⟩ := m_layRow (wk := x3) (pg := x2) (t := i) (by omega)
    have rows : ∀ t, t < i + 1 → hse pg' (30 * t) Dn a (tw R K rl per st (b, bm) t).1 (tw R K rl per st (b, bm) t).2 := by
      intro t ht
      by_cases c : t = i
      · subst c
        exact hse_move y3 q3 (fun k hk => by rw [u1 k hk, Nat.zero_add])
      · exact hse_move (y2 t (by omega)) q3 (fun k hk => u2 _ (by omega))
    have hm : (st + i + 1) % per < per := Nat.mod_lt _ hp
    have ebody : b_X8_layPages_6 (nI R) (nI K) lw g (nI i) x2 x3 = (if nI ((st + i + 1) % per) = 0 then (ob1 (f_X8_dusks (nI R) (nI K) lw x3) (fun t_work_25 => some (.inl (nI (i + 1), pg', t_work_25)))) else some (.inl (nI (i + 1), pg', x3))) := by
      unfold b_X8_layPages_6
      rw [if_neg (show ¬ (24 : Int32) < nI i from nI_nlt (a := 24) (by omega) (by omega)), e2, ob2_s, g47, g30, k47, k30, h47, h30, show nI (per - 1) + 1 = nI (per - 1 + 1) from nI_1 _, show per - 1 + 1 = per by omega, gnz_k hp (by omega), jn1_s, nI_add, show nI (st + i) + 1 = nI (st + i + 1) from nI_1 _, pk_rem (by omega) hp (by omega), show nI i + 1 = nI (i + 1) from nI_1 i]
      rfl
    by_cases hz : (st + i + 1) % per = 0
    · obtain ⟨w2, e3, q3', q4'⟩ := m_dusks (R := R) y3 q3 q4 hl q11 (by omega) q2 (hT i).1
      refine ⟨(nI (i + 1), pg', w2), ?_, rfl, rows, ?_⟩
      · rw [un3_s, ebody, if_pos (by rw [hz]; rfl), e3, ob1_s]
      · rw [tw, tick, if_pos hz]; exact q3'
    · refine ⟨(nI (i + 1), pg', x3), ?_, rfl, rows, ?_⟩
      · rw [un3_s, ebody, if_neg (nI_ne0 (by omega) (by omega))]
      · rw [tw, tick, if_neg hz]; exact y3
  · rintro ⟨x1, x2, x3⟩ ⟨y1, y2, y3⟩
    simp only at y1 y2 y3
    subst y1
    refine ⟨(nI 25, x2, x3), ?_, y2⟩
    rw [un3_s]
    unfold b_X8_layPages_6
    rw [if_pos (show (24 : Int32) < nI 25 from nI_lt (a := 24) (by omega) (by omega))]
theorem allF_succ (p : Nat → Bool) : ∀ (r i : Nat), allF p i (r + 1) = (allF p i r && p (i + r))
  | 0, i => by simp [allF]
  | r + 1, i => by
    rw [allF, allF_succ p r (i + 1), allF, Bool.and_assoc, show i + 1 + r = i + (r + 1) by omega]
theorem ff_all (q : Nat → Bool) (n : Nat) : (ff (fun k => !q k) n).isNone = allF q 0 n := by
  rw [Bool.eq_iff_iff, ff_iff, allF_iff]
  constructor
  · intro h j _ hj
    have := h j (by omega)
    simpa using this
  · intro h j hj
    have := h j (by omega) (by omega)
    simp [this]
/-- where the beast is behind t steps -/
def bts (a : Nat → Nat) (Dn st hb y : Nat) (ws : Nat → (Nat → Nat) × Nat) (x : Nat) : Nat → Nat
  | 0 => x
  | t + 1 => prw a (ws t).1 (ws t).2 Dn (st + t) hb (bts a Dn st hb y ws x t) y
theorem bts_lt {a : Nat → Nat} {Dn st hb y : Nat} {ws : Nat → (Nat → Nat) × Nat} {x : Nat} (h7a : lt7 a) (hw : ∀ t, lt7 (ws t).1) (hx : x < 7) (hy : y < 7) (t : Nat) : bts a Dn st hb y ws x t < 7 := by
  induction t with
  | zero => exact hx
  | succ t ih => exact prw_lt h7a (hw t) ih hy
def okh (tm sb : Nat → Nat) (vl : Nat → Bool) (t x k : Nat) : Bool := !(tm k == t) || ((x == sb k) == vl k)
theorem p_isAsHeard {n t x : Nat} {tm sb : Nat → Nat} {vl : Nat → Bool} {times subjects values : Nat → Int32} (hn : n ≤ 6) (hx : x < 7) (hh : ∀ i, i < n → times i = nI (tm i) ∧ subjects i = nI (sb i) ∧ values i = bz (vl i) ∧ tm i ≤ 12 ∧ sb i < 7) (ht : t ≤ 12) : f_X7_isAsHeard (nI n) subjects times values (nI t) (nI x) = some (bz (allF (okh tm sb vl t x) 0 n)) := by
  unfold f_X7_isAsHeard
  rw [← ff_all]
  have stepd : ∀ i, i < n → b_X7_isAsHeard_2 (nI n) subjects times values (nI t) (nI x) (nI i) = (if okh tm sb vl t x i then some (.inl (nI (i + 1))) else some (.inr (.inl 0))) := by
    intro i hi
    obtain ⟨z1, z2, z3, z4, z5⟩ := hh i hi
    unfold b_X7_isAsHeard_2 okh
    rw [if_neg (nI_ge hi (by omega)), gin_k (by omega) (by omega), jn1_s, nI_cl (by omega), z1, z2, z3]
    have key : ∀ c : Bool, (ob1 (f_X7_asNumber (bz c)) fun r_7 => gin (nI i) 6 (jn0 (bnd (nI i + 1) fun v3_11 => some (Sum.inl v3_11)) fun j_10 => if nI (tm i) = nI t then gin (nI i) 6 (if bz (vl i) = r_7 then j_10 else some (Sum.inr (Sum.inl (0 : Int32)))) else j_10)) = (if (!(tm i == t) || (c == vl i)) = true then some (Sum.inl (nI (i + 1))) else (some (.inr (.inl 0)) : Option (Int32 ⊕ (Int32 ⊕ Int32)))) := by
      intro c
      rw [p_asNumber, ob1_s, gin_k (by omega) (by omega), jn0_s, bnd_s, gin_k (by omega) (by omega), show nI i + 1 = nI (i + 1) from nI_1 i]
      by_cases hc : tm i = t
      · rw [if_pos (by rw [hc])]
        have : (tm i == t) = true := by simpa using hc
        rw [this]
        cases c <;> cases vl i <;> rfl
      · rw [if_neg (fun e => hc (nI_inj (by omega) (by omega) e))]
        have : (tm i == t) = false := by simpa using hc
        rw [this]
        rfl
    by_cases hc : sb i = x
    · rw [if_pos (by rw [hc])]
      have e : (x == sb i) = true := by simp [hc]
      rw [e]
      exact key true
    · rw [if_neg (fun e => hc (nI_inj (by omega) (by omega) e))]
      have e : (x == sb i) = false := by
        have : ¬ x = sb i := fun e => hc e.symm
        simpa using this
      rw [e]
      exact key false
  have h := itr_first (step := un1 (b_X7_isAsHeard_2 (nI n) subjects times values (nI t) (nI x))) (fun k => !okh tm sb vl t x k) nI n (fun _ => (0 : Int32)) (nI n) ?_ ?_ ?_ FU (by unfold FU; omega)
  · rw [show (0 : Int32) = nI 0 from rfl] at *
    rw [h]
    cases ff (fun k => !okh tm sb vl t x k) n <;> rfl
  · intro i hi hp
    rw [un1_s, stepd i hi, if_pos (by simpa using hp)]
  · intro i hi hp
    rw [un1_s, stepd i hi, if_neg (by simpa using hp)]
  · rw [un1_s]
    unfold b_X7_isAsHeard_2
    rw [if_pos (nI_le (Nat.le_refl n) (by omega))]
/-- whether a beast of a habit may lurk in a room -/
def lurkB (a : Nat → Nat) (Dn st hb y : Nat) (ws : Nat → (Nat → Nat) × Nat) (n : Nat) (tm sb : Nat → Nat) (vl : Nat → Bool) (x : Nat) : Bool := allF (fun t => allF (okh tm sb vl (t + 1) (bts a Dn st hb y ws x (t + 1))) 0 n) 0 12
theorem p_mayLurkIn {R Dn K SL : Nat} {a b rl : Nat → Nat} {bm per hs : Nat} {be : Option Nat} {hb on : Nat} {sg : Nat → Nat} {st : Nat} {ea : Bool} {ase astr times subjects values : Nat → Int32} {n : Nat} {tm sb : Nat → Nat} {vl : Nat → Bool} {x hb9 : Nat} (hP : PlO R Dn K SL a rl) (hO : PgO R Dn b bm per hs be hb on sg st) (hA : ScR ase astr) (hn : n ≤ 6) (hh : ∀ i, i < n → times i = nI (tm i) ∧ subjects i = nI (sb i) ∧ values i = bz (vl i) ∧ tm i ≤ 12 ∧ sb i < 7) (hx : x < 7) (hh9 : hb9 < 4) : ∃ (y1 y2 y3 y4 y5 y6 y7 y8 : Int32) (se' str' : Nat → Int32), f_X7_mayLurkIn ase astr (nI n) subjects times values (nI bm) (nI per) (nI hs) (enc be) (nI hb) (nI on) (nI st) (bz ea) (rI b) (rI sg) (nI R) (nI Dn) (nI K) (rI a) (rI rl) (nI x) (nI hb9) = some (bz (lurkB a Dn st hb9 hs (tw R K rl per st (b, bm)) n tm sb vl x), y1, y2, y3, y4, y5, y6, y7, y8, se', str') ∧ ScR se' str' := by
  obtain ⟨q1, q2, q3, q4, q5, q6, q7, q8, q9, q10, q11⟩ := hP
  obtain ⟨o1, o2, o3, o4, o5, o6, o7, o8, o9, o10, o11, o12, o13, o14⟩ := hO
  obtain ⟨b0, s0, rfl, ha2, ha3, rfl, ha5, ha6⟩ := hA
  have hT := fun t => Wok_tw (per := per) (st := st) (K := K) q3 q11 (by omega) q2 (show Wok R Dn (b, bm) from ⟨o1, o2, o3, o4⟩) t
  have hB := fun t => bts_lt (a := a) (Dn := Dn) (st := st) (hb := hb9) (y := hs) (ws := tw R K rl per st (b, bm)) (x := x) q6 (fun t => (hT t).1) hx (by omega) t
  unfold f_X7_mayLurkIn lurkB
  rw [p_copyFrom o2 o12 ha3 ha5, ob10_s, ← ff_all]
  generalize hbt : bts a Dn st hb9 hs (tw R K rl per st (b, bm)) x = bt at hB ⊢
  generalize htw : tw R K rl per st (b, bm) = ws at hT hbt
  have stepd : ∀ i, i < 12 → b_X7_mayLurkIn_16 (nI n) subjects times values (nI R) (nI Dn) (nI K) (rI a) (rI rl) (nI hb9) (enc be) (bz ea) (nI hb) (nI hs) (nI on) (nI per) (rI sg) (nI (bt i)) (nI (i + 1)) (nI (ws i).2) (nI (st + i)) (rI (ws i).1) = (if allF (okh tm sb vl (i + 1) (bt (i + 1))) 0 n then some (.inl (nI (bt (i + 1)), nI (i + 1 + 1), nI (ws (i + 1)).2, nI (st + (i + 1)), rI (ws (i + 1)).1)) else some (.inr (.inl ((0 : Int32), nI (ws (i + 1)).2, enc be, bz ea, nI hb, nI hs, nI on, nI per, nI (st + (i + 1)), rI (ws (i + 1)).1, rI sg)))) := by
    intro i hi
    unfold b_X7_mayLurkIn_16
    have hbi := p2_lt (hT i).2.2.2 q3
    have ep := p_prowl (a := a) (b := (ws i).1) (bm := (ws i).2) (st := st + i) (hb := hb9) (x := bt i) (y := hs) (by omega) q3 q6 (hT i).1 (by omega) (hB i) (by omega) hh9
    have ebt : prw a (ws i).1 (ws i).2 Dn (st + i) hb9 (bt i) hs = bt (i + 1) := by rw [← hbt]; rfl
    have et := p_tick (R := R) (K := K) (bm := (ws i).2) (per := per) (st := st + i) (b := (ws i).1) (rl := rl) q4 q9 (by omega) q2 (hT i).1 o5 o6 (by omega)
    have etw : tick R K rl per (st + i) ((ws i).1, (ws i).2) = ws (i + 1) := by rw [← htw]; rfl
    rw [if_neg (show ¬ (12 : Int32) < nI (i + 1) from nI_nlt (a := 12) (by omega) (by omega)), ep, ob1_s, et, ob3_s, ebt, p_isAsHeard hn (hB (i + 1)) hh (by omega), ob1_s, etw]
    cases allF (okh tm sb vl (i + 1) (bt (i + 1))) 0 n with
    | true => rw [bz_t, if_neg n10, if_pos rfl, bnd_s, show nI (i + 1) + 1 = nI (i + 1 + 1) from nI_1 _]; rfl
    | false => rw [bz_f, if_pos rfl, if_neg (by decide)]; rfl
  have hcl := itr_first (step := un5 (b_X7_mayLurkIn_16 (nI n) subjects times values (nI R) (nI Dn) (nI K) (rI a) (rI rl) (nI hb9) (enc be) (bz ea) (nI hb) (nI hs) (nI on) (nI per) (rI sg))) (fun i => !allF (okh tm sb vl (i + 1) (bt (i + 1))) 0 n) (fun i => (nI (bt i), nI (i + 1), nI (ws i).2, nI (st + i), rI (ws i).1)) 12 (fun i => ((0 : Int32), nI (ws (i + 1)).2, enc be, bz ea, nI hb, nI hs, nI on, nI per, nI (st + (i + 1)), rI (ws (i + 1)).1, rI sg)) (nI (bt 12), nI 13, nI (ws 12).2, nI (st + 12), rI (ws 12).1) ?_ ?_ ?_ FU (by unfold FU; omega)
  · have e0 : (nI x, (1 : Int32), nI bm, nI st, rI b) = (nI (bt 0), nI (0 + 1), nI (ws 0).2, nI (st + 0), rI (ws 0).1) := by rw [← hbt, ← htw]; rfl
    rw [e0, hcl]
    cases hf : ff (fun k => !allF (okh tm sb vl (k + 1) (bt (k + 1))) 0 n) 12 with
    | some k =>
      dsimp only
      rw [obm5_r]
      exact ⟨_, _, _, _, _, _, _, _, _, _, rfl, _, _, rfl, (hT (k + 1)).1, (hT (k + 1)).2.1, rfl, o12, o13⟩
    | none =>
      dsimp only
      rw [obm5_s]
      exact ⟨_, _, _, _, _, _, _, _, _, _, rfl, _, _, rfl, (hT 12).1, (hT 12).2.1, rfl, o12, o13⟩
  · intro i hi hp
    rw [un5_s, stepd i hi, if_pos (by simpa using hp)]
  · intro i hi hp
    rw [un5_s, stepd i hi, if_neg (by simpa using hp)]
  · rw [un5_s]
    unfold b_X7_mayLurkIn_16
    rw [if_pos (show (12 : Int32) < nI (12 + 1) from nI_lt (a := 12) (by omega) (by omega))]
theorem m_heardRow {n t x : Nat} {tm sb : Nat → Nat} {vl : Nat → Bool} {heard : Nat → Int32} {c : Bool} (hn : n ≤ 6) (hx : x < 7) (ht : t < 12) (hh : ∀ i, i < n → heard (3 * i) = nI (tm i) ∧ heard (3 * i + 1) = nI (sb i) ∧ heard (3 * i + 2) = bz (vl i) ∧ tm i ≤ 12 ∧ sb i < 7) : itr (un2 (b_X8_mayLurk_65 (nI n) heard (nI t) (nI x))) FU (bz c, (0 : Int32)) = some (bz (c && allF (okh tm sb vl (t + 1) x) 0 n), nI n) := by
  have h := itr_count (step := un2 (b_X8_mayLurk_65 (nI n) heard (nI t) (nI x))) (fun i => (bz (c && allF (okh tm sb vl (t + 1) x) 0 i), nI i)) n (bz (c && allF (okh tm sb vl (t + 1) x) 0 n), nI n) ?_ ?_ FU (by unfold FU; omega)
  · rw [show (bz c, (0 : Int32)) = (bz (c && allF (okh tm sb vl (t + 1) x) 0 0), nI 0) by rw [allF, Bool.and_true]; rfl, h]
  · intro i hi
    obtain ⟨z1, z2, z3, z4, z5⟩ := hh i hi
    rw [un2_s, allF_succ, Nat.zero_add, ← Bool.and_assoc]
    generalize (c && allF (okh tm sb vl (t + 1) x) 0 i) = c'
    unfold b_X8_mayLurk_65 okh
    rw [if_neg (nI_ge hi (by omega)), i3, show nI (3 * i) + 1 = nI (3 * i + 1) from nI_1 _, show nI (3 * i) + 2 = nI (3 * i + 2) from nI_add _ 2, show nI t + 1 = nI (t + 1) from nI_1 t, gin_k (by omega) (by omega), jn1_s, nI_cl (by omega), nI_cl (by omega), nI_cl (by omega), z1, z2, z3, show nI i + 1 = nI (i + 1) from nI_1 i]
    simp only [jn1_s, jn0_s, bnd_s, gin_k (show 3 * i < 18 by omega) (show 18 < 2147483648 by omega), gin_k (show 3 * i + 2 < 18 by omega) (show 18 < 2147483648 by omega)]
    by_cases hc1 : tm i = t + 1
    · have e1 : nI (tm i) = nI (t + 1) := by rw [hc1]
      have e2 : (tm i == t + 1) = true := by simpa using hc1
      simp only [if_pos e1, e2]
      by_cases hc2 : x = sb i
      · have e3 : nI x = nI (sb i) := by rw [hc2]
        have e4 : (x == sb i) = true := by simpa using hc2
        simp only [if_pos e3, e4]
        cases c' <;> cases vl i <;> rfl
      · have e3 : ¬ nI x = nI (sb i) := fun e => hc2 (nI_inj (by omega) (by omega) e)
        have e4 : (x == sb i) = false := by simpa using hc2
        simp only [if_neg e3, e4]
        cases c' <;> cases vl i <;> rfl
    · have e1 : ¬ nI (tm i) = nI (t + 1) := fun e => hc1 (nI_inj (by omega) (by omega) e)
      have e2 : (tm i == t + 1) = false := by simpa using hc1
      simp only [if_neg e1, e2]
      by_cases hc2 : nI x = nI (sb i)
      · simp only [if_pos hc2]; cases c' <;> rfl
      · simp only [if_neg hc2]; cases c' <;> rfl
  · rw [un2_s]
    unfold b_X8_mayLurk_65
    rw [if_pos (nI_le (Nat.le_refl n) (by omega))]
theorem m_mayLurk {R Dn : Nat} {a : Nat → Nat} {hs st : Nat} {g pg heard : Nat → Int32} {n : Nat} {tm sb : Nat → Nat} {vl : Nat → Bool} {x hb9 : Nat} {ws : Nat → (Nat → Nat) × Nat} (hD : Dn ≤ 10) (h7a : lt7 a) (hT : ∀ t, Wok R Dn (ws t)) (hpg : ∀ t, t ≤ 24 → hse pg (30 * t) Dn a (ws t).1 (ws t).2) (h31 : g 31 = nI hs) (h47 : g 47 = nI st) (hhs : hs < 7) (hst : st ≤ 999) (hn : n ≤ 6) (hh : ∀ i, i < n → heard (3 * i) = nI (tm i) ∧ heard (3 * i + 1) = nI (sb i) ∧ heard (3 * i + 2) = bz (vl i) ∧ tm i ≤ 12 ∧ sb i < 7) (hx : x < 7) (hh9 : hb9 < 4) : f_X8_mayLurk (nI Dn) (nI n) heard pg g (nI x) (nI hb9) = some (bz (!(x == hs) && lurkB a Dn st hb9 hs ws n tm sb vl x)) := by
  have hB := fun t => bts_lt (a := a) (Dn := Dn) (st := st) (hb := hb9) (y := hs) (ws := ws) (x := x) h7a (fun t => (hT t).1) hx hhs t
  unfold f_X8_mayLurk
  rw [g31, bnd_s, k31, h31, jn1_s]
  have key : ∀ c : Bool, (ob3 (itr (un3 (b_X8_mayLurk_26 (nI Dn) (nI n) heard pg g (nI hb9) (nI hs))) FU (nI x, bz c, (0 : Int32))) fun x4_37 x5_38 x6_39 => gbl x5_38 (some x5_38)) = some (bz (c && lurkB a Dn st hb9 hs ws n tm sb vl x)) := by
    intro c
    unfold lurkB
    have h := itr_count (step := un3 (b_X8_mayLurk_26 (nI Dn) (nI n) heard pg g (nI hb9) (nI hs))) (fun t => (nI (bts a Dn st hb9 hs ws x t), bz (c && allF (fun t => allF (okh tm sb vl (t + 1) (bts a Dn st hb9 hs ws x (t + 1))) 0 n) 0 t), nI t)) 12 (nI (bts a Dn st hb9 hs ws x 12), bz (c && allF (fun t => allF (okh tm sb vl (t + 1) (bts a Dn st hb9 hs ws x (t + 1))) 0 n) 0 12), nI 12) ?_ ?_ FU (by unfold FU; omega)
    · rw [show (nI x, bz c, (0 : Int32)) = (nI (bts a Dn st hb9 hs ws x 0), bz (c && allF (fun t => allF (okh tm sb vl (t + 1) (bts a Dn st hb9 hs ws x (t + 1))) 0 n) 0 0), nI 0) by rw [allF, Bool.and_true]; rfl, h, ob3_s, gbl_b]
    · intro t ht
      rw [un3_s, allF_succ, Nat.zero_add, ← Bool.and_assoc]
      generalize (c && allF (fun t => allF (okh tm sb vl (t + 1) (bts a Dn st hb9 hs ws x (t + 1))) 0 n) 0 t) = c'
      unfold b_X8_mayLurk_26
      rw [if_neg (show ¬ (12 : Int32) ≤ nI t from nI_ge (b := 12) ht (by omega)), g47, k47, h47, nI_add, show (30 : Int32) * nI t = nI (30 * t) from pk_mul 30 t, m_goesTo (hpg t (by omega)) hD (by omega) (by omega) h7a (hT t).1 (hB t) hhs (by omega) hh9, ob1_s]
      have e : prw a (ws t).1 (ws t).2 Dn (st + t) hb9 (bts a Dn st hb9 hs ws x t) hs = bts a Dn st hb9 hs ws x (t + 1) := rfl
      rw [e, m_heardRow hn (hB (t + 1)) ht hh, ob2_s, bnd_s, show nI t + 1 = nI (t + 1) from nI_1 t]
    · rw [un3_s]
      unfold b_X8_mayLurk_26
      rw [if_pos (show (12 : Int32) ≤ nI 12 from nI_le (a := 12) (Nat.le_refl 12) (by omega))]
  by_cases hc : x = hs
  · rw [if_pos (by rw [hc])]
    have e : (x == hs) = true := by simpa using hc
    rw [e]
    exact key false
  · rw [if_neg (fun e => hc (nI_inj (by omega) (by omega) e))]
    have e : (x == hs) = false := by simpa using hc
    rw [e]
    exact key true
theorem co_lair {R Dn K SL : Nat} {a b rl : Nat → Nat} {bm per hs : Nat} {be : Option Nat} {hb on : Nat} {sg : Nat → Nat} {st : Nat} {ea : Bool} {g lw wk pg ase astr times subjects values heard : Nat → Int32} {size many : Int32} (x1 x2 x3 x4 x5 x6 x7 x8 : Int32) (hP : PlO R Dn K SL a rl) (hl : lwr lw K rl) (hO : PgO R Dn b bm per hs be hb on sg st) (hM : PgM Dn a b bm per hs be hb on sg st ea g 0) (hA : ScR ase astr) (hS : HdR R size times subjects values heard many) (p1 : Int32) : ∃ (rr y1 y2 y3 y4 y5 y6 y7 y8 : Int32) (se' str' pg' w' : Nat → Int32), f_X7_lair x1 x2 x3 x4 x5 x6 x7 x8 ase astr size subjects times values (nI bm) (nI per) (nI hs) (enc be) (nI hb) (nI on) (nI st) (bz ea) (rI b) (rI sg) (nI R) (nI Dn) (nI K) (rI a) (rI rl) p1 = some (rr, y1, y2, y3, y4, y5, y6, y7, y8, se', str') ∧ f_X8_lair (nI R) (nI Dn) (nI K) many heard lw pg g wk p1 = some (rr, pg', w') ∧ ScR se' str' := by
  obtain ⟨n, tm, sb, vl, hn, rfl, rfl, hh⟩ := hS
  have hP' := hP
  have hO' := hO
  obtain ⟨q1, q2, q3, q4, q5, q6, q7, q8, q9, q10, q11⟩ := hP
  obtain ⟨o1, o2, o3, o4, o5, o6, o7, o8, o9, o10, o11, o12, o13, o14⟩ := hO
  obtain ⟨h1, h2, h3, h4, h5, h6, h7, h8, h9⟩ := hM
  simp only [Nat.zero_add] at h2 h3 h4 h5 h6 h7 h8 h9
  unfold f_X7_lair f_X8_lair
  rw [show (0 : Int64) = (0 : Int32).toInt64 from rfl, show (3 : Int64) = (3 : Int32).toInt64 from rfl, m_in, p_isHabit, ob1_s, ob1_s]
  rcases i32_in p1 4 (by omega) with ⟨hb9, hh9, rfl⟩ | hout
  · rw [show decide ((0 : Int32) ≤ nI hb9 ∧ nI hb9 ≤ 3) = true from dec_le (n := 3) (by omega) (by omega), bz_t, if_neg n10, if_neg n10]
    have hW0 : Wok R Dn (b, bm) := ⟨o1, o2, o3, o4⟩
    have hT := fun t => Wok_tw (per := per) (st := st) (K := K) q3 q11 (by omega) q2 hW0 t
    obtain ⟨pg', w', ep, hpg⟩ := m_layPages (wk := wk) (pg := pg) hP' hl hW0 o5 o6 o14 h1 h2 h8
    rw [ep, ob2_s]
    generalize hp : (fun x => !(x == hs) && lurkB a Dn st hb9 hs (tw R K rl per st (b, bm)) n tm sb vl x) = p
    have hpx : ∀ x, (!(x == hs) && lurkB a Dn st hb9 hs (tw R K rl per st (b, bm)) n tm sb vl x) = p x := fun x => by rw [← hp]
    have hmo := itr_count (step := un2 (b_X8_lair_22 (nI R) (nI Dn) (nI n) heard g (nI hb9) pg')) (fun i => (nI (msk p i), nI i)) R (nI (msk p R), nI R) ?_ ?_ FU (by unfold FU; omega)
    · have hcl := itr_inv (step := un12 (b_X7_lair_13 (nI n) subjects times values (nI bm) (nI per) (nI hs) (enc be) (nI hb) (nI on) (nI st) (bz ea) (rI b) (rI sg) (nI R) (nI Dn) (nI K) (rI a) (rI rl) (nI hb9))) (fun i x => x.1 = nI (msk p i) ∧ x.2.1 = nI i ∧ ScR x.2.2.2.2.2.2.2.2.2.2.1 x.2.2.2.2.2.2.2.2.2.2.2) R (fun x => x.1 = nI (msk p R) ∧ ScR x.2.2.2.2.2.2.2.2.2.2.1 x.2.2.2.2.2.2.2.2.2.2.2) ?_ ?_ ((0 : Int32), (0 : Int32), x1, x4, x8, x5, x3, x6, x2, x7, ase, astr) ⟨rfl, rfl, hA⟩ FU (by unfold FU; omega)
      · obtain ⟨⟨c1, c2, c3, c4, c5, c6, c7, c8, c9, c10, c11, c12⟩, e1, z1, z2⟩ := hcl
        simp only at z1 z2
        subst z1
        rw [e1, ob12_s, show ((0 : Int32), (0 : Int32)) = (nI (msk p 0), nI 0) from rfl, hmo, ob2_s]
        exact ⟨_, _, _, _, _, _, _, _, _, _, _, _, _, rfl, rfl, z2⟩
      · rintro i ⟨c1, c2, c3, c4, c5, c6, c7, c8, c9, c10, c11, c12⟩ hi ⟨z1, z2, z3⟩
        simp only at z1 z2 z3
        subst z1 z2
        by_cases hc : i = hs
        · have ep : p i = false := by rw [← hpx]; simp [hc]
          refine ⟨(nI (msk p (i + 1)), nI (i + 1), c3, c4, c5, c6, c7, c8, c9, c10, c11, c12), ?_, rfl, rfl, z3⟩
          rw [un12_s]
          unfold b_X7_lair_13
          rw [if_neg (nI_ge hi (by omega)), jn11_s, if_pos (by rw [hc])]
          dsimp only
          rw [bnd_s, show nI i + 1 = nI (i + 1) from nI_1 i, msk_no p i ep]
        · obtain ⟨y1, y2, y3, y4, y5, y6, y7, y8, se', str', ef, hsc⟩ := p_mayLurkIn (n := n) (tm := tm) (sb := sb) (vl := vl) (times := times) (subjects := subjects) (values := values) (ea := ea) (x := i) (hb9 := hb9) hP' hO' z3 hn (fun k hk => by
            obtain ⟨y1, y2, y3, y4, y5, y6, y7, y8, y9⟩ := hh k hk
            exact ⟨y1, y2, y3, y8, by omega⟩) (by omega) hh9
          have epi : lurkB a Dn st hb9 hs (tw R K rl per st (b, bm)) n tm sb vl i = p i := by
            rw [← hpx]
            have : (i == hs) = false := by simpa using hc
            rw [this]; rfl
          rw [epi] at ef
          refine ⟨(nI (msk p (i + 1)), nI (i + 1), y1, y2, y3, y4, y5, y6, y7, y8, se', str'), ?_, rfl, rfl, hsc⟩
          rw [un12_s]
          unfold b_X7_lair_13
          rw [if_neg (nI_ge hi (by omega)), jn11_s, if_neg (fun e => hc (nI_inj (by omega) (by omega) e)), ef, ob11_s]
          cases hpi : p i with
          | false =>
            rw [bz_f, if_pos rfl]
            dsimp only
            rw [bnd_s, show nI i + 1 = nI (i + 1) from nI_1 i, msk_no p i hpi]
          | true =>
            rw [bz_t, if_neg n10, bnd_s]
            dsimp only
            rw [bnd_s, show nI i + 1 = nI (i + 1) from nI_1 i, shl_k i (by omega), fa_or, msk_or p i hpi]
      · rintro ⟨c1, c2, c3, c4, c5, c6, c7, c8, c9, c10, c11, c12⟩ ⟨z1, z2, z3⟩
        simp only at z1 z2 z3
        subst z1 z2
        refine ⟨(nI (msk p R), nI R, c3, c4, c5, c6, c7, c8, c9, c10, c11, c12), ?_, rfl, z3⟩
        rw [un12_s]
        unfold b_X7_lair_13
        rw [if_pos (nI_le (Nat.le_refl R) (by omega))]
    · intro i hi
      rw [un2_s]
      unfold b_X8_lair_22
      rw [if_neg (nI_ge hi (by omega)), m_mayLurk (n := n) (tm := tm) (sb := sb) (vl := vl) (ws := tw R K rl per st (b, bm)) q3 q6 hT hpg h3 h8 (by omega) o14 hn (fun k hk => by
        obtain ⟨y1, y2, y3, y4, y5, y6, y7, y8, y9⟩ := hh k hk
        exact ⟨y4, y5, y6, y8, by omega⟩) (by omega) hh9, ob1_s, hpx, jn1_s]
      simp only [bnd_s]
      rw [show nI i + 1 = nI (i + 1) from nI_1 i, shl_k i (by omega)]
      cases hpi : p i with
      | false => rw [bz_f, if_pos rfl, msk_no p i hpi, show (0 : Int32) = nI 0 from rfl, fa_or, Nat.or_zero]
      | true => rw [bz_t, if_neg n10, fa_or, msk_or p i hpi]
    · rw [un2_s]
      unfold b_X8_lair_22
      rw [if_pos (nI_le (Nat.le_refl R) (by omega))]
  · rw [show decide ((0 : Int32) ≤ p1 ∧ p1 ≤ 3) = false from dec_gt (n := 3) (by omega) hout, bz_f, if_pos rfl, if_pos rfl]
    exact ⟨_, _, _, _, _, _, _, _, _, _, _, pg, wk, rfl, rfl, hA⟩
