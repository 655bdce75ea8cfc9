/-! ===== pure 26: the reference's states to come ===== -/
def mb (be : Option Nat) : Nat := match be with | none => 0 | some x => x + 1
def mc (s : St) : Nat := 8 * s.1 + mb s.2
def dS (k : Nat) : St := (k / 8, if k % 8 = 0 then none else some (k % 8 - 1))
theorem dS_v {k : Nat} (h : k < 56) : vS 7 (dS k) := by
  refine ⟨by show k / 8 < 7; omega, fun x hx => ?_⟩
  have hx' : (if k % 8 = 0 then none else some (k % 8 - 1)) = some x := hx
  by_cases c : k % 8 = 0
  · rw [if_pos c] at hx'; cases hx'
  · rw [if_neg c] at hx'
    have := Option.some.inj hx'
    omega
theorem mb_lt {be : Option Nat} (h : ∀ x, be = some x → x < 7) : mb be < 8 := by
  cases be with
  | none => decide
  | some x => have := h x rfl; show x + 1 < 8; omega
theorem mc_lt {s : St} (h : vS 7 s) : mc s < 56 := by
  have h1 := h.1
  have h2 := mb_lt h.2
  unfold mc
  omega
theorem dS_mc {s : St} (h : vS 7 s) : dS (mc s) = s := by
  have h2 := mb_lt h.2
  obtain ⟨x, be⟩ := s
  unfold dS mc
  simp only at *
  rw [show (8 * x + mb be) / 8 = x by omega, show (8 * x + mb be) % 8 = mb be by omega]
  cases be with
  | none => rfl
  | some y => rfl
theorem mc_dS (k : Nat) : mc (dS k) = k := by
  unfold mc dS
  simp only
  by_cases c : k % 8 = 0
  · rw [if_pos c]; show 8 * (k / 8) + 0 = k; omega
  · rw [if_neg c]; show 8 * (k / 8) + (k % 8 - 1 + 1) = k; omega
def aft (o : Option St) : Int32 := match o with | none => -4 | some s => nI (s.1 + 10 * mb s.2)
theorem aft_ne {s : St} (h : vS 7 s) : ¬ aft (some s) = (-4 : Int32) := by
  have h1 := h.1
  have h2 := mb_lt h.2
  exact ne4 (by omega)
theorem aft_div {s : St} (h : vS 7 s) : aft (some s) / (10 : Int32) = nI (mb s.2) := by
  have h1 := h.1
  have h2 := mb_lt h.2
  show nI (s.1 + 10 * mb s.2) / nI 10 = _
  rw [pk_div (by omega) (by omega) (by omega)]
  congr 1
  omega
theorem aft_rem {s : St} (h : vS 7 s) : aft (some s) - aft (some s) / (10 : Int32) * (10 : Int32) = nI s.1 := by
  have h1 := h.1
  have h2 := mb_lt h.2
  show nI (s.1 + 10 * mb s.2) - nI (s.1 + 10 * mb s.2) / nI 10 * nI 10 = _
  rw [pk_rem (by omega) (by omega) (by omega)]
  congr 1
  omega
theorem aft_ix {s : St} (h : vS 7 s) (t : Nat) : (((56 : Int32) * (nI t + (1 : Int32))) + ((8 : Int32) * (aft (some s) - aft (some s) / (10 : Int32) * (10 : Int32)))) + (aft (some s) / (10 : Int32)) = nI (56 * (t + 1) + mc s) := by
  rw [aft_rem h, aft_div h, show nI t + (1 : Int32) = nI (t + 1) from nI_1 t, show (56 : Int32) * nI (t + 1) = nI (56 * (t + 1)) from pk_mul 56 _, show (8 : Int32) * nI s.1 = nI (8 * s.1) from pk_mul 8 _, nI_add, nI_add]
  congr 1
  unfold mc
  omega
def afB (Dn : Int32) (pg g : Nat → Int32) (p1 p3 s_1 : Int32) : Option Int32 :=
 (if s_1 = (-4 : Int32) then
 (some (-4 : Int32))
 else (if p3 = s_1 then
 (some (-4 : Int32))
 else (jn1 (fun (s_5 : Int32) => (if s_5 = s_1 then
 (some (-4 : Int32))
 else (if s_5 = (-4 : Int32) then
 (some (s_1 + ((10 : Int32) * (0 : Int32))))
 else (some (s_1 + ((10 : Int32) * (s_5 + (1 : Int32)))))))) (fun j_6 =>
 (if p3 = (-4 : Int32) then
 (j_6 (-4 : Int32))
 else (gin (33 : Int32) 196 (gin (47 : Int32) 196 (ob1 (f_X8_goesTo Dn 750 pg ((30 : Int32) * p1) p3 s_1 (g (33 : Int32).toNatClampNeg) ((g (47 : Int32).toNatClampNeg) + p1)) (fun r_12 =>
 (j_6 r_12)))))))))) 
theorem after_s (Dn : Int32) (pg g : Nat → Int32) (p1 p2 p3 p4 : Int32) : f_X8_after Dn pg g p1 p2 p3 p4 = (if p4 = (10 : Int32) then afB Dn pg g p1 p3 p2 else ob1 (f_X8_isDoor Dn p4) (fun r_15 => if r_15 = (0 : Int32) then afB Dn pg g p1 p3 (-4 : Int32) else ob1 (f_X8_leadsTo 750 pg ((30 : Int32) * p1) p4 p2) (fun r_18 => afB Dn pg g p1 p3 r_18))) := rfl
theorem afB_no (Dn : Int32) (pg g : Nat → Int32) (p1 p3 : Int32) : afB Dn pg g p1 p3 (-4 : Int32) = some (-4 : Int32) := by
  unfold afB
  rw [if_pos rfl]
theorem m_afB {a : Nat → Nat} {w : (Nat → Nat) × Nat} {Dn t hb st to : Nat} {be : Option Nat} {pg g : Nat → Int32} (hD : Dn ≤ 10) (h7a : lt7 a) (hw : lt7 w.1) (hpg : hse pg (30 * t) Dn a w.1 w.2) (ht : t < 24) (h33 : g 33 = nI hb) (h47 : g 47 = nI st) (hst : st ≤ 999) (hh : hb < 4) (hto : to < 7) (hbe : ∀ x, be = some x → x < 7) : afB (nI Dn) pg g (nI t) (enc be) (nI to) = some (aft (nx2 a w Dn (st + t) hb to be)) := by
  unfold afB nx2
  rw [if_neg (ne4 (by omega))]
  by_cases h1 : be = some to
  · rw [if_pos ((enc_some_ne hbe hto).mpr h1), if_pos h1]; rfl
  · rw [if_neg (fun e => h1 ((enc_some_ne hbe hto).mp e)), if_neg h1, jn1_s]
    cases be with
    | none =>
      rw [if_pos (show enc none = (-4 : Int32) from rfl)]
      dsimp only
      rw [if_neg (show ¬ (-4 : Int32) = nI to from fun e => ne4 (x := to) (by omega) e.symm), if_pos rfl, if_neg (by simp)]
      rw [show (10 : Int32) * (0 : Int32) = 0 from rfl, Int32.add_zero]
      rfl
    | some x =>
      have hx := hbe x rfl
      rw [if_neg (show ¬ enc (some x) = (-4 : Int32) from ne4 (by omega)), g33, g47, k33, k47, h33, h47, show (30 : Int32) * nI t = nI (30 * t) from pk_mul 30 t, nI_add, show enc (some x) = nI x from rfl, m_goesTo hpg hD (by omega) (by omega) h7a hw hx hto (by omega) hh, ob1_s]
      have hp := prw_lt (bm := w.2) (Dn := Dn) (st := st + t) (hb := hb) h7a hw hx hto
      simp only [Option.map_some]
      generalize prw a w.1 w.2 Dn (st + t) hb x to = p at *
      by_cases h2 : p = to
      · rw [if_pos (by rw [h2]), if_pos (by rw [h2])]; rfl
      · rw [if_neg (fun e => h2 (nI_inj (by omega) (by omega) e)), if_neg (ne4 (by omega)), if_neg (fun e => h2 (Option.some.inj e)), show nI p + (1 : Int32) = nI (p + 1) from nI_1 p, show (10 : Int32) * nI (p + 1) = nI (10 * (p + 1)) from pk_mul 10 _, nI_add]
        rfl
theorem m_after {a : Nat → Nat} {ws : Nat → (Nat → Nat) × Nat} {Dn t hb st d : Nat} {s : St} {pg g : Nat → Int32} (hD : Dn ≤ 10) (h7a : lt7 a) (hw : lt7 (ws t).1) (hpg : hse pg (30 * t) Dn a (ws t).1 (ws t).2) (ht : t < 24) (h33 : g 33 = nI hb) (h47 : g 47 = nI st) (hst : st ≤ 999) (hh : hb < 4) (hs : vS 7 s) (hd : d ≤ 10) : f_X8_after (nI Dn) pg g (nI t) (nI s.1) (enc s.2) (nI d) = some (aft (nxg a Dn st hb ws t d s)) := by
  have hs1 := hs.1
  rw [after_s]
  unfold nxg gto
  by_cases c : d = 10
  · subst c
    rw [if_pos (show nI 10 = (10 : Int32) from rfl), if_pos rfl]
    exact m_afB hD h7a hw hpg ht h33 h47 hst hh hs.1 hs.2
  · rw [if_neg (show ¬ nI d = (10 : Int32) from fun e => c (nI_inj (b := 10) (by omega) (by omega) e)), if_neg c, m_isDoor _ (by omega), ob1_s]
    by_cases c2 : d < Dn
    · rw [dec_in c2 (by omega), bz_t, if_neg n10, if_pos c2, show (30 : Int32) * nI t = nI (30 * t) from pk_mul 30 t, m_leadsTo hpg hD c2 (by omega) (by omega) h7a hw (by omega), ob1_s]
      cases hl : lead a (ws t).1 (ws t).2 d s.1 with
      | none => exact afB_no _ _ _ _ _
      | some to => exact m_afB hD h7a hw hpg ht h33 h47 hst hh (lead_lt h7a hw hl) hs.2
    · rw [dec_out (by omega) (Or.inr (by rw [nI_toInt (by omega)]; omega)), bz_f, if_pos rfl, if_neg c2]
      exact afB_no _ _ _ _ _
theorem m_isThere {cb : Nat → Int32} {t x : Nat} (ht : t ≤ 24) (hx : x < 7) : f_X8_isThere cb (nI t) (nI x) = some (bz (ff (fun k => cb (56 * t + 8 * x + k) == 1) 8).isSome) := by
  obtain ⟨p, hp⟩ : ∃ p : Nat → Bool, p = fun k => cb (56 * t + 8 * x + k) == 1 := ⟨_, rfl⟩
  rw [← hp]
  unfold f_X8_isThere
  have h := itr_count (step := un2 (b_X8_isThere_5 cb (nI t) (nI x))) (fun i => (bz (ff p i).isSome, nI i)) 8 (bz (ff p 8).isSome, nI 8) ?_ ?_ FU (by unfold FU; omega)
  · rw [show ((0 : Int32), (0 : Int32)) = (bz (ff p 0).isSome, nI 0) from rfl, h, ob2_s, gbl_b]
  · intro i hi
    rw [un2_s]
    unfold b_X8_isThere_5
    rw [if_neg (show ¬ (8 : Int32) ≤ nI i from nI_ge (b := 8) hi (by omega)), jn1_s, jn0_s, show (56 : Int32) * nI t = nI (56 * t) from pk_mul 56 t, show (8 : Int32) * nI x = nI (8 * x) from pk_mul 8 x, nI_add, nI_add, gin_k (by omega) (by omega), nI_cl (by omega), ff_succ]
    simp only [bnd_s, show nI i + (1 : Int32) = nI (i + 1) from nI_1 i]
    have ep : p i = (cb (56 * t + 8 * x + i) == 1) := by rw [hp]
    cases h0 : (ff p i).isSome with
    | true => rw [bz_t, if_neg n10]; rfl
    | false =>
      rw [bz_f, if_pos rfl]
      by_cases c : cb (56 * t + 8 * x + i) = 1
      · rw [if_pos c, ep, c]; rfl
      · rw [if_neg c, ep, show (cb (56 * t + 8 * x + i) == 1) = false from by simpa using c]; rfl
  · rw [un2_s]
    unfold b_X8_isThere_5
    rw [if_pos (show (8 : Int32) ≤ nI 8 from nI_le (a := 8) (Nat.le_refl 8) (by omega))]
theorem m_alRow {nx : Nat → Nat → St → Option St} {Dm : Int32} {g pg cb : Nat → Int32} {t k : Nat} {s : St} (ht : t < 24) (hk : k < 56 * (t + 1)) (haf : ∀ d, d ≤ 10 → f_X8_after Dm pg g (nI t) (nI s.1) (enc s.2) (nI d) = some (aft (nx t d s))) (hv : ∀ d s', nx t d s = some s' → vS 7 s') : ∃ z cb', itr (un2 (b_X8_layAlive_92 Dm g pg (nI k) (nI t) (nI s.1) (enc s.2))) FU ((0 : Int32), cb) = some (z, cb') ∧ (∀ j, cb j = 1 → cb' j = 1) ∧ (∀ j, j < 56 * (t + 1) → cb' j = cb j) ∧ (∀ j, cb' j = 1 → cb j = 1 ∨ (cb k = 1 ∧ ∃ d s', d ≤ 10 ∧ nx t d s = some s' ∧ j = 56 * (t + 1) + mc s')) ∧ (cb k = 1 → ∀ d s', d ≤ 10 → nx t d s = some s' → cb' (56 * (t + 1) + mc s') = 1) := by
  by_cases hc : cb k = 1
  · have h := itr_inv (step := un2 (b_X8_layAlive_92 Dm g pg (nI k) (nI t) (nI s.1) (enc s.2))) (fun d x => x.1 = nI d ∧ (∀ j, cb j = 1 → x.2 j = 1) ∧ (∀ j, j < 56 * (t + 1) → x.2 j = cb j) ∧ (∀ j, x.2 j = 1 → cb j = 1 ∨ ∃ d s', d ≤ 10 ∧ nx t d s = some s' ∧ j = 56 * (t + 1) + mc s') ∧ (∀ d' s', d' < d → nx t d' s = some s' → x.2 (56 * (t + 1) + mc s') = 1)) 11 (fun x => (∀ j, cb j = 1 → x.2 j = 1) ∧ (∀ j, j < 56 * (t + 1) → x.2 j = cb j) ∧ (∀ j, x.2 j = 1 → cb j = 1 ∨ ∃ d s', d ≤ 10 ∧ nx t d s = some s' ∧ j = 56 * (t + 1) + mc s') ∧ (∀ d' s', d' < 11 → nx t d' s = some s' → x.2 (56 * (t + 1) + mc s') = 1)) ?_ ?_ ((0 : Int32), cb) ⟨rfl, fun _ h => h, fun _ _ => rfl, fun _ h => Or.inl h, fun d' _ hd => absurd hd (Nat.not_lt_zero _)⟩ FU (by unfold FU; omega)
    · obtain ⟨⟨o1, o2⟩, e, u1, u2, u3, u4⟩ := h
      refine ⟨o1, o2, e, u1, u2, fun j hj => ?_, fun _ d s' hd hn => u4 d s' (by omega) hn⟩
      rcases u3 j hj with h | h
      · exact Or.inl h
      · exact Or.inr ⟨hc, h⟩
    · rintro d ⟨x1, x2⟩ hd ⟨z1, z2, z3, z4, z5⟩
      simp only at z1 z2 z3 z4 z5
      subst z1
      have hx2 : x2 k = 1 := by rw [z3 k hk]; exact hc
      have eb : b_X8_layAlive_92 Dm g pg (nI k) (nI t) (nI s.1) (enc s.2) (nI d) x2 = (match nx t d s with | none => some (.inl (nI (d + 1), x2)) | some s' => some (.inl (nI (d + 1), upd x2 (56 * (t + 1) + mc s') 1))) := by
        unfold b_X8_layAlive_92
        rw [if_neg (show ¬ (10 : Int32) < nI d from nI_nlt (a := 10) (by omega) (by omega)), gin_k (by omega) (by omega), nI_cl (by omega), if_pos hx2, haf d (by omega), ob1_s, jn1_s]
        simp only [bnd_s]
        cases hn : nx t d s with
        | none =>
          rw [if_pos (show aft none = (-4 : Int32) from rfl), show nI d + (1 : Int32) = nI (d + 1) from nI_1 d]
        | some s' =>
          have hv' := hv d s' hn
          have hm := mc_lt hv'
          rw [if_neg (aft_ne hv'), aft_ix hv', gin_k (by omega) (by omega), nI_cl (by omega), show nI d + (1 : Int32) = nI (d + 1) from nI_1 d]
      cases hn : nx t d s with
      | none =>
        rw [hn] at eb
        refine ⟨(nI (d + 1), x2), by rw [un2_s, eb], rfl, z2, z3, z4, fun d' s' hd' hn' => ?_⟩
        by_cases c : d' = d
        · rw [c, hn] at hn'; cases hn'
        · exact z5 d' s' (by omega) hn'
      | some s1 =>
        rw [hn] at eb
        refine ⟨(nI (d + 1), upd x2 (56 * (t + 1) + mc s1) 1), by rw [un2_s, eb], rfl, fun j hj => ?_, fun j hj => ?_, fun j hj => ?_, fun d' s' hd' hn' => ?_⟩
        · by_cases c : j = 56 * (t + 1) + mc s1
          · simp only [c, pk_us]
          · simp only [pk_un c]; exact z2 j hj
        · simp only
          rw [pk_un (by omega)]; exact z3 j hj
        · by_cases c : j = 56 * (t + 1) + mc s1
          · exact Or.inr ⟨d, s1, by omega, hn, c⟩
          · simp only [pk_un c] at hj; exact z4 j hj
        · simp only
          by_cases c : 56 * (t + 1) + mc s' = 56 * (t + 1) + mc s1
          · rw [c, pk_us]
          · rw [pk_un c]
            by_cases c2 : d' = d
            · rw [c2, hn] at hn'; cases hn'; exact absurd rfl c
            · exact z5 d' s' (by omega) hn'
    · rintro ⟨x1, x2⟩ ⟨z1, z2⟩
      simp only at z1 z2
      subst z1
      refine ⟨(nI 11, x2), ?_, z2⟩
      rw [un2_s]
      unfold b_X8_layAlive_92
      rw [if_pos (show (10 : Int32) < nI 11 from by decide)]
  · refine ⟨(0 : Int32), cb, ?_, fun _ h => h, fun _ _ => rfl, fun _ h => Or.inl h, fun h => absurd h hc⟩
    refine itr_count (step := un2 (b_X8_layAlive_92 Dm g pg (nI k) (nI t) (nI s.1) (enc s.2))) (fun _ => ((0 : Int32), cb)) 0 ((0 : Int32), cb) (fun i hi => absurd hi (Nat.not_lt_zero _)) ?_ FU (by unfold FU; omega)
    rw [un2_s]
    unfold b_X8_layAlive_92
    rw [if_neg (by decide), gin_k (by omega) (by omega), nI_cl (by omega), if_neg hc]
