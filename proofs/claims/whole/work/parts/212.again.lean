/-! ===== pure 12: again, leads ===== -/
theorem ff_iff {p : Nat → Bool} {n : Nat} : (ff p n).isNone = true ↔ ∀ i, i < n → p i = false := by
  constructor
  · intro h
    cases hc : ff p n with
    | none => exact ff_none hc
    | some k => rw [hc] at h; cases h
  · intro h
    rw [ff_no h]; rfl
def smw (Dn : Nat) (w1 w : (Nat → Nat) × Nat) : Bool := w1.2 == w.2 && (ff (fun d => w1.1 d != w.1 d) Dn).isNone
theorem p_hasDoorsOf {Dn bm1 bm : Nat} {b1 b : Nat → Nat} (hD : Dn ≤ 10) (h1 : bm1 < 2147483648) (h2 : bm < 2147483648) (h71 : lt7 b1) (h7 : lt7 b) : f_X6_hasDoorsOf (nI bm1) (nI bm) (rI b) (nI Dn) (rI b1) = some (bz (smw Dn (b1, bm1) (b, bm))) := by
  unfold f_X6_hasDoorsOf smw
  by_cases hc : bm1 = bm
  · rw [if_pos (by rw [hc])]
    have h := itr_first (step := un1 (b_X6_hasDoorsOf_15 (rI b) (nI Dn) (rI b1))) (fun d => b1 d != b d) nI Dn (fun _ => (0 : Int32)) (nI Dn) ?_ ?_ ?_ FU (by unfold FU; omega)
    · rw [show (0 : Int32) = nI 0 from rfl] at *
      rw [h]
      simp only [hc, beq_self_eq_true, Bool.true_and]
      cases ff (fun d => b1 d != b d) Dn <;> rfl
    · intro i hi hp
      rw [un1_s]
      unfold b_X6_hasDoorsOf_15
      have e : b1 i = b i := by simpa using hp
      rw [if_neg (nI_ge hi (by omega)), gin_k (by omega) (by omega), gin_k (by omega) (by omega), nI_cl (by omega), if_pos (show rI b1 i = rI b i by rw [rI_at, rI_at, e]), bnd_s, show nI i + 1 = nI (i + 1) from nI_1 i]
    · intro i hi hp
      rw [un1_s]
      unfold b_X6_hasDoorsOf_15
      have e : ¬ b1 i = b i := by simpa using hp
      have c1 := h71 i
      have c2 := h7 i
      rw [if_neg (nI_ge hi (by omega)), gin_k (by omega) (by omega), gin_k (by omega) (by omega), nI_cl (by omega), if_neg (show ¬ rI b1 i = rI b i from fun q => e (nI_inj (by omega) (by omega) q))]
    · rw [un1_s]
      unfold b_X6_hasDoorsOf_15
      rw [if_pos (nI_le (Nat.le_refl Dn) (by omega))]
  · rw [if_neg (fun q => hc (nI_inj h1 h2 q))]
    have : (bm1 == bm) = false := by simpa using hc
    simp [this, bz]
theorem bm_eq {n x y : Nat} (hx : x < 2 ^ n) (hy : y < 2 ^ n) (h : ∀ d, d < n → x.testBit d = y.testBit d) : x = y := by
  apply Nat.eq_of_testBit_eq
  intro i
  by_cases hi : i < n
  · exact h i hi
  · have e : 2 ^ n ≤ 2 ^ i := Nat.pow_le_pow_right (by decide) (by omega)
    rw [Nat.testBit_lt_two_pow (by omega), Nat.testBit_lt_two_pow (by omega)]
theorem bz_inj {x y : Bool} (h : bz x = bz y) : x = y := by revert h; cases x <;> cases y <;> simp [bz]
theorem sm_iff {wk g : Nat → Int32} {Dn bm1 bm : Nat} {a b1 b : Nat → Nat} (hD : Dn ≤ 10) (h1 : hse wk 0 Dn a b1 bm1) (h2 : hse g 0 Dn a b bm) (hb1 : bm1 < 2 ^ Dn) (hb : bm < 2 ^ Dn) (h71 : lt7 b1) (h7 : lt7 b) : (ff (fun k => !decide (wk k = g k)) (3 * Dn)).isNone = smw Dn (b1, bm1) (b, bm) := by
  rw [Bool.eq_iff_iff, ff_iff]
  unfold smw
  simp only [Bool.and_eq_true, beq_iff_eq, ff_iff, Bool.not_eq_false', decide_eq_true_eq]
  constructor
  · intro h
    refine ⟨bm_eq hb1 hb (fun d hd => ?_), fun d hd => ?_⟩
    · have z1 := (h1 d hd).2.2
      have z2 := (h2 d hd).2.2
      simp only [Nat.zero_add] at z1 z2
      rw [h (3 * d + 2) (by omega)] at z1
      exact bz_inj (z1.symm.trans z2)
    · have z1 := (h1 d hd).2.1
      have z2 := (h2 d hd).2.1
      simp only [Nat.zero_add] at z1 z2
      rw [h (3 * d + 1) (by omega)] at z1
      have c1 := h71 d
      have c2 := h7 d
      have := nI_inj (by omega) (by omega) (z1.symm.trans z2)
      simp [this]
  · rintro ⟨e1, e2⟩ k hk
    have hd : k / 3 < Dn := by omega
    have z1 := h1 (k / 3) hd
    have z2 := h2 (k / 3) hd
    simp only [Nat.zero_add] at z1 z2
    have eb : b1 (k / 3) = b (k / 3) := by have := e2 (k / 3) hd; simpa using this
    rcases (show k = 3 * (k / 3) ∨ k = 3 * (k / 3) + 1 ∨ k = 3 * (k / 3) + 2 by omega) with hk' | hk' | hk'
    · rw [hk', z1.1, z2.1]
    · rw [hk', z1.2.1, z2.2.1, eb]
    · rw [hk', z1.2.2, z2.2.2, e1]
theorem m_same {wk g : Nat → Int32} {Dn : Nat} (hD : Dn ≤ 10) : ∃ x3, itr (un2 (b_X8_again_20 (nI Dn) g wk)) FU ((1 : Int32), (0 : Int32)) = some (bz (ff (fun k => !decide (wk k = g k)) (3 * Dn)).isNone, x3) := by
  have hh := itr_count (step := un2 (b_X8_again_20 (nI Dn) g wk)) (fun i => (bz (ff (fun k => !decide (wk k = g k)) i).isNone, nI i)) (3 * Dn) (bz (ff (fun k => !decide (wk k = g k)) (3 * Dn)).isNone, nI (3 * Dn)) ?_ ?_ FU (by unfold FU; omega)
  · exact ⟨_, hh⟩
  · intro i hi
    rw [un2_s]
    unfold b_X8_again_20
    rw [i3, if_neg (nI_ge hi (by omega)), jn1_s, jn0_s]
    simp only [bnd_s]
    rw [show nI i + 1 = nI (i + 1) from nI_1 i, gin_k (by omega) (by omega), gin_k (by omega) (by omega), nI_cl (by omega)]
    have e : (ff (fun k => !decide (wk k = g k)) (i + 1)).isNone = ((ff (fun k => !decide (wk k = g k)) i).isNone && decide (wk i = g i)) := by
      rw [ff]
      cases ff (fun k => !decide (wk k = g k)) i with
      | some k => rfl
      | none => by_cases c : wk i = g i <;> simp [c]
    rw [e]
    cases (ff (fun k => !decide (wk k = g k)) i).isNone with
    | true =>
      rw [bz_t, if_neg n10]
      by_cases c : wk i = g i
      · rw [if_pos c]; simp [c, bz]
      · rw [if_neg c]; simp [c, bz]
    | false => rw [bz_f, if_pos rfl]; rfl
  · rw [un2_s]
    unfold b_X8_again_20
    rw [i3, if_pos (nI_le (Nat.le_refl (3 * Dn)) (by omega))]
theorem co_again {R Dn K SL : Nat} {a b rl : Nat → Nat} {bm per hs : Nat} {be : Option Nat} {hb on : Nat} {sg : Nat → Nat} {st : Nat} {ea : Bool} {g lw wk ase astr : Nat → Int32} (hP : PlO R Dn K SL a rl) (hl : lwr lw K rl) (hO : PgO R Dn b bm per hs be hb on sg st) (hM : PgM Dn a b bm per hs be hb on sg st ea g 0) (hA : ScR ase astr) : ∃ (rr y1 y2 y3 y4 y5 y6 y7 y8 : Int32) (se' str' w' : Nat → Int32), f_X7_again ase astr (nI bm) (nI per) (nI hs) (enc be) (nI hb) (nI on) (nI st) (bz ea) (rI b) (rI sg) (nI R) (nI Dn) (nI K) (rI rl) = some (rr, y1, y2, y3, y4, y5, y6, y7, y8, se', str') ∧ f_X8_again (nI R) (nI Dn) (nI K) lw g wk = some (rr, w') ∧ ScR se' str' := by
  obtain ⟨q1, q2, q3, q4, q5, q6, q7, q8, q9, q10, q11⟩ := hP
  obtain ⟨o1, o2, o3, o4, o5, o6, o7, o8, o9, o10, o11, o12, o13, o14⟩ := hO
  have hbm := p2_lt o4 q3
  obtain ⟨b0, s0, rfl, ha2, ha3, rfl, ha5, ha6⟩ := hA
  have hW := fun i => Wok_dsk (K := K) (rl := rl) q3 q11 (by omega) q2 (show Wok R Dn (b, bm) from ⟨o1, o2, o3, o4⟩) i
  unfold f_X7_again f_X8_again
  rw [p_copyFrom o2 o12 ha3 ha5, ob10_s]
  obtain ⟨wk1, e1, z1, z2⟩ := m_worksNow g wk
  rw [e1, ob1_s]
  have hcl := itr_first (step := un3 (b_X7_again_13 (nI bm) (rI b) (nI R) (nI Dn) (nI K) (rI rl) (enc be) (bz ea) (nI hb) (nI hs) (nI on) (nI per) (nI st) (rI sg))) (fun i => smw Dn (dsk R K rl (i + 1) (b, bm)) (b, bm)) (fun i => (nI (i + 1), nI (dsk R K rl i (b, bm)).2, rI (dsk R K rl i (b, bm)).1)) 60 (fun i => (nI (i + 1), nI (dsk R K rl (i + 1) (b, bm)).2, enc be, bz ea, nI hb, nI hs, nI on, nI per, nI st, rI (dsk R K rl (i + 1) (b, bm)).1, rI sg)) (nI 61, nI (dsk R K rl 60 (b, bm)).2, rI (dsk R K rl 60 (b, bm)).1) ?_ ?_ ?_ FU (by unfold FU; omega)
  · have hmo := itr_firstP (step := un2 (b_X8_again_6 (nI R) (nI Dn) (nI K) lw g)) (fun i => smw Dn (dsk R K rl (i + 1) (b, bm)) (b, bm)) (fun i x => x.1 = nI (i + 1) ∧ hse x.2 0 Dn a (dsk R K rl i (b, bm)).1 (dsk R K rl i (b, bm)).2) 60 (fun i r => r.1 = nI (i + 1)) (fun _ => True) ?_ ?_ ?_ ((1 : Int32), wk1) ⟨rfl, hse_of hM.1 q3 z1⟩ FU (by unfold FU; omega)
    · rw [show ((1 : Int32), nI bm, rI b) = (nI (0 + 1), nI (dsk R K rl 0 (b, bm)).2, rI (dsk R K rl 0 (b, bm)).1) from rfl, hcl]
      rcases hmo with ⟨k, ⟨r1, r2⟩, hf, e, hr⟩ | ⟨⟨x1, x2⟩, hf, e, _⟩
      · simp only at hr
        subst hr
        rw [hf, e, obm3_r, obm2_r]
        exact ⟨_, _, _, _, _, _, _, _, _, _, _, _, rfl, rfl, _, _, rfl, (hW (k + 1)).1, (hW (k + 1)).2.1, rfl, o12, o13⟩
      · rw [hf, e, obm3_s, obm2_s]
        exact ⟨_, _, _, _, _, _, _, _, _, _, _, _, rfl, rfl, _, _, rfl, (hW 60).1, (hW 60).2.1, rfl, o12, o13⟩
    · rintro i ⟨y1, y2⟩ hi ⟨h1, h2⟩ hp
      simp only at h1 h2
      subst h1
      obtain ⟨g', e, z, _⟩ := m_dusks (R := R) h2 q3 q4 hl q11 (by omega) q2 (hW i).1
      obtain ⟨x3, ex⟩ := m_same (wk := g') (g := g) q3
      have hz : hse g' 0 Dn a (dsk R K rl (i + 1) (b, bm)).1 (dsk R K rl (i + 1) (b, bm)).2 := z
      rw [sm_iff q3 hz hM.1 (hW (i + 1)).2.2.2 o4 (hW (i + 1)).1 o1, hp] at ex
      refine ⟨(nI (i + 1 + 1), g'), ?_, rfl, hz⟩
      rw [un2_s]
      unfold b_X8_again_6
      rw [if_neg (show ¬ (60 : Int32) < nI (i + 1) from nI_nlt (a := 60) (by omega) (by omega)), e, ob1_s, ex, ob2_s, bz_f, if_pos rfl, bnd_s, show nI (i + 1) + 1 = nI (i + 1 + 1) from nI_1 _]
    · rintro i ⟨y1, y2⟩ hi ⟨h1, h2⟩ hp
      simp only at h1 h2
      subst h1
      obtain ⟨g', e, z, _⟩ := m_dusks (R := R) h2 q3 q4 hl q11 (by omega) q2 (hW i).1
      obtain ⟨x3, ex⟩ := m_same (wk := g') (g := g) q3
      have hz : hse g' 0 Dn a (dsk R K rl (i + 1) (b, bm)).1 (dsk R K rl (i + 1) (b, bm)).2 := z
      rw [sm_iff q3 hz hM.1 (hW (i + 1)).2.2.2 o4 (hW (i + 1)).1 o1, hp] at ex
      refine ⟨(nI (i + 1), g'), ?_, rfl⟩
      rw [un2_s]
      unfold b_X8_again_6
      rw [if_neg (show ¬ (60 : Int32) < nI (i + 1) from nI_nlt (a := 60) (by omega) (by omega)), e, ob1_s, ex, ob2_s, bz_t, if_neg n10]
    · rintro ⟨y1, y2⟩ ⟨h1, h2⟩
      simp only at h1 h2
      subst h1
      refine ⟨(nI (60 + 1), y2), ?_, trivial⟩
      rw [un2_s]
      unfold b_X8_again_6
      rw [if_pos (show (60 : Int32) < nI (60 + 1) from nI_lt (a := 60) (by omega) (by omega))]
  · intro i hi hp
    rw [un3_s]
    unfold b_X7_again_13
    have hbi := p2_lt (hW (i + 1)).2.2.2 q3
    rw [if_neg (show ¬ (60 : Int32) < nI (i + 1) from nI_nlt (a := 60) (by omega) (by omega)), p_applyRules q4 q9 (by omega) q2 (hW i).1, ob2_s]
    have e : f_X6_hasDoorsOf (nI (dsk R K rl (i + 1) (b, bm)).2) (nI bm) (rI b) (nI Dn) (rI (dsk R K rl (i + 1) (b, bm)).1) = some (bz (smw Dn (dsk R K rl (i + 1) (b, bm)) (b, bm))) := p_hasDoorsOf q3 (by omega) (by omega) (hW (i + 1)).1 o1
    rw [hp] at e
    show (ob1 (f_X6_hasDoorsOf (nI (dsk R K rl (i + 1) (b, bm)).2) (nI bm) (rI b) (nI Dn) (rI (dsk R K rl (i + 1) (b, bm)).1)) fun r_20 => _) = _
    rw [e, ob1_s, bz_f, if_pos rfl, bnd_s, show nI (i + 1) + 1 = nI (i + 1 + 1) from nI_1 _]
    rfl
  · intro i hi hp
    rw [un3_s]
    unfold b_X7_again_13
    have hbi := p2_lt (hW (i + 1)).2.2.2 q3
    rw [if_neg (show ¬ (60 : Int32) < nI (i + 1) from nI_nlt (a := 60) (by omega) (by omega)), p_applyRules q4 q9 (by omega) q2 (hW i).1, ob2_s]
    have e : f_X6_hasDoorsOf (nI (dsk R K rl (i + 1) (b, bm)).2) (nI bm) (rI b) (nI Dn) (rI (dsk R K rl (i + 1) (b, bm)).1) = some (bz (smw Dn (dsk R K rl (i + 1) (b, bm)) (b, bm))) := p_hasDoorsOf q3 (by omega) (by omega) (hW (i + 1)).1 o1
    rw [hp] at e
    show (ob1 (f_X6_hasDoorsOf (nI (dsk R K rl (i + 1) (b, bm)).2) (nI bm) (rI b) (nI Dn) (rI (dsk R K rl (i + 1) (b, bm)).1)) fun r_20 => _) = _
    rw [e, ob1_s, bz_t, if_neg n10]
    rfl
  · rw [un3_s]
    unfold b_X7_again_13
    rw [if_pos (show (60 : Int32) < nI (60 + 1) from nI_lt (a := 60) (by omega) (by omega))]
