/-! ===== pure 15: sheets ===== -/
theorem cut8 (x : Int32) : x.toInt8.toInt32 = (x <<< ((24 : Int32) &&& 31)) >>> ((24 : Int32) &&& 31) := by
  apply Int32.toBitVec_inj.mp
  rw [Int8.toBitVec_toInt32, Int32.toBitVec_toInt8]
  show (x.toBitVec.signExtend 8).signExtend 32 = (x.toBitVec <<< 24).sshiftRight 24
  apply BitVec.eq_of_getLsbD_eq
  intro i hi
  rw [BitVec.getLsbD_sshiftRight, BitVec.getLsbD_signExtend]
  simp only [BitVec.getLsbD_signExtend, BitVec.getLsbD_shiftLeft, BitVec.msb_eq_getLsbD_last]
  rcases Nat.lt_or_ge i 8 with z | z
  · have a1 : 24 + i < 32 := by omega
    have a2 : ¬ 24 + i < 24 := by omega
    simp [z, hi, a1, a2, Nat.add_sub_cancel_left]
  · have a0 : ¬ i < 8 := by omega
    have a1 : ¬ 24 + i < 32 := by omega
    simp [a0, hi, a1]
theorem cut16 (x : Int32) : x.toInt16.toInt32 = (x <<< ((16 : Int32) &&& 31)) >>> ((16 : Int32) &&& 31) := by
  apply Int32.toBitVec_inj.mp
  rw [Int16.toBitVec_toInt32, Int32.toBitVec_toInt16]
  show (x.toBitVec.signExtend 16).signExtend 32 = (x.toBitVec <<< 16).sshiftRight 16
  apply BitVec.eq_of_getLsbD_eq
  intro i hi
  rw [BitVec.getLsbD_sshiftRight, BitVec.getLsbD_signExtend]
  simp only [BitVec.getLsbD_signExtend, BitVec.getLsbD_shiftLeft, BitVec.msb_eq_getLsbD_last]
  rcases Nat.lt_or_ge i 16 with z | z
  · have a1 : 16 + i < 32 := by omega
    have a2 : ¬ 16 + i < 16 := by omega
    simp [z, hi, a1, a2, Nat.add_sub_cancel_left]
  · have a0 : ¬ i < 16 := by omega
    have a1 : ¬ 16 + i < 32 := by omega
    simp [a0, hi, a1]
theorem p_fill {c : Nat → Int32} : ∃ c', f_J7_fill_53178 40 c (0 : Int32) = some c' ∧ ∀ i, i < 40 → c' i = 0 := by
  unfold f_J7_fill_53178
  rw [bnd_s]
  have hh := itr_inv (step := un2 (b_J7_fill_53178_5 40 0 (Int32.ofNat 40))) (fun i x => x.1 = nI i ∧ ∀ k, k < i → x.2 k = 0) 40 (fun o => ∀ k, k < 40 → o.2 k = 0) ?_ ?_ ((0 : Int32), c) ⟨rfl, fun k hk => absurd hk (Nat.not_lt_zero _)⟩ FU (by unfold FU; omega)
  · obtain ⟨o, e, q1⟩ := hh
    rw [e]
    exact ⟨o.2, rfl, q1⟩
  · rintro i ⟨x1, x2⟩ hi ⟨h1, h2⟩
    simp only at h1 h2
    subst h1
    refine ⟨(nI (i + 1), upd x2 i 0), ?_, rfl, ?_⟩
    · rw [un2_s]
      unfold b_J7_fill_53178_5
      rw [if_neg (show ¬ Int32.ofNat 40 ≤ nI i from nI_ge (b := 40) hi (by omega)), gin_k (by omega) (by omega), nI_cl (by omega), bnd_s, bnd_s, show nI i + 1 = nI (i + 1) from nI_1 i]
    · intro k hk
      simp only
      by_cases c : k = i
      · rw [c, pk_us]
      · rw [pk_un (by omega)]; exact h2 k (by omega)
  · rintro ⟨x1, x2⟩ ⟨h1, h2⟩
    simp only at h1 h2
    subst h1
    refine ⟨(nI 40, x2), ?_, h2⟩
    rw [un2_s]
    unfold b_J7_fill_53178_5
    rw [if_pos (show Int32.ofNat 40 ≤ nI 40 from nI_le (a := 40) (Nat.le_refl 40) (by omega))]
theorem m_fill {c : Nat → Int32} {s : Nat} (hs : s < 4) : ∃ c', itr (un2 (b_X8_sheet_56 (nI s))) FU ((0 : Int32), c) = some (nI 40, c') ∧ (∀ i, i < 40 → c' (40 * s + i) = 0) ∧ ∀ j, (j < 40 * s ∨ 40 * s + 40 ≤ j) → c' j = c j := by
  have hh := itr_inv (step := un2 (b_X8_sheet_56 (nI s))) (fun i x => x.1 = nI i ∧ (∀ k, k < i → x.2 (40 * s + k) = 0) ∧ ∀ j, (j < 40 * s ∨ 40 * s + i ≤ j) → x.2 j = c j) 40 (fun o => o.1 = nI 40 ∧ (∀ k, k < 40 → o.2 (40 * s + k) = 0) ∧ ∀ j, (j < 40 * s ∨ 40 * s + 40 ≤ j) → o.2 j = c j) ?_ ?_ ((0 : Int32), c) ⟨rfl, fun k hk => absurd hk (Nat.not_lt_zero _), fun _ _ => rfl⟩ FU (by unfold FU; omega)
  · obtain ⟨⟨o1, o2⟩, e, q1, q2⟩ := hh
    simp only at q1 q2
    subst q1
    exact ⟨o2, e, q2⟩
  · rintro i ⟨x1, x2⟩ hi ⟨h1, h2, h3⟩
    simp only at h1 h2 h3
    subst h1
    refine ⟨(nI (i + 1), upd x2 (40 * s + i) 0), ?_, rfl, ?_, ?_⟩
    · rw [un2_s]
      unfold b_X8_sheet_56
      rw [if_neg (show ¬ (40 : Int32) ≤ nI i from nI_ge (b := 40) hi (by omega)), show (40 : Int32) * nI s = nI (40 * s) from pk_mul 40 s, nI_add, gin_k (by omega) (by omega), nI_cl (by omega), bnd_s, bnd_s, show nI i + 1 = nI (i + 1) from nI_1 i]
    · intro k hk
      simp only
      by_cases c : k = i
      · rw [c, pk_us]
      · rw [pk_un (by omega)]; exact h2 k (by omega)
    · intro j hj
      simp only
      rw [pk_un (by omega)]; exact h3 j (by omega)
  · rintro ⟨x1, x2⟩ ⟨h1, h2, h3⟩
    simp only at h1 h2 h3
    subst h1
    refine ⟨(nI 40, x2), ?_, rfl, h2, h3⟩
    rw [un2_s]
    unfold b_X8_sheet_56
    rw [if_pos (show (40 : Int32) ≤ nI 40 from nI_le (a := 40) (Nat.le_refl 40) (by omega))]
theorem p_isSheet (p1 : Int32) : f_X7_isSheet p1 = some (bz (decide (0 ≤ p1 ∧ p1 ≤ 3))) := by
  unfold f_X7_isSheet; rw [p_within]; exact gbl_b _ _
theorem ShR_frame {j k : Nat} {lane size v w : Int32} {cells lanes lengths mcells mc' : Nat → Int32} (h : ShR j lane size cells lanes lengths mcells) (hjk : j ≠ k) (hc : ∀ i, i < 40 → mc' (40 * j + i) = mcells (40 * j + i)) : ShR j lane size cells (upd lanes k v) (upd lengths k w) mc' := by
  rcases h with ⟨s1, s2⟩ | ⟨ln, n, s1, s2, s3, s4, s5, s6, s7⟩
  · exact Or.inl ⟨s1, by rw [pk_un hjk]; exact s2⟩
  · exact Or.inr ⟨ln, n, s1, s2, s3, by rw [pk_un hjk]; exact s4, s5, by rw [pk_un hjk]; exact s6, fun i hi => (hc i hi).trans (s7 i hi)⟩
theorem ShR_frame2 {j : Nat} {lane size : Int32} {cells lanes lengths mcells mc' : Nat → Int32} (h : ShR j lane size cells lanes lengths mcells) (hc : ∀ i, i < 40 → mc' (40 * j + i) = mcells (40 * j + i)) : ShR j lane size cells lanes lengths mc' := by
  rcases h with ⟨s1, s2⟩ | ⟨ln, n, s1, s2, s3, s4, s5, s6, s7⟩
  · exact Or.inl ⟨s1, s2⟩
  · exact Or.inr ⟨ln, n, s1, s2, s3, s4, s5, s6, fun i hi => (hc i hi).trans (s7 i hi)⟩
theorem co_sheet {l0 s0 l1 s1 l2 s2 l3 s3 : Int32} {c0 c1 c2 c3 lanes lengths mcells : Nat → Int32} (h0 : ShR 0 l0 s0 c0 lanes lengths mcells) (h1 : ShR 1 l1 s1 c1 lanes lengths mcells) (h2 : ShR 2 l2 s2 c2 lanes lengths mcells) (h3 : ShR 3 l3 s3 c3 lanes lengths mcells) (p1 p2 p3 : Int32) : ∃ (rr l0' s0' : Int32) (c0' : Nat → Int32) (l1' s1' : Int32) (c1' : Nat → Int32) (l2' s2' : Int32) (c2' : Nat → Int32) (l3' s3' : Int32) (c3' mc' ml' mn' : Nat → Int32), f_X7_sheet l0 s0 c0 l1 s1 c1 l2 s2 c2 l3 s3 c3 p1 p2 p3 = some (rr, l0', s0', c0', l1', s1', c1', l2', s2', c2', l3', s3', c3') ∧ f_X8_sheet mcells lanes lengths p1 p2 p3 = some (rr, mc', ml', mn') ∧ ShR 0 l0' s0' c0' ml' mn' mc' ∧ ShR 1 l1' s1' c1' ml' mn' mc' ∧ ShR 2 l2' s2' c2' ml' mn' mc' ∧ ShR 3 l3' s3' c3' ml' mn' mc' := by
  unfold f_X7_sheet f_X8_sheet
  rw [p_isSheet, p_isLane, ob1_s, ob1_s, show (0 : Int64) = (0 : Int32).toInt64 from rfl, show (3 : Int64) = (3 : Int32).toInt64 from rfl, show (2 : Int64) = (2 : Int32).toInt64 from rfl, m_in, m_in, ob1_s, ob1_s]
  rcases i32_in p1 4 (by omega) with ⟨k, hk, rfl⟩ | hout
  · rw [show decide ((0 : Int32) ≤ nI k ∧ nI k ≤ 3) = true from dec_le (n := 3) (by omega) (by omega), bz_t, if_neg n10, if_neg n10]
    rcases i32_in p2 3 (by omega) with ⟨ln, hln, rfl⟩ | hout2
    · rw [show decide ((0 : Int32) ≤ nI ln ∧ nI ln ≤ 2) = true from dec_le (n := 2) (by omega) (by omega), bz_t, if_neg n10, if_neg n10]
      by_cases h40 : p3 ≤ 40
      · rw [if_pos h40, if_pos h40]
        by_cases hn : (0 : Int32) ≤ p3
        · rw [if_pos hn, if_pos hn]
          have c1' := (fa_le _ _).mp h40
          have c2' := (fa_le _ _).mp hn
          rcases i32_in p3 41 (by omega) with ⟨n, hn41, rfl⟩ | hout3
          · rw [gin_k hk (by omega), gin_k hk (by omega), bnd_s, gin_k hk (by omega), bnd_s, nI_cl (by omega)]
            obtain ⟨mc', em, q1, q2⟩ := m_fill (c := mcells) hk
            rw [em, ob2_s]
            have new : ∀ c', (∀ i, i < 40 → c' i = (0 : Int32)) → ShR k (nI ln) (nI n) c' (upd lanes k (nI ln)) (upd lengths k (nI n)) mc' := fun c' hc' => Or.inr ⟨ln, n, hln, by omega, rfl, by rw [pk_us], rfl, by rw [pk_us], fun i hi => by rw [q1 i hi, hc' i hi]⟩
            rcases (show k = 0 ∨ k = 1 ∨ k = 2 ∨ k = 3 by omega) with rfl | rfl | rfl | rfl
            · obtain ⟨c', ec, qc⟩ := p_fill (c := c0)
              rw [if_pos (show nI 0 = (0 : Int32) from rfl)]
              unfold f_X5_renew
              rw [ec, ob1_s, ob3_s]
              exact ⟨_, _, _, _, _, _, _, _, _, _, _, _, _, _, _, _, rfl, rfl, new _ qc, ShR_frame h1 (by decide) (fun i hi => q2 _ (by omega)), ShR_frame h2 (by decide) (fun i hi => q2 _ (by omega)), ShR_frame h3 (by decide) (fun i hi => q2 _ (by omega))⟩
            · obtain ⟨c', ec, qc⟩ := p_fill (c := c1)
              rw [if_neg (show ¬ nI 1 = (0 : Int32) by decide), if_pos (show nI 1 = (1 : Int32) from rfl)]
              unfold f_X5_renew
              rw [ec, ob1_s, ob3_s]
              exact ⟨_, _, _, _, _, _, _, _, _, _, _, _, _, _, _, _, rfl, rfl, ShR_frame h0 (by decide) (fun i hi => q2 _ (by omega)), new _ qc, ShR_frame h2 (by decide) (fun i hi => q2 _ (by omega)), ShR_frame h3 (by decide) (fun i hi => q2 _ (by omega))⟩
            · obtain ⟨c', ec, qc⟩ := p_fill (c := c2)
              rw [if_neg (show ¬ nI 2 = (0 : Int32) by decide), if_neg (show ¬ nI 2 = (1 : Int32) by decide), if_pos (show nI 2 = (2 : Int32) from rfl)]
              unfold f_X5_renew
              rw [ec, ob1_s, ob3_s]
              exact ⟨_, _, _, _, _, _, _, _, _, _, _, _, _, _, _, _, rfl, rfl, ShR_frame h0 (by decide) (fun i hi => q2 _ (by omega)), ShR_frame h1 (by decide) (fun i hi => q2 _ (by omega)), new _ qc, ShR_frame h3 (by decide) (fun i hi => q2 _ (by omega))⟩
            · obtain ⟨c', ec, qc⟩ := p_fill (c := c3)
              rw [if_neg (show ¬ nI 3 = (0 : Int32) by decide), if_neg (show ¬ nI 3 = (1 : Int32) by decide), if_neg (show ¬ nI 3 = (2 : Int32) by decide), if_pos (show nI 3 = (3 : Int32) from rfl)]
              unfold f_X5_renew
              rw [ec, ob1_s, ob3_s]
              exact ⟨_, _, _, _, _, _, _, _, _, _, _, _, _, _, _, _, rfl, rfl, ShR_frame h0 (by decide) (fun i hi => q2 _ (by omega)), ShR_frame h1 (by decide) (fun i hi => q2 _ (by omega)), ShR_frame h2 (by decide) (fun i hi => q2 _ (by omega)), new _ qc⟩
          · exfalso
            have e1 : (40 : Int32).toInt = 40 := by decide
            have e2 : (0 : Int32).toInt = 0 := by decide
            omega
        · rw [if_neg hn, if_neg hn]
          exact ⟨_, _, _, _, _, _, _, _, _, _, _, _, _, _, _, _, rfl, rfl, h0, h1, h2, h3⟩
      · rw [if_neg h40, if_neg h40]
        exact ⟨_, _, _, _, _, _, _, _, _, _, _, _, _, _, _, _, rfl, rfl, h0, h1, h2, h3⟩
    · rw [show decide ((0 : Int32) ≤ p2 ∧ p2 ≤ 2) = false from dec_gt (n := 2) (by omega) hout2, bz_f, if_pos rfl, if_pos rfl]
      exact ⟨_, _, _, _, _, _, _, _, _, _, _, _, _, _, _, _, rfl, rfl, h0, h1, h2, h3⟩
  · rw [show decide ((0 : Int32) ≤ p1 ∧ p1 ≤ 3) = false from dec_gt (n := 3) (by omega) hout, bz_f, if_pos rfl, if_pos rfl]
    exact ⟨_, _, _, _, _, _, _, _, _, _, _, _, _, _, _, _, rfl, rfl, h0, h1, h2, h3⟩
/-- one sheet: what lay() does there -/
theorem co_lay1 {k : Nat} {l s : Int32} {c lanes lengths mcells : Nat → Int32} (hk : k < 4) (h : ShR k l s c lanes lengths mcells) (p2 p3 : Int32) : (∃ r : Int32, f_X5_faultAt l s l p2 = some r ∧ r ≠ 0 ∧ f_X8_lay mcells lanes lengths (nI k) p2 p3 = some (-10 - r, mcells)) ∨ (∃ c' mc' : Nat → Int32, f_X5_faultAt l s l p2 = some 0 ∧ f_X5_setCell l c p2 p3 = some c' ∧ f_X8_lay mcells lanes lengths (nI k) p2 p3 = some (1, mc') ∧ ShR k l s c' lanes lengths mc' ∧ ∀ j, j < 4 → j ≠ k → ∀ i, i < 40 → mc' (40 * j + i) = mcells (40 * j + i)) := by
  unfold f_X5_faultAt f_X8_lay
  rw [show (0 : Int64) = (0 : Int32).toInt64 from rfl, show (3 : Int64) = (3 : Int32).toInt64 from rfl, m_in, ob1_s, show decide ((0 : Int32) ≤ nI k ∧ nI k ≤ 3) = true from dec_le (n := 3) (by omega) (by omega), bz_t, if_neg n10, gin_k hk (by omega), nI_cl (by omega)]
  rcases h with ⟨s1, s2⟩ | ⟨ln, n, s1, s2, s3, s4, s5, s6, s7⟩
  · rw [if_pos s1, s2, if_pos rfl]
    exact Or.inl ⟨1, rfl, by decide, rfl⟩
  · subst s3 s5
    rw [if_neg (ne4 (by omega)), if_pos rfl, s4, if_neg (ne4 (by omega)), gin_k hk (by omega), s6, m_in, p_within, ob1_s, ob1_s, dec_lt (by omega)]
    rcases i32_in p2 n (by omega) with ⟨i, hi, rfl⟩ | hout
    · rw [dec_in hi (by omega), bz_t, if_neg n10, if_neg n10, gin_k hk (by omega), jn1_s, gin_k hk (by omega)]
      have done : ∀ v : Int32, ShR k (nI ln) (nI n) (upd c i v) lanes lengths (upd mcells (40 * k + i) v) ∧ ∀ j, j < 4 → j ≠ k → ∀ i', i' < 40 → upd mcells (40 * k + i) v (40 * j + i') = mcells (40 * j + i') := by
        intro v
        refine ⟨Or.inr ⟨ln, n, s1, s2, rfl, s4, rfl, s6, ?_⟩, ?_⟩
        · intro i' hi'
          by_cases e : i' = i
          · rw [e, pk_us, pk_us]
          · rw [pk_un e, pk_un (by omega)]; exact s7 i' hi'
        · intro j hj hne i' hi'
          rw [pk_un (by omega)]
      have e40 : (40 : Int32) * nI k + nI i = nI (40 * k + i) := by rw [show (40 : Int32) * nI k = nI (40 * k) from pk_mul 40 k, nI_add]
      dsimp only
      rw [e40, ← cut8, ← cut16, gin_k (by omega) (by omega), gin_k (by omega) (by omega), gin_k (by omega) (by omega), bnd_s, bnd_s, bnd_s, nI_cl (by omega)]
      unfold f_X5_setCell
      rw [gin_k (by omega) (by omega), gin_k (by omega) (by omega), gin_k (by omega) (by omega), bnd_s, bnd_s, bnd_s, nI_cl (by omega)]
      right
      by_cases z0 : nI ln = 0
      · rw [if_pos z0, if_pos z0]; exact ⟨_, _, rfl, rfl, rfl, done _⟩
      · rw [if_neg z0, if_neg z0]
        by_cases z1 : nI ln = 1
        · rw [if_pos z1, if_pos z1]; exact ⟨_, _, rfl, rfl, rfl, done _⟩
        · rw [if_neg z1, if_neg z1]; exact ⟨_, _, rfl, rfl, rfl, done _⟩
    · rw [dec_out (by omega) hout, bz_f, if_pos rfl, if_pos rfl]
      exact Or.inl ⟨2, rfl, by decide, rfl⟩
theorem co_lay {l0 s0 l1 s1 l2 s2 l3 s3 : Int32} {c0 c1 c2 c3 lanes lengths mcells : Nat → Int32} (h0 : ShR 0 l0 s0 c0 lanes lengths mcells) (h1 : ShR 1 l1 s1 c1 lanes lengths mcells) (h2 : ShR 2 l2 s2 c2 lanes lengths mcells) (h3 : ShR 3 l3 s3 c3 lanes lengths mcells) (p1 p2 p3 : Int32) : ∃ (rr : Int32) (c0' c1' c2' c3' mc' : Nat → Int32), f_X7_lay l0 s0 c0 l1 s1 c1 l2 s2 c2 l3 s3 c3 p1 p2 p3 = some (rr, c0', c1', c2', c3') ∧ f_X8_lay mcells lanes lengths p1 p2 p3 = some (rr, mc') ∧ ShR 0 l0 s0 c0' lanes lengths mc' ∧ ShR 1 l1 s1 c1' lanes lengths mc' ∧ ShR 2 l2 s2 c2' lanes lengths mc' ∧ ShR 3 l3 s3 c3' lanes lengths mc' := by
  rcases i32_in p1 4 (by omega) with ⟨k, hk, rfl⟩ | hout
  · unfold f_X7_lay
    rw [p_isSheet, ob1_s, show decide ((0 : Int32) ≤ nI k ∧ nI k ≤ 3) = true from dec_le (n := 3) (by omega) (by omega), bz_t, if_neg n10, gin_k hk (by omega), gin_k hk (by omega), gin_k hk (by omega), gin_k hk (by omega), gin_k hk (by omega)]
    rcases (show k = 0 ∨ k = 1 ∨ k = 2 ∨ k = 3 by omega) with rfl | rfl | rfl | rfl
    · rw [if_pos (show nI 0 = (0 : Int32) from rfl)]
      rcases co_lay1 hk h0 p2 p3 with ⟨r, e1, e2, e3⟩ | ⟨c', mc', e1, e2, e3, e4, e5⟩
      · rw [e1, ob1_s, if_neg e2, e3]
        exact ⟨_, _, _, _, _, _, rfl, rfl, h0, h1, h2, h3⟩
      · rw [e1, ob1_s, if_pos rfl, e2, ob1_s, e3]
        exact ⟨_, _, _, _, _, _, rfl, rfl, e4, ShR_frame2 h1 (e5 1 (by decide) (by decide)), ShR_frame2 h2 (e5 2 (by decide) (by decide)), ShR_frame2 h3 (e5 3 (by decide) (by decide))⟩
    · rw [if_neg (show ¬ nI 1 = (0 : Int32) by decide), if_pos (show nI 1 = (1 : Int32) from rfl)]
      rcases co_lay1 hk h1 p2 p3 with ⟨r, e1, e2, e3⟩ | ⟨c', mc', e1, e2, e3, e4, e5⟩
      · rw [e1, ob1_s, if_neg e2, e3]
        exact ⟨_, _, _, _, _, _, rfl, rfl, h0, h1, h2, h3⟩
      · rw [e1, ob1_s, if_pos rfl, e2, ob1_s, e3]
        exact ⟨_, _, _, _, _, _, rfl, rfl, ShR_frame2 h0 (e5 0 (by decide) (by decide)), e4, ShR_frame2 h2 (e5 2 (by decide) (by decide)), ShR_frame2 h3 (e5 3 (by decide) (by decide))⟩
    · rw [if_neg (show ¬ nI 2 = (0 : Int32) by decide), if_neg (show ¬ nI 2 = (1 : Int32) by decide), if_pos (show nI 2 = (2 : Int32) from rfl)]
      rcases co_lay1 hk h2 p2 p3 with ⟨r, e1, e2, e3⟩ | ⟨c', mc', e1, e2, e3, e4, e5⟩
      · rw [e1, ob1_s, if_neg e2, e3]
        exact ⟨_, _, _, _, _, _, rfl, rfl, h0, h1, h2, h3⟩
      · rw [e1, ob1_s, if_pos rfl, gin_k hk (by omega), e2, ob1_s, e3]
        exact ⟨_, _, _, _, _, _, rfl, rfl, ShR_frame2 h0 (e5 0 (by decide) (by decide)), ShR_frame2 h1 (e5 1 (by decide) (by decide)), e4, ShR_frame2 h3 (e5 3 (by decide) (by decide))⟩
    · rw [if_neg (show ¬ nI 3 = (0 : Int32) by decide), if_neg (show ¬ nI 3 = (1 : Int32) by decide), if_neg (show ¬ nI 3 = (2 : Int32) by decide), if_pos (show nI 3 = (3 : Int32) from rfl)]
      rcases co_lay1 hk h3 p2 p3 with ⟨r, e1, e2, e3⟩ | ⟨c', mc', e1, e2, e3, e4, e5⟩
      · rw [e1, ob1_s, if_neg e2, e3]
        exact ⟨_, _, _, _, _, _, rfl, rfl, h0, h1, h2, h3⟩
      · rw [e1, ob1_s, if_pos rfl, gin_k hk (by omega), e2, ob1_s, e3]
        exact ⟨_, _, _, _, _, _, rfl, rfl, ShR_frame2 h0 (e5 0 (by decide) (by decide)), ShR_frame2 h1 (e5 1 (by decide) (by decide)), ShR_frame2 h2 (e5 2 (by decide) (by decide)), e4⟩
  · unfold f_X7_lay f_X8_lay
    rw [p_isSheet, ob1_s, show (0 : Int64) = (0 : Int32).toInt64 from rfl, show (3 : Int64) = (3 : Int32).toInt64 from rfl, m_in, ob1_s, show decide ((0 : Int32) ≤ p1 ∧ p1 ≤ 3) = false from dec_gt (n := 3) (by omega) hout, bz_f, if_pos rfl, if_pos rfl]
    exact ⟨_, _, _, _, _, _, rfl, rfl, h0, h1, h2, h3⟩
