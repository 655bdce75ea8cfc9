/-! ===== pure 16: feed ===== -/
theorem byte_low (x : Int32) : (x &&& 255).toInt8 = x.toInt8 := by
  apply Int8.toBitVec_inj.1
  apply BitVec.eq_of_getLsbD_eq
  intro i hi
  have h2 : (255 : Int32).toBitVec.getLsbD i = true := by
    have : ∀ j : Fin 8, (255 : Int32).toBitVec.getLsbD j.val = true := by decide +kernel
    exact this ⟨i, hi⟩
  have h3 : i < 32 := by omega
  rw [Int32.toBitVec_toInt8, Int32.toBitVec_toInt8, BitVec.getLsbD_signExtend, BitVec.getLsbD_signExtend, if_pos h3, if_pos h3, Int32.toBitVec_and, BitVec.getLsbD_and, h2, Bool.and_true]
theorem byte_w (x : Int32) : ∃ w, w < 256 ∧ x &&& 255 = nI w := by
  refine ⟨(x &&& 255).toBitVec.toNat, ?_, ?_⟩
  · rw [Int32.toBitVec_and, BitVec.toNat_and]
    exact Nat.lt_of_le_of_lt Nat.and_le_right (by decide)
  · apply Int32.toBitVec_inj.1
    show (x &&& 255).toBitVec = BitVec.ofNat 32 _
    rw [BitVec.ofNat_toNat, BitVec.setWidth_eq]
theorem feed_bit (x : Int64) : ∀ j, j < 8 → (((x.toUInt64 >>> ((nI (8 * j)).toInt64.toUInt64 &&& Int64.toUInt64 63)).toInt64).toInt32).toInt8 = ((x >>> ((nI (8 * j)).toInt64 &&& 63)).toInt32).toInt8 := by
  intro j hj
  have key : ∀ n : Nat, n ≤ 56 → ∀ i, i < 8 → (x.toBitVec >>> n).getLsbD i = (x.toBitVec.sshiftRight n).getLsbD i := by
    intro n hn i hi
    rw [BitVec.getLsbD_ushiftRight, BitVec.getLsbD_sshiftRight]
    have a1 : n + i < 64 := by omega
    have a2 : ¬ 64 ≤ i := by omega
    simp [a1, a2]
  apply Int8.toBitVec_inj.1
  apply BitVec.eq_of_getLsbD_eq
  intro i hi
  have h3 : i < 32 := by omega
  have h4 : i < 64 := by omega
  rw [Int32.toBitVec_toInt8, Int32.toBitVec_toInt8, BitVec.getLsbD_signExtend, BitVec.getLsbD_signExtend, if_pos h3, if_pos h3, Int64.toBitVec_toInt32, Int64.toBitVec_toInt32, BitVec.getLsbD_signExtend, BitVec.getLsbD_signExtend, if_pos h4, if_pos h4]
  have k := key (8 * j) (by omega) i hi
  have e1 : (x.toUInt64 >>> ((nI (8 * j)).toInt64.toUInt64 &&& Int64.toUInt64 63)).toInt64.toBitVec = x.toBitVec >>> (8 * j) := by
    rcases (show j = 0 ∨ j = 1 ∨ j = 2 ∨ j = 3 ∨ j = 4 ∨ j = 5 ∨ j = 6 ∨ j = 7 by omega) with rfl | rfl | rfl | rfl | rfl | rfl | rfl | rfl <;> rfl
  have e2 : (x >>> ((nI (8 * j)).toInt64 &&& 63)).toBitVec = x.toBitVec.sshiftRight (8 * j) := by
    rcases (show j = 0 ∨ j = 1 ∨ j = 2 ∨ j = 3 ∨ j = 4 ∨ j = 5 ∨ j = 6 ∨ j = 7 by omega) with rfl | rfl | rfl | rfl | rfl | rfl | rfl | rfl <;> rfl
  rw [e1, e2, k]
theorem co_feed {len taped : Int32} {tape mtape : Nat → Int32} (h : TpR len tape mtape taped) (p1 : Int64) : ∃ (rr len' : Int32) (tape' : Nat → Int32) (taped' : Int32) (mtape' : Nat → Int32), f_X7_feed len tape p1 = some (rr, len', tape') ∧ f_X8_feed taped mtape p1 = some (rr, taped', mtape') ∧ TpR len' tape' mtape' taped' := by
  obtain ⟨n, hn, rfl, rfl, hh⟩ := h
  unfold f_X7_feed f_X3_append f_X8_feed
  rw [show nI n + 8 = nI (n + 8) from nI_add n 8]
  by_cases hc : n + 8 ≤ 320
  · rw [if_pos (show nI (n + 8) ≤ 320 from nI_le (b := 320) hc (by omega)), if_pos (show nI (n + 8) ≤ 320 from nI_le (b := 320) hc (by omega))]
    have step : ∀ (k i m : Nat) (t mt : Nat → Int32), i + k = 8 → k < m → (∀ j, j < n + i → ∃ w, w < 256 ∧ mt j = nI w ∧ t j = (nI w).toInt8.toInt32) → ∃ (v : Int32) (t' mt' : Nat → Int32), itr (un3 (b_X3_append_18 p1)) m (nI (8 * k) - 8, nI (n + i), t) = some (v, nI (n + 8), t') ∧ itr (un3 (b_X8_feed_19 p1)) m (nI (8 * k) - 8, nI (n + i), mt) = some (v, nI (n + 8), mt') ∧ ∀ j, j < n + 8 → ∃ w, w < 256 ∧ mt' j = nI w ∧ t' j = (nI w).toInt8.toInt32 := by
      intro k
      induction k with
      | zero =>
        intro i m t mt hi hm ht
        obtain ⟨m, rfl⟩ : ∃ q, m = q + 1 := ⟨m - 1, by omega⟩
        have : i = 8 := by omega
        subst this
        refine ⟨nI (8 * 0) - 8, t, mt, ?_, ?_, ht⟩
        · rw [itr, un3_s]
          unfold b_X3_append_18
          rw [if_pos (show nI (8 * 0) - 8 < (0 : Int32) by decide)]
        · rw [itr, un3_s]
          unfold b_X8_feed_19
          rw [if_pos (show nI (8 * 0) - 8 < (0 : Int32) by decide)]
      | succ k ih =>
        intro i m t mt hi hm ht
        obtain ⟨m, rfl⟩ : ∃ q, m = q + 1 := ⟨m - 1, by omega⟩
        have ek : nI (8 * (k + 1)) - 8 = nI (8 * k) := by
          rw [show 8 * (k + 1) = 8 * k + 8 by omega, ← nI_add, show nI 8 = (8 : Int32) from rfl, Int32.add_sub_cancel]
        have hneg : ¬ nI (8 * k) < (0 : Int32) := nI_nlt (a := 8 * k) (b := 0) (by omega) (by omega)
        obtain ⟨w, hw, ew⟩ := byte_w ((p1 >>> ((nI (8 * k)).toInt64 &&& 63)).toInt32)
        have eb : (((p1.toUInt64 >>> ((nI (8 * k)).toInt64.toUInt64 &&& Int64.toUInt64 63)).toInt64).toInt32).toInt8 = (nI w).toInt8 := by
          rw [feed_bit p1 k (by omega), ← byte_low, ew]
        obtain ⟨v, t', mt', q1, q2, q3⟩ := ih (i + 1) m (upd t (n + i) ((nI w).toInt8.toInt32)) (upd mt (n + i) (nI w)) (by omega) (by omega) (fun j hj => by
          by_cases c : j = n + i
          · rw [c, pk_us, pk_us]; exact ⟨w, hw, rfl, rfl⟩
          · rw [pk_un c, pk_un c]; exact ht j (by omega))
        refine ⟨v, t', mt', ?_, ?_, q3⟩
        · rw [itr, un3_s]
          unfold b_X3_append_18
          rw [ek, if_neg hneg, gin_k (by omega) (by omega), bnd_s, bnd_s, bnd_s, nI_cl (by omega), pk_vb, eb, show nI (n + i) + 1 = nI (n + (i + 1)) from nI_1 _, show nI (8 * k) + (-8) = nI (8 * k) - 8 from (Int32.sub_eq_add_neg _ 8).symm]
          exact q1
        · rw [itr, un3_s]
          unfold b_X8_feed_19
          rw [ek, if_neg hneg, gin_k (by omega) (by omega), bnd_s, bnd_s, bnd_s, nI_cl (by omega), ew, show nI (n + i) + 1 = nI (n + (i + 1)) from nI_1 _, show nI (8 * k) + (-8) = nI (8 * k) - 8 from (Int32.sub_eq_add_neg _ 8).symm]
          exact q2
    obtain ⟨v, t', mt', q1, q2, q3⟩ := step 8 0 FU tape mtape rfl (by unfold FU; omega) hh
    rw [show ((56 : Int32), nI n, tape) = (nI (8 * 8) - 8, nI (n + 0), tape) from rfl, show ((56 : Int32), nI n, mtape) = (nI (8 * 8) - 8, nI (n + 0), mtape) from rfl, q1, q2, ob3_s, ob3_s, ob3_s, if_neg n10]
    exact ⟨_, _, _, _, _, rfl, rfl, n + 8, hc, rfl, rfl, q3⟩
  · have hno : ¬ nI (n + 8) ≤ (320 : Int32) := nI_ge (a := 320) (b := n + 8) (by omega) (by omega)
    rw [if_neg hno, if_neg hno, ob3_s, if_pos rfl]
    exact ⟨_, _, _, _, _, rfl, rfl, n, hn, rfl, rfl, hh⟩
