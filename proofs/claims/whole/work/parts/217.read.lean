/-! ===== pure 17: read ===== -/
theorem m_in64 (x y z : Int64) : f_X8_in x y z = some (bz (decide (y ≤ x ∧ x ≤ z))) := by
  unfold f_X8_in
  by_cases h1 : x < y
  · rw [if_pos ((lg_cmp_lt _ _).mpr h1)]
    have : ¬ (y ≤ x ∧ x ≤ z) := by rw [fa_le64, fa_le64]; rw [fa_lt64] at h1; omega
    simp [this, bz]
  · rw [if_neg (fun q => h1 ((lg_cmp_lt _ _).mp q))]
    by_cases h2 : z < x
    · rw [if_pos ((lg_cmp_gt _ _).mpr h2)]
      have : ¬ (y ≤ x ∧ x ≤ z) := by rw [fa_le64, fa_le64]; rw [fa_lt64] at h2; omega
      simp [this, bz]
    · rw [if_neg (fun q => h2 ((lg_cmp_gt _ _).mp q))]
      have : (y ≤ x ∧ x ≤ z) := by rw [fa_le64, fa_le64]; rw [fa_lt64] at h1 h2; omega
      simp [this, bz]
theorem pred_int {n : Nat} (hn : n < 2147483648) : (nI n - 1 : Int32).toInt = (n : Int) - 1 := by
  cases n with
  | zero => rfl
  | succ n => rw [show nI (n + 1) - 1 = nI n from nI_pred n, nI_toInt (by omega)]; omega
theorem rd_in {p3 : Int32} {i n : Nat} (hi : i < 1000) (hn : n < 1000) : decide ((0 : Int64) ≤ p3.toInt64 + (nI i).toInt64 ∧ p3.toInt64 + (nI i).toInt64 ≤ (nI n - 1).toInt64) = decide ((0 : Int32) ≤ p3 + nI i ∧ p3 + nI i < nI n) := by
  rw [decide_eq_decide, fa_le64, fa_le64, fa_le, fa_lt, Int64.toInt_add, Int32.toInt_add, Int32.toInt_toInt64, Int32.toInt_toInt64, Int32.toInt_toInt64, pred_int (by omega), nI_toInt (by omega), nI_toInt (by omega)]
  have a1 := Int32.le_toInt p3
  have a2 := Int32.toInt_lt p3
  have e0 : (0 : Int64).toInt = 0 := by decide
  have e1 : (0 : Int32).toInt = 0 := by decide
  rw [e0, e1]
  rw [Int.bmod_eq_of_le (by omega) (by omega)]
  unfold Int.bmod
  dsimp only
  split <;> omega
def rdb (t_plan_rooms : Int32) (t_plan_doorCount : Int32) (t_plan_ruleCount : Int32) (t_plan_stringLength : Int32) (t_plan_firstEnds : Nat → Int32) (t_plan_rules : Nat → Int32) (q_lane : Int32) (q_size : Int32) (q_cells : Nat → Int32) (p1 : Int32) (p2 : Int32) (p3 : Int32) (p4 : Int32) (t_barred_10 : Int32) (t_beast_11 : Int32) (t_eaten_12 : Int32) (t_habit_13 : Int32) (t_his_14 : Int32) (t_onString_15 : Int32) (t_period_16 : Int32) (t_step_17 : Int32) (t_secondEnds_18 : Nat → Int32) (t_string_19 : Nat → Int32) (v5_21 : Int32) (t_tornFault_22 : Int32) (t_now_barred_23 : Int32) (t_now_beast_24 : Int32) (t_now_eaten_25 : Int32) (t_now_habit_26 : Int32) (t_now_his_27 : Int32) (t_now_onString_28 : Int32) (t_now_period_29 : Int32) (t_now_step_30 : Int32) (t_now_secondEnds_31 : Nat → Int32) (t_now_string_32 : Nat → Int32) : Option ((Int32 × Int32 × Int32 × Int32 × Int32 × Int32 × Int32 × Int32 × Int32 × Int32 × (Nat → Int32) × (Nat → Int32)) ⊕ ((Int32 × Int32 × Int32 × Int32 × Int32 × Int32 × Int32 × Int32 × Int32 × Int32 × (Nat → Int32) × (Nat → Int32) × Int32 × Int32 × Int32 × Int32 × Int32 × Int32 × Int32 × Int32 × (Nat → Int32) × (Nat → Int32)) ⊕ (Int32 × Int32 × Int32 × Int32 × Int32 × Int32 × Int32 × Int32 × Int32 × Int32 × (Nat → Int32) × (Nat → Int32)))) :=
 (ob1 (f_X5_faultAt q_lane q_size p2 (p3 + v5_21)) (fun r_37 =>
 (if r_37 = (0 : Int32) then
 (gin p1 4 (gin (p3 + v5_21) 40 (bnd (q_cells (p3 + v5_21).toNatClampNeg) (fun v7_42 =>
 (ob1 (f_X7_refusalOf t_now_barred_23 t_now_his_27 t_now_step_30 t_now_eaten_25 t_now_secondEnds_31 t_plan_doorCount t_plan_firstEnds v7_42) (fun r_43 =>
 (if r_43 = (0 : Int32) then
 (ob8 (f_X6_takeStep t_now_barred_23 t_now_period_29 t_now_his_27 t_now_beast_24 t_now_habit_26 t_now_onString_28 t_now_step_30 t_now_eaten_25 t_plan_rooms t_plan_doorCount t_plan_ruleCount t_plan_stringLength t_plan_firstEnds t_plan_rules t_now_secondEnds_31 t_now_string_32 v7_42) (fun t_barred_46 t_beast_47 t_eaten_48 t_his_49 t_onString_50 t_step_51 t_secondEnds_52 t_string_53 =>
 (bnd (v5_21 + (1 : Int32)) (fun v5_55 =>
 (some (.inl (v5_55, t_tornFault_22, t_barred_46, t_beast_47, t_eaten_48, t_now_habit_26, t_his_49, t_onString_50, t_now_period_29, t_step_51, t_secondEnds_52, t_string_53)))))))
 else (ob10 (f_X6_copyFrom t_barred_10 t_period_16 t_his_14 t_beast_11 t_habit_13 t_onString_15 t_step_17 t_eaten_12 t_secondEnds_18 t_string_19 t_now_secondEnds_31 t_now_string_32) (fun t_barred_56 t_beast_57 t_eaten_58 t_habit_59 t_his_60 t_onString_61 t_period_62 t_step_63 t_secondEnds_64 t_string_65 =>
 (some (.inr (.inl (((-20 : Int32) - v5_21), t_tornFault_22, t_barred_10, t_beast_11, t_eaten_12, t_habit_13, t_his_14, t_onString_15, t_period_16, t_step_17, t_secondEnds_18, t_string_19, t_barred_56, t_beast_57, t_eaten_58, t_habit_59, t_his_60, t_onString_61, t_period_62, t_step_63, t_secondEnds_64, t_string_65)))))))))))))
 else (some (.inr (.inl (v5_21, r_37, t_barred_10, t_beast_11, t_eaten_12, t_habit_13, t_his_14, t_onString_15, t_period_16, t_step_17, t_secondEnds_18, t_string_19, t_now_barred_23, t_now_beast_24, t_now_eaten_25, t_now_habit_26, t_now_his_27, t_now_onString_28, t_now_period_29, t_now_step_30, t_now_secondEnds_31, t_now_string_32)))))))
theorem read_0 {rm dc rc sl : Int32} {fe ru : Nat → Int32} {l0 s0 l1 s1 l2 s2 l3 s3 : Int32} {c0 c1 c2 c3 : Nat → Int32} {p2 p3 p4 z1 z2 z3 z4 z5 z6 z7 z8 : Int32} {bse bstr : Nat → Int32} (v5 tr x1 x2 x3 x4 x5 x6 x7 x8 : Int32) (se str : Nat → Int32) : b_X7_read_42 rm dc rc sl fe ru l0 s0 c0 l1 s1 c1 l2 s2 c2 l3 s3 c3 (nI 0) p2 p3 p4 z1 z2 z3 z4 z5 z6 z7 z8 bse bstr v5 tr x1 x2 x3 x4 x5 x6 x7 x8 se str = (if p4 ≤ v5 then (some (.inr (.inr (v5, tr, x1, x2, x3, x4, x5, x6, x7, x8, se, str)))) else rdb rm dc rc sl fe ru l0 s0 c0 (nI 0) p2 p3 p4 z1 z2 z3 z4 z5 z6 z7 z8 bse bstr v5 tr x1 x2 x3 x4 x5 x6 x7 x8 se str) := by
  unfold b_X7_read_42
  by_cases h : p4 ≤ v5
  · rw [if_pos h, if_pos h]
  · rw [if_neg h, if_neg h, gin_k (k := 0) (by decide) (by decide), if_pos (show nI 0 = (0 : Int32) from rfl)]
    rfl
theorem read_1 {rm dc rc sl : Int32} {fe ru : Nat → Int32} {l0 s0 l1 s1 l2 s2 l3 s3 : Int32} {c0 c1 c2 c3 : Nat → Int32} {p2 p3 p4 z1 z2 z3 z4 z5 z6 z7 z8 : Int32} {bse bstr : Nat → Int32} (v5 tr x1 x2 x3 x4 x5 x6 x7 x8 : Int32) (se str : Nat → Int32) : b_X7_read_42 rm dc rc sl fe ru l0 s0 c0 l1 s1 c1 l2 s2 c2 l3 s3 c3 (nI 1) p2 p3 p4 z1 z2 z3 z4 z5 z6 z7 z8 bse bstr v5 tr x1 x2 x3 x4 x5 x6 x7 x8 se str = (if p4 ≤ v5 then (some (.inr (.inr (v5, tr, x1, x2, x3, x4, x5, x6, x7, x8, se, str)))) else rdb rm dc rc sl fe ru l1 s1 c1 (nI 1) p2 p3 p4 z1 z2 z3 z4 z5 z6 z7 z8 bse bstr v5 tr x1 x2 x3 x4 x5 x6 x7 x8 se str) := by
  unfold b_X7_read_42
  by_cases h : p4 ≤ v5
  · rw [if_pos h, if_pos h]
  · rw [if_neg h, if_neg h, gin_k (k := 1) (by decide) (by decide), if_neg (show ¬ nI 1 = (0 : Int32) by decide), if_pos (show nI 1 = (1 : Int32) from rfl)]
    rfl
theorem read_2 {rm dc rc sl : Int32} {fe ru : Nat → Int32} {l0 s0 l1 s1 l2 s2 l3 s3 : Int32} {c0 c1 c2 c3 : Nat → Int32} {p2 p3 p4 z1 z2 z3 z4 z5 z6 z7 z8 : Int32} {bse bstr : Nat → Int32} (v5 tr x1 x2 x3 x4 x5 x6 x7 x8 : Int32) (se str : Nat → Int32) : b_X7_read_42 rm dc rc sl fe ru l0 s0 c0 l1 s1 c1 l2 s2 c2 l3 s3 c3 (nI 2) p2 p3 p4 z1 z2 z3 z4 z5 z6 z7 z8 bse bstr v5 tr x1 x2 x3 x4 x5 x6 x7 x8 se str = (if p4 ≤ v5 then (some (.inr (.inr (v5, tr, x1, x2, x3, x4, x5, x6, x7, x8, se, str)))) else rdb rm dc rc sl fe ru l2 s2 c2 (nI 2) p2 p3 p4 z1 z2 z3 z4 z5 z6 z7 z8 bse bstr v5 tr x1 x2 x3 x4 x5 x6 x7 x8 se str) := by
  unfold b_X7_read_42
  by_cases h : p4 ≤ v5
  · rw [if_pos h, if_pos h]
  · rw [if_neg h, if_neg h, gin_k (k := 2) (by decide) (by decide), if_neg (show ¬ nI 2 = (0 : Int32) by decide), if_neg (show ¬ nI 2 = (1 : Int32) by decide), if_pos (show nI 2 = (2 : Int32) from rfl)]
    rfl
theorem read_3 {rm dc rc sl : Int32} {fe ru : Nat → Int32} {l0 s0 l1 s1 l2 s2 l3 s3 : Int32} {c0 c1 c2 c3 : Nat → Int32} {p2 p3 p4 z1 z2 z3 z4 z5 z6 z7 z8 : Int32} {bse bstr : Nat → Int32} (v5 tr x1 x2 x3 x4 x5 x6 x7 x8 : Int32) (se str : Nat → Int32) : b_X7_read_42 rm dc rc sl fe ru l0 s0 c0 l1 s1 c1 l2 s2 c2 l3 s3 c3 (nI 3) p2 p3 p4 z1 z2 z3 z4 z5 z6 z7 z8 bse bstr v5 tr x1 x2 x3 x4 x5 x6 x7 x8 se str = (if p4 ≤ v5 then (some (.inr (.inr (v5, tr, x1, x2, x3, x4, x5, x6, x7, x8, se, str)))) else rdb rm dc rc sl fe ru l3 s3 c3 (nI 3) p2 p3 p4 z1 z2 z3 z4 z5 z6 z7 z8 bse bstr v5 tr x1 x2 x3 x4 x5 x6 x7 x8 se str) := by
  unfold b_X7_read_42
  by_cases h : p4 ≤ v5
  · rw [if_pos h, if_pos h]
  · rw [if_neg h, if_neg h, gin_k (k := 3) (by decide) (by decide), if_neg (show ¬ nI 3 = (0 : Int32) by decide), if_neg (show ¬ nI 3 = (1 : Int32) by decide), if_neg (show ¬ nI 3 = (2 : Int32) by decide), if_pos (show nI 3 = (3 : Int32) from rfl)]
    rfl
/-- the two loops of a read, in step -/
theorem read_loop {R Dn K SL : Nat} {a rl : Nat → Nat} {b0 : Nat → Nat} {bm0 per0 hs0 : Nat} {be0 : Option Nat} {hb0 on0 : Nat} {sg0 : Nat → Nat} {st0 : Nat} {ea0 : Bool} {lw g0 : Nat → Int32} {k ln : Nat} {l s torn : Int32} {c lanes lengths mcells : Nat → Int32} {p3 : Int32} {n : Nat} {body : Int32 → Int32 → Int32 → Int32 → Int32 → Int32 → Int32 → Int32 → Int32 → Int32 → (Nat → Int32) → (Nat → Int32) → Option ((Int32 × Int32 × Int32 × Int32 × Int32 × Int32 × Int32 × Int32 × Int32 × Int32 × (Nat → Int32) × (Nat → Int32)) ⊕ ((Int32 × Int32 × Int32 × Int32 × Int32 × Int32 × Int32 × Int32 × Int32 × Int32 × (Nat → Int32) × (Nat → Int32) × Int32 × Int32 × Int32 × Int32 × Int32 × Int32 × Int32 × Int32 × (Nat → Int32) × (Nat → Int32)) ⊕ (Int32 × Int32 × Int32 × Int32 × Int32 × Int32 × Int32 × Int32 × Int32 × Int32 × (Nat → Int32) × (Nat → Int32))))} (hk : k < 4) (hn : n ≤ 20) (hln : ln < 3)
    (hP : PlO R Dn K SL a rl) (hl : lwr lw K rl) (hO0 : PgO R Dn b0 bm0 per0 hs0 be0 hb0 on0 sg0 st0) (hM0 : PgM Dn a b0 bm0 per0 hs0 be0 hb0 on0 sg0 st0 ea0 g0 0) (hS : ShR k l s c lanes lengths mcells)
    (hbody : ∀ (v5 tr x1 x2 x3 x4 x5 x6 x7 x8 : Int32) (se str : Nat → Int32), body v5 tr x1 x2 x3 x4 x5 x6 x7 x8 se str = (if nI n ≤ v5 then (some (.inr (.inr (v5, tr, x1, x2, x3, x4, x5, x6, x7, x8, se, str)))) else rdb (nI R) (nI Dn) (nI K) (nI SL) (rI a) (rI rl) l s c (nI k) (nI ln) p3 (nI n) (nI bm0) (enc be0) (bz ea0) (nI hb0) (nI hs0) (nI on0) (nI per0) (nI st0) (rI b0) (rI sg0) v5 tr x1 x2 x3 x4 x5 x6 x7 x8 se str)) :
    ∀ (r i fC fM : Nat) (b : Nat → Nat) (bm per hs : Nat) (be : Option Nat) (hb on : Nat) (sg : Nat → Nat) (st : Nat) (ea : Bool) (g wk : Nat → Int32), i + r = n → r < fC → r + 1 < fM → PgO R Dn b bm per hs be hb on sg st → PgM Dn a b bm per hs be hb on sg st ea g 0 → (∀ j, j < 49 → g (147 + j) = g0 j) →
    ∃ (rr torn' : Int32) (b' : Nat → Nat) (bm' per' hs' : Nat) (be' : Option Nat) (hb' on' : Nat) (sg' : Nat → Nat) (st' : Nat) (ea' : Bool) (g' w' : Nat → Int32),
      obm12 (itr (un12 body) fC (nI i, torn, nI bm, enc be, bz ea, nI hb, nI hs, nI on, nI per, nI st, rI b, rI sg)) (fun _ _ y1 y2 y3 y4 y5 y6 y7 y8 y9 y10 => some (nI n, (0 : Int32), nI bm0, enc be0, bz ea0, nI hb0, nI hs0, nI on0, nI per0, nI st0, rI b0, rI sg0, y1, y2, y3, y4, y5, y6, y7, y8, y9, y10)) = some (rr, torn', nI bm0, enc be0, bz ea0, nI hb0, nI hs0, nI on0, nI per0, nI st0, rI b0, rI sg0, nI bm', enc be', bz ea', nI hb', nI hs', nI on', nI per', nI st', rI b', rI sg') ∧
      obm4 (itr (un4 (b_X8_read_53 (nI R) (nI Dn) (nI SL) (nI K) torn mcells lanes lw lengths (nI k) (nI ln) p3 (nI n))) fM (0, nI i, g, wk)) (fun y1 y2 y3 y4 => some (y2, y1, y3, y4)) = some (rr, torn', g', w') ∧ PgO R Dn b' bm' per' hs' be' hb' on' sg' st' ∧ PgM Dn a b' bm' per' hs' be' hb' on' sg' st' ea' g' 0 ∧ ∀ j, 49 ≤ j → g' j = g j := by
  have q3 := hP.2.2.1
  intro r
  induction r with
  | zero =>
    intro i fC fM b bm per hs be hb on sg st ea g wk hi hfC hfM hO hM hg
    obtain ⟨fC, rfl⟩ : ∃ m, fC = m + 1 := ⟨fC - 1, by omega⟩
    obtain ⟨fM, rfl⟩ : ∃ m, fM = m + 1 := ⟨fM - 1, by omega⟩
    have : i = n := by omega
    subst this
    refine ⟨nI i, 0, b, bm, per, hs, be, hb, on, sg, st, ea, g, wk, ?_, ?_, hO, hM, fun _ _ => rfl⟩
    · rw [itr, un12_s, hbody, if_pos (nI_le (Nat.le_refl i) (by omega))]
      rfl
    · rw [itr, un4_s]
      unfold b_X8_read_53
      rw [if_pos (nI_le (Nat.le_refl i) (by omega))]
      rfl
  | succ r ih =>
    intro i fC fM b bm per hs be hb on sg st ea g wk hi hfC hfM hO hM hg
    obtain ⟨fC, rfl⟩ : ∃ m, fC = m + 1 := ⟨fC - 1, by omega⟩
    obtain ⟨fM, rfl⟩ : ∃ m, fM = m + 2 := ⟨fM - 2, by omega⟩
    have hin : i < n := by omega
    have o2 := hO.2.1
    have o12 := hO.2.2.2.2.2.2.2.2.2.2.2.1
    have z2 := hO0.2.1
    have z12 := hO0.2.2.2.2.2.2.2.2.2.2.2.1
    have z10 := hO0.2.2.2.2.2.2.2.2.2.1
    have mstep : ∀ (w5 : Int32), (w5 ≠ 0) → itr (un4 (b_X8_read_53 (nI R) (nI Dn) (nI SL) (nI K) torn mcells lanes lw lengths (nI k) (nI ln) p3 (nI n))) (fM + 1) (w5, nI i, g, wk) = some (.inr (w5, nI i, g, wk)) := by
      intro w5 hw
      rw [itr, un4_s]
      unfold b_X8_read_53
      rw [if_neg (nI_ge hin (by omega)), if_neg hw]
    -- a fault found on both sides
    have bad : ∀ (w5 : Int32), w5 ≠ 0 → f_X5_faultAt l s (nI ln) (p3 + nI i) = some w5 → b_X8_read_53 (nI R) (nI Dn) (nI SL) (nI K) torn mcells lanes lw lengths (nI k) (nI ln) p3 (nI n) 0 (nI i) g wk = some (.inl (w5, nI i, g, wk)) → ∃ (rr torn' : Int32) (b' : Nat → Nat) (bm' per' hs' : Nat) (be' : Option Nat) (hb' on' : Nat) (sg' : Nat → Nat) (st' : Nat) (ea' : Bool) (g' w' : Nat → Int32),
      obm12 (itr (un12 body) (fC + 1) (nI i, torn, nI bm, enc be, bz ea, nI hb, nI hs, nI on, nI per, nI st, rI b, rI sg)) (fun _ _ y1 y2 y3 y4 y5 y6 y7 y8 y9 y10 => some (nI n, (0 : Int32), nI bm0, enc be0, bz ea0, nI hb0, nI hs0, nI on0, nI per0, nI st0, rI b0, rI sg0, y1, y2, y3, y4, y5, y6, y7, y8, y9, y10)) = some (rr, torn', nI bm0, enc be0, bz ea0, nI hb0, nI hs0, nI on0, nI per0, nI st0, rI b0, rI sg0, nI bm', enc be', bz ea', nI hb', nI hs', nI on', nI per', nI st', rI b', rI sg') ∧
      obm4 (itr (un4 (b_X8_read_53 (nI R) (nI Dn) (nI SL) (nI K) torn mcells lanes lw lengths (nI k) (nI ln) p3 (nI n))) (fM + 2) (0, nI i, g, wk)) (fun y1 y2 y3 y4 => some (y2, y1, y3, y4)) = some (rr, torn', g', w') ∧ PgO R Dn b' bm' per' hs' be' hb' on' sg' st' ∧ PgM Dn a b' bm' per' hs' be' hb' on' sg' st' ea' g' 0 ∧ ∀ j, 49 ≤ j → g' j = g j := by
      intro w5 hw e1 e2
      refine ⟨nI i, w5, b, bm, per, hs, be, hb, on, sg, st, ea, g, wk, ?_, ?_, hO, hM, fun _ _ => rfl⟩
      · rw [itr, un12_s, hbody, if_neg (nI_ge hin (by omega))]
        unfold rdb
        rw [e1, ob1_s, if_neg hw]
        rfl
      · rw [show fM + 2 = (fM + 1) + 1 from rfl, itr, un4_s, e2]
        show obm4 (itr _ (fM + 1) (w5, nI i, g, wk)) _ = _
        rw [mstep w5 hw]
        rfl
    rcases hS with ⟨s1, s2⟩ | ⟨ln', m, s1, s2, s3, s4, s5, s6, s7⟩
    · apply bad 1 (by decide)
      · unfold f_X5_faultAt; rw [if_pos s1]
      · unfold b_X8_read_53
        rw [if_neg (nI_ge hin (by omega)), if_pos rfl, gin_k hk (by omega), jn1_s, nI_cl (by omega), s2, if_pos rfl]
        dsimp only
        rw [if_neg n10]
    · subst s3 s5
      by_cases hc : ln' = ln
      · subst hc
        have ein : f_X8_in (p3.toInt64 + (nI i).toInt64) 0 (nI m - 1).toInt64 = some (bz (decide ((0 : Int32) ≤ p3 + nI i ∧ p3 + nI i < nI m))) := by
          rw [m_in64, rd_in (by omega) (by omega)]
        have efa : f_X5_faultAt (nI ln') (nI m) (nI ln') (p3 + nI i) = some (if decide ((0 : Int32) ≤ p3 + nI i ∧ p3 + nI i < nI m) then 0 else 2) := by
          unfold f_X5_faultAt
          rw [if_neg (ne4 (by omega)), if_pos rfl, p_within, ob1_s, dec_lt (by omega)]
          cases decide ((0 : Int32) ≤ p3 + nI i ∧ p3 + nI i < nI m) <;> rfl
        rcases i32_in (p3 + nI i) m (by omega) with ⟨j, hj, ej⟩ | hout
        · rw [ej, dec_in hj (by omega)] at ein efa
          rw [if_pos rfl] at efa
          have eidx : (40 : Int32) * nI k + p3 + nI i = nI (40 * k + j) := by
            rw [show (40 : Int32) * nI k = nI (40 * k) from pk_mul 40 k, Int32.add_assoc, ej, nI_add]
          -- the model's step
          have em : b_X8_read_53 (nI R) (nI Dn) (nI SL) (nI K) torn mcells lanes lw lengths (nI k) (nI ln') p3 (nI n) 0 (nI i) g wk = (ob3 (f_X8_goes (nI R) (nI Dn) (nI SL) (nI K) lw g wk (c j)) (fun r_24 t_state_25 t_work_26 => (if (0 : Int32) ≤ r_24 then (bnd (nI i + (1 : Int32)) (fun v6_29 => (some (.inl ((0 : Int32), v6_29, t_state_25, t_work_26))))) else (ob1 (f_X8_copies t_state_25 (147 : Int32) (0 : Int32)) (fun t_state_30 => (some (.inr (.inl (((-20 : Int32) - nI i), torn, t_state_30, t_work_26))))))))) := by
            unfold b_X8_read_53
            rw [if_neg (nI_ge hin (by omega)), if_pos rfl, gin_k hk (by omega), jn1_s, nI_cl (by omega), s4, if_neg (ne4 (by omega)), gin_k hk (by omega), if_pos rfl, gin_k hk (by omega), s6, ein, ob1_s, bz_t, if_neg n10]
            dsimp only
            rw [if_pos rfl, eidx, gin_k (by omega) (by omega), nI_cl (by omega), s7 j (by omega)]
          have ecl : body (nI i) torn (nI bm) (enc be) (bz ea) (nI hb) (nI hs) (nI on) (nI per) (nI st) (rI b) (rI sg) = (ob1 (f_X7_refusalOf (nI bm) (nI hs) (nI st) (bz ea) (rI b) (nI Dn) (rI a) (c j)) (fun r_43 => (if r_43 = (0 : Int32) then (ob8 (f_X6_takeStep (nI bm) (nI per) (nI hs) (enc be) (nI hb) (nI on) (nI st) (bz ea) (nI R) (nI Dn) (nI K) (nI SL) (rI a) (rI rl) (rI b) (rI sg) (c j)) (fun t_barred_46 t_beast_47 t_eaten_48 t_his_49 t_onString_50 t_step_51 t_secondEnds_52 t_string_53 => (bnd (nI i + (1 : Int32)) (fun v5_55 => (some (.inl (v5_55, torn, t_barred_46, t_beast_47, t_eaten_48, nI hb, t_his_49, t_onString_50, nI per, t_step_51, t_secondEnds_52, t_string_53))))))) else (ob10 (f_X6_copyFrom (nI bm0) (nI per0) (nI hs0) (enc be0) (nI hb0) (nI on0) (nI st0) (bz ea0) (rI b0) (rI sg0) (rI b) (rI sg)) (fun t_barred_56 t_beast_57 t_eaten_58 t_habit_59 t_his_60 t_onString_61 t_period_62 t_step_63 t_secondEnds_64 t_string_65 => (some (.inr (.inl (((-20 : Int32) - nI i), torn, nI bm0, enc be0, bz ea0, nI hb0, nI hs0, nI on0, nI per0, nI st0, rI b0, rI sg0, t_barred_56, t_beast_57, t_eaten_58, t_habit_59, t_his_60, t_onString_61, t_period_62, t_step_63, t_secondEnds_64, t_string_65))))))))) := by
            rw [hbody, if_neg (nI_ge hin (by omega))]
            unfold rdb
            rw [ej, efa, ob1_s, if_pos rfl, gin_k hk (by omega), gin_k (by omega) (by omega), bnd_s, nI_cl (by omega)]
          rcases co_go0 (wk := wk) hP hl hO hM (c j) with ⟨rr, hneg, e1, e2⟩ | ⟨b', bm', hs', be', on', sg', st', ea', g', w', e1, e2, e3, e4, e5, e6⟩
          · have hn0 : ¬ rr = 0 := fun e => by rw [e] at hneg; exact absurd hneg (by decide)
            have hn1 : ¬ (0 : Int32) ≤ rr := fun e => by rw [fa_le] at e; rw [fa_lt] at hneg; omega
            obtain ⟨g', eg, y1, y2⟩ := m_copies (g := g) (p := 147) (q := 0) (by omega) (by omega) (by omega)
            refine ⟨-20 - nI i, torn, b0, bm0, per0, hs0, be0, hb0, on0, sg0, st0, ea0, g', wk, ?_, ?_, hO0, PgM_move hM0 q3 z10 (fun j hj => by rw [y1 j hj, hg j hj, Nat.zero_add]), fun j hj => y2 j (by omega)⟩
            · rw [itr, un12_s, ecl, e1, ob1_s, if_neg hn0, p_copyFrom z2 z12 o2 o12, ob10_s]
              rfl
            · rw [show fM + 2 = (fM + 1) + 1 from rfl, itr, un4_s, em, e2, ob3_s, if_neg hn1, show f_X8_copies g (147 : Int32) (0 : Int32) = some g' from eg, ob1_s]
              rfl
          · obtain ⟨rr, torn', b2, bm2, per2, hs2, be2, hb2, on2, sg2, st2, ea2, g2, w2, f1, f2, f3, f4, f5⟩ := ih (i + 1) fC (fM + 1) b' bm' per hs' be' hb on' sg' st' ea' g' w' (by omega) (by omega) (by omega) e4 e5 (fun j hj => by rw [e6 _ (by omega)]; exact hg j hj)
            refine ⟨rr, torn', b2, bm2, per2, hs2, be2, hb2, on2, sg2, st2, ea2, g2, w2, ?_, ?_, f3, f4, fun j hj => (f5 j hj).trans (e6 j hj)⟩
            · rw [itr, un12_s, ecl, e1, ob1_s, if_pos rfl, e2, ob8_s, bnd_s, show nI i + 1 = nI (i + 1) from nI_1 i]
              exact f1
            · rw [show fM + 2 = (fM + 1) + 1 from rfl, itr, un4_s, em, e3, ob3_s, if_pos (show (0 : Int32) ≤ nI _ from nI_le (a := 0) (Nat.zero_le _) (by have := e4.2.2.2.2.2.2.1; have := hP.2.1; split <;> omega)), bnd_s, show nI i + 1 = nI (i + 1) from nI_1 i]
              exact f2
        · rw [dec_out (by omega) hout] at ein efa
          rw [if_neg (by decide)] at efa
          apply bad 2 (by decide) efa
          unfold b_X8_read_53
          rw [if_neg (nI_ge hin (by omega)), if_pos rfl, gin_k hk (by omega), jn1_s, nI_cl (by omega), s4, if_neg (ne4 (by omega)), gin_k hk (by omega), if_pos rfl, gin_k hk (by omega), s6, ein, ob1_s, bz_f, if_pos rfl]
          dsimp only
          rw [if_neg (show ¬ (2 : Int32) = 0 by decide)]
      · have hne : ¬ nI ln' = nI ln := fun e => hc (nI_inj (by omega) (by omega) e)
        apply bad 3 (by decide)
        · unfold f_X5_faultAt; rw [if_neg (ne4 (by omega)), if_neg hne]
        · unfold b_X8_read_53
          rw [if_neg (nI_ge hin (by omega)), if_pos rfl, gin_k hk (by omega), jn1_s, nI_cl (by omega), s4, if_neg (ne4 (by omega)), gin_k hk (by omega), if_neg hne]
          dsimp only
          rw [if_neg (show ¬ (3 : Int32) = 0 by decide)]
theorem co_read {R Dn K SL : Nat} {a b rl : Nat → Nat} {bm per hs : Nat} {be : Option Nat} {hb on : Nat} {sg : Nat → Nat} {st : Nat} {ea : Bool} {g lw wk bse bstr : Nat → Int32} (torn z1 z2 z3 z4 z5 z6 z7 z8 : Int32) {l0 s0 l1 s1 l2 s2 l3 s3 : Int32} {c0 c1 c2 c3 lanes lengths mcells : Nat → Int32} (hP : PlO R Dn K SL a rl) (hl : lwr lw K rl) (hO : PgO R Dn b bm per hs be hb on sg st) (hM : PgM Dn a b bm per hs be hb on sg st ea g 0) (hA : ScR bse bstr) (h0 : ShR 0 l0 s0 c0 lanes lengths mcells) (h1 : ShR 1 l1 s1 c1 lanes lengths mcells) (h2 : ShR 2 l2 s2 c2 lanes lengths mcells) (h3 : ShR 3 l3 s3 c3 lanes lengths mcells) (p1 p2 p3 p4 : Int32) : ∃ (rr torn' x1 x2 x3 x4 x5 x6 x7 x8 : Int32) (bse' bstr' : Nat → Int32) (b' : Nat → Nat) (bm' per' hs' : Nat) (be' : Option Nat) (hb' on' : Nat) (sg' : Nat → Nat) (st' : Nat) (ea' : Bool) (g' w' : Nat → Int32), f_X7_read torn z1 z2 z3 z4 z5 z6 z7 z8 bse bstr (nI bm) (nI per) (nI hs) (enc be) (nI hb) (nI on) (nI st) (bz ea) (rI b) (rI sg) (nI R) (nI Dn) (nI K) (nI SL) (rI a) (rI rl) l0 s0 c0 l1 s1 c1 l2 s2 c2 l3 s3 c3 p1 p2 p3 p4 = some (rr, torn', x1, x2, x3, x4, x5, x6, x7, x8, bse', bstr', nI bm', enc be', bz ea', nI hb', nI hs', nI on', nI per', nI st', rI b', rI sg') ∧ f_X8_read (nI R) (nI Dn) (nI SL) (nI K) torn mcells lanes lw lengths g wk p1 p2 p3 p4 = some (rr, torn', g', w') ∧ ScR bse' bstr' ∧ PgO R Dn b' bm' per' hs' be' hb' on' sg' st' ∧ PgM Dn a b' bm' per' hs' be' hb' on' sg' st' ea' g' 0 ∧ ∀ j, 49 ≤ j → j < 147 → g' j = g j := by
  have q3 := hP.2.2.1
  have o2 := hO.2.1
  have o12 := hO.2.2.2.2.2.2.2.2.2.2.2.1
  have o10 := hO.2.2.2.2.2.2.2.2.2.1
  have hA' := hA
  obtain ⟨ab, as, rfl, ha2, ha3, rfl, ha5, ha6⟩ := hA
  unfold f_X7_read f_X8_read
  rw [p_isSheet, p_isLane, p_within, ob1_s, ob1_s, ob1_s, show (0 : Int64) = (0 : Int32).toInt64 from rfl, show (3 : Int64) = (3 : Int32).toInt64 from rfl, show (2 : Int64) = (2 : Int32).toInt64 from rfl, show (20 : Int64) = (20 : Int32).toInt64 from rfl, m_in, m_in, m_in, ob1_s, ob1_s, ob1_s]
  rcases i32_in p1 4 (by omega) with ⟨k, hk, rfl⟩ | hout
  · rw [show decide ((0 : Int32) ≤ nI k ∧ nI k ≤ 3) = true from dec_le (n := 3) (by omega) (by omega), bz_t, if_neg n10, if_neg n10]
    rcases i32_in p2 3 (by omega) with ⟨ln, hln, rfl⟩ | hout2
    · rw [show decide ((0 : Int32) ≤ nI ln ∧ nI ln ≤ 2) = true from dec_le (n := 2) (by omega) (by omega), bz_t, if_neg n10, if_neg n10]
      rcases i32_in p4 21 (by omega) with ⟨n, hn, rfl⟩ | hout3
      · rw [show decide ((0 : Int32) ≤ nI n ∧ nI n ≤ 20) = true from dec_le (n := 20) (by omega) (by omega), bz_t, if_neg n10, if_neg n10, p_copyFrom o2 o12 ha3 ha5, ob10_s]
        obtain ⟨g1, eg, y1, y2⟩ := m_copies (g := g) (p := 0) (q := 147) (by omega) (by omega) (by omega)
        rw [show f_X8_copies g (0 : Int32) (147 : Int32) = some g1 from eg, ob1_s]
        have hM1 : PgM Dn a b bm per hs be hb on sg st ea g1 0 := PgM_congr hM q3 o10 (fun j hj => y2 _ (by omega))
        have hsc : ScR (rI b) (rI sg) := ⟨_, _, rfl, hO.1, o2, rfl, o12, hO.2.2.2.2.2.2.2.2.2.2.2.2.1⟩
        have fin : ∀ {l s : Int32} {c : Nat → Int32} {body} (hS : ShR k l s c lanes lengths mcells) (hbody : ∀ (v5 tr x1 x2 x3 x4 x5 x6 x7 x8 : Int32) (se str : Nat → Int32), body v5 tr x1 x2 x3 x4 x5 x6 x7 x8 se str = (if nI n ≤ v5 then (some (.inr (.inr (v5, tr, x1, x2, x3, x4, x5, x6, x7, x8, se, str)))) else rdb (nI R) (nI Dn) (nI K) (nI SL) (rI a) (rI rl) l s c (nI k) (nI ln) p3 (nI n) (nI bm) (enc be) (bz ea) (nI hb) (nI hs) (nI on) (nI per) (nI st) (rI b) (rI sg) v5 tr x1 x2 x3 x4 x5 x6 x7 x8 se str)), ∃ (rr torn' : Int32) (b' : Nat → Nat) (bm' per' hs' : Nat) (be' : Option Nat) (hb' on' : Nat) (sg' : Nat → Nat) (st' : Nat) (ea' : Bool) (g' w' : Nat → Int32), obm12 (itr (un12 body) FU (nI 0, torn, nI bm, enc be, bz ea, nI hb, nI hs, nI on, nI per, nI st, rI b, rI sg)) (fun _ _ y1 y2 y3 y4 y5 y6 y7 y8 y9 y10 => some (nI n, (0 : Int32), nI bm, enc be, bz ea, nI hb, nI hs, nI on, nI per, nI st, rI b, rI sg, y1, y2, y3, y4, y5, y6, y7, y8, y9, y10)) = some (rr, torn', nI bm, enc be, bz ea, nI hb, nI hs, nI on, nI per, nI st, rI b, rI sg, nI bm', enc be', bz ea', nI hb', nI hs', nI on', nI per', nI st', rI b', rI sg') ∧ obm4 (itr (un4 (b_X8_read_53 (nI R) (nI Dn) (nI SL) (nI K) torn mcells lanes lw lengths (nI k) (nI ln) p3 (nI n))) FU (0, nI 0, g1, wk)) (fun y1 y2 y3 y4 => some (y2, y1, y3, y4)) = some (rr, torn', g', w') ∧ PgO R Dn b' bm' per' hs' be' hb' on' sg' st' ∧ PgM Dn a b' bm' per' hs' be' hb' on' sg' st' ea' g' 0 ∧ ∀ j, 49 ≤ j → g' j = g1 j :=
          fun hS hbody => read_loop hk (by omega) hln hP hl hO hM hS hbody n 0 FU FU b bm per hs be hb on sg st ea g1 wk (by omega) (by unfold FU; omega) (by unfold FU; omega) hO hM1 (fun j hj => by rw [y1 j hj, Nat.zero_add])
        rcases (show k = 0 ∨ k = 1 ∨ k = 2 ∨ k = 3 by omega) with rfl | rfl | rfl | rfl
        · obtain ⟨rr, torn', b', bm', per', hs', be', hb', on', sg', st', ea', g', w', f1, f2, f3, f4, f5⟩ := fin h0 (fun v5 tr x1 x2 x3 x4 x5 x6 x7 x8 se str => read_0 (l0 := l0) (s0 := s0) (c0 := c0) (l1 := l1) (s1 := s1) (c1 := c1) (l2 := l2) (s2 := s2) (c2 := c2) (l3 := l3) (s3 := s3) (c3 := c3) v5 tr x1 x2 x3 x4 x5 x6 x7 x8 se str)
          exact ⟨rr, torn', _, _, _, _, _, _, _, _, _, _, b', bm', per', hs', be', hb', on', sg', st', ea', g', w', f1, f2, hsc, f3, f4, fun j hj hj2 => (f5 j hj).trans (y2 j (by omega))⟩
        · obtain ⟨rr, torn', b', bm', per', hs', be', hb', on', sg', st', ea', g', w', f1, f2, f3, f4, f5⟩ := fin h1 (fun v5 tr x1 x2 x3 x4 x5 x6 x7 x8 se str => read_1 (l0 := l0) (s0 := s0) (c0 := c0) (l1 := l1) (s1 := s1) (c1 := c1) (l2 := l2) (s2 := s2) (c2 := c2) (l3 := l3) (s3 := s3) (c3 := c3) v5 tr x1 x2 x3 x4 x5 x6 x7 x8 se str)
          exact ⟨rr, torn', _, _, _, _, _, _, _, _, _, _, b', bm', per', hs', be', hb', on', sg', st', ea', g', w', f1, f2, hsc, f3, f4, fun j hj hj2 => (f5 j hj).trans (y2 j (by omega))⟩
        · obtain ⟨rr, torn', b', bm', per', hs', be', hb', on', sg', st', ea', g', w', f1, f2, f3, f4, f5⟩ := fin h2 (fun v5 tr x1 x2 x3 x4 x5 x6 x7 x8 se str => read_2 (l0 := l0) (s0 := s0) (c0 := c0) (l1 := l1) (s1 := s1) (c1 := c1) (l2 := l2) (s2 := s2) (c2 := c2) (l3 := l3) (s3 := s3) (c3 := c3) v5 tr x1 x2 x3 x4 x5 x6 x7 x8 se str)
          exact ⟨rr, torn', _, _, _, _, _, _, _, _, _, _, b', bm', per', hs', be', hb', on', sg', st', ea', g', w', f1, f2, hsc, f3, f4, fun j hj hj2 => (f5 j hj).trans (y2 j (by omega))⟩
        · obtain ⟨rr, torn', b', bm', per', hs', be', hb', on', sg', st', ea', g', w', f1, f2, f3, f4, f5⟩ := fin h3 (fun v5 tr x1 x2 x3 x4 x5 x6 x7 x8 se str => read_3 (l0 := l0) (s0 := s0) (c0 := c0) (l1 := l1) (s1 := s1) (c1 := c1) (l2 := l2) (s2 := s2) (c2 := c2) (l3 := l3) (s3 := s3) (c3 := c3) v5 tr x1 x2 x3 x4 x5 x6 x7 x8 se str)
          exact ⟨rr, torn', _, _, _, _, _, _, _, _, _, _, b', bm', per', hs', be', hb', on', sg', st', ea', g', w', f1, f2, hsc, f3, f4, fun j hj hj2 => (f5 j hj).trans (y2 j (by omega))⟩
      · rw [show decide ((0 : Int32) ≤ p4 ∧ p4 ≤ 20) = false from dec_gt (n := 20) (by omega) hout3, bz_f, if_pos rfl, if_pos rfl]
        exact ⟨_, _, _, _, _, _, _, _, _, _, _, _, b, bm, per, hs, be, hb, on, sg, st, ea, g, wk, rfl, rfl, hA', hO, hM, fun _ _ _ => rfl⟩
    · rw [show decide ((0 : Int32) ≤ p2 ∧ p2 ≤ 2) = false from dec_gt (n := 2) (by omega) hout2, bz_f, if_pos rfl, if_pos rfl]
      exact ⟨_, _, _, _, _, _, _, _, _, _, _, _, b, bm, per, hs, be, hb, on, sg, st, ea, g, wk, rfl, rfl, hA', hO, hM, fun _ _ _ => rfl⟩
  · rw [show decide ((0 : Int32) ≤ p1 ∧ p1 ≤ 3) = false from dec_gt (n := 3) (by omega) hout, bz_f, if_pos rfl, if_pos rfl]
    exact ⟨_, _, _, _, _, _, _, _, _, _, _, _, b, bm, per, hs, be, hb, on, sg, st, ea, g, wk, rfl, rfl, hA', hO, hM, fun _ _ _ => rfl⟩
