def b_X7_wall_68 (t_now_beast : Int32) (p1 : Int32) (t_beast_6 : Int32) (t_eaten_7 : Int32) (t_habit_8 : Int32) (t_his_9 : Int32) (t_onString_10 : Int32) (t_period_11 : Int32) (t_string_14 : Nat → Int32) (a1_barred_16 : Int32) (a1_step_17 : Int32) (a1_secondEnds_18 : Nat → Int32) (t_doorCount_19 : Int32) (t_ends_20 : Nat → Int32) (v2_22 : Int32) (v3_23 : Int32) (v4_26 : Int32) : Option ((Int32) ⊕ ((Int32 × Int32 × Int32 × Int32 × Int32 × Int32 × Int32 × Int32 × Int32 × (Nat → Int32) × (Nat → Int32) × Int32 × (Nat → Int32)) ⊕ (Int32))) :=
 (if v2_22 ≤ v4_26 then
 (some (.inr (.inr v4_26)))
 else (ob1 (f_J6_bitCount_0f7a4 v4_26) (fun r_29 =>
 (jn0 (bnd (v4_26 + (1 : Int32)) (fun v4_32 =>
 (some (.inl v4_32)))) (fun j_31 =>
 (if r_29 = v3_23 then
 (ob1 (f_X1_keepOut t_doorCount_19 t_ends_20 t_now_beast v4_26) (fun r_34 =>
 (if r_34 = (0 : Int32) then
 (j_31)
 else (if p1 = (0 : Int32) then
 (some (.inr (.inl (v3_23, a1_barred_16, t_beast_6, t_eaten_7, t_habit_8, t_his_9, t_onString_10, t_period_11, a1_step_17, a1_secondEnds_18, t_string_14, t_doorCount_19, t_ends_20))))
 else (some (.inr (.inl (v4_26, a1_barred_16, t_beast_6, t_eaten_7, t_habit_8, t_his_9, t_onString_10, t_period_11, a1_step_17, a1_secondEnds_18, t_string_14, t_doorCount_19, t_ends_20))))))))
 else (j_31)))))))
def b_X7_wall_60 (t_now_beast : Int32) (p1 : Int32) (t_beast_6 : Int32) (t_eaten_7 : Int32) (t_habit_8 : Int32) (t_his_9 : Int32) (t_onString_10 : Int32) (t_period_11 : Int32) (t_string_14 : Nat → Int32) (a1_barred_16 : Int32) (a1_step_17 : Int32) (a1_secondEnds_18 : Nat → Int32) (t_doorCount_19 : Int32) (t_ends_20 : Nat → Int32) (v2_22 : Int32) (v3_23 : Int32) : Option ((Int32) ⊕ ((Int32 × Int32 × Int32 × Int32 × Int32 × Int32 × Int32 × Int32 × Int32 × (Nat → Int32) × (Nat → Int32) × Int32 × (Nat → Int32)) ⊕ (Int32))) :=
 (if (3 : Int32) < v3_23 then
 (some (.inr (.inr v3_23)))
 else (obl1 (itr (un1 (b_X7_wall_68 t_now_beast p1 t_beast_6 t_eaten_7 t_habit_8 t_his_9 t_onString_10 t_period_11 t_string_14 a1_barred_16 a1_step_17 a1_secondEnds_18 t_doorCount_19 t_ends_20 v2_22 v3_23)) FU (0 : Int32)) (fun x4_38 =>
 (bnd (v3_23 + (1 : Int32)) (fun v3_39 =>
 (some (.inl v3_39)))))))
def f_X7_wall (t_ahead_barred : Int32) (t_ahead_period : Int32) (t_ahead_his : Int32) (t_ahead_beast : Int32) (t_ahead_habit : Int32) (t_ahead_onString : Int32) (t_ahead_step : Int32) (t_ahead_eaten : Int32) (t_ahead_secondEnds : Nat → Int32) (t_ahead_string : Nat → Int32) (t_now_barred : Int32) (t_now_period : Int32) (t_now_his : Int32) (t_now_beast : Int32) (t_now_habit : Int32) (t_now_onString : Int32) (t_now_step : Int32) (t_now_eaten : Int32) (t_now_secondEnds : Nat → Int32) (t_now_string : Nat → Int32) (t_passages_doorCount : Int32) (t_passages_ends : Nat → Int32) (t_plan_rooms : Int32) (t_plan_doorCount : Int32) (t_plan_ruleCount : Int32) (t_plan_firstEnds : Nat → Int32) (t_plan_rules : Nat → Int32) (p1 : Int32) : Option (Int32 × Int32 × Int32 × Int32 × Int32 × Int32 × Int32 × Int32 × Int32 × (Nat → Int32) × (Nat → Int32) × Int32 × (Nat → Int32)) :=
 (ob1 (f_X7_isWithin p1 (0 : Int32) (1 : Int32)) (fun r_1 =>
 (if r_1 = (0 : Int32) then
 (some ((-1 : Int32), t_ahead_barred, t_ahead_beast, t_ahead_eaten, t_ahead_habit, t_ahead_his, t_ahead_onString, t_ahead_period, t_ahead_step, t_ahead_secondEnds, t_ahead_string, t_passages_doorCount, t_passages_ends))
 else (if t_now_beast = (-4 : Int32) then
 (some ((-2 : Int32), t_ahead_barred, t_ahead_beast, t_ahead_eaten, t_ahead_habit, t_ahead_his, t_ahead_onString, t_ahead_period, t_ahead_step, t_ahead_secondEnds, t_ahead_string, t_passages_doorCount, t_passages_ends))
 else (ob10 (f_X6_copyFrom t_now_barred t_now_period t_now_his t_now_beast t_now_habit t_now_onString t_now_step t_now_eaten t_now_secondEnds t_now_string t_ahead_secondEnds t_ahead_string) (fun t_barred_5 t_beast_6 t_eaten_7 t_habit_8 t_his_9 t_onString_10 t_period_11 t_step_12 t_secondEnds_13 t_string_14 =>
 (ob5 (f_X1_foresee t_barred_5 t_period_11 t_step_12 t_plan_rooms t_plan_doorCount t_plan_ruleCount t_plan_firstEnds t_plan_rules t_secondEnds_13 t_passages_ends) (fun a1_barred_16 a1_step_17 a1_secondEnds_18 t_doorCount_19 t_ends_20 =>
 (bnd ((1 : Int32) <<< (t_plan_doorCount &&& 31)) (fun v2_22 =>
 (obm1 (itr (un1 (b_X7_wall_60 t_now_beast p1 t_beast_6 t_eaten_7 t_habit_8 t_his_9 t_onString_10 t_period_11 t_string_14 a1_barred_16 a1_step_17 a1_secondEnds_18 t_doorCount_19 t_ends_20 v2_22)) FU (0 : Int32)) (fun x3_40 =>
 (some ((-4 : Int32), a1_barred_16, t_beast_6, t_eaten_7, t_habit_8, t_his_9, t_onString_10, t_period_11, a1_step_17, a1_secondEnds_18, t_string_14, t_doorCount_19, t_ends_20))))))))))))))
abbrev rmX7_wall : Room := { frames := 5, cells := 0, slots := 0, locals := 110 }
set_option maxHeartbeats 4000000 in
set_option maxRecDepth 100000 in
theorem c_X7_wall (l : Launch) (g : Gh) (sz : Nat) (t_q t_plan_q t_now_q t_ahead_q t_before_q t_images_q t_reader_q t_seen_q t_heard_q t_search_q t_passages_q t_sheets_q t_ahead_secondEnds_q t_ahead_string_q t_now_secondEnds_q t_now_string_q t_passages_ends_q t_plan_firstEnds_q t_plan_rules_q : Nat) (t_keptImages : Int32) (t_tornFault : Int32) (t_ahead_barred : Int32) (t_ahead_period : Int32) (t_ahead_his : Int32) (t_ahead_beast : Int32) (t_ahead_habit : Int32) (t_ahead_onString : Int32) (t_ahead_step : Int32) (t_ahead_eaten : Int32) (t_ahead_secondEnds : Nat → Int32) (t_ahead_string : Nat → Int32) (t_now_barred : Int32) (t_now_period : Int32) (t_now_his : Int32) (t_now_beast : Int32) (t_now_habit : Int32) (t_now_onString : Int32) (t_now_step : Int32) (t_now_eaten : Int32) (t_now_secondEnds : Nat → Int32) (t_now_string : Nat → Int32) (t_passages_doorCount : Int32) (t_passages_ends : Nat → Int32) (t_plan_rooms : Int32) (t_plan_doorCount : Int32) (t_plan_ruleCount : Int32) (t_plan_stringLength : Int32) (t_plan_firstEnds : Nat → Int32) (t_plan_rules : Nat → Int32) (p1 : Int32) (rr : Int32) (t_ahead_barred' : Int32) (t_ahead_beast' : Int32) (t_ahead_eaten' : Int32) (t_ahead_habit' : Int32) (t_ahead_his' : Int32) (t_ahead_onString' : Int32) (t_ahead_period' : Int32) (t_ahead_step' : Int32) (t_ahead_secondEnds' : Nat → Int32) (t_ahead_string' : Nat → Int32) (t_passages_doorCount' : Int32) (t_passages_ends' : Nat → Int32) (hf : f_X7_wall t_ahead_barred t_ahead_period t_ahead_his t_ahead_beast t_ahead_habit t_ahead_onString t_ahead_step t_ahead_eaten t_ahead_secondEnds t_ahead_string t_now_barred t_now_period t_now_his t_now_beast t_now_habit t_now_onString t_now_step t_now_eaten t_now_secondEnds t_now_string t_passages_doorCount t_passages_ends t_plan_rooms t_plan_doorCount t_plan_ruleCount t_plan_firstEnds t_plan_rules p1 = some (rr, t_ahead_barred', t_ahead_beast', t_ahead_eaten', t_ahead_habit', t_ahead_his', t_ahead_onString', t_ahead_period', t_ahead_step', t_ahead_secondEnds', t_ahead_string', t_passages_doorCount', t_passages_ends')) : CI l yX7_wall wsX7_wall rmX7_wall [.ref t_q, .int p1] g sz [oX7 t_q t_plan_q t_now_q t_ahead_q t_before_q t_images_q t_keptImages t_reader_q t_seen_q t_heard_q t_search_q t_passages_q t_sheets_q t_tornFault, oX6 t_ahead_q t_plan_q t_ahead_secondEnds_q t_ahead_string_q t_ahead_barred t_ahead_period t_ahead_his t_ahead_beast t_ahead_habit t_ahead_onString t_ahead_step t_ahead_eaten, aI g t_ahead_secondEnds_q 10 t_ahead_secondEnds, aI g t_ahead_string_q 12 t_ahead_string, oX6 t_now_q t_plan_q t_now_secondEnds_q t_now_string_q t_now_barred t_now_period t_now_his t_now_beast t_now_habit t_now_onString t_now_step t_now_eaten, aI g t_now_secondEnds_q 10 t_now_secondEnds, aI g t_now_string_q 12 t_now_string, oX1 t_passages_q t_passages_ends_q t_passages_doorCount, aI g t_passages_ends_q 240 t_passages_ends, oX2 t_plan_q t_plan_firstEnds_q t_plan_rules_q t_plan_rooms t_plan_doorCount t_plan_ruleCount t_plan_stringLength, aI g t_plan_firstEnds_q 10 t_plan_firstEnds, aI g t_plan_rules_q 6 t_plan_rules] [oX7 t_q t_plan_q t_now_q t_ahead_q t_before_q t_images_q t_keptImages t_reader_q t_seen_q t_heard_q t_search_q t_passages_q t_sheets_q t_tornFault, oX6 t_ahead_q t_plan_q t_ahead_secondEnds_q t_ahead_string_q t_ahead_barred' t_ahead_period' t_ahead_his' t_ahead_beast' t_ahead_habit' t_ahead_onString' t_ahead_step' t_ahead_eaten', aI g t_ahead_secondEnds_q 10 t_ahead_secondEnds', aI g t_ahead_string_q 12 t_ahead_string', oX6 t_now_q t_plan_q t_now_secondEnds_q t_now_string_q t_now_barred t_now_period t_now_his t_now_beast t_now_habit t_now_onString t_now_step t_now_eaten, aI g t_now_secondEnds_q 10 t_now_secondEnds, aI g t_now_string_q 12 t_now_string, oX1 t_passages_q t_passages_ends_q t_passages_doorCount', aI g t_passages_ends_q 240 t_passages_ends', oX2 t_plan_q t_plan_firstEnds_q t_plan_rules_q t_plan_rooms t_plan_doorCount t_plan_ruleCount t_plan_stringLength, aI g t_plan_firstEnds_q 10 t_plan_firstEnds, aI g t_plan_rules_q 6 t_plan_rules] rr := by
  refine ent_i (cc := cX7_wall) (maxL := 5) (by decide) rfl (Nat.le_of_ble_eq_true rfl) ?_
  intro p e s m args below meth c A Q hx hb hml hown hts hK hz hk hA hD hP hS hret ls hl
  have hown : s.vm.findClass RX7 = some m.cls := hown
  have inX2 : ∀ w ∈ u_ws RX2 TX2 6, w ∈ wsX7_wall := by decide +kernel
  have inX6 : ∀ w ∈ u_ws RX6 TX6 11, w ∈ wsX7_wall := by decide +kernel
  have inX7 : ∀ w ∈ u_ws RX7 TX7 13, w ∈ wsX7_wall := by decide +kernel
  have k12 := hts (.fieldLink RX7 12 "ThreadMoved" "plan" "LThreadMoved$Plan;") (by decide +kernel)
  have k21 := hts (.fieldLink RX7 21 "ThreadMoved" "now" "LThreadMoved$State;") (by decide +kernel)
  have k25 := hts (.fieldLink RX7 25 "ThreadMoved" "ahead" "LThreadMoved$State;") (by decide +kernel)
  have k66 := hts (.fieldLink RX7 66 "ThreadMoved" "passages" "LThreadMoved$Passages;") (by decide +kernel)
  have k119 := hts (.fieldLink RX7 119 "ThreadMoved$Plan" "doorCount" "I") (by decide +kernel)
  have k137 := hts (.fieldLink RX7 137 "ThreadMoved$State" "beast" "I") (by decide +kernel)
  have hl : lv_has ls 5 [(0, .ref t_q), (1, .int p1)] := hl
  have hret : ∀ (rrz : Int32) (t_ahead_barredz : Int32) (t_ahead_beastz : Int32) (t_ahead_eatenz : Int32) (t_ahead_habitz : Int32) (t_ahead_hisz : Int32) (t_ahead_onStringz : Int32) (t_ahead_periodz : Int32) (t_ahead_stepz : Int32) (t_ahead_secondEndsz : Nat → Int32) (t_ahead_stringz : Nat → Int32) (t_passages_doorCountz : Int32) (t_passages_endsz : Nat → Int32), (rrz, t_ahead_barredz, t_ahead_beastz, t_ahead_eatenz, t_ahead_habitz, t_ahead_hisz, t_ahead_onStringz, t_ahead_periodz, t_ahead_stepz, t_ahead_secondEndsz, t_ahead_stringz, t_passages_doorCountz, t_passages_endsz) = (rr, t_ahead_barred', t_ahead_beast', t_ahead_eaten', t_ahead_habit', t_ahead_his', t_ahead_onString', t_ahead_period', t_ahead_step', t_ahead_secondEnds', t_ahead_string', t_passages_doorCount', t_passages_ends') → ∀ (H : Heap) (locs : List Loc) (pc : Nat) (ls : Array Slot), va_P g.1 vwCl [oX7 t_q t_plan_q t_now_q t_ahead_q t_before_q t_images_q t_keptImages t_reader_q t_seen_q t_heard_q t_search_q t_passages_q t_sheets_q t_tornFault, oX6 t_ahead_q t_plan_q t_ahead_secondEnds_q t_ahead_string_q t_ahead_barredz t_ahead_periodz t_ahead_hisz t_ahead_beastz t_ahead_habitz t_ahead_onStringz t_ahead_stepz t_ahead_eatenz, aI g t_ahead_secondEnds_q 10 t_ahead_secondEndsz, aI g t_ahead_string_q 12 t_ahead_stringz, oX6 t_now_q t_plan_q t_now_secondEnds_q t_now_string_q t_now_barred t_now_period t_now_his t_now_beast t_now_habit t_now_onString t_now_step t_now_eaten, aI g t_now_secondEnds_q 10 t_now_secondEnds, aI g t_now_string_q 12 t_now_string, oX1 t_passages_q t_passages_ends_q t_passages_doorCountz, aI g t_passages_ends_q 240 t_passages_endsz, oX2 t_plan_q t_plan_firstEnds_q t_plan_rules_q t_plan_rooms t_plan_doorCount t_plan_ruleCount t_plan_stringLength, aI g t_plan_firstEnds_q 10 t_plan_firstEnds, aI g t_plan_rules_q 6 t_plan_rules] H → va_S A s.heap H locs → decode cX7_wall pc = .ok (.ireturn, 1) → W p l e rmX7_wall s m args below meth c H locs 0 0 Q (F0 m pc ls [.int rrz]) := by
    intro rrz t_ahead_barredz t_ahead_beastz t_ahead_eatenz t_ahead_habitz t_ahead_hisz t_ahead_onStringz t_ahead_periodz t_ahead_stepz t_ahead_secondEndsz t_ahead_stringz t_passages_doorCountz t_passages_endsz he H locs pc ls hP hS hd
    cases he
    exact hret H locs pc ls hP hS hd
  unfold f_X7_wall at hf
  refine lv_iload_n hx hb dX7_wall_0 rfl (lv_at hl 1 rfl) ?_
  refine lv_iconst (v := (0 : Int32)) hx hb dX7_wall_1 (by decide) ?_
  refine lv_iconst (v := (1 : Int32)) hx hb dX7_wall_2 (by decide) ?_
  obtain ⟨r_1, hc_2, hf⟩ := ob1_e hf
  refine kS_i (wn := [oX7 t_q t_plan_q t_now_q t_ahead_q t_before_q t_images_q t_keptImages t_reader_q t_seen_q t_heard_q t_search_q t_passages_q t_sheets_q t_tornFault, oX6 t_ahead_q t_plan_q t_ahead_secondEnds_q t_ahead_string_q t_ahead_barred t_ahead_period t_ahead_his t_ahead_beast t_ahead_habit t_ahead_onString t_ahead_step t_ahead_eaten, aI g t_ahead_secondEnds_q 10 t_ahead_secondEnds, aI g t_ahead_string_q 12 t_ahead_string, oX6 t_now_q t_plan_q t_now_secondEnds_q t_now_string_q t_now_barred t_now_period t_now_his t_now_beast t_now_habit t_now_onString t_now_step t_now_eaten, aI g t_now_secondEnds_q 10 t_now_secondEnds, aI g t_now_string_q 12 t_now_string, oX1 t_passages_q t_passages_ends_q t_passages_doorCount, aI g t_passages_ends_q 240 t_passages_ends, oX2 t_plan_q t_plan_firstEnds_q t_plan_rules_q t_plan_rooms t_plan_doorCount t_plan_ruleCount t_plan_stringLength, aI g t_plan_firstEnds_q 10 t_plan_firstEnds, aI g t_plan_rules_q 6 t_plan_rules]) (As := [.int p1, .int (0 : Int32), .int (1 : Int32)]) (rest := []) (c_X7_isWithin l g _ p1 (0 : Int32) (1 : Int32) r_1 hc_2) ⟨hx, hb, hml, hown, hts⟩ (va_cwS 3 hts gX7_wall_X7_isWithin rfl rfl rfl (by decide +kernel) ⟨by decide, by decide⟩) hK hz hk hP (hD.re rfl) hS hA [] rfl rfl rfl rfl rfl hl.1 rfl (Nat.le_of_ble_eq_true rfl) dX7_wall_3 (fun H locs hP hS => ?_)
  refine lv_if_ne (tgt := 11) hx hb dX7_wall_6 (by decide) (fun c_3 => ?_) (fun c_3 => ?_)
  · have hf := ite_f hf c_3
    refine lv_aload_n hx hb dX7_wall_11 rfl (lv_at hl 0 rfl) ?_
    refine va_get (D := g.1) (ci := 7) (v := .ref t_now_q) (C := RX7) (T := TX7) (N := 13) hx hb hts inX7 hown hK hP 0 rfl rfl 1 (by decide) k21 (fun _ h9 => h9) rfl dX7_wall_12 ?_
    refine va_get (D := g.1) (ci := 6) (v := .int t_now_beast) (C := RX6) (T := TX6) (N := 11) hx hb hts inX6 hown hK hP 4 rfl rfl 6 (by decide) k137 (fun _ h9 => h9) rfl dX7_wall_15 ?_
    refine lv_bipush (v := (-4 : Int32)) hx hb dX7_wall_18 (by decide) ?_
    refine lv_icmp_ne (tgt := 26) hx hb dX7_wall_20 (by decide) (fun c_4 => ?_) (fun c_4 => ?_)
    · have hf := ite_f hf c_4
      refine lv_aload_n hx hb dX7_wall_26 rfl (lv_at hl 0 rfl) ?_
      refine va_get (D := g.1) (ci := 7) (v := .ref t_ahead_q) (C := RX7) (T := TX7) (N := 13) hx hb hts inX7 hown hK hP 0 rfl rfl 2 (by decide) k25 (fun _ h9 => h9) rfl dX7_wall_27 ?_
      refine lv_aload_n hx hb dX7_wall_30 rfl (lv_at hl 0 rfl) ?_
      refine va_get (D := g.1) (ci := 7) (v := .ref t_now_q) (C := RX7) (T := TX7) (N := 13) hx hb hts inX7 hown hK hP 0 rfl rfl 1 (by decide) k21 (fun _ h9 => h9) rfl dX7_wall_31 ?_
      obtain ⟨t_barred_5, t_beast_6, t_eaten_7, t_habit_8, t_his_9, t_onString_10, t_period_11, t_step_12, t_secondEnds_13, t_string_14, hc_15, hf⟩ := ob10_e hf
      refine kV_v (wn := [oX7 t_q t_plan_q t_now_q t_ahead_q t_before_q t_images_q t_keptImages t_reader_q t_seen_q t_heard_q t_search_q t_passages_q t_sheets_q t_tornFault, oX6 t_ahead_q t_plan_q t_ahead_secondEnds_q t_ahead_string_q t_barred_5 t_period_11 t_his_9 t_beast_6 t_habit_8 t_onString_10 t_step_12 t_eaten_7, aI g t_ahead_secondEnds_q 10 t_secondEnds_13, aI g t_ahead_string_q 12 t_string_14, oX6 t_now_q t_plan_q t_now_secondEnds_q t_now_string_q t_now_barred t_now_period t_now_his t_now_beast t_now_habit t_now_onString t_now_step t_now_eaten, aI g t_now_secondEnds_q 10 t_now_secondEnds, aI g t_now_string_q 12 t_now_string, oX1 t_passages_q t_passages_ends_q t_passages_doorCount, aI g t_passages_ends_q 240 t_passages_ends, oX2 t_plan_q t_plan_firstEnds_q t_plan_rules_q t_plan_rooms t_plan_doorCount t_plan_ruleCount t_plan_stringLength, aI g t_plan_firstEnds_q 10 t_plan_firstEnds, aI g t_plan_rules_q 6 t_plan_rules]) (As := [.ref t_now_q]) (rest := []) (c_X6_copyFrom l g _ t_ahead_q t_plan_q t_ahead_secondEnds_q t_ahead_string_q t_now_q t_plan_q t_now_secondEnds_q t_now_string_q t_ahead_barred t_ahead_period t_ahead_his t_ahead_beast t_ahead_habit t_ahead_onString t_ahead_step t_ahead_eaten t_now_barred t_now_period t_now_his t_now_beast t_now_habit t_now_onString t_now_step t_now_eaten t_now_secondEnds t_now_string t_ahead_secondEnds t_ahead_string t_barred_5 t_beast_6 t_eaten_7 t_habit_8 t_his_9 t_onString_10 t_period_11 t_step_12 t_secondEnds_13 t_string_14 hc_15) ⟨hx, hb, hml, hown, hts⟩ (cwV 1 hts gX7_wall_X6_copyFrom rfl rfl rfl (by decide +kernel) ⟨by decide, by decide⟩) hK hz hk hP (hD.re rfl) hS hA [1, 4, 5, 6, 2, 3] rfl rfl rfl rfl rfl rfl rfl hl.1 rfl (Nat.le_of_ble_eq_true rfl) dX7_wall_34 (fun H locs hP hS => ?_)
      refine lv_aload_n hx hb dX7_wall_37 rfl (lv_at hl 0 rfl) ?_
      refine va_get (D := g.1) (ci := 7) (v := .ref t_passages_q) (C := RX7) (T := TX7) (N := 13) hx hb hts inX7 hown hK hP 0 rfl rfl 10 (by decide) k66 (fun _ h9 => h9) rfl dX7_wall_38 ?_
      refine lv_aload_n hx hb dX7_wall_41 rfl (lv_at hl 0 rfl) ?_
      refine va_get (D := g.1) (ci := 7) (v := .ref t_ahead_q) (C := RX7) (T := TX7) (N := 13) hx hb hts inX7 hown hK hP 0 rfl rfl 2 (by decide) k25 (fun _ h9 => h9) rfl dX7_wall_42 ?_
      obtain ⟨a1_barred_16, a1_step_17, a1_secondEnds_18, t_doorCount_19, t_ends_20, hc_21, hf⟩ := ob5_e hf
      refine kV_v (wn := [oX7 t_q t_plan_q t_now_q t_ahead_q t_before_q t_images_q t_keptImages t_reader_q t_seen_q t_heard_q t_search_q t_passages_q t_sheets_q t_tornFault, oX6 t_ahead_q t_plan_q t_ahead_secondEnds_q t_ahead_string_q a1_barred_16 t_period_11 t_his_9 t_beast_6 t_habit_8 t_onString_10 a1_step_17 t_eaten_7, aI g t_ahead_secondEnds_q 10 a1_secondEnds_18, aI g t_ahead_string_q 12 t_string_14, oX6 t_now_q t_plan_q t_now_secondEnds_q t_now_string_q t_now_barred t_now_period t_now_his t_now_beast t_now_habit t_now_onString t_now_step t_now_eaten, aI g t_now_secondEnds_q 10 t_now_secondEnds, aI g t_now_string_q 12 t_now_string, oX1 t_passages_q t_passages_ends_q t_doorCount_19, aI g t_passages_ends_q 240 t_ends_20, oX2 t_plan_q t_plan_firstEnds_q t_plan_rules_q t_plan_rooms t_plan_doorCount t_plan_ruleCount t_plan_stringLength, aI g t_plan_firstEnds_q 10 t_plan_firstEnds, aI g t_plan_rules_q 6 t_plan_rules]) (As := [.ref t_ahead_q]) (rest := []) (c_X1_foresee l g _ t_passages_q t_passages_ends_q t_ahead_q t_plan_q t_ahead_secondEnds_q t_ahead_string_q t_plan_firstEnds_q t_plan_rules_q t_passages_doorCount t_barred_5 t_period_11 t_his_9 t_beast_6 t_habit_8 t_onString_10 t_step_12 t_eaten_7 t_plan_rooms t_plan_doorCount t_plan_ruleCount t_plan_stringLength t_plan_firstEnds t_plan_rules t_secondEnds_13 t_passages_ends a1_barred_16 a1_step_17 a1_secondEnds_18 t_doorCount_19 t_ends_20 hc_21) ⟨hx, hb, hml, hown, hts⟩ (cwV 1 hts gX7_wall_X1_foresee rfl rfl rfl (by decide +kernel) ⟨by decide, by decide⟩) hK hz hk hP (hD.re rfl) hS hA [7, 1, 9, 10, 11, 2, 8] rfl rfl rfl rfl rfl rfl rfl hl.1 rfl (Nat.le_of_ble_eq_true rfl) dX7_wall_45 (fun H locs hP hS => ?_)
      refine lv_iconst (v := (1 : Int32)) hx hb dX7_wall_48 (by decide) ?_
      refine lv_aload_n hx hb dX7_wall_49 rfl (lv_at hl 0 rfl) ?_
      refine va_get (D := g.1) (ci := 7) (v := .ref t_plan_q) (C := RX7) (T := TX7) (N := 13) hx hb hts inX7 hown hK hP 0 rfl rfl 0 (by decide) k12 (fun _ h9 => h9) rfl dX7_wall_50 ?_
      refine va_get (D := g.1) (ci := 2) (v := .int t_plan_doorCount) (C := RX2) (T := TX2) (N := 6) hx hb hts inX2 hown hK hP 9 rfl rfl 3 (by decide) k119 (fun _ h9 => h9) rfl dX7_wall_53 ?_
      refine lv_ishl hx hb dX7_wall_56 ?_
      obtain ⟨v2_22, ev2_22, hf⟩ := bnd_e hf
      refine tp_i ev2_22 ?_
      refine lv_istore_n (lv' := [(2, .int v2_22), (0, .ref t_q), (1, .int p1)]) hx hb dX7_wall_57 rfl hl (by decide) rfl (fun ls hl => ?_)
      refine lv_iconst (v := (0 : Int32)) hx hb dX7_wall_58 (by decide) ?_
      refine lv_istore_n (lv' := [(3, .int (0 : Int32)), (2, .int v2_22), (0, .ref t_q), (1, .int p1)]) hx hb dX7_wall_59 rfl hl (by decide) rfl (fun ls hl => ?_)
      obtain ⟨z0_24, ho_24, hkr_24, hke_24⟩ := obm1_e hf
      have K_24 : ∀ (x3_40 : Int32), z0_24 = .inr x3_40 → ∀ (H : Heap) (locs : List Loc) (ls : Array Slot), va_P g.1 vwCl [oX7 t_q t_plan_q t_now_q t_ahead_q t_before_q t_images_q t_keptImages t_reader_q t_seen_q t_heard_q t_search_q t_passages_q t_sheets_q t_tornFault, oX6 t_ahead_q t_plan_q t_ahead_secondEnds_q t_ahead_string_q a1_barred_16 t_period_11 t_his_9 t_beast_6 t_habit_8 t_onString_10 a1_step_17 t_eaten_7, aI g t_ahead_secondEnds_q 10 a1_secondEnds_18, aI g t_ahead_string_q 12 t_string_14, oX6 t_now_q t_plan_q t_now_secondEnds_q t_now_string_q t_now_barred t_now_period t_now_his t_now_beast t_now_habit t_now_onString t_now_step t_now_eaten, aI g t_now_secondEnds_q 10 t_now_secondEnds, aI g t_now_string_q 12 t_now_string, oX1 t_passages_q t_passages_ends_q t_doorCount_19, aI g t_passages_ends_q 240 t_ends_20, oX2 t_plan_q t_plan_firstEnds_q t_plan_rules_q t_plan_rooms t_plan_doorCount t_plan_ruleCount t_plan_stringLength, aI g t_plan_firstEnds_q 10 t_plan_firstEnds, aI g t_plan_rules_q 6 t_plan_rules] H → va_S A s.heap H locs → lv_has ls 5 [] → W p l e rmX7_wall s m args below meth c H locs 0 0 Q (F0 m 125 ls []) := by
        intro x3_40 hz9 H locs ls hP hS hl
        have hf := hke_24 x3_40 hz9
        refine lv_bipush (v := (-4 : Int32)) hx hb dX7_wall_125 (by decide) ?_
        exact hret (-4 : Int32) a1_barred_16 t_beast_6 t_eaten_7 t_habit_8 t_his_9 t_onString_10 t_period_11 a1_step_17 a1_secondEnds_18 t_string_14 t_doorCount_19 t_ends_20 (Option.some.inj hf) _ _ _ _ hP hS dX7_wall_127
      have L_24 : ∀ (n : Nat) (v3_23 : Int32), itr (un1 (b_X7_wall_60 t_now_beast p1 t_beast_6 t_eaten_7 t_habit_8 t_his_9 t_onString_10 t_period_11 t_string_14 a1_barred_16 a1_step_17 a1_secondEnds_18 t_doorCount_19 t_ends_20 v2_22)) n v3_23 = some z0_24 → ∀ (H : Heap) (locs : List Loc) (ls : Array Slot), va_P g.1 vwCl [oX7 t_q t_plan_q t_now_q t_ahead_q t_before_q t_images_q t_keptImages t_reader_q t_seen_q t_heard_q t_search_q t_passages_q t_sheets_q t_tornFault, oX6 t_ahead_q t_plan_q t_ahead_secondEnds_q t_ahead_string_q a1_barred_16 t_period_11 t_his_9 t_beast_6 t_habit_8 t_onString_10 a1_step_17 t_eaten_7, aI g t_ahead_secondEnds_q 10 a1_secondEnds_18, aI g t_ahead_string_q 12 t_string_14, oX6 t_now_q t_plan_q t_now_secondEnds_q t_now_string_q t_now_barred t_now_period t_now_his t_now_beast t_now_habit t_now_onString t_now_step t_now_eaten, aI g t_now_secondEnds_q 10 t_now_secondEnds, aI g t_now_string_q 12 t_now_string, oX1 t_passages_q t_passages_ends_q t_doorCount_19, aI g t_passages_ends_q 240 t_ends_20, oX2 t_plan_q t_plan_firstEnds_q t_plan_rules_q t_plan_rooms t_plan_doorCount t_plan_ruleCount t_plan_stringLength, aI g t_plan_firstEnds_q 10 t_plan_firstEnds, aI g t_plan_rules_q 6 t_plan_rules] H → va_S A s.heap H locs → lv_has ls 5 [(0, .ref t_q), (1, .int p1), (2, .int v2_22), (3, .int v3_23)] → W p l e rmX7_wall s m args below meth c H locs 0 0 Q (F0 m 60 ls []) := by
        refine itr_ind1 ?_
        intro v3_23 z_24 hf hrec hex H locs ls hP hS hl
        unfold b_X7_wall_60 at hf
        refine lv_iload_n hx hb dX7_wall_60 rfl (lv_at hl 3 rfl) ?_
        refine lv_iconst (v := (3 : Int32)) hx hb dX7_wall_61 (by decide) ?_
        refine lv_icmp_gt (tgt := 125) hx hb dX7_wall_62 (by decide) (fun c_25 => ?_) (fun c_25 => ?_)
        · have hf := ite_t hf c_25
          exact K_24 v3_23 (hex _ (Option.some.inj hf).symm).symm _ _ _ hP hS (lv_sub hl [] rfl)
        · have hf := ite_f hf c_25
          refine lv_iconst (v := (0 : Int32)) hx hb dX7_wall_65 (by decide) ?_
          refine lv_istore (lv' := [(4, .int (0 : Int32)), (0, .ref t_q), (1, .int p1), (2, .int v2_22), (3, .int v3_23)]) hx hb dX7_wall_66 hl (by decide) rfl (fun ls hl => ?_)
          obtain ⟨z0_27, ho_27, hkr_27a, hke_27⟩ := obl1_e hf
          have hkr_27 : ∀ x, z0_27 = .inl x → x = (rr, t_ahead_barred', t_ahead_beast', t_ahead_eaten', t_ahead_habit', t_ahead_his', t_ahead_onString', t_ahead_period', t_ahead_step', t_ahead_secondEnds', t_ahead_string', t_passages_doorCount', t_passages_ends') := fun x hx => (hkr_24 _ (hex _ (hkr_27a x hx)).symm)
          have K_27 : ∀ (x4_38 : Int32), z0_27 = .inr x4_38 → ∀ (H : Heap) (locs : List Loc) (ls : Array Slot), va_P g.1 vwCl [oX7 t_q t_plan_q t_now_q t_ahead_q t_before_q t_images_q t_keptImages t_reader_q t_seen_q t_heard_q t_search_q t_passages_q t_sheets_q t_tornFault, oX6 t_ahead_q t_plan_q t_ahead_secondEnds_q t_ahead_string_q a1_barred_16 t_period_11 t_his_9 t_beast_6 t_habit_8 t_onString_10 a1_step_17 t_eaten_7, aI g t_ahead_secondEnds_q 10 a1_secondEnds_18, aI g t_ahead_string_q 12 t_string_14, oX6 t_now_q t_plan_q t_now_secondEnds_q t_now_string_q t_now_barred t_now_period t_now_his t_now_beast t_now_habit t_now_onString t_now_step t_now_eaten, aI g t_now_secondEnds_q 10 t_now_secondEnds, aI g t_now_string_q 12 t_now_string, oX1 t_passages_q t_passages_ends_q t_doorCount_19, aI g t_passages_ends_q 240 t_ends_20, oX2 t_plan_q t_plan_firstEnds_q t_plan_rules_q t_plan_rooms t_plan_doorCount t_plan_ruleCount t_plan_stringLength, aI g t_plan_firstEnds_q 10 t_plan_firstEnds, aI g t_plan_rules_q 6 t_plan_rules] H → va_S A s.heap H locs → lv_has ls 5 [(0, .ref t_q), (1, .int p1), (2, .int v2_22), (3, .int v3_23)] → W p l e rmX7_wall s m args below meth c H locs 0 0 Q (F0 m 119 ls []) := by
            intro x4_38 hz9 H locs ls hP hS hl
            have hf := hke_27 x4_38 hz9
            obtain ⟨v3_39, ev3_39, hf⟩ := bnd_e hf
            refine lv_iinc (v := v3_39) (lv' := [(3, .int v3_39), (0, .ref t_q), (1, .int p1), (2, .int v2_22)]) hx hb dX7_wall_119 hl (k := 3) rfl (by rw [ev3_39]; rfl) (by decide) rfl (fun ls hl => ?_)
            refine lv_goto (tgt := 60) hx hb dX7_wall_122 (by decide) ?_
            exact hrec v3_39 (Option.some.inj hf).symm _ _ _ hP hS (lv_sub hl [1, 2, 3, 0] rfl)
          have L_27 : ∀ (n : Nat) (v4_26 : Int32), itr (un1 (b_X7_wall_68 t_now_beast p1 t_beast_6 t_eaten_7 t_habit_8 t_his_9 t_onString_10 t_period_11 t_string_14 a1_barred_16 a1_step_17 a1_secondEnds_18 t_doorCount_19 t_ends_20 v2_22 v3_23)) n v4_26 = some z0_27 → ∀ (H : Heap) (locs : List Loc) (ls : Array Slot), va_P g.1 vwCl [oX7 t_q t_plan_q t_now_q t_ahead_q t_before_q t_images_q t_keptImages t_reader_q t_seen_q t_heard_q t_search_q t_passages_q t_sheets_q t_tornFault, oX6 t_ahead_q t_plan_q t_ahead_secondEnds_q t_ahead_string_q a1_barred_16 t_period_11 t_his_9 t_beast_6 t_habit_8 t_onString_10 a1_step_17 t_eaten_7, aI g t_ahead_secondEnds_q 10 a1_secondEnds_18, aI g t_ahead_string_q 12 t_string_14, oX6 t_now_q t_plan_q t_now_secondEnds_q t_now_string_q t_now_barred t_now_period t_now_his t_now_beast t_now_habit t_now_onString t_now_step t_now_eaten, aI g t_now_secondEnds_q 10 t_now_secondEnds, aI g t_now_string_q 12 t_now_string, oX1 t_passages_q t_passages_ends_q t_doorCount_19, aI g t_passages_ends_q 240 t_ends_20, oX2 t_plan_q t_plan_firstEnds_q t_plan_rules_q t_plan_rooms t_plan_doorCount t_plan_ruleCount t_plan_stringLength, aI g t_plan_firstEnds_q 10 t_plan_firstEnds, aI g t_plan_rules_q 6 t_plan_rules] H → va_S A s.heap H locs → lv_has ls 5 [(0, .ref t_q), (1, .int p1), (2, .int v2_22), (3, .int v3_23), (4, .int v4_26)] → W p l e rmX7_wall s m args below meth c H locs 0 0 Q (F0 m 68 ls []) := by
            refine itr_ind1 ?_
            intro v4_26 z_27 hf hrec hex H locs ls hP hS hl
            unfold b_X7_wall_68 at hf
            refine lv_iload hx hb dX7_wall_68 (lv_at hl 4 rfl) ?_
            refine lv_iload_n hx hb dX7_wall_70 rfl (lv_at hl 2 rfl) ?_
            refine lv_icmp_ge (tgt := 119) hx hb dX7_wall_71 (by decide) (fun c_28 => ?_) (fun c_28 => ?_)
            · have hf := ite_t hf c_28
              exact K_27 v4_26 (hex _ (Option.some.inj hf).symm).symm _ _ _ hP hS (lv_sub hl [0, 1, 2, 3] rfl)
            · have hf := ite_f hf c_28
              refine lv_iload hx hb dX7_wall_74 (lv_at hl 4 rfl) ?_
              obtain ⟨r_29, hc_30, hf⟩ := ob1_e hf
              refine kS_i (wn := [oX7 t_q t_plan_q t_now_q t_ahead_q t_before_q t_images_q t_keptImages t_reader_q t_seen_q t_heard_q t_search_q t_passages_q t_sheets_q t_tornFault, oX6 t_ahead_q t_plan_q t_ahead_secondEnds_q t_ahead_string_q a1_barred_16 t_period_11 t_his_9 t_beast_6 t_habit_8 t_onString_10 a1_step_17 t_eaten_7, aI g t_ahead_secondEnds_q 10 a1_secondEnds_18, aI g t_ahead_string_q 12 t_string_14, oX6 t_now_q t_plan_q t_now_secondEnds_q t_now_string_q t_now_barred t_now_period t_now_his t_now_beast t_now_habit t_now_onString t_now_step t_now_eaten, aI g t_now_secondEnds_q 10 t_now_secondEnds, aI g t_now_string_q 12 t_now_string, oX1 t_passages_q t_passages_ends_q t_doorCount_19, aI g t_passages_ends_q 240 t_ends_20, oX2 t_plan_q t_plan_firstEnds_q t_plan_rules_q t_plan_rooms t_plan_doorCount t_plan_ruleCount t_plan_stringLength, aI g t_plan_firstEnds_q 10 t_plan_firstEnds, aI g t_plan_rules_q 6 t_plan_rules]) (As := [.int v4_26]) (rest := []) (c_J6_bitCount_0f7a4 l g _ v4_26 r_29 hc_30) ⟨hx, hb, hml, hown, hts⟩ (va_cwS 1 hts gX7_wall_J6_bitCount_0f7a4 rfl rfl rfl (by decide +kernel) ⟨by decide, by decide⟩) hK hz hk hP (hD.re rfl) hS hA [] rfl rfl rfl rfl rfl hl.1 rfl (Nat.le_of_ble_eq_true rfl) dX7_wall_76 (fun H locs hP hS => ?_)
              refine lv_iload_n hx hb dX7_wall_79 rfl (lv_at hl 3 rfl) ?_
              obtain ⟨j_31, hj_31, hf⟩ := jn0_e hf
              have J_31 : j_31 = some z_27 → ∀ (H : Heap) (locs : List Loc) (ls : Array Slot), va_P g.1 vwCl [oX7 t_q t_plan_q t_now_q t_ahead_q t_before_q t_images_q t_keptImages t_reader_q t_seen_q t_heard_q t_search_q t_passages_q t_sheets_q t_tornFault, oX6 t_ahead_q t_plan_q t_ahead_secondEnds_q t_ahead_string_q a1_barred_16 t_period_11 t_his_9 t_beast_6 t_habit_8 t_onString_10 a1_step_17 t_eaten_7, aI g t_ahead_secondEnds_q 10 a1_secondEnds_18, aI g t_ahead_string_q 12 t_string_14, oX6 t_now_q t_plan_q t_now_secondEnds_q t_now_string_q t_now_barred t_now_period t_now_his t_now_beast t_now_habit t_now_onString t_now_step t_now_eaten, aI g t_now_secondEnds_q 10 t_now_secondEnds, aI g t_now_string_q 12 t_now_string, oX1 t_passages_q t_passages_ends_q t_doorCount_19, aI g t_passages_ends_q 240 t_ends_20, oX2 t_plan_q t_plan_firstEnds_q t_plan_rules_q t_plan_rooms t_plan_doorCount t_plan_ruleCount t_plan_stringLength, aI g t_plan_firstEnds_q 10 t_plan_firstEnds, aI g t_plan_rules_q 6 t_plan_rules] H → va_S A s.heap H locs → lv_has ls 5 [(0, .ref t_q), (1, .int p1), (2, .int v2_22), (3, .int v3_23), (4, .int v4_26)] → W p l e rmX7_wall s m args below meth c H locs 0 0 Q (F0 m 113 ls []) := by
                intro hf H locs ls hP hS hl
                rw [hj_31] at hf
                obtain ⟨v4_32, ev4_32, hf⟩ := bnd_e hf
                refine lv_iinc (v := v4_32) (lv' := [(4, .int v4_32), (0, .ref t_q), (1, .int p1), (2, .int v2_22), (3, .int v3_23)]) hx hb dX7_wall_113 hl (k := 4) rfl (by rw [ev4_32]; rfl) (by decide) rfl (fun ls hl => ?_)
                refine lv_goto (tgt := 68) hx hb dX7_wall_116 (by decide) ?_
                exact hrec v4_32 (Option.some.inj hf).symm _ _ _ hP hS (lv_sub hl [1, 2, 3, 4, 0] rfl)
              refine lv_icmp_ne (tgt := 113) hx hb dX7_wall_80 (by decide) (fun c_33 => ?_) (fun c_33 => ?_)
              · have hf := ite_f hf c_33
                exact J_31 hf _ _ _ hP hS (lv_sub hl [0, 1, 2, 3, 4] rfl)
              · have hf := ite_t hf c_33
                refine lv_aload_n hx hb dX7_wall_83 rfl (lv_at hl 0 rfl) ?_
                refine va_get (D := g.1) (ci := 7) (v := .ref t_passages_q) (C := RX7) (T := TX7) (N := 13) hx hb hts inX7 hown hK hP 0 rfl rfl 10 (by decide) k66 (fun _ h9 => h9) rfl dX7_wall_84 ?_
                refine lv_aload_n hx hb dX7_wall_87 rfl (lv_at hl 0 rfl) ?_
                refine va_get (D := g.1) (ci := 7) (v := .ref t_now_q) (C := RX7) (T := TX7) (N := 13) hx hb hts inX7 hown hK hP 0 rfl rfl 1 (by decide) k21 (fun _ h9 => h9) rfl dX7_wall_88 ?_
                refine va_get (D := g.1) (ci := 6) (v := .int t_now_beast) (C := RX6) (T := TX6) (N := 11) hx hb hts inX6 hown hK hP 4 rfl rfl 6 (by decide) k137 (fun _ h9 => h9) rfl dX7_wall_91 ?_
                refine lv_iload hx hb dX7_wall_94 (lv_at hl 4 rfl) ?_
                obtain ⟨r_34, hc_35, hf⟩ := ob1_e hf
                refine kV_i (wn := [oX7 t_q t_plan_q t_now_q t_ahead_q t_before_q t_images_q t_keptImages t_reader_q t_seen_q t_heard_q t_search_q t_passages_q t_sheets_q t_tornFault, oX6 t_ahead_q t_plan_q t_ahead_secondEnds_q t_ahead_string_q a1_barred_16 t_period_11 t_his_9 t_beast_6 t_habit_8 t_onString_10 a1_step_17 t_eaten_7, aI g t_ahead_secondEnds_q 10 a1_secondEnds_18, aI g t_ahead_string_q 12 t_string_14, oX6 t_now_q t_plan_q t_now_secondEnds_q t_now_string_q t_now_barred t_now_period t_now_his t_now_beast t_now_habit t_now_onString t_now_step t_now_eaten, aI g t_now_secondEnds_q 10 t_now_secondEnds, aI g t_now_string_q 12 t_now_string, oX1 t_passages_q t_passages_ends_q t_doorCount_19, aI g t_passages_ends_q 240 t_ends_20, oX2 t_plan_q t_plan_firstEnds_q t_plan_rules_q t_plan_rooms t_plan_doorCount t_plan_ruleCount t_plan_stringLength, aI g t_plan_firstEnds_q 10 t_plan_firstEnds, aI g t_plan_rules_q 6 t_plan_rules]) (As := [.int t_now_beast, .int v4_26]) (rest := []) (c_X1_keepOut l g _ t_passages_q t_passages_ends_q t_doorCount_19 t_ends_20 t_now_beast v4_26 r_34 hc_35) ⟨hx, hb, hml, hown, hts⟩ (cwV 2 hts gX7_wall_X1_keepOut rfl rfl rfl (by decide +kernel) ⟨by decide, by decide⟩) hK hz hk hP (hD.re rfl) hS hA [7, 8] rfl rfl rfl rfl rfl rfl rfl hl.1 rfl (Nat.le_of_ble_eq_true rfl) dX7_wall_96 (fun H locs hP hS => ?_)
                refine lv_if_eq (tgt := 113) hx hb dX7_wall_99 (by decide) (fun c_36 => ?_) (fun c_36 => ?_)
                · have hf := ite_t hf c_36
                  exact J_31 hf _ _ _ hP hS (lv_sub hl [0, 1, 2, 3, 4] rfl)
                · have hf := ite_f hf c_36
                  refine lv_iload_n hx hb dX7_wall_102 rfl (lv_at hl 1 rfl) ?_
                  refine lv_if_ne (tgt := 110) hx hb dX7_wall_103 (by decide) (fun c_37 => ?_) (fun c_37 => ?_)
                  · have hf := ite_f hf c_37
                    refine lv_iload hx hb dX7_wall_110 (lv_at hl 4 rfl) ?_
                    exact hret v4_26 a1_barred_16 t_beast_6 t_eaten_7 t_habit_8 t_his_9 t_onString_10 t_period_11 a1_step_17 a1_secondEnds_18 t_string_14 t_doorCount_19 t_ends_20 (hkr_27 _ (hex _ (Option.some.inj hf).symm).symm) _ _ _ _ hP hS dX7_wall_112
                  · have hf := ite_t hf c_37
                    refine lv_iload_n hx hb dX7_wall_106 rfl (lv_at hl 3 rfl) ?_
                    refine lv_goto (tgt := 112) hx hb dX7_wall_107 (by decide) ?_
                    exact hret v3_23 a1_barred_16 t_beast_6 t_eaten_7 t_habit_8 t_his_9 t_onString_10 t_period_11 a1_step_17 a1_secondEnds_18 t_string_14 t_doorCount_19 t_ends_20 (hkr_27 _ (hex _ (Option.some.inj hf).symm).symm) _ _ _ _ hP hS dX7_wall_112
          exact L_27 FU (0 : Int32) ho_27 _ _ _ hP hS (lv_sub hl [1, 2, 3, 4, 0] rfl)
      exact L_24 FU (0 : Int32) ho_24 _ _ _ hP hS (lv_sub hl [2, 3, 1, 0] rfl)
    · have hf := ite_t hf c_4
      refine lv_bipush (v := (-2 : Int32)) hx hb dX7_wall_23 (by decide) ?_
      exact hret (-2 : Int32) t_ahead_barred t_ahead_beast t_ahead_eaten t_ahead_habit t_ahead_his t_ahead_onString t_ahead_period t_ahead_step t_ahead_secondEnds t_ahead_string t_passages_doorCount t_passages_ends (Option.some.inj hf) _ _ _ _ hP hS dX7_wall_25
  · have hf := ite_t hf c_3
    refine lv_iconst (v := (-1 : Int32)) hx hb dX7_wall_9 (by decide) ?_
    exact hret (-1 : Int32) t_ahead_barred t_ahead_beast t_ahead_eaten t_ahead_habit t_ahead_his t_ahead_onString t_ahead_period t_ahead_step t_ahead_secondEnds t_ahead_string t_passages_doorCount t_passages_ends (Option.some.inj hf) _ _ _ _ hP hS dX7_wall_10

def f_X8_in (p0 : Int64) (p2 : Int64) (p4 : Int64) : Option (Int32) :=
 (if (lg_cmp p0 p2) < (0 : Int32) then
 (some (0 : Int32))
 else (if (0 : Int32) < (lg_cmp p0 p4) then
 (some (0 : Int32))
 else (some (1 : Int32))))
abbrev rmX8_in : Room := { frames := 0, cells := 0, slots := 0, locals := 0 }
set_option maxHeartbeats 4000000 in
set_option maxRecDepth 100000 in
theorem c_X8_in (l : Launch) (g : Gh) (sz : Nat) (p0 : Int64) (p2 : Int64) (p4 : Int64) (rr : Int32) (hf : f_X8_in p0 p2 p4 = some rr) : CI l yX8_in wsX8_in rmX8_in [.long p0, .long p2, .long p4] g sz [] [] rr := by
  refine ent_z (cc := cX8_in) (maxL := 6) (by decide) rfl (Nat.le_of_ble_eq_true rfl) ?_
  intro p e s m args below meth c A Q hx hb hml hown hts hK hz hk hA hD hP hS hret ls hl
  have hown : s.vm.findClass RX8 = some m.cls := hown
  have hl : lv_has ls 6 [(0, .long p0), (2, .long p2), (4, .long p4)] := hl
  have hret : ∀ (rrz : Int32), rrz = rr → narrow .boolean (.int rrz) = .int rrz → ∀ (H : Heap) (locs : List Loc) (pc : Nat) (ls : Array Slot), va_P g.1 vwCl [] H → va_S A s.heap H locs → decode cX8_in pc = .ok (.ireturn, 1) → W p l e rmX8_in s m args below meth c H locs 0 0 Q (F0 m pc ls [.int rrz]) := by
    intro rrz he hzz H locs pc ls hP hS hd
    cases he
    exact hret H locs pc ls hzz hP hS hd
  unfold f_X8_in at hf
  refine lv_lload_n hx hb dX8_in_0 rfl (lv_at hl 0 rfl) ?_
  refine lv_lload_n hx hb dX8_in_1 rfl (lv_at hl 1 rfl) ?_
  refine W.lcmp hx hb dX8_in_2 ?_
  refine lv_if_lt (tgt := 17) hx hb dX8_in_3 (by decide) (fun c_1 => ?_) (fun c_1 => ?_)
  · have hf := ite_t hf c_1
    refine lv_iconst (v := (0 : Int32)) hx hb dX8_in_17 (by decide) ?_
    exact hret (0 : Int32) (Option.some.inj hf) rfl _ _ _ _ hP hS dX8_in_18
  · have hf := ite_f hf c_1
    refine lv_lload_n hx hb dX8_in_6 rfl (lv_at hl 0 rfl) ?_
    refine lv_lload hx hb dX8_in_7 (lv_at hl 2 rfl) ?_
    refine W.lcmp hx hb dX8_in_9 ?_
    refine lv_if_gt (tgt := 17) hx hb dX8_in_10 (by decide) (fun c_2 => ?_) (fun c_2 => ?_)
    · have hf := ite_t hf c_2
      refine lv_iconst (v := (0 : Int32)) hx hb dX8_in_17 (by decide) ?_
      exact hret (0 : Int32) (Option.some.inj hf) rfl _ _ _ _ hP hS dX8_in_18
    · have hf := ite_f hf c_2
      refine lv_iconst (v := (1 : Int32)) hx hb dX8_in_13 (by decide) ?_
      refine lv_goto (tgt := 18) hx hb dX8_in_14 (by decide) ?_
      exact hret (1 : Int32) (Option.some.inj hf) rfl _ _ _ _ hP hS dX8_in_18

def f_X8_isDoor (t_doorMany : Int32) (p1 : Int32) : Option (Int32) :=
 (ob1 (f_X8_in (p1.toInt64) (0 : Int64) ((t_doorMany - (1 : Int32)).toInt64)) (fun r_1 =>
 (gbl r_1 (some r_1))))
abbrev rmX8_isDoor : Room := { frames := 1, cells := 0, slots := 0, locals := 25 }
set_option maxHeartbeats 4000000 in
set_option maxRecDepth 100000 in
theorem c_X8_isDoor (l : Launch) (g : Gh) (sz : Nat) (t_q t_state_q t_laws_q t_readPage_q t_readLaws_q t_tape_q t_cuts_q t_letters_q t_work_q t_pages_q t_canBe_q t_leadsOn_q t_seen_q t_heard_q t_isKept_q t_lanes_q t_lengths_q t_cells_q : Nat) (t_roomMany : Int32) (t_doorMany : Int32) (t_stringLong : Int32) (t_lawMany : Int32) (t_readRooms : Int32) (t_readDoors : Int32) (t_readString : Int32) (t_readLawMany : Int32) (t_toldOnce : Int32) (t_highRoom : Int32) (t_highDoor : Int32) (t_taped : Int32) (t_fault : Int32) (t_broken : Int32) (t_brokenAt : Int32) (t_spot : Int32) (t_here : Int32) (t_token : Int32) (t_value : Int32) (t_seenMany : Int32) (t_heardMany : Int32) (t_torn : Int32) (p1 : Int32) (rr : Int32) (hf : f_X8_isDoor t_doorMany p1 = some rr) : CI l yX8_isDoor wsX8_isDoor rmX8_isDoor [.ref t_q, .int p1] g sz [oX8 t_q t_state_q t_roomMany t_doorMany t_stringLong t_laws_q t_lawMany t_readPage_q t_readLaws_q t_readRooms t_readDoors t_readString t_readLawMany t_toldOnce t_highRoom t_highDoor t_tape_q t_taped t_fault t_broken t_brokenAt t_spot t_here t_token t_value t_cuts_q t_letters_q t_work_q t_pages_q t_canBe_q t_leadsOn_q t_seen_q t_seenMany t_heard_q t_heardMany t_isKept_q t_lanes_q t_lengths_q t_cells_q t_torn] [oX8 t_q t_state_q t_roomMany t_doorMany t_stringLong t_laws_q t_lawMany t_readPage_q t_readLaws_q t_readRooms t_readDoors t_readString t_readLawMany t_toldOnce t_highRoom t_highDoor t_tape_q t_taped t_fault t_broken t_brokenAt t_spot t_here t_token t_value t_cuts_q t_letters_q t_work_q t_pages_q t_canBe_q t_leadsOn_q t_seen_q t_seenMany t_heard_q t_heardMany t_isKept_q t_lanes_q t_lengths_q t_cells_q t_torn] rr := by
  refine ent_z (cc := cX8_isDoor) (maxL := 2) (by decide) rfl (Nat.le_of_ble_eq_true rfl) ?_
  intro p e s m args below meth c A Q hx hb hml hown hts hK hz hk hA hD hP hS hret ls hl
  have hown : s.vm.findClass RX8 = some m.cls := hown
  have inX8 : ∀ w ∈ u_ws RX8 TX8 39, w ∈ wsX8_isDoor := by decide +kernel
  have k175 := hts (.fieldLink RX8 175 "ThreadMovedModel" "doorMany" "I") (by decide +kernel)
  have hl : lv_has ls 2 [(0, .ref t_q), (1, .int p1)] := hl
  have hret : ∀ (rrz : Int32), rrz = rr → narrow .boolean (.int rrz) = .int rrz → ∀ (H : Heap) (locs : List Loc) (pc : Nat) (ls : Array Slot), va_P g.1 vwCl [oX8 t_q t_state_q t_roomMany t_doorMany t_stringLong t_laws_q t_lawMany t_readPage_q t_readLaws_q t_readRooms t_readDoors t_readString t_readLawMany t_toldOnce t_highRoom t_highDoor t_tape_q t_taped t_fault t_broken t_brokenAt t_spot t_here t_token t_value t_cuts_q t_letters_q t_work_q t_pages_q t_canBe_q t_leadsOn_q t_seen_q t_seenMany t_heard_q t_heardMany t_isKept_q t_lanes_q t_lengths_q t_cells_q t_torn] H → va_S A s.heap H locs → decode cX8_isDoor pc = .ok (.ireturn, 1) → W p l e rmX8_isDoor s m args below meth c H locs 0 0 Q (F0 m pc ls [.int rrz]) := by
    intro rrz he hzz H locs pc ls hP hS hd
    cases he
    exact hret H locs pc ls hzz hP hS hd
  unfold f_X8_isDoor at hf
  refine lv_iload_n hx hb dX8_isDoor_0 rfl (lv_at hl 1 rfl) ?_
  refine lv_i2l hx hb dX8_isDoor_1 rfl ?_
  refine lv_lconst (v := (0 : Int64)) hx hb dX8_isDoor_2 (by decide) ?_
  refine lv_aload_n hx hb dX8_isDoor_3 rfl (lv_at hl 0 rfl) ?_
  refine va_get (D := g.1) (ci := 8) (v := .int t_doorMany) (C := RX8) (T := TX8) (N := 39) hx hb hts inX8 hown hK hP 0 rfl rfl 2 (by decide) k175 (fun _ h9 => h9) rfl dX8_isDoor_4 ?_
  refine lv_iconst (v := (1 : Int32)) hx hb dX8_isDoor_7 (by decide) ?_
  refine lv_isub hx hb dX8_isDoor_8 ?_
  refine lv_i2l hx hb dX8_isDoor_9 rfl ?_
  obtain ⟨r_1, hc_2, hf⟩ := ob1_e hf
  refine kS_i (wn := [oX8 t_q t_state_q t_roomMany t_doorMany t_stringLong t_laws_q t_lawMany t_readPage_q t_readLaws_q t_readRooms t_readDoors t_readString t_readLawMany t_toldOnce t_highRoom t_highDoor t_tape_q t_taped t_fault t_broken t_brokenAt t_spot t_here t_token t_value t_cuts_q t_letters_q t_work_q t_pages_q t_canBe_q t_leadsOn_q t_seen_q t_seenMany t_heard_q t_heardMany t_isKept_q t_lanes_q t_lengths_q t_cells_q t_torn]) (As := [.long (p1.toInt64), .long (0 : Int64), .long ((t_doorMany - (1 : Int32)).toInt64)]) (rest := []) (c_X8_in l g _ (p1.toInt64) (0 : Int64) ((t_doorMany - (1 : Int32)).toInt64) r_1 hc_2) ⟨hx, hb, hml, hown, hts⟩ (va_cwS 3 hts gX8_isDoor_X8_in rfl rfl rfl (by decide +kernel) ⟨by decide, by decide⟩) hK hz hk hP (hD.re rfl) hS hA [] rfl rfl rfl rfl rfl hl.1 rfl (Nat.le_of_ble_eq_true rfl) dX8_isDoor_10 (fun H locs hP hS => ?_)
  obtain ⟨b_3, hf⟩ := gbl_e hf
  exact hret r_1 (Option.some.inj hf) (bl_n b_3) _ _ _ _ hP hS dX8_isDoor_13

def f_X8_leadsTo (a1_n : Nat) (a1 : Nat → Int32) (p2 : Int32) (p3 : Int32) (p4 : Int32) : Option (Int32) :=
 (gin (p2 + ((3 : Int32) * p3)) a1_n (bnd (a1 (p2 + ((3 : Int32) * p3)).toNatClampNeg) (fun v5_2 =>
 (gin ((p2 + ((3 : Int32) * p3)) + (1 : Int32)) a1_n (bnd (a1 ((p2 + ((3 : Int32) * p3)) + (1 : Int32)).toNatClampNeg) (fun v6_4 =>
 (gin ((p2 + ((3 : Int32) * p3)) + (2 : Int32)) a1_n (if (a1 ((p2 + ((3 : Int32) * p3)) + (2 : Int32)).toNatClampNeg) = (1 : Int32) then
 (some (-4 : Int32))
 else (jn0 (if v5_2 = p4 then
 (some v6_4)
 else (some v5_2)) (fun j_7 =>
 (if v5_2 = p4 then
 (j_7)
 else (if v6_4 = p4 then
 (j_7)
 else (some (-4 : Int32))))))))))))))
abbrev rmX8_leadsTo : Room := { frames := 0, cells := 0, slots := 0, locals := 0 }
set_option maxHeartbeats 4000000 in
set_option maxRecDepth 100000 in
theorem c_X8_leadsTo (l : Launch) (g : Gh) (sz : Nat) (t_q t_state_q t_laws_q t_readPage_q t_readLaws_q t_tape_q t_cuts_q t_letters_q t_work_q t_pages_q t_canBe_q t_leadsOn_q t_seen_q t_heard_q t_isKept_q t_lanes_q t_lengths_q t_cells_q a1_q : Nat) (t_roomMany : Int32) (t_doorMany : Int32) (t_stringLong : Int32) (t_lawMany : Int32) (t_readRooms : Int32) (t_readDoors : Int32) (t_readString : Int32) (t_readLawMany : Int32) (t_toldOnce : Int32) (t_highRoom : Int32) (t_highDoor : Int32) (t_taped : Int32) (t_fault : Int32) (t_broken : Int32) (t_brokenAt : Int32) (t_spot : Int32) (t_here : Int32) (t_token : Int32) (t_value : Int32) (t_seenMany : Int32) (t_heardMany : Int32) (t_torn : Int32) (a1_n : Nat) (a1 : Nat → Int32) (p2 : Int32) (p3 : Int32) (p4 : Int32) (rr : Int32) (hf : f_X8_leadsTo a1_n a1 p2 p3 p4 = some rr) : CI l yX8_leadsTo wsX8_leadsTo rmX8_leadsTo [.ref t_q, .ref a1_q, .int p2, .int p3, .int p4] g sz [oX8 t_q t_state_q t_roomMany t_doorMany t_stringLong t_laws_q t_lawMany t_readPage_q t_readLaws_q t_readRooms t_readDoors t_readString t_readLawMany t_toldOnce t_highRoom t_highDoor t_tape_q t_taped t_fault t_broken t_brokenAt t_spot t_here t_token t_value t_cuts_q t_letters_q t_work_q t_pages_q t_canBe_q t_leadsOn_q t_seen_q t_seenMany t_heard_q t_heardMany t_isKept_q t_lanes_q t_lengths_q t_cells_q t_torn, aI g a1_q a1_n a1] [oX8 t_q t_state_q t_roomMany t_doorMany t_stringLong t_laws_q t_lawMany t_readPage_q t_readLaws_q t_readRooms t_readDoors t_readString t_readLawMany t_toldOnce t_highRoom t_highDoor t_tape_q t_taped t_fault t_broken t_brokenAt t_spot t_here t_token t_value t_cuts_q t_letters_q t_work_q t_pages_q t_canBe_q t_leadsOn_q t_seen_q t_seenMany t_heard_q t_heardMany t_isKept_q t_lanes_q t_lengths_q t_cells_q t_torn, aI g a1_q a1_n a1] rr := by
  refine ent_i (cc := cX8_leadsTo) (maxL := 7) (by decide) rfl (Nat.le_of_ble_eq_true rfl) ?_
  intro p e s m args below meth c A Q hx hb hml hown hts hK hz hk hA hD hP hS hret ls hl
  have hown : s.vm.findClass RX8 = some m.cls := hown
  have hl : lv_has ls 7 [(0, .ref t_q), (1, .ref a1_q), (2, .int p2), (3, .int p3), (4, .int p4)] := hl
  have hret : ∀ (rrz : Int32), rrz = rr → ∀ (H : Heap) (locs : List Loc) (pc : Nat) (ls : Array Slot), va_P g.1 vwCl [oX8 t_q t_state_q t_roomMany t_doorMany t_stringLong t_laws_q t_lawMany t_readPage_q t_readLaws_q t_readRooms t_readDoors t_readString t_readLawMany t_toldOnce t_highRoom t_highDoor t_tape_q t_taped t_fault t_broken t_brokenAt t_spot t_here t_token t_value t_cuts_q t_letters_q t_work_q t_pages_q t_canBe_q t_leadsOn_q t_seen_q t_seenMany t_heard_q t_heardMany t_isKept_q t_lanes_q t_lengths_q t_cells_q t_torn, aI g a1_q a1_n a1] H → va_S A s.heap H locs → decode cX8_leadsTo pc = .ok (.ireturn, 1) → W p l e rmX8_leadsTo s m args below meth c H locs 0 0 Q (F0 m pc ls [.int rrz]) := by
    intro rrz he H locs pc ls hP hS hd
    cases he
    exact hret H locs pc ls hP hS hd
  unfold f_X8_leadsTo at hf
  refine lv_aload_n hx hb dX8_leadsTo_0 rfl (lv_at hl 1 rfl) ?_
  refine lv_iload_n hx hb dX8_leadsTo_1 rfl (lv_at hl 2 rfl) ?_
  refine lv_iconst (v := (3 : Int32)) hx hb dX8_leadsTo_2 (by decide) ?_
  refine lv_iload_n hx hb dX8_leadsTo_3 rfl (lv_at hl 3 rfl) ?_
  refine lv_imul hx hb dX8_leadsTo_4 ?_
  refine lv_iadd hx hb dX8_leadsTo_5 ?_
  obtain ⟨h_1, hf⟩ := gin_e hf
  refine va_iald hx hb hK hP 1 0 rfl rfl h_1 dX8_leadsTo_6 ?_
  obtain ⟨v5_2, ev5_2, hf⟩ := bnd_e hf
  refine tp_i ev5_2 ?_
  refine lv_istore (lv' := [(5, .int v5_2), (0, .ref t_q), (1, .ref a1_q), (2, .int p2), (3, .int p3), (4, .int p4)]) hx hb dX8_leadsTo_7 hl (by decide) rfl (fun ls hl => ?_)
  refine lv_aload_n hx hb dX8_leadsTo_9 rfl (lv_at hl 2 rfl) ?_
  refine lv_iload_n hx hb dX8_leadsTo_10 rfl (lv_at hl 3 rfl) ?_
  refine lv_iconst (v := (3 : Int32)) hx hb dX8_leadsTo_11 (by decide) ?_
  refine lv_iload_n hx hb dX8_leadsTo_12 rfl (lv_at hl 4 rfl) ?_
  refine lv_imul hx hb dX8_leadsTo_13 ?_
  refine lv_iadd hx hb dX8_leadsTo_14 ?_
  refine lv_iconst (v := (1 : Int32)) hx hb dX8_leadsTo_15 (by decide) ?_
  refine lv_iadd hx hb dX8_leadsTo_16 ?_
  obtain ⟨h_3, hf⟩ := gin_e hf
  refine va_iald hx hb hK hP 1 0 rfl rfl h_3 dX8_leadsTo_17 ?_
  obtain ⟨v6_4, ev6_4, hf⟩ := bnd_e hf
  refine tp_i ev6_4 ?_
  refine lv_istore (lv' := [(6, .int v6_4), (5, .int v5_2), (0, .ref t_q), (1, .ref a1_q), (2, .int p2), (3, .int p3), (4, .int p4)]) hx hb dX8_leadsTo_18 hl (by decide) rfl (fun ls hl => ?_)
  refine lv_aload_n hx hb dX8_leadsTo_20 rfl (lv_at hl 3 rfl) ?_
  refine lv_iload_n hx hb dX8_leadsTo_21 rfl (lv_at hl 4 rfl) ?_
  refine lv_iconst (v := (3 : Int32)) hx hb dX8_leadsTo_22 (by decide) ?_
  refine lv_iload_n hx hb dX8_leadsTo_23 rfl (lv_at hl 5 rfl) ?_
  refine lv_imul hx hb dX8_leadsTo_24 ?_
  refine lv_iadd hx hb dX8_leadsTo_25 ?_
  refine lv_iconst (v := (2 : Int32)) hx hb dX8_leadsTo_26 (by decide) ?_
  refine lv_iadd hx hb dX8_leadsTo_27 ?_
  obtain ⟨h_5, hf⟩ := gin_e hf
  refine va_iald hx hb hK hP 1 0 rfl rfl h_5 dX8_leadsTo_28 ?_
  refine lv_iconst (v := (1 : Int32)) hx hb dX8_leadsTo_29 (by decide) ?_
  refine lv_icmp_eq (tgt := 47) hx hb dX8_leadsTo_30 (by decide) (fun c_6 => ?_) (fun c_6 => ?_)
  · have hf := ite_t hf c_6
    refine lv_bipush (v := (-4 : Int32)) hx hb dX8_leadsTo_47 (by decide) ?_
    exact hret (-4 : Int32) (Option.some.inj hf) _ _ _ _ hP hS dX8_leadsTo_49
  · have hf := ite_f hf c_6
    refine lv_iload hx hb dX8_leadsTo_33 (lv_at hl 1 rfl) ?_
    refine lv_iload hx hb dX8_leadsTo_35 (lv_at hl 6 rfl) ?_
    obtain ⟨j_7, hj_7, hf⟩ := jn0_e hf
    have J_7 : j_7 = some rr → ∀ (H : Heap) (locs : List Loc) (ls : Array Slot), va_P g.1 vwCl [oX8 t_q t_state_q t_roomMany t_doorMany t_stringLong t_laws_q t_lawMany t_readPage_q t_readLaws_q t_readRooms t_readDoors t_readString t_readLawMany t_toldOnce t_highRoom t_highDoor t_tape_q t_taped t_fault t_broken t_brokenAt t_spot t_here t_token t_value t_cuts_q t_letters_q t_work_q t_pages_q t_canBe_q t_leadsOn_q t_seen_q t_seenMany t_heard_q t_heardMany t_isKept_q t_lanes_q t_lengths_q t_cells_q t_torn, aI g a1_q a1_n a1] H → va_S A s.heap H locs → lv_has ls 7 [(4, .int p4), (5, .int v5_2), (6, .int v6_4)] → W p l e rmX8_leadsTo s m args below meth c H locs 0 0 Q (F0 m 50 ls []) := by
      intro hf H locs ls hP hS hl
      rw [hj_7] at hf
      refine lv_iload hx hb dX8_leadsTo_50 (lv_at hl 1 rfl) ?_
      refine lv_iload hx hb dX8_leadsTo_52 (lv_at hl 0 rfl) ?_
      refine lv_icmp_ne (tgt := 62) hx hb dX8_leadsTo_54 (by decide) (fun c_8 => ?_) (fun c_8 => ?_)
      · have hf := ite_f hf c_8
        refine lv_iload hx hb dX8_leadsTo_62 (lv_at hl 1 rfl) ?_
        exact hret v5_2 (Option.some.inj hf) _ _ _ _ hP hS dX8_leadsTo_64
      · have hf := ite_t hf c_8
        refine lv_iload hx hb dX8_leadsTo_57 (lv_at hl 2 rfl) ?_
        refine lv_goto (tgt := 64) hx hb dX8_leadsTo_59 (by decide) ?_
        exact hret v6_4 (Option.some.inj hf) _ _ _ _ hP hS dX8_leadsTo_64
    refine lv_icmp_eq (tgt := 50) hx hb dX8_leadsTo_37 (by decide) (fun c_9 => ?_) (fun c_9 => ?_)
    · have hf := ite_t hf c_9
      exact J_7 hf _ _ _ hP hS (lv_sub hl [6, 1, 0] rfl)
    · have hf := ite_f hf c_9
      refine lv_iload hx hb dX8_leadsTo_40 (lv_at hl 0 rfl) ?_
      refine lv_iload hx hb dX8_leadsTo_42 (lv_at hl 6 rfl) ?_
      refine lv_icmp_eq (tgt := 50) hx hb dX8_leadsTo_44 (by decide) (fun c_10 => ?_) (fun c_10 => ?_)
      · have hf := ite_t hf c_10
        exact J_7 hf _ _ _ hP hS (lv_sub hl [6, 1, 0] rfl)
      · have hf := ite_f hf c_10
        refine lv_bipush (v := (-4 : Int32)) hx hb dX8_leadsTo_47 (by decide) ?_
        exact hret (-4 : Int32) (Option.some.inj hf) _ _ _ _ hP hS dX8_leadsTo_49
