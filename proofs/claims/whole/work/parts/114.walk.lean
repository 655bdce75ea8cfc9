def f_X7_back (t_keptImages : Int32) (t_images_0_barred : Int32) (t_images_0_period : Int32) (t_images_0_his : Int32) (t_images_0_beast : Int32) (t_images_0_habit : Int32) (t_images_0_onString : Int32) (t_images_0_step : Int32) (t_images_0_eaten : Int32) (t_images_0_secondEnds : Nat → Int32) (t_images_0_string : Nat → Int32) (t_images_1_barred : Int32) (t_images_1_period : Int32) (t_images_1_his : Int32) (t_images_1_beast : Int32) (t_images_1_habit : Int32) (t_images_1_onString : Int32) (t_images_1_step : Int32) (t_images_1_eaten : Int32) (t_images_1_secondEnds : Nat → Int32) (t_images_1_string : Nat → Int32) (t_now_barred : Int32) (t_now_period : Int32) (t_now_his : Int32) (t_now_beast : Int32) (t_now_habit : Int32) (t_now_onString : Int32) (t_now_step : Int32) (t_now_eaten : Int32) (t_now_secondEnds : Nat → Int32) (t_now_string : Nat → Int32) (p1 : Int32) : Option (Int32 × Int32 × Int32 × Int32 × Int32 × Int32 × Int32 × Int32 × Int32 × (Nat → Int32) × (Nat → Int32)) :=
 (ob1 (f_X7_isWithin p1 (0 : Int32) ((2 : Int32) - (1 : Int32))) (fun r_1 =>
 (if r_1 = (0 : Int32) then
 (some ((-1 : Int32), t_now_barred, t_now_beast, t_now_eaten, t_now_habit, t_now_his, t_now_onString, t_now_period, t_now_step, t_now_secondEnds, t_now_string))
 else (ob1 (f_X7_hasImage t_keptImages p1) (fun r_4 =>
 (if r_4 = (0 : Int32) then
 (some ((-2 : Int32), t_now_barred, t_now_beast, t_now_eaten, t_now_habit, t_now_his, t_now_onString, t_now_period, t_now_step, t_now_secondEnds, t_now_string))
 else (gin p1 2 (if p1 = (0 : Int32) then
 (ob10 (f_X6_copyFrom t_images_0_barred t_images_0_period t_images_0_his t_images_0_beast t_images_0_habit t_images_0_onString t_images_0_step t_images_0_eaten t_images_0_secondEnds t_images_0_string t_now_secondEnds t_now_string) (fun t_barred_9 t_beast_10 t_eaten_11 t_habit_12 t_his_13 t_onString_14 t_period_15 t_step_16 t_secondEnds_17 t_string_18 =>
 (some (t_step_16, t_barred_9, t_beast_10, t_eaten_11, t_habit_12, t_his_13, t_onString_14, t_period_15, t_step_16, t_secondEnds_17, t_string_18))))
 else (if p1 = (1 : Int32) then
 (ob10 (f_X6_copyFrom t_images_1_barred t_images_1_period t_images_1_his t_images_1_beast t_images_1_habit t_images_1_onString t_images_1_step t_images_1_eaten t_images_1_secondEnds t_images_1_string t_now_secondEnds t_now_string) (fun t_barred_21 t_beast_22 t_eaten_23 t_habit_24 t_his_25 t_onString_26 t_period_27 t_step_28 t_secondEnds_29 t_string_30 =>
 (some (t_step_28, t_barred_21, t_beast_22, t_eaten_23, t_habit_24, t_his_25, t_onString_26, t_period_27, t_step_28, t_secondEnds_29, t_string_30))))
 else none)))))))))
abbrev rmX7_back : Room := { frames := 2, cells := 0, slots := 0, locals := 61 }
set_option maxHeartbeats 4000000 in
set_option maxRecDepth 100000 in
theorem c_X7_back (l : Launch) (g : Gh) (sz : Nat) (t_q t_plan_q t_now_q t_ahead_q t_before_q t_images_q t_reader_q t_seen_q t_heard_q t_search_q t_passages_q t_sheets_q t_images_0_q t_images_1_q t_images_0_secondEnds_q t_images_0_string_q t_images_1_secondEnds_q t_images_1_string_q t_now_secondEnds_q t_now_string_q : Nat) (t_keptImages : Int32) (t_tornFault : Int32) (t_images_0_barred : Int32) (t_images_0_period : Int32) (t_images_0_his : Int32) (t_images_0_beast : Int32) (t_images_0_habit : Int32) (t_images_0_onString : Int32) (t_images_0_step : Int32) (t_images_0_eaten : Int32) (t_images_0_secondEnds : Nat → Int32) (t_images_0_string : Nat → Int32) (t_images_1_barred : Int32) (t_images_1_period : Int32) (t_images_1_his : Int32) (t_images_1_beast : Int32) (t_images_1_habit : Int32) (t_images_1_onString : Int32) (t_images_1_step : Int32) (t_images_1_eaten : Int32) (t_images_1_secondEnds : Nat → Int32) (t_images_1_string : Nat → Int32) (t_now_barred : Int32) (t_now_period : Int32) (t_now_his : Int32) (t_now_beast : Int32) (t_now_habit : Int32) (t_now_onString : Int32) (t_now_step : Int32) (t_now_eaten : Int32) (t_now_secondEnds : Nat → Int32) (t_now_string : Nat → Int32) (p1 : Int32) (rr : Int32) (t_now_barred' : Int32) (t_now_beast' : Int32) (t_now_eaten' : Int32) (t_now_habit' : Int32) (t_now_his' : Int32) (t_now_onString' : Int32) (t_now_period' : Int32) (t_now_step' : Int32) (t_now_secondEnds' : Nat → Int32) (t_now_string' : Nat → Int32) (hf : f_X7_back t_keptImages t_images_0_barred t_images_0_period t_images_0_his t_images_0_beast t_images_0_habit t_images_0_onString t_images_0_step t_images_0_eaten t_images_0_secondEnds t_images_0_string t_images_1_barred t_images_1_period t_images_1_his t_images_1_beast t_images_1_habit t_images_1_onString t_images_1_step t_images_1_eaten t_images_1_secondEnds t_images_1_string t_now_barred t_now_period t_now_his t_now_beast t_now_habit t_now_onString t_now_step t_now_eaten t_now_secondEnds t_now_string p1 = some (rr, t_now_barred', t_now_beast', t_now_eaten', t_now_habit', t_now_his', t_now_onString', t_now_period', t_now_step', t_now_secondEnds', t_now_string')) : CI l yX7_back wsX7_back rmX7_back [.ref t_q, .int p1] g sz [oX7 t_q t_plan_q t_now_q t_ahead_q t_before_q t_images_q t_keptImages t_reader_q t_seen_q t_heard_q t_search_q t_passages_q t_sheets_q t_tornFault, aS g t_images_q 2 (va_up (va_up (fun _ => none) 0 (some t_images_0_q)) 1 (some t_images_1_q)), oX6 t_images_0_q t_plan_q t_images_0_secondEnds_q t_images_0_string_q t_images_0_barred t_images_0_period t_images_0_his t_images_0_beast t_images_0_habit t_images_0_onString t_images_0_step t_images_0_eaten, aI g t_images_0_secondEnds_q 10 t_images_0_secondEnds, aI g t_images_0_string_q 12 t_images_0_string, oX6 t_images_1_q t_plan_q t_images_1_secondEnds_q t_images_1_string_q t_images_1_barred t_images_1_period t_images_1_his t_images_1_beast t_images_1_habit t_images_1_onString t_images_1_step t_images_1_eaten, aI g t_images_1_secondEnds_q 10 t_images_1_secondEnds, aI g t_images_1_string_q 12 t_images_1_string, oX6 t_now_q t_plan_q t_now_secondEnds_q t_now_string_q t_now_barred t_now_period t_now_his t_now_beast t_now_habit t_now_onString t_now_step t_now_eaten, aI g t_now_secondEnds_q 10 t_now_secondEnds, aI g t_now_string_q 12 t_now_string] [oX7 t_q t_plan_q t_now_q t_ahead_q t_before_q t_images_q t_keptImages t_reader_q t_seen_q t_heard_q t_search_q t_passages_q t_sheets_q t_tornFault, aS g t_images_q 2 (va_up (va_up (fun _ => none) 0 (some t_images_0_q)) 1 (some t_images_1_q)), oX6 t_images_0_q t_plan_q t_images_0_secondEnds_q t_images_0_string_q t_images_0_barred t_images_0_period t_images_0_his t_images_0_beast t_images_0_habit t_images_0_onString t_images_0_step t_images_0_eaten, aI g t_images_0_secondEnds_q 10 t_images_0_secondEnds, aI g t_images_0_string_q 12 t_images_0_string, oX6 t_images_1_q t_plan_q t_images_1_secondEnds_q t_images_1_string_q t_images_1_barred t_images_1_period t_images_1_his t_images_1_beast t_images_1_habit t_images_1_onString t_images_1_step t_images_1_eaten, aI g t_images_1_secondEnds_q 10 t_images_1_secondEnds, aI g t_images_1_string_q 12 t_images_1_string, oX6 t_now_q t_plan_q t_now_secondEnds_q t_now_string_q t_now_barred' t_now_period' t_now_his' t_now_beast' t_now_habit' t_now_onString' t_now_step' t_now_eaten', aI g t_now_secondEnds_q 10 t_now_secondEnds', aI g t_now_string_q 12 t_now_string'] rr := by
  refine ent_i (cc := cX7_back) (maxL := 2) (by decide) rfl (Nat.le_of_ble_eq_true rfl) ?_
  intro p e s m args below meth c A Q hx hb hml hown hts hK hz hk hA hD hP hS hret ls hl
  have hown : s.vm.findClass RX7 = some m.cls := hown
  have inX6 : ∀ w ∈ u_ws RX6 TX6 11, w ∈ wsX7_back := by decide +kernel
  have inX7 : ∀ w ∈ u_ws RX7 TX7 13, w ∈ wsX7_back := by decide +kernel
  have k21 := hts (.fieldLink RX7 21 "ThreadMoved" "now" "LThreadMoved$State;") (by decide +kernel)
  have k31 := hts (.fieldLink RX7 31 "ThreadMoved" "images" "[LThreadMoved$State;") (by decide +kernel)
  have k131 := hts (.fieldLink RX7 131 "ThreadMoved$State" "step" "I") (by decide +kernel)
  have hl : lv_has ls 2 [(0, .ref t_q), (1, .int p1)] := hl
  have hret : ∀ (rrz : Int32) (t_now_barredz : Int32) (t_now_beastz : Int32) (t_now_eatenz : Int32) (t_now_habitz : Int32) (t_now_hisz : Int32) (t_now_onStringz : Int32) (t_now_periodz : Int32) (t_now_stepz : Int32) (t_now_secondEndsz : Nat → Int32) (t_now_stringz : Nat → Int32), (rrz, t_now_barredz, t_now_beastz, t_now_eatenz, t_now_habitz, t_now_hisz, t_now_onStringz, t_now_periodz, t_now_stepz, t_now_secondEndsz, t_now_stringz) = (rr, t_now_barred', t_now_beast', t_now_eaten', t_now_habit', t_now_his', t_now_onString', t_now_period', t_now_step', t_now_secondEnds', t_now_string') → ∀ (H : Heap) (locs : List Loc) (pc : Nat) (ls : Array Slot), va_P g.1 vwCl [oX7 t_q t_plan_q t_now_q t_ahead_q t_before_q t_images_q t_keptImages t_reader_q t_seen_q t_heard_q t_search_q t_passages_q t_sheets_q t_tornFault, aS g t_images_q 2 (va_up (va_up (fun _ => none) 0 (some t_images_0_q)) 1 (some t_images_1_q)), oX6 t_images_0_q t_plan_q t_images_0_secondEnds_q t_images_0_string_q t_images_0_barred t_images_0_period t_images_0_his t_images_0_beast t_images_0_habit t_images_0_onString t_images_0_step t_images_0_eaten, aI g t_images_0_secondEnds_q 10 t_images_0_secondEnds, aI g t_images_0_string_q 12 t_images_0_string, oX6 t_images_1_q t_plan_q t_images_1_secondEnds_q t_images_1_string_q t_images_1_barred t_images_1_period t_images_1_his t_images_1_beast t_images_1_habit t_images_1_onString t_images_1_step t_images_1_eaten, aI g t_images_1_secondEnds_q 10 t_images_1_secondEnds, aI g t_images_1_string_q 12 t_images_1_string, oX6 t_now_q t_plan_q t_now_secondEnds_q t_now_string_q t_now_barredz t_now_periodz t_now_hisz t_now_beastz t_now_habitz t_now_onStringz t_now_stepz t_now_eatenz, aI g t_now_secondEnds_q 10 t_now_secondEndsz, aI g t_now_string_q 12 t_now_stringz] H → va_S A s.heap H locs → decode cX7_back pc = .ok (.ireturn, 1) → W p l e rmX7_back s m args below meth c H locs 0 0 Q (F0 m pc ls [.int rrz]) := by
    intro rrz t_now_barredz t_now_beastz t_now_eatenz t_now_habitz t_now_hisz t_now_onStringz t_now_periodz t_now_stepz t_now_secondEndsz t_now_stringz he H locs pc ls hP hS hd
    cases he
    exact hret H locs pc ls hP hS hd
  unfold f_X7_back at hf
  refine lv_iload_n hx hb dX7_back_0 rfl (lv_at hl 1 rfl) ?_
  refine lv_iconst (v := (0 : Int32)) hx hb dX7_back_1 (by decide) ?_
  refine lv_aload_n hx hb dX7_back_2 rfl (lv_at hl 0 rfl) ?_
  refine va_get (D := g.1) (ci := 7) (v := .ref t_images_q) (C := RX7) (T := TX7) (N := 13) hx hb hts inX7 hown hK hP 0 rfl rfl 4 (by decide) k31 (fun _ h9 => h9) rfl dX7_back_3 ?_
  refine va_alen (v := (2 : Int32)) hx hb hK hP 1 3 rfl rfl rfl dX7_back_6 ?_
  refine lv_iconst (v := (1 : Int32)) hx hb dX7_back_7 (by decide) ?_
  refine lv_isub hx hb dX7_back_8 ?_
  obtain ⟨r_1, hc_2, hf⟩ := ob1_e hf
  refine kS_i (wn := [oX7 t_q t_plan_q t_now_q t_ahead_q t_before_q t_images_q t_keptImages t_reader_q t_seen_q t_heard_q t_search_q t_passages_q t_sheets_q t_tornFault, aS g t_images_q 2 (va_up (va_up (fun _ => none) 0 (some t_images_0_q)) 1 (some t_images_1_q)), oX6 t_images_0_q t_plan_q t_images_0_secondEnds_q t_images_0_string_q t_images_0_barred t_images_0_period t_images_0_his t_images_0_beast t_images_0_habit t_images_0_onString t_images_0_step t_images_0_eaten, aI g t_images_0_secondEnds_q 10 t_images_0_secondEnds, aI g t_images_0_string_q 12 t_images_0_string, oX6 t_images_1_q t_plan_q t_images_1_secondEnds_q t_images_1_string_q t_images_1_barred t_images_1_period t_images_1_his t_images_1_beast t_images_1_habit t_images_1_onString t_images_1_step t_images_1_eaten, aI g t_images_1_secondEnds_q 10 t_images_1_secondEnds, aI g t_images_1_string_q 12 t_images_1_string, oX6 t_now_q t_plan_q t_now_secondEnds_q t_now_string_q t_now_barred t_now_period t_now_his t_now_beast t_now_habit t_now_onString t_now_step t_now_eaten, aI g t_now_secondEnds_q 10 t_now_secondEnds, aI g t_now_string_q 12 t_now_string]) (As := [.int p1, .int (0 : Int32), .int ((2 : Int32) - (1 : Int32))]) (rest := []) (c_X7_isWithin l g _ p1 (0 : Int32) ((2 : Int32) - (1 : Int32)) r_1 hc_2) ⟨hx, hb, hml, hown, hts⟩ (va_cwS 3 hts gX7_back_X7_isWithin rfl rfl rfl (by decide +kernel) ⟨by decide, by decide⟩) hK hz hk hP (hD.re rfl) hS hA [] rfl rfl rfl rfl rfl hl.1 rfl (Nat.le_of_ble_eq_true rfl) dX7_back_9 (fun H locs hP hS => ?_)
  refine lv_if_ne (tgt := 17) hx hb dX7_back_12 (by decide) (fun c_3 => ?_) (fun c_3 => ?_)
  · have hf := ite_f hf c_3
    refine lv_aload_n hx hb dX7_back_17 rfl (lv_at hl 0 rfl) ?_
    refine lv_iload_n hx hb dX7_back_18 rfl (lv_at hl 1 rfl) ?_
    obtain ⟨r_4, hc_5, hf⟩ := ob1_e hf
    refine kV_i (wn := [oX7 t_q t_plan_q t_now_q t_ahead_q t_before_q t_images_q t_keptImages t_reader_q t_seen_q t_heard_q t_search_q t_passages_q t_sheets_q t_tornFault, aS g t_images_q 2 (va_up (va_up (fun _ => none) 0 (some t_images_0_q)) 1 (some t_images_1_q)), oX6 t_images_0_q t_plan_q t_images_0_secondEnds_q t_images_0_string_q t_images_0_barred t_images_0_period t_images_0_his t_images_0_beast t_images_0_habit t_images_0_onString t_images_0_step t_images_0_eaten, aI g t_images_0_secondEnds_q 10 t_images_0_secondEnds, aI g t_images_0_string_q 12 t_images_0_string, oX6 t_images_1_q t_plan_q t_images_1_secondEnds_q t_images_1_string_q t_images_1_barred t_images_1_period t_images_1_his t_images_1_beast t_images_1_habit t_images_1_onString t_images_1_step t_images_1_eaten, aI g t_images_1_secondEnds_q 10 t_images_1_secondEnds, aI g t_images_1_string_q 12 t_images_1_string, oX6 t_now_q t_plan_q t_now_secondEnds_q t_now_string_q t_now_barred t_now_period t_now_his t_now_beast t_now_habit t_now_onString t_now_step t_now_eaten, aI g t_now_secondEnds_q 10 t_now_secondEnds, aI g t_now_string_q 12 t_now_string]) (As := [.int p1]) (rest := []) (c_X7_hasImage l g _ t_q t_plan_q t_now_q t_ahead_q t_before_q t_images_q t_reader_q t_seen_q t_heard_q t_search_q t_passages_q t_sheets_q t_keptImages t_tornFault p1 r_4 hc_5) ⟨hx, hb, hml, hown, hts⟩ (cwV 1 hts gX7_back_X7_hasImage rfl rfl rfl (by decide +kernel) ⟨by decide, by decide⟩) hK hz hk hP (hD.re rfl) hS hA [0] rfl rfl rfl rfl rfl rfl rfl hl.1 rfl (Nat.le_of_ble_eq_true rfl) dX7_back_19 (fun H locs hP hS => ?_)
    refine lv_if_ne (tgt := 28) hx hb dX7_back_22 (by decide) (fun c_6 => ?_) (fun c_6 => ?_)
    · have hf := ite_f hf c_6
      refine lv_aload_n hx hb dX7_back_28 rfl (lv_at hl 0 rfl) ?_
      refine va_get (D := g.1) (ci := 7) (v := .ref t_now_q) (C := RX7) (T := TX7) (N := 13) hx hb hts inX7 hown hK hP 0 rfl rfl 1 (by decide) k21 (fun _ h9 => h9) rfl dX7_back_29 ?_
      refine lv_aload_n hx hb dX7_back_32 rfl (lv_at hl 0 rfl) ?_
      refine va_get (D := g.1) (ci := 7) (v := .ref t_images_q) (C := RX7) (T := TX7) (N := 13) hx hb hts inX7 hown hK hP 0 rfl rfl 4 (by decide) k31 (fun _ h9 => h9) rfl dX7_back_33 ?_
      refine lv_iload_n hx hb dX7_back_36 rfl (lv_at hl 1 rfl) ?_
      obtain ⟨h_7, hf⟩ := gin_e hf
      refine va_aldq hx hb hK hP 1 3 rfl rfl h_7 dX7_back_37 ?_
      by_cases c_8 : p1 = (0 : Int32)
      · have hf := ite_t hf c_8
        refine tp_v (show _ = Value.ref t_images_0_q by rw [c_8]; rfl) ?_
        obtain ⟨t_barred_9, t_beast_10, t_eaten_11, t_habit_12, t_his_13, t_onString_14, t_period_15, t_step_16, t_secondEnds_17, t_string_18, hc_19, hf⟩ := ob10_e hf
        refine kV_v (wn := [oX7 t_q t_plan_q t_now_q t_ahead_q t_before_q t_images_q t_keptImages t_reader_q t_seen_q t_heard_q t_search_q t_passages_q t_sheets_q t_tornFault, aS g t_images_q 2 (va_up (va_up (fun _ => none) 0 (some t_images_0_q)) 1 (some t_images_1_q)), oX6 t_images_0_q t_plan_q t_images_0_secondEnds_q t_images_0_string_q t_images_0_barred t_images_0_period t_images_0_his t_images_0_beast t_images_0_habit t_images_0_onString t_images_0_step t_images_0_eaten, aI g t_images_0_secondEnds_q 10 t_images_0_secondEnds, aI g t_images_0_string_q 12 t_images_0_string, oX6 t_images_1_q t_plan_q t_images_1_secondEnds_q t_images_1_string_q t_images_1_barred t_images_1_period t_images_1_his t_images_1_beast t_images_1_habit t_images_1_onString t_images_1_step t_images_1_eaten, aI g t_images_1_secondEnds_q 10 t_images_1_secondEnds, aI g t_images_1_string_q 12 t_images_1_string, oX6 t_now_q t_plan_q t_now_secondEnds_q t_now_string_q t_barred_9 t_period_15 t_his_13 t_beast_10 t_habit_12 t_onString_14 t_step_16 t_eaten_11, aI g t_now_secondEnds_q 10 t_secondEnds_17, aI g t_now_string_q 12 t_string_18]) (As := [.ref t_images_0_q]) (rest := []) (c_X6_copyFrom l g _ t_now_q t_plan_q t_now_secondEnds_q t_now_string_q t_images_0_q t_plan_q t_images_0_secondEnds_q t_images_0_string_q t_now_barred t_now_period t_now_his t_now_beast t_now_habit t_now_onString t_now_step t_now_eaten t_images_0_barred t_images_0_period t_images_0_his t_images_0_beast t_images_0_habit t_images_0_onString t_images_0_step t_images_0_eaten t_images_0_secondEnds t_images_0_string t_now_secondEnds t_now_string t_barred_9 t_beast_10 t_eaten_11 t_habit_12 t_his_13 t_onString_14 t_period_15 t_step_16 t_secondEnds_17 t_string_18 hc_19) ⟨hx, hb, hml, hown, hts⟩ (cwV 1 hts gX7_back_X6_copyFrom rfl rfl rfl (by decide +kernel) ⟨by decide, by decide⟩) hK hz hk hP (hD.re rfl) hS hA [8, 2, 3, 4, 9, 10] rfl rfl rfl rfl rfl rfl rfl hl.1 rfl (Nat.le_of_ble_eq_true rfl) dX7_back_38 (fun H locs hP hS => ?_)
        refine lv_aload_n hx hb dX7_back_41 rfl (lv_at hl 0 rfl) ?_
        refine va_get (D := g.1) (ci := 7) (v := .ref t_now_q) (C := RX7) (T := TX7) (N := 13) hx hb hts inX7 hown hK hP 0 rfl rfl 1 (by decide) k21 (fun _ h9 => h9) rfl dX7_back_42 ?_
        refine va_get (D := g.1) (ci := 6) (v := .int t_step_16) (C := RX6) (T := TX6) (N := 11) hx hb hts inX6 hown hK hP 8 rfl rfl 9 (by decide) k131 (fun _ h9 => h9) rfl dX7_back_45 ?_
        exact hret t_step_16 t_barred_9 t_beast_10 t_eaten_11 t_habit_12 t_his_13 t_onString_14 t_period_15 t_step_16 t_secondEnds_17 t_string_18 (Option.some.inj hf) _ _ _ _ hP hS dX7_back_48
      have hf := ite_f hf c_8
      by_cases c_20 : p1 = (1 : Int32)
      · have hf := ite_t hf c_20
        refine tp_v (show _ = Value.ref t_images_1_q by rw [c_20]; rfl) ?_
        obtain ⟨t_barred_21, t_beast_22, t_eaten_23, t_habit_24, t_his_25, t_onString_26, t_period_27, t_step_28, t_secondEnds_29, t_string_30, hc_31, hf⟩ := ob10_e hf
        refine kV_v (wn := [oX7 t_q t_plan_q t_now_q t_ahead_q t_before_q t_images_q t_keptImages t_reader_q t_seen_q t_heard_q t_search_q t_passages_q t_sheets_q t_tornFault, aS g t_images_q 2 (va_up (va_up (fun _ => none) 0 (some t_images_0_q)) 1 (some t_images_1_q)), oX6 t_images_0_q t_plan_q t_images_0_secondEnds_q t_images_0_string_q t_images_0_barred t_images_0_period t_images_0_his t_images_0_beast t_images_0_habit t_images_0_onString t_images_0_step t_images_0_eaten, aI g t_images_0_secondEnds_q 10 t_images_0_secondEnds, aI g t_images_0_string_q 12 t_images_0_string, oX6 t_images_1_q t_plan_q t_images_1_secondEnds_q t_images_1_string_q t_images_1_barred t_images_1_period t_images_1_his t_images_1_beast t_images_1_habit t_images_1_onString t_images_1_step t_images_1_eaten, aI g t_images_1_secondEnds_q 10 t_images_1_secondEnds, aI g t_images_1_string_q 12 t_images_1_string, oX6 t_now_q t_plan_q t_now_secondEnds_q t_now_string_q t_barred_21 t_period_27 t_his_25 t_beast_22 t_habit_24 t_onString_26 t_step_28 t_eaten_23, aI g t_now_secondEnds_q 10 t_secondEnds_29, aI g t_now_string_q 12 t_string_30]) (As := [.ref t_images_1_q]) (rest := []) (c_X6_copyFrom l g _ t_now_q t_plan_q t_now_secondEnds_q t_now_string_q t_images_1_q t_plan_q t_images_1_secondEnds_q t_images_1_string_q t_now_barred t_now_period t_now_his t_now_beast t_now_habit t_now_onString t_now_step t_now_eaten t_images_1_barred t_images_1_period t_images_1_his t_images_1_beast t_images_1_habit t_images_1_onString t_images_1_step t_images_1_eaten t_images_1_secondEnds t_images_1_string t_now_secondEnds t_now_string t_barred_21 t_beast_22 t_eaten_23 t_habit_24 t_his_25 t_onString_26 t_period_27 t_step_28 t_secondEnds_29 t_string_30 hc_31) ⟨hx, hb, hml, hown, hts⟩ (cwV 1 hts gX7_back_X6_copyFrom rfl rfl rfl (by decide +kernel) ⟨by decide, by decide⟩) hK hz hk hP (hD.re rfl) hS hA [8, 5, 6, 7, 9, 10] rfl rfl rfl rfl rfl rfl rfl hl.1 rfl (Nat.le_of_ble_eq_true rfl) dX7_back_38 (fun H locs hP hS => ?_)
        refine lv_aload_n hx hb dX7_back_41 rfl (lv_at hl 0 rfl) ?_
        refine va_get (D := g.1) (ci := 7) (v := .ref t_now_q) (C := RX7) (T := TX7) (N := 13) hx hb hts inX7 hown hK hP 0 rfl rfl 1 (by decide) k21 (fun _ h9 => h9) rfl dX7_back_42 ?_
        refine va_get (D := g.1) (ci := 6) (v := .int t_step_28) (C := RX6) (T := TX6) (N := 11) hx hb hts inX6 hown hK hP 8 rfl rfl 9 (by decide) k131 (fun _ h9 => h9) rfl dX7_back_45 ?_
        exact hret t_step_28 t_barred_21 t_beast_22 t_eaten_23 t_habit_24 t_his_25 t_onString_26 t_period_27 t_step_28 t_secondEnds_29 t_string_30 (Option.some.inj hf) _ _ _ _ hP hS dX7_back_48
      have hf := ite_f hf c_20
      cases hf
    · have hf := ite_t hf c_6
      refine lv_bipush (v := (-2 : Int32)) hx hb dX7_back_25 (by decide) ?_
      exact hret (-2 : Int32) t_now_barred t_now_beast t_now_eaten t_now_habit t_now_his t_now_onString t_now_period t_now_step t_now_secondEnds t_now_string (Option.some.inj hf) _ _ _ _ hP hS dX7_back_27
  · have hf := ite_t hf c_3
    refine lv_iconst (v := (-1 : Int32)) hx hb dX7_back_15 (by decide) ?_
    exact hret (-1 : Int32) t_now_barred t_now_beast t_now_eaten t_now_habit t_now_his t_now_onString t_now_period t_now_step t_now_secondEnds t_now_string (Option.some.inj hf) _ _ _ _ hP hS dX7_back_16

def f_X7_bar (t_now_barred : Int32) (t_plan_doorCount : Int32) (p1 : Int32) (p2 : Int32) : Option (Int32 × Int32) :=
 (ob1 (f_X2_hasDoor t_plan_doorCount p1) (fun r_1 =>
 (if r_1 = (0 : Int32) then
 (some ((-1 : Int32), t_now_barred))
 else (ob1 (f_X6_isBarred t_now_barred p1) (fun r_4 =>
 (jn1 (fun (t_now_barred_6 : Int32) => (ob1 (f_X7_asNumber r_4) (fun r_8 =>
 (some (r_8, t_now_barred_6))))) (fun j_7 =>
 (if r_4 = p2 then
 (j_7 t_now_barred)
 else (bnd (t_now_barred ^^^ ((1 : Int32) <<< (p1 &&& 31))) (fun t_now_barred_11 =>
 (j_7 t_now_barred_11)))))))))))
abbrev rmX7_bar : Room := { frames := 1, cells := 0, slots := 0, locals := 21 }
set_option maxHeartbeats 4000000 in
set_option maxRecDepth 100000 in
theorem c_X7_bar (l : Launch) (g : Gh) (sz : Nat) (t_q t_plan_q t_now_q t_ahead_q t_before_q t_images_q t_reader_q t_seen_q t_heard_q t_search_q t_passages_q t_sheets_q t_now_secondEnds_q t_now_string_q t_plan_firstEnds_q t_plan_rules_q : Nat) (t_keptImages : Int32) (t_tornFault : Int32) (t_now_barred : Int32) (t_now_period : Int32) (t_now_his : Int32) (t_now_beast : Int32) (t_now_habit : Int32) (t_now_onString : Int32) (t_now_step : Int32) (t_now_eaten : Int32) (t_plan_rooms : Int32) (t_plan_doorCount : Int32) (t_plan_ruleCount : Int32) (t_plan_stringLength : Int32) (p1 : Int32) (p2 : Int32) (rr : Int32) (t_now_barred' : Int32) (hf : f_X7_bar t_now_barred t_plan_doorCount p1 p2 = some (rr, t_now_barred')) : CI l yX7_bar wsX7_bar rmX7_bar [.ref t_q, .int p1, .int p2] g sz [oX7 t_q t_plan_q t_now_q t_ahead_q t_before_q t_images_q t_keptImages t_reader_q t_seen_q t_heard_q t_search_q t_passages_q t_sheets_q t_tornFault, oX6 t_now_q t_plan_q t_now_secondEnds_q t_now_string_q t_now_barred t_now_period t_now_his t_now_beast t_now_habit t_now_onString t_now_step t_now_eaten, oX2 t_plan_q t_plan_firstEnds_q t_plan_rules_q t_plan_rooms t_plan_doorCount t_plan_ruleCount t_plan_stringLength] [oX7 t_q t_plan_q t_now_q t_ahead_q t_before_q t_images_q t_keptImages t_reader_q t_seen_q t_heard_q t_search_q t_passages_q t_sheets_q t_tornFault, oX6 t_now_q t_plan_q t_now_secondEnds_q t_now_string_q t_now_barred' t_now_period t_now_his t_now_beast t_now_habit t_now_onString t_now_step t_now_eaten, oX2 t_plan_q t_plan_firstEnds_q t_plan_rules_q t_plan_rooms t_plan_doorCount t_plan_ruleCount t_plan_stringLength] rr := by
  refine ent_i (cc := cX7_bar) (maxL := 4) (by decide) rfl (Nat.le_of_ble_eq_true rfl) ?_
  intro p e s m args below meth c A Q hx hb hml hown hts hK hz hk hA hD hP hS hret ls hl
  have hown : s.vm.findClass RX7 = some m.cls := hown
  have inX6 : ∀ w ∈ u_ws RX6 TX6 11, w ∈ wsX7_bar := by decide +kernel
  have inX7 : ∀ w ∈ u_ws RX7 TX7 13, w ∈ wsX7_bar := by decide +kernel
  have k12 := hts (.fieldLink RX7 12 "ThreadMoved" "plan" "LThreadMoved$Plan;") (by decide +kernel)
  have k21 := hts (.fieldLink RX7 21 "ThreadMoved" "now" "LThreadMoved$State;") (by decide +kernel)
  have k173 := hts (.fieldLink RX7 173 "ThreadMoved$State" "barred" "I") (by decide +kernel)
  have hl : lv_has ls 4 [(0, .ref t_q), (1, .int p1), (2, .int p2)] := hl
  have hret : ∀ (rrz : Int32) (t_now_barredz : Int32), (rrz, t_now_barredz) = (rr, t_now_barred') → ∀ (H : Heap) (locs : List Loc) (pc : Nat) (ls : Array Slot), va_P g.1 vwCl [oX7 t_q t_plan_q t_now_q t_ahead_q t_before_q t_images_q t_keptImages t_reader_q t_seen_q t_heard_q t_search_q t_passages_q t_sheets_q t_tornFault, oX6 t_now_q t_plan_q t_now_secondEnds_q t_now_string_q t_now_barredz t_now_period t_now_his t_now_beast t_now_habit t_now_onString t_now_step t_now_eaten, oX2 t_plan_q t_plan_firstEnds_q t_plan_rules_q t_plan_rooms t_plan_doorCount t_plan_ruleCount t_plan_stringLength] H → va_S A s.heap H locs → decode cX7_bar pc = .ok (.ireturn, 1) → W p l e rmX7_bar s m args below meth c H locs 0 0 Q (F0 m pc ls [.int rrz]) := by
    intro rrz t_now_barredz he H locs pc ls hP hS hd
    cases he
    exact hret H locs pc ls hP hS hd
  unfold f_X7_bar at hf
  refine lv_aload_n hx hb dX7_bar_0 rfl (lv_at hl 0 rfl) ?_
  refine va_get (D := g.1) (ci := 7) (v := .ref t_plan_q) (C := RX7) (T := TX7) (N := 13) hx hb hts inX7 hown hK hP 0 rfl rfl 0 (by decide) k12 (fun _ h9 => h9) rfl dX7_bar_1 ?_
  refine lv_iload_n hx hb dX7_bar_4 rfl (lv_at hl 1 rfl) ?_
  obtain ⟨r_1, hc_2, hf⟩ := ob1_e hf
  refine kV_i (wn := [oX7 t_q t_plan_q t_now_q t_ahead_q t_before_q t_images_q t_keptImages t_reader_q t_seen_q t_heard_q t_search_q t_passages_q t_sheets_q t_tornFault, oX6 t_now_q t_plan_q t_now_secondEnds_q t_now_string_q t_now_barred t_now_period t_now_his t_now_beast t_now_habit t_now_onString t_now_step t_now_eaten, oX2 t_plan_q t_plan_firstEnds_q t_plan_rules_q t_plan_rooms t_plan_doorCount t_plan_ruleCount t_plan_stringLength]) (As := [.int p1]) (rest := []) (c_X2_hasDoor l g _ t_plan_q t_plan_firstEnds_q t_plan_rules_q t_plan_rooms t_plan_doorCount t_plan_ruleCount t_plan_stringLength p1 r_1 hc_2) ⟨hx, hb, hml, hown, hts⟩ (cwV 1 hts gX7_bar_X2_hasDoor rfl rfl rfl (by decide +kernel) ⟨by decide, by decide⟩) hK hz hk hP (hD.re rfl) hS hA [2] rfl rfl rfl rfl rfl rfl rfl hl.1 rfl (Nat.le_of_ble_eq_true rfl) dX7_bar_5 (fun H locs hP hS => ?_)
  refine lv_if_ne (tgt := 13) hx hb dX7_bar_8 (by decide) (fun c_3 => ?_) (fun c_3 => ?_)
  · have hf := ite_f hf c_3
    refine lv_aload_n hx hb dX7_bar_13 rfl (lv_at hl 0 rfl) ?_
    refine va_get (D := g.1) (ci := 7) (v := .ref t_now_q) (C := RX7) (T := TX7) (N := 13) hx hb hts inX7 hown hK hP 0 rfl rfl 1 (by decide) k21 (fun _ h9 => h9) rfl dX7_bar_14 ?_
    refine lv_iload_n hx hb dX7_bar_17 rfl (lv_at hl 1 rfl) ?_
    obtain ⟨r_4, hc_5, hf⟩ := ob1_e hf
    refine kV_i (wn := [oX7 t_q t_plan_q t_now_q t_ahead_q t_before_q t_images_q t_keptImages t_reader_q t_seen_q t_heard_q t_search_q t_passages_q t_sheets_q t_tornFault, oX6 t_now_q t_plan_q t_now_secondEnds_q t_now_string_q t_now_barred t_now_period t_now_his t_now_beast t_now_habit t_now_onString t_now_step t_now_eaten, oX2 t_plan_q t_plan_firstEnds_q t_plan_rules_q t_plan_rooms t_plan_doorCount t_plan_ruleCount t_plan_stringLength]) (As := [.int p1]) (rest := []) (c_X6_isBarred l g _ t_now_q t_plan_q t_now_secondEnds_q t_now_string_q t_now_barred t_now_period t_now_his t_now_beast t_now_habit t_now_onString t_now_step t_now_eaten p1 r_4 hc_5) ⟨hx, hb, hml, hown, hts⟩ (cwV 1 hts gX7_bar_X6_isBarred rfl rfl rfl (by decide +kernel) ⟨by decide, by decide⟩) hK hz hk hP (hD.re rfl) hS hA [1] rfl rfl rfl rfl rfl rfl rfl hl.1 rfl (Nat.le_of_ble_eq_true rfl) dX7_bar_18 (fun H locs hP hS => ?_)
    refine lv_istore_n (lv' := [(3, .int r_4), (0, .ref t_q), (1, .int p1), (2, .int p2)]) hx hb dX7_bar_21 rfl hl (by decide) rfl (fun ls hl => ?_)
    refine lv_iload_n hx hb dX7_bar_22 rfl (lv_at hl 0 rfl) ?_
    refine lv_iload_n hx hb dX7_bar_23 rfl (lv_at hl 3 rfl) ?_
    obtain ⟨j_7, hj_7, hf⟩ := jn1_e hf
    have J_7 : ∀ (t_now_barred_6 : Int32), j_7 t_now_barred_6 = some (rr, t_now_barred') → ∀ (H : Heap) (locs : List Loc) (ls : Array Slot), va_P g.1 vwCl [oX7 t_q t_plan_q t_now_q t_ahead_q t_before_q t_images_q t_keptImages t_reader_q t_seen_q t_heard_q t_search_q t_passages_q t_sheets_q t_tornFault, oX6 t_now_q t_plan_q t_now_secondEnds_q t_now_string_q t_now_barred_6 t_now_period t_now_his t_now_beast t_now_habit t_now_onString t_now_step t_now_eaten, oX2 t_plan_q t_plan_firstEnds_q t_plan_rules_q t_plan_rooms t_plan_doorCount t_plan_ruleCount t_plan_stringLength] H → va_S A s.heap H locs → lv_has ls 4 [(3, .int r_4)] → W p l e rmX7_bar s m args below meth c H locs 0 0 Q (F0 m 42 ls []) := by
      intro t_now_barred_6 hf H locs ls hP hS hl
      rw [hj_7] at hf
      refine lv_iload_n hx hb dX7_bar_42 rfl (lv_at hl 0 rfl) ?_
      obtain ⟨r_8, hc_9, hf⟩ := ob1_e hf
      refine kS_i (wn := [oX7 t_q t_plan_q t_now_q t_ahead_q t_before_q t_images_q t_keptImages t_reader_q t_seen_q t_heard_q t_search_q t_passages_q t_sheets_q t_tornFault, oX6 t_now_q t_plan_q t_now_secondEnds_q t_now_string_q t_now_barred_6 t_now_period t_now_his t_now_beast t_now_habit t_now_onString t_now_step t_now_eaten, oX2 t_plan_q t_plan_firstEnds_q t_plan_rules_q t_plan_rooms t_plan_doorCount t_plan_ruleCount t_plan_stringLength]) (As := [.int r_4]) (rest := []) (c_X7_asNumber l g _ r_4 r_8 hc_9) ⟨hx, hb, hml, hown, hts⟩ (va_cwS 1 hts gX7_bar_X7_asNumber rfl rfl rfl (by decide +kernel) ⟨by decide, by decide⟩) hK hz hk hP (hD.re rfl) hS hA [] rfl rfl rfl rfl rfl hl.1 rfl (Nat.le_of_ble_eq_true rfl) dX7_bar_43 (fun H locs hP hS => ?_)
      exact hret r_8 t_now_barred_6 (Option.some.inj hf) _ _ _ _ hP hS dX7_bar_46
    refine lv_icmp_eq (tgt := 42) hx hb dX7_bar_24 (by decide) (fun c_10 => ?_) (fun c_10 => ?_)
    · have hf := ite_t hf c_10
      exact J_7 t_now_barred hf _ _ _ hP hS (lv_sub hl [0] rfl)
    · have hf := ite_f hf c_10
      refine lv_aload_n hx hb dX7_bar_27 rfl (lv_at hl 1 rfl) ?_
      refine va_get (D := g.1) (ci := 7) (v := .ref t_now_q) (C := RX7) (T := TX7) (N := 13) hx hb hts inX7 hown hK hP 0 rfl rfl 1 (by decide) k21 (fun _ h9 => h9) rfl dX7_bar_28 ?_
      refine lv_dup hx hb dX7_bar_31 rfl ?_
      refine va_get (D := g.1) (ci := 6) (v := .int t_now_barred) (C := RX6) (T := TX6) (N := 11) hx hb hts inX6 hown hK hP 1 rfl rfl 3 (by decide) k173 (fun _ h9 => h9) rfl dX7_bar_32 ?_
      refine lv_iconst (v := (1 : Int32)) hx hb dX7_bar_35 (by decide) ?_
      refine lv_iload_n hx hb dX7_bar_36 rfl (lv_at hl 2 rfl) ?_
      refine lv_ishl hx hb dX7_bar_37 ?_
      refine lv_ixor hx hb dX7_bar_38 ?_
      obtain ⟨t_now_barred_11, et_now_barred_11, hf⟩ := bnd_e hf
      refine tp_i et_now_barred_11 ?_
      refine va_put (D := g.1) (ci := 6) (v := .int t_now_barred_11) (ty := .int) (C := RX6) (T := TX6) (N := 11) hx hb hts inX6 tyX6 tyX6_ok nmX6 hown hK hP (hD.re rfl) hS 1 rfl rfl 3 (by decide) k173 (fun _ h9 => h9) rfl (by decide +kernel) rfl rfl (Nat.le_of_ble_eq_true rfl) dX7_bar_39 (fun H locs hP _ hS => ?_)
      have hP : va_P g.1 vwCl [oX7 t_q t_plan_q t_now_q t_ahead_q t_before_q t_images_q t_keptImages t_reader_q t_seen_q t_heard_q t_search_q t_passages_q t_sheets_q t_tornFault, oX6 t_now_q t_plan_q t_now_secondEnds_q t_now_string_q t_now_barred_11 t_now_period t_now_his t_now_beast t_now_habit t_now_onString t_now_step t_now_eaten, oX2 t_plan_q t_plan_firstEnds_q t_plan_rules_q t_plan_rooms t_plan_doorCount t_plan_ruleCount t_plan_stringLength] H := hP
      exact J_7 t_now_barred_11 hf _ _ _ hP hS (lv_sub hl [0] rfl)
  · have hf := ite_t hf c_3
    refine lv_iconst (v := (-1 : Int32)) hx hb dX7_bar_11 (by decide) ?_
    exact hret (-1 : Int32) t_now_barred (Option.some.inj hf) _ _ _ _ hP hS dX7_bar_12

def f_X7_bite (t_now_onString : Int32) (p1 : Int32) : Option (Int32 × Int32) :=
 (ob1 (f_X7_isWithin p1 (0 : Int32) t_now_onString) (fun r_1 =>
 (if r_1 = (0 : Int32) then
 (some ((-1 : Int32), t_now_onString))
 else (some (t_now_onString, p1)))))
abbrev rmX7_bite : Room := { frames := 1, cells := 0, slots := 0, locals := 22 }
set_option maxHeartbeats 4000000 in
set_option maxRecDepth 100000 in
theorem c_X7_bite (l : Launch) (g : Gh) (sz : Nat) (t_q t_plan_q t_now_q t_ahead_q t_before_q t_images_q t_reader_q t_seen_q t_heard_q t_search_q t_passages_q t_sheets_q t_now_secondEnds_q t_now_string_q : Nat) (t_keptImages : Int32) (t_tornFault : Int32) (t_now_barred : Int32) (t_now_period : Int32) (t_now_his : Int32) (t_now_beast : Int32) (t_now_habit : Int32) (t_now_onString : Int32) (t_now_step : Int32) (t_now_eaten : Int32) (p1 : Int32) (rr : Int32) (t_now_onString' : Int32) (hf : f_X7_bite t_now_onString p1 = some (rr, t_now_onString')) : CI l yX7_bite wsX7_bite rmX7_bite [.ref t_q, .int p1] g sz [oX7 t_q t_plan_q t_now_q t_ahead_q t_before_q t_images_q t_keptImages t_reader_q t_seen_q t_heard_q t_search_q t_passages_q t_sheets_q t_tornFault, oX6 t_now_q t_plan_q t_now_secondEnds_q t_now_string_q t_now_barred t_now_period t_now_his t_now_beast t_now_habit t_now_onString t_now_step t_now_eaten] [oX7 t_q t_plan_q t_now_q t_ahead_q t_before_q t_images_q t_keptImages t_reader_q t_seen_q t_heard_q t_search_q t_passages_q t_sheets_q t_tornFault, oX6 t_now_q t_plan_q t_now_secondEnds_q t_now_string_q t_now_barred t_now_period t_now_his t_now_beast t_now_habit t_now_onString' t_now_step t_now_eaten] rr := by
  refine ent_i (cc := cX7_bite) (maxL := 3) (by decide) rfl (Nat.le_of_ble_eq_true rfl) ?_
  intro p e s m args below meth c A Q hx hb hml hown hts hK hz hk hA hD hP hS hret ls hl
  have hown : s.vm.findClass RX7 = some m.cls := hown
  have inX6 : ∀ w ∈ u_ws RX6 TX6 11, w ∈ wsX7_bite := by decide +kernel
  have inX7 : ∀ w ∈ u_ws RX7 TX7 13, w ∈ wsX7_bite := by decide +kernel
  have k21 := hts (.fieldLink RX7 21 "ThreadMoved" "now" "LThreadMoved$State;") (by decide +kernel)
  have k179 := hts (.fieldLink RX7 179 "ThreadMoved$State" "onString" "I") (by decide +kernel)
  have hl : lv_has ls 3 [(0, .ref t_q), (1, .int p1)] := hl
  have hret : ∀ (rrz : Int32) (t_now_onStringz : Int32), (rrz, t_now_onStringz) = (rr, t_now_onString') → ∀ (H : Heap) (locs : List Loc) (pc : Nat) (ls : Array Slot), va_P g.1 vwCl [oX7 t_q t_plan_q t_now_q t_ahead_q t_before_q t_images_q t_keptImages t_reader_q t_seen_q t_heard_q t_search_q t_passages_q t_sheets_q t_tornFault, oX6 t_now_q t_plan_q t_now_secondEnds_q t_now_string_q t_now_barred t_now_period t_now_his t_now_beast t_now_habit t_now_onStringz t_now_step t_now_eaten] H → va_S A s.heap H locs → decode cX7_bite pc = .ok (.ireturn, 1) → W p l e rmX7_bite s m args below meth c H locs 0 0 Q (F0 m pc ls [.int rrz]) := by
    intro rrz t_now_onStringz he H locs pc ls hP hS hd
    cases he
    exact hret H locs pc ls hP hS hd
  unfold f_X7_bite at hf
  refine lv_iload_n hx hb dX7_bite_0 rfl (lv_at hl 1 rfl) ?_
  refine lv_iconst (v := (0 : Int32)) hx hb dX7_bite_1 (by decide) ?_
  refine lv_aload_n hx hb dX7_bite_2 rfl (lv_at hl 0 rfl) ?_
  refine va_get (D := g.1) (ci := 7) (v := .ref t_now_q) (C := RX7) (T := TX7) (N := 13) hx hb hts inX7 hown hK hP 0 rfl rfl 1 (by decide) k21 (fun _ h9 => h9) rfl dX7_bite_3 ?_
  refine va_get (D := g.1) (ci := 6) (v := .int t_now_onString) (C := RX6) (T := TX6) (N := 11) hx hb hts inX6 hown hK hP 1 rfl rfl 8 (by decide) k179 (fun _ h9 => h9) rfl dX7_bite_6 ?_
  obtain ⟨r_1, hc_2, hf⟩ := ob1_e hf
  refine kS_i (wn := [oX7 t_q t_plan_q t_now_q t_ahead_q t_before_q t_images_q t_keptImages t_reader_q t_seen_q t_heard_q t_search_q t_passages_q t_sheets_q t_tornFault, oX6 t_now_q t_plan_q t_now_secondEnds_q t_now_string_q t_now_barred t_now_period t_now_his t_now_beast t_now_habit t_now_onString t_now_step t_now_eaten]) (As := [.int p1, .int (0 : Int32), .int t_now_onString]) (rest := []) (c_X7_isWithin l g _ p1 (0 : Int32) t_now_onString r_1 hc_2) ⟨hx, hb, hml, hown, hts⟩ (va_cwS 3 hts gX7_bite_X7_isWithin rfl rfl rfl (by decide +kernel) ⟨by decide, by decide⟩) hK hz hk hP (hD.re rfl) hS hA [] rfl rfl rfl rfl rfl hl.1 rfl (Nat.le_of_ble_eq_true rfl) dX7_bite_9 (fun H locs hP hS => ?_)
  refine lv_if_ne (tgt := 17) hx hb dX7_bite_12 (by decide) (fun c_3 => ?_) (fun c_3 => ?_)
  · have hf := ite_f hf c_3
    refine lv_aload_n hx hb dX7_bite_17 rfl (lv_at hl 0 rfl) ?_
    refine va_get (D := g.1) (ci := 7) (v := .ref t_now_q) (C := RX7) (T := TX7) (N := 13) hx hb hts inX7 hown hK hP 0 rfl rfl 1 (by decide) k21 (fun _ h9 => h9) rfl dX7_bite_18 ?_
    refine va_get (D := g.1) (ci := 6) (v := .int t_now_onString) (C := RX6) (T := TX6) (N := 11) hx hb hts inX6 hown hK hP 1 rfl rfl 8 (by decide) k179 (fun _ h9 => h9) rfl dX7_bite_21 ?_
    refine lv_istore_n (lv' := [(2, .int t_now_onString), (0, .ref t_q), (1, .int p1)]) hx hb dX7_bite_24 rfl hl (by decide) rfl (fun ls hl => ?_)
    refine lv_aload_n hx hb dX7_bite_25 rfl (lv_at hl 1 rfl) ?_
    refine va_get (D := g.1) (ci := 7) (v := .ref t_now_q) (C := RX7) (T := TX7) (N := 13) hx hb hts inX7 hown hK hP 0 rfl rfl 1 (by decide) k21 (fun _ h9 => h9) rfl dX7_bite_26 ?_
    refine lv_iload_n hx hb dX7_bite_29 rfl (lv_at hl 2 rfl) ?_
    refine va_put (D := g.1) (ci := 6) (v := .int p1) (ty := .int) (C := RX6) (T := TX6) (N := 11) hx hb hts inX6 tyX6 tyX6_ok nmX6 hown hK hP (hD.re rfl) hS 1 rfl rfl 8 (by decide) k179 (fun _ h9 => h9) rfl (by decide +kernel) rfl rfl (Nat.le_of_ble_eq_true rfl) dX7_bite_30 (fun H locs hP _ hS => ?_)
    have hP : va_P g.1 vwCl [oX7 t_q t_plan_q t_now_q t_ahead_q t_before_q t_images_q t_keptImages t_reader_q t_seen_q t_heard_q t_search_q t_passages_q t_sheets_q t_tornFault, oX6 t_now_q t_plan_q t_now_secondEnds_q t_now_string_q t_now_barred t_now_period t_now_his t_now_beast t_now_habit p1 t_now_step t_now_eaten] H := hP
    refine lv_iload_n hx hb dX7_bite_33 rfl (lv_at hl 0 rfl) ?_
    exact hret t_now_onString p1 (Option.some.inj hf) _ _ _ _ hP hS dX7_bite_34
  · have hf := ite_t hf c_3
    refine lv_iconst (v := (-1 : Int32)) hx hb dX7_bite_15 (by decide) ?_
    exact hret (-1 : Int32) t_now_onString (Option.some.inj hf) _ _ _ _ hP hS dX7_bite_16

def f_X7_count (t_keptImages : Int32) (t_heard_size : Int32) (t_now_barred : Int32) (t_now_onString : Int32) (t_reader_length : Int32) (t_seen_size : Int32) (t_sheets_0_size : Int32) (p1 : Int32) : Option (Int32) :=
 (if p1 = (0 : Int32) then
 (some t_now_onString)
 else (if p1 = (1 : Int32) then
 (some t_seen_size)
 else (if p1 = (2 : Int32) then
 (some t_heard_size)
 else (if p1 = (3 : Int32) then
 (ob1 (f_J6_bitCount_0f7a4 t_keptImages) (fun r_5 =>
 (some r_5)))
 else (if p1 = (4 : Int32) then
 (some t_reader_length)
 else (if p1 = (5 : Int32) then
 (gin (0 : Int32) 4 (some t_sheets_0_size))
 else (if p1 = (6 : Int32) then
 (ob1 (f_J6_bitCount_0f7a4 t_now_barred) (fun r_11 =>
 (some r_11)))
 else (some (-1 : Int32)))))))))
abbrev rmX7_count : Room := { frames := 1, cells := 0, slots := 0, locals := 20 }
set_option maxHeartbeats 4000000 in
set_option maxRecDepth 100000 in
theorem c_X7_count (l : Launch) (g : Gh) (sz : Nat) (t_q t_plan_q t_now_q t_ahead_q t_before_q t_images_q t_reader_q t_seen_q t_heard_q t_search_q t_passages_q t_sheets_q t_heard_times_q t_heard_subjects_q t_heard_values_q t_now_secondEnds_q t_now_string_q t_reader_plan_q t_reader_state_q t_reader_tape_q t_seen_times_q t_seen_subjects_q t_seen_values_q t_sheets_0_q t_sheets_1_q t_sheets_2_q t_sheets_3_q t_sheets_0_cells_q t_sheets_1_cells_q t_sheets_2_cells_q t_sheets_3_cells_q : Nat) (t_keptImages : Int32) (t_tornFault : Int32) (t_heard_size : Int32) (t_now_barred : Int32) (t_now_period : Int32) (t_now_his : Int32) (t_now_beast : Int32) (t_now_habit : Int32) (t_now_onString : Int32) (t_now_step : Int32) (t_now_eaten : Int32) (t_reader_length : Int32) (t_reader_fault : Int32) (t_reader_faultPlace : Int32) (t_reader_lines : Int32) (t_reader_place : Int32) (t_reader_kind : Int32) (t_reader_start : Int32) (t_reader_value : Int32) (t_reader_told : Int32) (t_seen_size : Int32) (t_sheets_0_lane : Int32) (t_sheets_0_size : Int32) (t_sheets_1_lane : Int32) (t_sheets_1_size : Int32) (t_sheets_2_lane : Int32) (t_sheets_2_size : Int32) (t_sheets_3_lane : Int32) (t_sheets_3_size : Int32) (p1 : Int32) (rr : Int32) (hf : f_X7_count t_keptImages t_heard_size t_now_barred t_now_onString t_reader_length t_seen_size t_sheets_0_size p1 = some rr) : CI l yX7_count wsX7_count rmX7_count [.ref t_q, .int p1] g sz [oX7 t_q t_plan_q t_now_q t_ahead_q t_before_q t_images_q t_keptImages t_reader_q t_seen_q t_heard_q t_search_q t_passages_q t_sheets_q t_tornFault, oX0 t_heard_q t_heard_times_q t_heard_subjects_q t_heard_values_q t_heard_size, oX6 t_now_q t_plan_q t_now_secondEnds_q t_now_string_q t_now_barred t_now_period t_now_his t_now_beast t_now_habit t_now_onString t_now_step t_now_eaten, oX3 t_reader_q t_reader_plan_q t_reader_state_q t_reader_length t_reader_fault t_reader_faultPlace t_reader_lines t_reader_tape_q t_reader_place t_reader_kind t_reader_start t_reader_value t_reader_told, oX0 t_seen_q t_seen_times_q t_seen_subjects_q t_seen_values_q t_seen_size, aH g t_sheets_q 4 (va_up (va_up (va_up (va_up (fun _ => none) 0 (some t_sheets_0_q)) 1 (some t_sheets_1_q)) 2 (some t_sheets_2_q)) 3 (some t_sheets_3_q)), oX5 t_sheets_0_q t_sheets_0_cells_q t_sheets_0_lane t_sheets_0_size, oX5 t_sheets_1_q t_sheets_1_cells_q t_sheets_1_lane t_sheets_1_size, oX5 t_sheets_2_q t_sheets_2_cells_q t_sheets_2_lane t_sheets_2_size, oX5 t_sheets_3_q t_sheets_3_cells_q t_sheets_3_lane t_sheets_3_size] [oX7 t_q t_plan_q t_now_q t_ahead_q t_before_q t_images_q t_keptImages t_reader_q t_seen_q t_heard_q t_search_q t_passages_q t_sheets_q t_tornFault, oX0 t_heard_q t_heard_times_q t_heard_subjects_q t_heard_values_q t_heard_size, oX6 t_now_q t_plan_q t_now_secondEnds_q t_now_string_q t_now_barred t_now_period t_now_his t_now_beast t_now_habit t_now_onString t_now_step t_now_eaten, oX3 t_reader_q t_reader_plan_q t_reader_state_q t_reader_length t_reader_fault t_reader_faultPlace t_reader_lines t_reader_tape_q t_reader_place t_reader_kind t_reader_start t_reader_value t_reader_told, oX0 t_seen_q t_seen_times_q t_seen_subjects_q t_seen_values_q t_seen_size, aH g t_sheets_q 4 (va_up (va_up (va_up (va_up (fun _ => none) 0 (some t_sheets_0_q)) 1 (some t_sheets_1_q)) 2 (some t_sheets_2_q)) 3 (some t_sheets_3_q)), oX5 t_sheets_0_q t_sheets_0_cells_q t_sheets_0_lane t_sheets_0_size, oX5 t_sheets_1_q t_sheets_1_cells_q t_sheets_1_lane t_sheets_1_size, oX5 t_sheets_2_q t_sheets_2_cells_q t_sheets_2_lane t_sheets_2_size, oX5 t_sheets_3_q t_sheets_3_cells_q t_sheets_3_lane t_sheets_3_size] rr := by
  refine ent_i (cc := cX7_count) (maxL := 2) (by decide) rfl (Nat.le_of_ble_eq_true rfl) ?_
  intro p e s m args below meth c A Q hx hb hml hown hts hK hz hk hA hD hP hS hret ls hl
  have hown : s.vm.findClass RX7 = some m.cls := hown
  have inX0 : ∀ w ∈ u_ws RX0 TX0 4, w ∈ wsX7_count := by decide +kernel
  have inX3 : ∀ w ∈ u_ws RX3 TX3 12, w ∈ wsX7_count := by decide +kernel
  have inX5 : ∀ w ∈ u_ws RX5 TX5 3, w ∈ wsX7_count := by decide +kernel
  have inX6 : ∀ w ∈ u_ws RX6 TX6 11, w ∈ wsX7_count := by decide +kernel
  have inX7 : ∀ w ∈ u_ws RX7 TX7 13, w ∈ wsX7_count := by decide +kernel
  have k21 := hts (.fieldLink RX7 21 "ThreadMoved" "now" "LThreadMoved$State;") (by decide +kernel)
  have k35 := hts (.fieldLink RX7 35 "ThreadMoved" "keptImages" "I") (by decide +kernel)
  have k42 := hts (.fieldLink RX7 42 "ThreadMoved" "reader" "LThreadMoved$Reader;") (by decide +kernel)
  have k49 := hts (.fieldLink RX7 49 "ThreadMoved" "seen" "LThreadMoved$Notes;") (by decide +kernel)
  have k53 := hts (.fieldLink RX7 53 "ThreadMoved" "heard" "LThreadMoved$Notes;") (by decide +kernel)
  have k72 := hts (.fieldLink RX7 72 "ThreadMoved" "sheets" "[LThreadMoved$Sheet;") (by decide +kernel)
  have k84 := hts (.fieldLink RX7 84 "ThreadMoved$Reader" "length" "I") (by decide +kernel)
  have k110 := hts (.fieldLink RX7 110 "ThreadMoved$Notes" "size" "I") (by decide +kernel)
  have k173 := hts (.fieldLink RX7 173 "ThreadMoved$State" "barred" "I") (by decide +kernel)
  have k179 := hts (.fieldLink RX7 179 "ThreadMoved$State" "onString" "I") (by decide +kernel)
  have k306 := hts (.fieldLink RX7 306 "ThreadMoved$Sheet" "size" "I") (by decide +kernel)
  have hl : lv_has ls 2 [(0, .ref t_q), (1, .int p1)] := hl
  have hret : ∀ (rrz : Int32), rrz = rr → ∀ (H : Heap) (locs : List Loc) (pc : Nat) (ls : Array Slot), va_P g.1 vwCl [oX7 t_q t_plan_q t_now_q t_ahead_q t_before_q t_images_q t_keptImages t_reader_q t_seen_q t_heard_q t_search_q t_passages_q t_sheets_q t_tornFault, oX0 t_heard_q t_heard_times_q t_heard_subjects_q t_heard_values_q t_heard_size, oX6 t_now_q t_plan_q t_now_secondEnds_q t_now_string_q t_now_barred t_now_period t_now_his t_now_beast t_now_habit t_now_onString t_now_step t_now_eaten, oX3 t_reader_q t_reader_plan_q t_reader_state_q t_reader_length t_reader_fault t_reader_faultPlace t_reader_lines t_reader_tape_q t_reader_place t_reader_kind t_reader_start t_reader_value t_reader_told, oX0 t_seen_q t_seen_times_q t_seen_subjects_q t_seen_values_q t_seen_size, aH g t_sheets_q 4 (va_up (va_up (va_up (va_up (fun _ => none) 0 (some t_sheets_0_q)) 1 (some t_sheets_1_q)) 2 (some t_sheets_2_q)) 3 (some t_sheets_3_q)), oX5 t_sheets_0_q t_sheets_0_cells_q t_sheets_0_lane t_sheets_0_size, oX5 t_sheets_1_q t_sheets_1_cells_q t_sheets_1_lane t_sheets_1_size, oX5 t_sheets_2_q t_sheets_2_cells_q t_sheets_2_lane t_sheets_2_size, oX5 t_sheets_3_q t_sheets_3_cells_q t_sheets_3_lane t_sheets_3_size] H → va_S A s.heap H locs → decode cX7_count pc = .ok (.ireturn, 1) → W p l e rmX7_count s m args below meth c H locs 0 0 Q (F0 m pc ls [.int rrz]) := by
    intro rrz he H locs pc ls hP hS hd
    cases he
    exact hret H locs pc ls hP hS hd
  unfold f_X7_count at hf
  refine lv_iload_n hx hb dX7_count_0 rfl (lv_at hl 1 rfl) ?_
  by_cases c_1 : p1 = (0 : Int32)
  · have hf := ite_t hf c_1
    refine lv_tableIn (off := 43) (tgt := 44) hx hb dX7_count_1 (by rw [c_1]; decide) (by rw [c_1]; decide) (by rw [c_1]; rfl) (by decide) ?_
    refine lv_aload_n hx hb dX7_count_44 rfl (lv_at hl 0 rfl) ?_
    refine va_get (D := g.1) (ci := 7) (v := .ref t_now_q) (C := RX7) (T := TX7) (N := 13) hx hb hts inX7 hown hK hP 0 rfl rfl 1 (by decide) k21 (fun _ h9 => h9) rfl dX7_count_45 ?_
    refine va_get (D := g.1) (ci := 6) (v := .int t_now_onString) (C := RX6) (T := TX6) (N := 11) hx hb hts inX6 hown hK hP 2 rfl rfl 8 (by decide) k179 (fun _ h9 => h9) rfl dX7_count_48 ?_
    exact hret t_now_onString (Option.some.inj hf) _ _ _ _ hP hS dX7_count_51
  have hf := ite_f hf c_1
  by_cases c_2 : p1 = (1 : Int32)
  · have hf := ite_t hf c_2
    refine lv_tableIn (off := 51) (tgt := 52) hx hb dX7_count_1 (by rw [c_2]; decide) (by rw [c_2]; decide) (by rw [c_2]; rfl) (by decide) ?_
    refine lv_aload_n hx hb dX7_count_52 rfl (lv_at hl 0 rfl) ?_
    refine va_get (D := g.1) (ci := 7) (v := .ref t_seen_q) (C := RX7) (T := TX7) (N := 13) hx hb hts inX7 hown hK hP 0 rfl rfl 7 (by decide) k49 (fun _ h9 => h9) rfl dX7_count_53 ?_
    refine va_get (D := g.1) (ci := 0) (v := .int t_seen_size) (C := RX0) (T := TX0) (N := 4) hx hb hts inX0 hown hK hP 4 rfl rfl 3 (by decide) k110 (fun _ h9 => h9) rfl dX7_count_56 ?_
    exact hret t_seen_size (Option.some.inj hf) _ _ _ _ hP hS dX7_count_59
  have hf := ite_f hf c_2
  by_cases c_3 : p1 = (2 : Int32)
  · have hf := ite_t hf c_3
    refine lv_tableIn (off := 59) (tgt := 60) hx hb dX7_count_1 (by rw [c_3]; decide) (by rw [c_3]; decide) (by rw [c_3]; rfl) (by decide) ?_
    refine lv_aload_n hx hb dX7_count_60 rfl (lv_at hl 0 rfl) ?_
    refine va_get (D := g.1) (ci := 7) (v := .ref t_heard_q) (C := RX7) (T := TX7) (N := 13) hx hb hts inX7 hown hK hP 0 rfl rfl 8 (by decide) k53 (fun _ h9 => h9) rfl dX7_count_61 ?_
    refine va_get (D := g.1) (ci := 0) (v := .int t_heard_size) (C := RX0) (T := TX0) (N := 4) hx hb hts inX0 hown hK hP 1 rfl rfl 3 (by decide) k110 (fun _ h9 => h9) rfl dX7_count_64 ?_
    exact hret t_heard_size (Option.some.inj hf) _ _ _ _ hP hS dX7_count_67
  have hf := ite_f hf c_3
  by_cases c_4 : p1 = (3 : Int32)
  · have hf := ite_t hf c_4
    refine lv_tableIn (off := 67) (tgt := 68) hx hb dX7_count_1 (by rw [c_4]; decide) (by rw [c_4]; decide) (by rw [c_4]; rfl) (by decide) ?_
    refine lv_aload_n hx hb dX7_count_68 rfl (lv_at hl 0 rfl) ?_
    refine va_get (D := g.1) (ci := 7) (v := .int t_keptImages) (C := RX7) (T := TX7) (N := 13) hx hb hts inX7 hown hK hP 0 rfl rfl 5 (by decide) k35 (fun _ h9 => h9) rfl dX7_count_69 ?_
    obtain ⟨r_5, hc_6, hf⟩ := ob1_e hf
    refine kS_i (wn := [oX7 t_q t_plan_q t_now_q t_ahead_q t_before_q t_images_q t_keptImages t_reader_q t_seen_q t_heard_q t_search_q t_passages_q t_sheets_q t_tornFault, oX0 t_heard_q t_heard_times_q t_heard_subjects_q t_heard_values_q t_heard_size, oX6 t_now_q t_plan_q t_now_secondEnds_q t_now_string_q t_now_barred t_now_period t_now_his t_now_beast t_now_habit t_now_onString t_now_step t_now_eaten, oX3 t_reader_q t_reader_plan_q t_reader_state_q t_reader_length t_reader_fault t_reader_faultPlace t_reader_lines t_reader_tape_q t_reader_place t_reader_kind t_reader_start t_reader_value t_reader_told, oX0 t_seen_q t_seen_times_q t_seen_subjects_q t_seen_values_q t_seen_size, aH g t_sheets_q 4 (va_up (va_up (va_up (va_up (fun _ => none) 0 (some t_sheets_0_q)) 1 (some t_sheets_1_q)) 2 (some t_sheets_2_q)) 3 (some t_sheets_3_q)), oX5 t_sheets_0_q t_sheets_0_cells_q t_sheets_0_lane t_sheets_0_size, oX5 t_sheets_1_q t_sheets_1_cells_q t_sheets_1_lane t_sheets_1_size, oX5 t_sheets_2_q t_sheets_2_cells_q t_sheets_2_lane t_sheets_2_size, oX5 t_sheets_3_q t_sheets_3_cells_q t_sheets_3_lane t_sheets_3_size]) (As := [.int t_keptImages]) (rest := []) (c_J6_bitCount_0f7a4 l g _ t_keptImages r_5 hc_6) ⟨hx, hb, hml, hown, hts⟩ (va_cwS 1 hts gX7_count_J6_bitCount_0f7a4 rfl rfl rfl (by decide +kernel) ⟨by decide, by decide⟩) hK hz hk hP (hD.re rfl) hS hA [] rfl rfl rfl rfl rfl hl.1 rfl (Nat.le_of_ble_eq_true rfl) dX7_count_72 (fun H locs hP hS => ?_)
    exact hret r_5 (Option.some.inj hf) _ _ _ _ hP hS dX7_count_75
  have hf := ite_f hf c_4
  by_cases c_7 : p1 = (4 : Int32)
  · have hf := ite_t hf c_7
    refine lv_tableIn (off := 75) (tgt := 76) hx hb dX7_count_1 (by rw [c_7]; decide) (by rw [c_7]; decide) (by rw [c_7]; rfl) (by decide) ?_
    refine lv_aload_n hx hb dX7_count_76 rfl (lv_at hl 0 rfl) ?_
    refine va_get (D := g.1) (ci := 7) (v := .ref t_reader_q) (C := RX7) (T := TX7) (N := 13) hx hb hts inX7 hown hK hP 0 rfl rfl 6 (by decide) k42 (fun _ h9 => h9) rfl dX7_count_77 ?_
    refine va_get (D := g.1) (ci := 3) (v := .int t_reader_length) (C := RX3) (T := TX3) (N := 12) hx hb hts inX3 hown hK hP 3 rfl rfl 2 (by decide) k84 (fun _ h9 => h9) rfl dX7_count_80 ?_
    exact hret t_reader_length (Option.some.inj hf) _ _ _ _ hP hS dX7_count_83
  have hf := ite_f hf c_7
  by_cases c_8 : p1 = (5 : Int32)
  · have hf := ite_t hf c_8
    refine lv_tableIn (off := 83) (tgt := 84) hx hb dX7_count_1 (by rw [c_8]; decide) (by rw [c_8]; decide) (by rw [c_8]; rfl) (by decide) ?_
    refine lv_aload_n hx hb dX7_count_84 rfl (lv_at hl 0 rfl) ?_
    refine va_get (D := g.1) (ci := 7) (v := .ref t_sheets_q) (C := RX7) (T := TX7) (N := 13) hx hb hts inX7 hown hK hP 0 rfl rfl 11 (by decide) k72 (fun _ h9 => h9) rfl dX7_count_85 ?_
    refine lv_iconst (v := (0 : Int32)) hx hb dX7_count_88 (by decide) ?_
    obtain ⟨h_9, hf⟩ := gin_e hf
    refine va_aldq hx hb hK hP 5 4 rfl rfl h_9 dX7_count_89 ?_
    refine W.eq (g2 := F0 m 90 ls [.ref t_sheets_0_q]) rfl ?_
    refine va_get (D := g.1) (ci := 5) (v := .int t_sheets_0_size) (C := RX5) (T := TX5) (N := 3) hx hb hts inX5 hown hK hP 6 rfl rfl 2 (by decide) k306 (fun _ h9 => h9) rfl dX7_count_90 ?_
    exact hret t_sheets_0_size (Option.some.inj hf) _ _ _ _ hP hS dX7_count_93
  have hf := ite_f hf c_8
  by_cases c_10 : p1 = (6 : Int32)
  · have hf := ite_t hf c_10
    refine lv_tableIn (off := 93) (tgt := 94) hx hb dX7_count_1 (by rw [c_10]; decide) (by rw [c_10]; decide) (by rw [c_10]; rfl) (by decide) ?_
    refine lv_aload_n hx hb dX7_count_94 rfl (lv_at hl 0 rfl) ?_
    refine va_get (D := g.1) (ci := 7) (v := .ref t_now_q) (C := RX7) (T := TX7) (N := 13) hx hb hts inX7 hown hK hP 0 rfl rfl 1 (by decide) k21 (fun _ h9 => h9) rfl dX7_count_95 ?_
    refine va_get (D := g.1) (ci := 6) (v := .int t_now_barred) (C := RX6) (T := TX6) (N := 11) hx hb hts inX6 hown hK hP 2 rfl rfl 3 (by decide) k173 (fun _ h9 => h9) rfl dX7_count_98 ?_
    obtain ⟨r_11, hc_12, hf⟩ := ob1_e hf
    refine kS_i (wn := [oX7 t_q t_plan_q t_now_q t_ahead_q t_before_q t_images_q t_keptImages t_reader_q t_seen_q t_heard_q t_search_q t_passages_q t_sheets_q t_tornFault, oX0 t_heard_q t_heard_times_q t_heard_subjects_q t_heard_values_q t_heard_size, oX6 t_now_q t_plan_q t_now_secondEnds_q t_now_string_q t_now_barred t_now_period t_now_his t_now_beast t_now_habit t_now_onString t_now_step t_now_eaten, oX3 t_reader_q t_reader_plan_q t_reader_state_q t_reader_length t_reader_fault t_reader_faultPlace t_reader_lines t_reader_tape_q t_reader_place t_reader_kind t_reader_start t_reader_value t_reader_told, oX0 t_seen_q t_seen_times_q t_seen_subjects_q t_seen_values_q t_seen_size, aH g t_sheets_q 4 (va_up (va_up (va_up (va_up (fun _ => none) 0 (some t_sheets_0_q)) 1 (some t_sheets_1_q)) 2 (some t_sheets_2_q)) 3 (some t_sheets_3_q)), oX5 t_sheets_0_q t_sheets_0_cells_q t_sheets_0_lane t_sheets_0_size, oX5 t_sheets_1_q t_sheets_1_cells_q t_sheets_1_lane t_sheets_1_size, oX5 t_sheets_2_q t_sheets_2_cells_q t_sheets_2_lane t_sheets_2_size, oX5 t_sheets_3_q t_sheets_3_cells_q t_sheets_3_lane t_sheets_3_size]) (As := [.int t_now_barred]) (rest := []) (c_J6_bitCount_0f7a4 l g _ t_now_barred r_11 hc_12) ⟨hx, hb, hml, hown, hts⟩ (va_cwS 1 hts gX7_count_J6_bitCount_0f7a4 rfl rfl rfl (by decide +kernel) ⟨by decide, by decide⟩) hK hz hk hP (hD.re rfl) hS hA [] rfl rfl rfl rfl rfl hl.1 rfl (Nat.le_of_ble_eq_true rfl) dX7_count_101 (fun H locs hP hS => ?_)
    exact hret r_11 (Option.some.inj hf) _ _ _ _ hP hS dX7_count_104
  have hf := ite_f hf c_10
  refine lv_tableOut (tgt := 105) hx hb dX7_count_1 (tsw_out 6 (by decide) rfl (fun k hk => ?_)) (by decide) ?_
  · match k, hk with
    | 0, _ => exact c_1
    | 1, _ => exact c_2
    | 2, _ => exact c_3
    | 3, _ => exact c_4
    | 4, _ => exact c_7
    | 5, _ => exact c_8
    | 6, _ => exact c_10
    | k + 7, hk => exact absurd hk (by omega)
  refine lv_iconst (v := (-1 : Int32)) hx hb dX7_count_105 (by decide) ?_
  exact hret (-1 : Int32) (Option.some.inj hf) _ _ _ _ hP hS dX7_count_106
