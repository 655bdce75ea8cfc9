def f_X7_refusalOf (t_now_barred : Int32) (t_now_his : Int32) (t_now_step : Int32) (t_now_eaten : Int32) (t_now_secondEnds : Nat → Int32) (t_plan_doorCount : Int32) (t_plan_firstEnds : Nat → Int32) (p1 : Int32) : Option (Int32) :=
 (jn0 (if t_now_eaten = (0 : Int32) then
 (jn0 (if t_now_step < (999 : Int32) then
 (some (0 : Int32))
 else (some (-3 : Int32))) (fun j_3 =>
 (if p1 = (10 : Int32) then
 (j_3)
 else (ob1 (f_X6_across t_now_barred t_plan_doorCount t_plan_firstEnds t_now_secondEnds p1 t_now_his) (fun r_6 =>
 (if r_6 = (-4 : Int32) then
 (some (-2 : Int32))
 else (j_3)))))))
 else (some (-2 : Int32))) (fun j_1 =>
 (if p1 = (10 : Int32) then
 (j_1)
 else (ob1 (f_X2_hasDoor t_plan_doorCount p1) (fun r_10 =>
 (if r_10 = (0 : Int32) then
 (some (-1 : Int32))
 else (j_1)))))))
abbrev rmX7_refusalOf : Room := { frames := 2, cells := 0, slots := 0, locals := 43 }
set_option maxHeartbeats 4000000 in
set_option maxRecDepth 100000 in
theorem c_X7_refusalOf (l : Launch) (g : Gh) (sz : Nat) (t_q t_plan_q t_now_q t_ahead_q t_before_q t_images_q t_reader_q t_seen_q t_heard_q t_search_q t_passages_q t_sheets_q t_now_secondEnds_q t_now_string_q t_plan_firstEnds_q t_plan_rules_q : Nat) (t_keptImages : Int32) (t_tornFault : Int32) (t_now_barred : Int32) (t_now_period : Int32) (t_now_his : Int32) (t_now_beast : Int32) (t_now_habit : Int32) (t_now_onString : Int32) (t_now_step : Int32) (t_now_eaten : Int32) (t_now_secondEnds : Nat → Int32) (t_plan_rooms : Int32) (t_plan_doorCount : Int32) (t_plan_ruleCount : Int32) (t_plan_stringLength : Int32) (t_plan_firstEnds : Nat → Int32) (p1 : Int32) (rr : Int32) (hf : f_X7_refusalOf t_now_barred t_now_his t_now_step t_now_eaten t_now_secondEnds t_plan_doorCount t_plan_firstEnds p1 = some rr) : CI l yX7_refusalOf wsX7_refusalOf rmX7_refusalOf [.ref t_q, .int p1] g sz [oX7 t_q t_plan_q t_now_q t_ahead_q t_before_q t_images_q t_keptImages t_reader_q t_seen_q t_heard_q t_search_q t_passages_q t_sheets_q t_tornFault, oX6 t_now_q t_plan_q t_now_secondEnds_q t_now_string_q t_now_barred t_now_period t_now_his t_now_beast t_now_habit t_now_onString t_now_step t_now_eaten, aI g t_now_secondEnds_q 10 t_now_secondEnds, oX2 t_plan_q t_plan_firstEnds_q t_plan_rules_q t_plan_rooms t_plan_doorCount t_plan_ruleCount t_plan_stringLength, aI g t_plan_firstEnds_q 10 t_plan_firstEnds] [oX7 t_q t_plan_q t_now_q t_ahead_q t_before_q t_images_q t_keptImages t_reader_q t_seen_q t_heard_q t_search_q t_passages_q t_sheets_q t_tornFault, oX6 t_now_q t_plan_q t_now_secondEnds_q t_now_string_q t_now_barred t_now_period t_now_his t_now_beast t_now_habit t_now_onString t_now_step t_now_eaten, aI g t_now_secondEnds_q 10 t_now_secondEnds, oX2 t_plan_q t_plan_firstEnds_q t_plan_rules_q t_plan_rooms t_plan_doorCount t_plan_ruleCount t_plan_stringLength, aI g t_plan_firstEnds_q 10 t_plan_firstEnds] rr := by
  refine ent_i (cc := cX7_refusalOf) (maxL := 2) (by decide) rfl (Nat.le_of_ble_eq_true rfl) ?_
  intro p e s m args below meth c A Q hx hb hml hown hts hK hz hk hA hD hP hS hret ls hl
  have hown : s.vm.findClass RX7 = some m.cls := hown
  have inX6 : ∀ w ∈ u_ws RX6 TX6 11, w ∈ wsX7_refusalOf := by decide +kernel
  have inX7 : ∀ w ∈ u_ws RX7 TX7 13, w ∈ wsX7_refusalOf := by decide +kernel
  have k12 := hts (.fieldLink RX7 12 "ThreadMoved" "plan" "LThreadMoved$Plan;") (by decide +kernel)
  have k21 := hts (.fieldLink RX7 21 "ThreadMoved" "now" "LThreadMoved$State;") (by decide +kernel)
  have k131 := hts (.fieldLink RX7 131 "ThreadMoved$State" "step" "I") (by decide +kernel)
  have k134 := hts (.fieldLink RX7 134 "ThreadMoved$State" "his" "I") (by decide +kernel)
  have k143 := hts (.fieldLink RX7 143 "ThreadMoved$State" "eaten" "Z") (by decide +kernel)
  have hl : lv_has ls 2 [(0, .ref t_q), (1, .int p1)] := hl
  have hret : ∀ (rrz : Int32), rrz = rr → ∀ (H : Heap) (locs : List Loc) (pc : Nat) (ls : Array Slot), va_P g.1 vwCl [oX7 t_q t_plan_q t_now_q t_ahead_q t_before_q t_images_q t_keptImages t_reader_q t_seen_q t_heard_q t_search_q t_passages_q t_sheets_q t_tornFault, oX6 t_now_q t_plan_q t_now_secondEnds_q t_now_string_q t_now_barred t_now_period t_now_his t_now_beast t_now_habit t_now_onString t_now_step t_now_eaten, aI g t_now_secondEnds_q 10 t_now_secondEnds, oX2 t_plan_q t_plan_firstEnds_q t_plan_rules_q t_plan_rooms t_plan_doorCount t_plan_ruleCount t_plan_stringLength, aI g t_plan_firstEnds_q 10 t_plan_firstEnds] H → va_S A s.heap H locs → decode cX7_refusalOf pc = .ok (.ireturn, 1) → W p l e rmX7_refusalOf s m args below meth c H locs 0 0 Q (F0 m pc ls [.int rrz]) := by
    intro rrz he H locs pc ls hP hS hd
    cases he
    exact hret H locs pc ls hP hS hd
  unfold f_X7_refusalOf at hf
  refine lv_iload_n hx hb dX7_refusalOf_0 rfl (lv_at hl 1 rfl) ?_
  refine lv_bipush (v := (10 : Int32)) hx hb dX7_refusalOf_1 (by decide) ?_
  obtain ⟨j_1, hj_1, hf⟩ := jn0_e hf
  have J_1 : j_1 = some rr → ∀ (H : Heap) (locs : List Loc) (ls : Array Slot), va_P g.1 vwCl [oX7 t_q t_plan_q t_now_q t_ahead_q t_before_q t_images_q t_keptImages t_reader_q t_seen_q t_heard_q t_search_q t_passages_q t_sheets_q t_tornFault, oX6 t_now_q t_plan_q t_now_secondEnds_q t_now_string_q t_now_barred t_now_period t_now_his t_now_beast t_now_habit t_now_onString t_now_step t_now_eaten, aI g t_now_secondEnds_q 10 t_now_secondEnds, oX2 t_plan_q t_plan_firstEnds_q t_plan_rules_q t_plan_rooms t_plan_doorCount t_plan_ruleCount t_plan_stringLength, aI g t_plan_firstEnds_q 10 t_plan_firstEnds] H → va_S A s.heap H locs → lv_has ls 2 [(0, .ref t_q), (1, .int p1)] → W p l e rmX7_refusalOf s m args below meth c H locs 0 0 Q (F0 m 19 ls []) := by
    intro hf H locs ls hP hS hl
    rw [hj_1] at hf
    refine lv_aload_n hx hb dX7_refusalOf_19 rfl (lv_at hl 0 rfl) ?_
    refine va_get (D := g.1) (ci := 7) (v := .ref t_now_q) (C := RX7) (T := TX7) (N := 13) hx hb hts inX7 hown hK hP 0 rfl rfl 1 (by decide) k21 (fun _ h9 => h9) rfl dX7_refusalOf_20 ?_
    refine va_get (D := g.1) (ci := 6) (v := .int t_now_eaten) (C := RX6) (T := TX6) (N := 11) hx hb hts inX6 hown hK hP 1 rfl rfl 10 (by decide) k143 (fun _ h9 => h9) rfl dX7_refusalOf_23 ?_
    refine lv_if_ne (tgt := 55) hx hb dX7_refusalOf_26 (by decide) (fun c_2 => ?_) (fun c_2 => ?_)
    · have hf := ite_f hf c_2
      refine lv_bipush (v := (-2 : Int32)) hx hb dX7_refusalOf_55 (by decide) ?_
      exact hret (-2 : Int32) (Option.some.inj hf) _ _ _ _ hP hS dX7_refusalOf_57
    · have hf := ite_t hf c_2
      refine lv_iload_n hx hb dX7_refusalOf_29 rfl (lv_at hl 1 rfl) ?_
      refine lv_bipush (v := (10 : Int32)) hx hb dX7_refusalOf_30 (by decide) ?_
      obtain ⟨j_3, hj_3, hf⟩ := jn0_e hf
      have J_3 : j_3 = some rr → ∀ (H : Heap) (locs : List Loc) (ls : Array Slot), va_P g.1 vwCl [oX7 t_q t_plan_q t_now_q t_ahead_q t_before_q t_images_q t_keptImages t_reader_q t_seen_q t_heard_q t_search_q t_passages_q t_sheets_q t_tornFault, oX6 t_now_q t_plan_q t_now_secondEnds_q t_now_string_q t_now_barred t_now_period t_now_his t_now_beast t_now_habit t_now_onString t_now_step t_now_eaten, aI g t_now_secondEnds_q 10 t_now_secondEnds, oX2 t_plan_q t_plan_firstEnds_q t_plan_rules_q t_plan_rooms t_plan_doorCount t_plan_ruleCount t_plan_stringLength, aI g t_plan_firstEnds_q 10 t_plan_firstEnds] H → va_S A s.heap H locs → lv_has ls 2 [(0, .ref t_q)] → W p l e rmX7_refusalOf s m args below meth c H locs 0 0 Q (F0 m 58 ls []) := by
        intro hf H locs ls hP hS hl
        rw [hj_3] at hf
        refine lv_aload_n hx hb dX7_refusalOf_58 rfl (lv_at hl 0 rfl) ?_
        refine va_get (D := g.1) (ci := 7) (v := .ref t_now_q) (C := RX7) (T := TX7) (N := 13) hx hb hts inX7 hown hK hP 0 rfl rfl 1 (by decide) k21 (fun _ h9 => h9) rfl dX7_refusalOf_59 ?_
        refine va_get (D := g.1) (ci := 6) (v := .int t_now_step) (C := RX6) (T := TX6) (N := 11) hx hb hts inX6 hown hK hP 1 rfl rfl 9 (by decide) k131 (fun _ h9 => h9) rfl dX7_refusalOf_62 ?_
        refine lv_sipush (v := (999 : Int32)) hx hb dX7_refusalOf_65 (by decide) ?_
        refine lv_icmp_lt (tgt := 76) hx hb dX7_refusalOf_68 (by decide) (fun c_4 => ?_) (fun c_4 => ?_)
        · have hf := ite_t hf c_4
          refine lv_iconst (v := (0 : Int32)) hx hb dX7_refusalOf_76 (by decide) ?_
          exact hret (0 : Int32) (Option.some.inj hf) _ _ _ _ hP hS dX7_refusalOf_77
        · have hf := ite_f hf c_4
          refine lv_bipush (v := (-3 : Int32)) hx hb dX7_refusalOf_71 (by decide) ?_
          refine lv_goto (tgt := 77) hx hb dX7_refusalOf_73 (by decide) ?_
          exact hret (-3 : Int32) (Option.some.inj hf) _ _ _ _ hP hS dX7_refusalOf_77
      refine lv_icmp_eq (tgt := 58) hx hb dX7_refusalOf_32 (by decide) (fun c_5 => ?_) (fun c_5 => ?_)
      · have hf := ite_t hf c_5
        exact J_3 hf _ _ _ hP hS (lv_sub hl [0] rfl)
      · have hf := ite_f hf c_5
        refine lv_aload_n hx hb dX7_refusalOf_35 rfl (lv_at hl 0 rfl) ?_
        refine va_get (D := g.1) (ci := 7) (v := .ref t_now_q) (C := RX7) (T := TX7) (N := 13) hx hb hts inX7 hown hK hP 0 rfl rfl 1 (by decide) k21 (fun _ h9 => h9) rfl dX7_refusalOf_36 ?_
        refine lv_iload_n hx hb dX7_refusalOf_39 rfl (lv_at hl 1 rfl) ?_
        refine lv_aload_n hx hb dX7_refusalOf_40 rfl (lv_at hl 0 rfl) ?_
        refine va_get (D := g.1) (ci := 7) (v := .ref t_now_q) (C := RX7) (T := TX7) (N := 13) hx hb hts inX7 hown hK hP 0 rfl rfl 1 (by decide) k21 (fun _ h9 => h9) rfl dX7_refusalOf_41 ?_
        refine va_get (D := g.1) (ci := 6) (v := .int t_now_his) (C := RX6) (T := TX6) (N := 11) hx hb hts inX6 hown hK hP 1 rfl rfl 5 (by decide) k134 (fun _ h9 => h9) rfl dX7_refusalOf_44 ?_
        obtain ⟨r_6, hc_7, hf⟩ := ob1_e hf
        refine kV_i (wn := [oX7 t_q t_plan_q t_now_q t_ahead_q t_before_q t_images_q t_keptImages t_reader_q t_seen_q t_heard_q t_search_q t_passages_q t_sheets_q t_tornFault, oX6 t_now_q t_plan_q t_now_secondEnds_q t_now_string_q t_now_barred t_now_period t_now_his t_now_beast t_now_habit t_now_onString t_now_step t_now_eaten, aI g t_now_secondEnds_q 10 t_now_secondEnds, oX2 t_plan_q t_plan_firstEnds_q t_plan_rules_q t_plan_rooms t_plan_doorCount t_plan_ruleCount t_plan_stringLength, aI g t_plan_firstEnds_q 10 t_plan_firstEnds]) (As := [.int p1, .int t_now_his]) (rest := []) (c_X6_across l g _ t_now_q t_plan_q t_now_secondEnds_q t_now_string_q t_plan_firstEnds_q t_plan_rules_q t_now_barred t_now_period t_now_his t_now_beast t_now_habit t_now_onString t_now_step t_now_eaten t_plan_rooms t_plan_doorCount t_plan_ruleCount t_plan_stringLength t_plan_firstEnds t_now_secondEnds p1 t_now_his r_6 hc_7) ⟨hx, hb, hml, hown, hts⟩ (cwV 2 hts gX7_refusalOf_X6_across rfl rfl rfl (by decide +kernel) ⟨by decide, by decide⟩) hK hz hk hP (hD.re rfl) hS hA [1, 3, 4, 2] rfl rfl rfl rfl rfl rfl rfl hl.1 rfl (Nat.le_of_ble_eq_true rfl) dX7_refusalOf_47 (fun H locs hP hS => ?_)
        refine lv_bipush (v := (-4 : Int32)) hx hb dX7_refusalOf_50 (by decide) ?_
        refine lv_icmp_ne (tgt := 58) hx hb dX7_refusalOf_52 (by decide) (fun c_8 => ?_) (fun c_8 => ?_)
        · have hf := ite_f hf c_8
          exact J_3 hf _ _ _ hP hS (lv_sub hl [0] rfl)
        · have hf := ite_t hf c_8
          refine lv_bipush (v := (-2 : Int32)) hx hb dX7_refusalOf_55 (by decide) ?_
          exact hret (-2 : Int32) (Option.some.inj hf) _ _ _ _ hP hS dX7_refusalOf_57
  refine lv_icmp_eq (tgt := 19) hx hb dX7_refusalOf_3 (by decide) (fun c_9 => ?_) (fun c_9 => ?_)
  · have hf := ite_t hf c_9
    exact J_1 hf _ _ _ hP hS (lv_sub hl [0, 1] rfl)
  · have hf := ite_f hf c_9
    refine lv_aload_n hx hb dX7_refusalOf_6 rfl (lv_at hl 0 rfl) ?_
    refine va_get (D := g.1) (ci := 7) (v := .ref t_plan_q) (C := RX7) (T := TX7) (N := 13) hx hb hts inX7 hown hK hP 0 rfl rfl 0 (by decide) k12 (fun _ h9 => h9) rfl dX7_refusalOf_7 ?_
    refine lv_iload_n hx hb dX7_refusalOf_10 rfl (lv_at hl 1 rfl) ?_
    obtain ⟨r_10, hc_11, hf⟩ := ob1_e hf
    refine kV_i (wn := [oX7 t_q t_plan_q t_now_q t_ahead_q t_before_q t_images_q t_keptImages t_reader_q t_seen_q t_heard_q t_search_q t_passages_q t_sheets_q t_tornFault, oX6 t_now_q t_plan_q t_now_secondEnds_q t_now_string_q t_now_barred t_now_period t_now_his t_now_beast t_now_habit t_now_onString t_now_step t_now_eaten, aI g t_now_secondEnds_q 10 t_now_secondEnds, oX2 t_plan_q t_plan_firstEnds_q t_plan_rules_q t_plan_rooms t_plan_doorCount t_plan_ruleCount t_plan_stringLength, aI g t_plan_firstEnds_q 10 t_plan_firstEnds]) (As := [.int p1]) (rest := []) (c_X2_hasDoor l g _ t_plan_q t_plan_firstEnds_q t_plan_rules_q t_plan_rooms t_plan_doorCount t_plan_ruleCount t_plan_stringLength p1 r_10 hc_11) ⟨hx, hb, hml, hown, hts⟩ (cwV 1 hts gX7_refusalOf_X2_hasDoor rfl rfl rfl (by decide +kernel) ⟨by decide, by decide⟩) hK hz hk hP (hD.re rfl) hS hA [3] rfl rfl rfl rfl rfl rfl rfl hl.1 rfl (Nat.le_of_ble_eq_true rfl) dX7_refusalOf_11 (fun H locs hP hS => ?_)
    refine lv_if_ne (tgt := 19) hx hb dX7_refusalOf_14 (by decide) (fun c_12 => ?_) (fun c_12 => ?_)
    · have hf := ite_f hf c_12
      exact J_1 hf _ _ _ hP hS (lv_sub hl [0, 1] rfl)
    · have hf := ite_t hf c_12
      refine lv_iconst (v := (-1 : Int32)) hx hb dX7_refusalOf_17 (by decide) ?_
      exact hret (-1 : Int32) (Option.some.inj hf) _ _ _ _ hP hS dX7_refusalOf_18

def f_X7_go (t_now_barred : Int32) (t_now_period : Int32) (t_now_his : Int32) (t_now_beast : Int32) (t_now_habit : Int32) (t_now_onString : Int32) (t_now_step : Int32) (t_now_eaten : Int32) (t_now_secondEnds : Nat → Int32) (t_now_string : Nat → Int32) (t_plan_rooms : Int32) (t_plan_doorCount : Int32) (t_plan_ruleCount : Int32) (t_plan_stringLength : Int32) (t_plan_firstEnds : Nat → Int32) (t_plan_rules : Nat → Int32) (p1 : Int32) : Option (Int32 × Int32 × Int32 × Int32 × Int32 × Int32 × Int32 × (Nat → Int32) × (Nat → Int32)) :=
 (ob1 (f_X7_refusalOf t_now_barred t_now_his t_now_step t_now_eaten t_now_secondEnds t_plan_doorCount t_plan_firstEnds p1) (fun r_1 =>
 (if r_1 = (0 : Int32) then
 (ob8 (f_X6_takeStep t_now_barred t_now_period t_now_his t_now_beast t_now_habit t_now_onString t_now_step t_now_eaten t_plan_rooms t_plan_doorCount t_plan_ruleCount t_plan_stringLength t_plan_firstEnds t_plan_rules t_now_secondEnds t_now_string p1) (fun t_barred_4 t_beast_5 t_eaten_6 t_his_7 t_onString_8 t_step_9 t_secondEnds_10 t_string_11 =>
 (if t_eaten_6 = (0 : Int32) then
 (some (t_his_7, t_barred_4, t_beast_5, t_eaten_6, t_his_7, t_onString_8, t_step_9, t_secondEnds_10, t_string_11))
 else (some (((10 : Int32) + t_his_7), t_barred_4, t_beast_5, t_eaten_6, t_his_7, t_onString_8, t_step_9, t_secondEnds_10, t_string_11)))))
 else (some (r_1, t_now_barred, t_now_beast, t_now_eaten, t_now_his, t_now_onString, t_now_step, t_now_secondEnds, t_now_string)))))
abbrev rmX7_go : Room := { frames := 5, cells := 0, slots := 0, locals := 112 }
set_option maxHeartbeats 4000000 in
set_option maxRecDepth 100000 in
theorem c_X7_go (l : Launch) (g : Gh) (sz : Nat) (t_q t_plan_q t_now_q t_ahead_q t_before_q t_images_q t_reader_q t_seen_q t_heard_q t_search_q t_passages_q t_sheets_q t_now_secondEnds_q t_now_string_q t_plan_firstEnds_q t_plan_rules_q : Nat) (t_keptImages : Int32) (t_tornFault : Int32) (t_now_barred : Int32) (t_now_period : Int32) (t_now_his : Int32) (t_now_beast : Int32) (t_now_habit : Int32) (t_now_onString : Int32) (t_now_step : Int32) (t_now_eaten : Int32) (t_now_secondEnds : Nat → Int32) (t_now_string : Nat → Int32) (t_plan_rooms : Int32) (t_plan_doorCount : Int32) (t_plan_ruleCount : Int32) (t_plan_stringLength : Int32) (t_plan_firstEnds : Nat → Int32) (t_plan_rules : Nat → Int32) (p1 : Int32) (rr : Int32) (t_now_barred' : Int32) (t_now_beast' : Int32) (t_now_eaten' : Int32) (t_now_his' : Int32) (t_now_onString' : Int32) (t_now_step' : Int32) (t_now_secondEnds' : Nat → Int32) (t_now_string' : Nat → Int32) (hf : f_X7_go t_now_barred t_now_period t_now_his t_now_beast t_now_habit t_now_onString t_now_step t_now_eaten t_now_secondEnds t_now_string t_plan_rooms t_plan_doorCount t_plan_ruleCount t_plan_stringLength t_plan_firstEnds t_plan_rules p1 = some (rr, t_now_barred', t_now_beast', t_now_eaten', t_now_his', t_now_onString', t_now_step', t_now_secondEnds', t_now_string')) : CI l yX7_go wsX7_go rmX7_go [.ref t_q, .int p1] g sz [oX7 t_q t_plan_q t_now_q t_ahead_q t_before_q t_images_q t_keptImages t_reader_q t_seen_q t_heard_q t_search_q t_passages_q t_sheets_q t_tornFault, oX6 t_now_q t_plan_q t_now_secondEnds_q t_now_string_q t_now_barred t_now_period t_now_his t_now_beast t_now_habit t_now_onString t_now_step t_now_eaten, aI g t_now_secondEnds_q 10 t_now_secondEnds, aI g t_now_string_q 12 t_now_string, oX2 t_plan_q t_plan_firstEnds_q t_plan_rules_q t_plan_rooms t_plan_doorCount t_plan_ruleCount t_plan_stringLength, aI g t_plan_firstEnds_q 10 t_plan_firstEnds, aI g t_plan_rules_q 6 t_plan_rules] [oX7 t_q t_plan_q t_now_q t_ahead_q t_before_q t_images_q t_keptImages t_reader_q t_seen_q t_heard_q t_search_q t_passages_q t_sheets_q t_tornFault, oX6 t_now_q t_plan_q t_now_secondEnds_q t_now_string_q t_now_barred' t_now_period t_now_his' t_now_beast' t_now_habit t_now_onString' t_now_step' t_now_eaten', aI g t_now_secondEnds_q 10 t_now_secondEnds', aI g t_now_string_q 12 t_now_string', oX2 t_plan_q t_plan_firstEnds_q t_plan_rules_q t_plan_rooms t_plan_doorCount t_plan_ruleCount t_plan_stringLength, aI g t_plan_firstEnds_q 10 t_plan_firstEnds, aI g t_plan_rules_q 6 t_plan_rules] rr := by
  refine ent_i (cc := cX7_go) (maxL := 3) (by decide) rfl (Nat.le_of_ble_eq_true rfl) ?_
  intro p e s m args below meth c A Q hx hb hml hown hts hK hz hk hA hD hP hS hret ls hl
  have hown : s.vm.findClass RX7 = some m.cls := hown
  have inX6 : ∀ w ∈ u_ws RX6 TX6 11, w ∈ wsX7_go := by decide +kernel
  have inX7 : ∀ w ∈ u_ws RX7 TX7 13, w ∈ wsX7_go := by decide +kernel
  have k21 := hts (.fieldLink RX7 21 "ThreadMoved" "now" "LThreadMoved$State;") (by decide +kernel)
  have k134 := hts (.fieldLink RX7 134 "ThreadMoved$State" "his" "I") (by decide +kernel)
  have k143 := hts (.fieldLink RX7 143 "ThreadMoved$State" "eaten" "Z") (by decide +kernel)
  have hl : lv_has ls 3 [(0, .ref t_q), (1, .int p1)] := hl
  have hret : ∀ (rrz : Int32) (t_now_barredz : Int32) (t_now_beastz : Int32) (t_now_eatenz : Int32) (t_now_hisz : Int32) (t_now_onStringz : Int32) (t_now_stepz : Int32) (t_now_secondEndsz : Nat → Int32) (t_now_stringz : Nat → Int32), (rrz, t_now_barredz, t_now_beastz, t_now_eatenz, t_now_hisz, t_now_onStringz, t_now_stepz, t_now_secondEndsz, t_now_stringz) = (rr, t_now_barred', t_now_beast', t_now_eaten', t_now_his', t_now_onString', t_now_step', t_now_secondEnds', t_now_string') → ∀ (H : Heap) (locs : List Loc) (pc : Nat) (ls : Array Slot), va_P g.1 vwCl [oX7 t_q t_plan_q t_now_q t_ahead_q t_before_q t_images_q t_keptImages t_reader_q t_seen_q t_heard_q t_search_q t_passages_q t_sheets_q t_tornFault, oX6 t_now_q t_plan_q t_now_secondEnds_q t_now_string_q t_now_barredz t_now_period t_now_hisz t_now_beastz t_now_habit t_now_onStringz t_now_stepz t_now_eatenz, aI g t_now_secondEnds_q 10 t_now_secondEndsz, aI g t_now_string_q 12 t_now_stringz, oX2 t_plan_q t_plan_firstEnds_q t_plan_rules_q t_plan_rooms t_plan_doorCount t_plan_ruleCount t_plan_stringLength, aI g t_plan_firstEnds_q 10 t_plan_firstEnds, aI g t_plan_rules_q 6 t_plan_rules] H → va_S A s.heap H locs → decode cX7_go pc = .ok (.ireturn, 1) → W p l e rmX7_go s m args below meth c H locs 0 0 Q (F0 m pc ls [.int rrz]) := by
    intro rrz t_now_barredz t_now_beastz t_now_eatenz t_now_hisz t_now_onStringz t_now_stepz t_now_secondEndsz t_now_stringz he H locs pc ls hP hS hd
    cases he
    exact hret H locs pc ls hP hS hd
  unfold f_X7_go at hf
  refine lv_aload_n hx hb dX7_go_0 rfl (lv_at hl 0 rfl) ?_
  refine lv_iload_n hx hb dX7_go_1 rfl (lv_at hl 1 rfl) ?_
  obtain ⟨r_1, hc_2, hf⟩ := ob1_e hf
  refine kV_i (wn := [oX7 t_q t_plan_q t_now_q t_ahead_q t_before_q t_images_q t_keptImages t_reader_q t_seen_q t_heard_q t_search_q t_passages_q t_sheets_q t_tornFault, oX6 t_now_q t_plan_q t_now_secondEnds_q t_now_string_q t_now_barred t_now_period t_now_his t_now_beast t_now_habit t_now_onString t_now_step t_now_eaten, aI g t_now_secondEnds_q 10 t_now_secondEnds, aI g t_now_string_q 12 t_now_string, oX2 t_plan_q t_plan_firstEnds_q t_plan_rules_q t_plan_rooms t_plan_doorCount t_plan_ruleCount t_plan_stringLength, aI g t_plan_firstEnds_q 10 t_plan_firstEnds, aI g t_plan_rules_q 6 t_plan_rules]) (As := [.int p1]) (rest := []) (c_X7_refusalOf l g _ t_q t_plan_q t_now_q t_ahead_q t_before_q t_images_q t_reader_q t_seen_q t_heard_q t_search_q t_passages_q t_sheets_q t_now_secondEnds_q t_now_string_q t_plan_firstEnds_q t_plan_rules_q t_keptImages t_tornFault t_now_barred t_now_period t_now_his t_now_beast t_now_habit t_now_onString t_now_step t_now_eaten t_now_secondEnds t_plan_rooms t_plan_doorCount t_plan_ruleCount t_plan_stringLength t_plan_firstEnds p1 r_1 hc_2) ⟨hx, hb, hml, hown, hts⟩ (cwV 1 hts gX7_go_X7_refusalOf rfl rfl rfl (by decide +kernel) ⟨by decide, by decide⟩) hK hz hk hP (hD.re rfl) hS hA [0, 1, 2, 4, 5] rfl rfl rfl rfl rfl rfl rfl hl.1 rfl (Nat.le_of_ble_eq_true rfl) dX7_go_2 (fun H locs hP hS => ?_)
  refine lv_istore_n (lv' := [(2, .int r_1), (0, .ref t_q), (1, .int p1)]) hx hb dX7_go_5 rfl hl (by decide) rfl (fun ls hl => ?_)
  refine lv_iload_n hx hb dX7_go_6 rfl (lv_at hl 0 rfl) ?_
  refine lv_if_eq (tgt := 12) hx hb dX7_go_7 (by decide) (fun c_3 => ?_) (fun c_3 => ?_)
  · have hf := ite_t hf c_3
    refine lv_aload_n hx hb dX7_go_12 rfl (lv_at hl 1 rfl) ?_
    refine va_get (D := g.1) (ci := 7) (v := .ref t_now_q) (C := RX7) (T := TX7) (N := 13) hx hb hts inX7 hown hK hP 0 rfl rfl 1 (by decide) k21 (fun _ h9 => h9) rfl dX7_go_13 ?_
    refine lv_iload_n hx hb dX7_go_16 rfl (lv_at hl 2 rfl) ?_
    obtain ⟨t_barred_4, t_beast_5, t_eaten_6, t_his_7, t_onString_8, t_step_9, t_secondEnds_10, t_string_11, hc_12, hf⟩ := ob8_e hf
    refine kV_v (wn := [oX7 t_q t_plan_q t_now_q t_ahead_q t_before_q t_images_q t_keptImages t_reader_q t_seen_q t_heard_q t_search_q t_passages_q t_sheets_q t_tornFault, oX6 t_now_q t_plan_q t_now_secondEnds_q t_now_string_q t_barred_4 t_now_period t_his_7 t_beast_5 t_now_habit t_onString_8 t_step_9 t_eaten_6, aI g t_now_secondEnds_q 10 t_secondEnds_10, aI g t_now_string_q 12 t_string_11, oX2 t_plan_q t_plan_firstEnds_q t_plan_rules_q t_plan_rooms t_plan_doorCount t_plan_ruleCount t_plan_stringLength, aI g t_plan_firstEnds_q 10 t_plan_firstEnds, aI g t_plan_rules_q 6 t_plan_rules]) (As := [.int p1]) (rest := []) (c_X6_takeStep l g _ t_now_q t_plan_q t_now_secondEnds_q t_now_string_q t_plan_firstEnds_q t_plan_rules_q t_now_barred t_now_period t_now_his t_now_beast t_now_habit t_now_onString t_now_step t_now_eaten t_plan_rooms t_plan_doorCount t_plan_ruleCount t_plan_stringLength t_plan_firstEnds t_plan_rules t_now_secondEnds t_now_string p1 t_barred_4 t_beast_5 t_eaten_6 t_his_7 t_onString_8 t_step_9 t_secondEnds_10 t_string_11 hc_12) ⟨hx, hb, hml, hown, hts⟩ (cwV 1 hts gX7_go_X6_takeStep rfl rfl rfl (by decide +kernel) ⟨by decide, by decide⟩) hK hz hk hP (hD.re rfl) hS hA [1, 4, 5, 6, 2, 3] rfl rfl rfl rfl rfl rfl rfl hl.1 rfl (Nat.le_of_ble_eq_true rfl) dX7_go_17 (fun H locs hP hS => ?_)
    refine lv_aload_n hx hb dX7_go_20 rfl (lv_at hl 1 rfl) ?_
    refine va_get (D := g.1) (ci := 7) (v := .ref t_now_q) (C := RX7) (T := TX7) (N := 13) hx hb hts inX7 hown hK hP 0 rfl rfl 1 (by decide) k21 (fun _ h9 => h9) rfl dX7_go_21 ?_
    refine va_get (D := g.1) (ci := 6) (v := .int t_eaten_6) (C := RX6) (T := TX6) (N := 11) hx hb hts inX6 hown hK hP 1 rfl rfl 10 (by decide) k143 (fun _ h9 => h9) rfl dX7_go_24 ?_
    refine lv_if_eq (tgt := 43) hx hb dX7_go_27 (by decide) (fun c_13 => ?_) (fun c_13 => ?_)
    · have hf := ite_t hf c_13
      refine lv_aload_n hx hb dX7_go_43 rfl (lv_at hl 1 rfl) ?_
      refine va_get (D := g.1) (ci := 7) (v := .ref t_now_q) (C := RX7) (T := TX7) (N := 13) hx hb hts inX7 hown hK hP 0 rfl rfl 1 (by decide) k21 (fun _ h9 => h9) rfl dX7_go_44 ?_
      refine va_get (D := g.1) (ci := 6) (v := .int t_his_7) (C := RX6) (T := TX6) (N := 11) hx hb hts inX6 hown hK hP 1 rfl rfl 5 (by decide) k134 (fun _ h9 => h9) rfl dX7_go_47 ?_
      exact hret t_his_7 t_barred_4 t_beast_5 t_eaten_6 t_his_7 t_onString_8 t_step_9 t_secondEnds_10 t_string_11 (Option.some.inj hf) _ _ _ _ hP hS dX7_go_50
    · have hf := ite_f hf c_13
      refine lv_bipush (v := (10 : Int32)) hx hb dX7_go_30 (by decide) ?_
      refine lv_aload_n hx hb dX7_go_32 rfl (lv_at hl 1 rfl) ?_
      refine va_get (D := g.1) (ci := 7) (v := .ref t_now_q) (C := RX7) (T := TX7) (N := 13) hx hb hts inX7 hown hK hP 0 rfl rfl 1 (by decide) k21 (fun _ h9 => h9) rfl dX7_go_33 ?_
      refine va_get (D := g.1) (ci := 6) (v := .int t_his_7) (C := RX6) (T := TX6) (N := 11) hx hb hts inX6 hown hK hP 1 rfl rfl 5 (by decide) k134 (fun _ h9 => h9) rfl dX7_go_36 ?_
      refine lv_iadd hx hb dX7_go_39 ?_
      refine lv_goto (tgt := 50) hx hb dX7_go_40 (by decide) ?_
      exact hret ((10 : Int32) + t_his_7) t_barred_4 t_beast_5 t_eaten_6 t_his_7 t_onString_8 t_step_9 t_secondEnds_10 t_string_11 (Option.some.inj hf) _ _ _ _ hP hS dX7_go_50
  · have hf := ite_f hf c_3
    refine lv_iload_n hx hb dX7_go_10 rfl (lv_at hl 0 rfl) ?_
    exact hret r_1 t_now_barred t_now_beast t_now_eaten t_now_his t_now_onString t_now_step t_now_secondEnds t_now_string (Option.some.inj hf) _ _ _ _ hP hS dX7_go_11

def f_X7_hear (t_heard_size : Int32) (t_heard_subjects : Nat → Int32) (t_heard_times : Nat → Int32) (t_heard_values : Nat → Int32) (t_plan_rooms : Int32) (p1 : Int32) (p2 : Int32) (p3 : Int32) : Option (Int32 × Int32 × (Nat → Int32) × (Nat → Int32) × (Nat → Int32)) :=
 (ob1 (f_X7_isWithin p1 (1 : Int32) (12 : Int32)) (fun r_1 =>
 (if r_1 = (0 : Int32) then
 (some ((-1 : Int32), t_heard_size, t_heard_subjects, t_heard_times, t_heard_values))
 else (ob1 (f_X2_hasRoom t_plan_rooms p2) (fun r_4 =>
 (if r_4 = (0 : Int32) then
 (some ((-1 : Int32), t_heard_size, t_heard_subjects, t_heard_times, t_heard_values))
 else (ob1 (f_X7_asNumber p3) (fun r_7 =>
 (ob5 (f_X0_add t_heard_size t_heard_subjects t_heard_times t_heard_values p1 p2 r_7) (fun r_9 t_size_10 t_subjects_11 t_times_12 t_values_13 =>
 (if r_9 = (0 : Int32) then
 (some ((-3 : Int32), t_size_10, t_subjects_11, t_times_12, t_values_13))
 else (some (t_size_10, t_size_10, t_subjects_11, t_times_12, t_values_13)))))))))))))
abbrev rmX7_hear : Room := { frames := 1, cells := 0, slots := 0, locals := 23 }
set_option maxHeartbeats 4000000 in
set_option maxRecDepth 100000 in
theorem c_X7_hear (l : Launch) (g : Gh) (sz : Nat) (t_q t_plan_q t_now_q t_ahead_q t_before_q t_images_q t_reader_q t_seen_q t_heard_q t_search_q t_passages_q t_sheets_q t_heard_times_q t_heard_subjects_q t_heard_values_q t_plan_firstEnds_q t_plan_rules_q : Nat) (t_keptImages : Int32) (t_tornFault : Int32) (t_heard_size : Int32) (t_heard_subjects : Nat → Int32) (t_heard_times : Nat → Int32) (t_heard_values : Nat → Int32) (t_plan_rooms : Int32) (t_plan_doorCount : Int32) (t_plan_ruleCount : Int32) (t_plan_stringLength : Int32) (p1 : Int32) (p2 : Int32) (p3 : Int32) (rr : Int32) (t_heard_size' : Int32) (t_heard_subjects' : Nat → Int32) (t_heard_times' : Nat → Int32) (t_heard_values' : Nat → Int32) (hf : f_X7_hear t_heard_size t_heard_subjects t_heard_times t_heard_values t_plan_rooms p1 p2 p3 = some (rr, t_heard_size', t_heard_subjects', t_heard_times', t_heard_values')) : CI l yX7_hear wsX7_hear rmX7_hear [.ref t_q, .int p1, .int p2, .int p3] g sz [oX7 t_q t_plan_q t_now_q t_ahead_q t_before_q t_images_q t_keptImages t_reader_q t_seen_q t_heard_q t_search_q t_passages_q t_sheets_q t_tornFault, oX0 t_heard_q t_heard_times_q t_heard_subjects_q t_heard_values_q t_heard_size, aI g t_heard_subjects_q 6 t_heard_subjects, aI g t_heard_times_q 6 t_heard_times, aI g t_heard_values_q 6 t_heard_values, oX2 t_plan_q t_plan_firstEnds_q t_plan_rules_q t_plan_rooms t_plan_doorCount t_plan_ruleCount t_plan_stringLength] [oX7 t_q t_plan_q t_now_q t_ahead_q t_before_q t_images_q t_keptImages t_reader_q t_seen_q t_heard_q t_search_q t_passages_q t_sheets_q t_tornFault, oX0 t_heard_q t_heard_times_q t_heard_subjects_q t_heard_values_q t_heard_size', aI g t_heard_subjects_q 6 t_heard_subjects', aI g t_heard_times_q 6 t_heard_times', aI g t_heard_values_q 6 t_heard_values', oX2 t_plan_q t_plan_firstEnds_q t_plan_rules_q t_plan_rooms t_plan_doorCount t_plan_ruleCount t_plan_stringLength] rr := by
  refine ent_i (cc := cX7_hear) (maxL := 4) (by decide) rfl (Nat.le_of_ble_eq_true rfl) ?_
  intro p e s m args below meth c A Q hx hb hml hown hts hK hz hk hA hD hP hS hret ls hl
  have hown : s.vm.findClass RX7 = some m.cls := hown
  have inX0 : ∀ w ∈ u_ws RX0 TX0 4, w ∈ wsX7_hear := by decide +kernel
  have inX7 : ∀ w ∈ u_ws RX7 TX7 13, w ∈ wsX7_hear := by decide +kernel
  have k12 := hts (.fieldLink RX7 12 "ThreadMoved" "plan" "LThreadMoved$Plan;") (by decide +kernel)
  have k53 := hts (.fieldLink RX7 53 "ThreadMoved" "heard" "LThreadMoved$Notes;") (by decide +kernel)
  have k110 := hts (.fieldLink RX7 110 "ThreadMoved$Notes" "size" "I") (by decide +kernel)
  have hl : lv_has ls 4 [(0, .ref t_q), (1, .int p1), (2, .int p2), (3, .int p3)] := hl
  have hret : ∀ (rrz : Int32) (t_heard_sizez : Int32) (t_heard_subjectsz : Nat → Int32) (t_heard_timesz : Nat → Int32) (t_heard_valuesz : Nat → Int32), (rrz, t_heard_sizez, t_heard_subjectsz, t_heard_timesz, t_heard_valuesz) = (rr, t_heard_size', t_heard_subjects', t_heard_times', t_heard_values') → ∀ (H : Heap) (locs : List Loc) (pc : Nat) (ls : Array Slot), va_P g.1 vwCl [oX7 t_q t_plan_q t_now_q t_ahead_q t_before_q t_images_q t_keptImages t_reader_q t_seen_q t_heard_q t_search_q t_passages_q t_sheets_q t_tornFault, oX0 t_heard_q t_heard_times_q t_heard_subjects_q t_heard_values_q t_heard_sizez, aI g t_heard_subjects_q 6 t_heard_subjectsz, aI g t_heard_times_q 6 t_heard_timesz, aI g t_heard_values_q 6 t_heard_valuesz, oX2 t_plan_q t_plan_firstEnds_q t_plan_rules_q t_plan_rooms t_plan_doorCount t_plan_ruleCount t_plan_stringLength] H → va_S A s.heap H locs → decode cX7_hear pc = .ok (.ireturn, 1) → W p l e rmX7_hear s m args below meth c H locs 0 0 Q (F0 m pc ls [.int rrz]) := by
    intro rrz t_heard_sizez t_heard_subjectsz t_heard_timesz t_heard_valuesz he H locs pc ls hP hS hd
    cases he
    exact hret H locs pc ls hP hS hd
  unfold f_X7_hear at hf
  refine lv_iload_n hx hb dX7_hear_0 rfl (lv_at hl 1 rfl) ?_
  refine lv_iconst (v := (1 : Int32)) hx hb dX7_hear_1 (by decide) ?_
  refine lv_bipush (v := (12 : Int32)) hx hb dX7_hear_2 (by decide) ?_
  obtain ⟨r_1, hc_2, hf⟩ := ob1_e hf
  refine kS_i (wn := [oX7 t_q t_plan_q t_now_q t_ahead_q t_before_q t_images_q t_keptImages t_reader_q t_seen_q t_heard_q t_search_q t_passages_q t_sheets_q t_tornFault, oX0 t_heard_q t_heard_times_q t_heard_subjects_q t_heard_values_q t_heard_size, aI g t_heard_subjects_q 6 t_heard_subjects, aI g t_heard_times_q 6 t_heard_times, aI g t_heard_values_q 6 t_heard_values, oX2 t_plan_q t_plan_firstEnds_q t_plan_rules_q t_plan_rooms t_plan_doorCount t_plan_ruleCount t_plan_stringLength]) (As := [.int p1, .int (1 : Int32), .int (12 : Int32)]) (rest := []) (c_X7_isWithin l g _ p1 (1 : Int32) (12 : Int32) r_1 hc_2) ⟨hx, hb, hml, hown, hts⟩ (va_cwS 3 hts gX7_hear_X7_isWithin rfl rfl rfl (by decide +kernel) ⟨by decide, by decide⟩) hK hz hk hP (hD.re rfl) hS hA [] rfl rfl rfl rfl rfl hl.1 rfl (Nat.le_of_ble_eq_true rfl) dX7_hear_4 (fun H locs hP hS => ?_)
  refine lv_if_eq (tgt := 21) hx hb dX7_hear_7 (by decide) (fun c_3 => ?_) (fun c_3 => ?_)
  · have hf := ite_t hf c_3
    refine lv_iconst (v := (-1 : Int32)) hx hb dX7_hear_21 (by decide) ?_
    exact hret (-1 : Int32) t_heard_size t_heard_subjects t_heard_times t_heard_values (Option.some.inj hf) _ _ _ _ hP hS dX7_hear_22
  · have hf := ite_f hf c_3
    refine lv_aload_n hx hb dX7_hear_10 rfl (lv_at hl 0 rfl) ?_
    refine va_get (D := g.1) (ci := 7) (v := .ref t_plan_q) (C := RX7) (T := TX7) (N := 13) hx hb hts inX7 hown hK hP 0 rfl rfl 0 (by decide) k12 (fun _ h9 => h9) rfl dX7_hear_11 ?_
    refine lv_iload_n hx hb dX7_hear_14 rfl (lv_at hl 2 rfl) ?_
    obtain ⟨r_4, hc_5, hf⟩ := ob1_e hf
    refine kV_i (wn := [oX7 t_q t_plan_q t_now_q t_ahead_q t_before_q t_images_q t_keptImages t_reader_q t_seen_q t_heard_q t_search_q t_passages_q t_sheets_q t_tornFault, oX0 t_heard_q t_heard_times_q t_heard_subjects_q t_heard_values_q t_heard_size, aI g t_heard_subjects_q 6 t_heard_subjects, aI g t_heard_times_q 6 t_heard_times, aI g t_heard_values_q 6 t_heard_values, oX2 t_plan_q t_plan_firstEnds_q t_plan_rules_q t_plan_rooms t_plan_doorCount t_plan_ruleCount t_plan_stringLength]) (As := [.int p2]) (rest := []) (c_X2_hasRoom l g _ t_plan_q t_plan_firstEnds_q t_plan_rules_q t_plan_rooms t_plan_doorCount t_plan_ruleCount t_plan_stringLength p2 r_4 hc_5) ⟨hx, hb, hml, hown, hts⟩ (cwV 1 hts gX7_hear_X2_hasRoom rfl rfl rfl (by decide +kernel) ⟨by decide, by decide⟩) hK hz hk hP (hD.re rfl) hS hA [5] rfl rfl rfl rfl rfl rfl rfl hl.1 rfl (Nat.le_of_ble_eq_true rfl) dX7_hear_15 (fun H locs hP hS => ?_)
    refine lv_if_ne (tgt := 23) hx hb dX7_hear_18 (by decide) (fun c_6 => ?_) (fun c_6 => ?_)
    · have hf := ite_f hf c_6
      refine lv_aload_n hx hb dX7_hear_23 rfl (lv_at hl 0 rfl) ?_
      refine va_get (D := g.1) (ci := 7) (v := .ref t_heard_q) (C := RX7) (T := TX7) (N := 13) hx hb hts inX7 hown hK hP 0 rfl rfl 8 (by decide) k53 (fun _ h9 => h9) rfl dX7_hear_24 ?_
      refine lv_iload_n hx hb dX7_hear_27 rfl (lv_at hl 1 rfl) ?_
      refine lv_iload_n hx hb dX7_hear_28 rfl (lv_at hl 2 rfl) ?_
      refine lv_iload_n hx hb dX7_hear_29 rfl (lv_at hl 3 rfl) ?_
      obtain ⟨r_7, hc_8, hf⟩ := ob1_e hf
      refine kS_i (wn := [oX7 t_q t_plan_q t_now_q t_ahead_q t_before_q t_images_q t_keptImages t_reader_q t_seen_q t_heard_q t_search_q t_passages_q t_sheets_q t_tornFault, oX0 t_heard_q t_heard_times_q t_heard_subjects_q t_heard_values_q t_heard_size, aI g t_heard_subjects_q 6 t_heard_subjects, aI g t_heard_times_q 6 t_heard_times, aI g t_heard_values_q 6 t_heard_values, oX2 t_plan_q t_plan_firstEnds_q t_plan_rules_q t_plan_rooms t_plan_doorCount t_plan_ruleCount t_plan_stringLength]) (As := [.int p3]) (rest := [.int p2, .int p1, .ref t_heard_q]) (c_X7_asNumber l g _ p3 r_7 hc_8) ⟨hx, hb, hml, hown, hts⟩ (va_cwS 1 hts gX7_hear_X7_asNumber rfl rfl rfl (by decide +kernel) ⟨by decide, by decide⟩) hK hz hk hP (hD.re rfl) hS hA [] rfl rfl rfl rfl rfl hl.1 rfl (Nat.le_of_ble_eq_true rfl) dX7_hear_30 (fun H locs hP hS => ?_)
      obtain ⟨r_9, t_size_10, t_subjects_11, t_times_12, t_values_13, hc_14, hf⟩ := ob5_e hf
      refine kV_i (wn := [oX7 t_q t_plan_q t_now_q t_ahead_q t_before_q t_images_q t_keptImages t_reader_q t_seen_q t_heard_q t_search_q t_passages_q t_sheets_q t_tornFault, oX0 t_heard_q t_heard_times_q t_heard_subjects_q t_heard_values_q t_size_10, aI g t_heard_subjects_q 6 t_subjects_11, aI g t_heard_times_q 6 t_times_12, aI g t_heard_values_q 6 t_values_13, oX2 t_plan_q t_plan_firstEnds_q t_plan_rules_q t_plan_rooms t_plan_doorCount t_plan_ruleCount t_plan_stringLength]) (As := [.int p1, .int p2, .int r_7]) (rest := []) (c_X0_add l g _ t_heard_q t_heard_times_q t_heard_subjects_q t_heard_values_q t_heard_size t_heard_subjects t_heard_times t_heard_values p1 p2 r_7 r_9 t_size_10 t_subjects_11 t_times_12 t_values_13 hc_14) ⟨hx, hb, hml, hown, hts⟩ (cwV 3 hts gX7_hear_X0_add rfl rfl rfl (by decide +kernel) ⟨by decide, by decide⟩) hK hz hk hP (hD.re rfl) hS hA [1, 2, 3, 4] rfl rfl rfl rfl rfl rfl rfl hl.1 rfl (Nat.le_of_ble_eq_true rfl) dX7_hear_33 (fun H locs hP hS => ?_)
      refine lv_if_eq (tgt := 49) hx hb dX7_hear_36 (by decide) (fun c_15 => ?_) (fun c_15 => ?_)
      · have hf := ite_t hf c_15
        refine lv_bipush (v := (-3 : Int32)) hx hb dX7_hear_49 (by decide) ?_
        exact hret (-3 : Int32) t_size_10 t_subjects_11 t_times_12 t_values_13 (Option.some.inj hf) _ _ _ _ hP hS dX7_hear_51
      · have hf := ite_f hf c_15
        refine lv_aload_n hx hb dX7_hear_39 rfl (lv_at hl 0 rfl) ?_
        refine va_get (D := g.1) (ci := 7) (v := .ref t_heard_q) (C := RX7) (T := TX7) (N := 13) hx hb hts inX7 hown hK hP 0 rfl rfl 8 (by decide) k53 (fun _ h9 => h9) rfl dX7_hear_40 ?_
        refine va_get (D := g.1) (ci := 0) (v := .int t_size_10) (C := RX0) (T := TX0) (N := 4) hx hb hts inX0 hown hK hP 1 rfl rfl 3 (by decide) k110 (fun _ h9 => h9) rfl dX7_hear_43 ?_
        refine lv_goto (tgt := 51) hx hb dX7_hear_46 (by decide) ?_
        exact hret t_size_10 t_size_10 t_subjects_11 t_times_12 t_values_13 (Option.some.inj hf) _ _ _ _ hP hS dX7_hear_51
    · have hf := ite_t hf c_6
      refine lv_iconst (v := (-1 : Int32)) hx hb dX7_hear_21 (by decide) ?_
      exact hret (-1 : Int32) t_heard_size t_heard_subjects t_heard_times t_heard_values (Option.some.inj hf) _ _ _ _ hP hS dX7_hear_22

def f_X7_hush (t_heard_size : Int32) (p1 : Int32) : Option (Int32 × Int32) :=
 (ob2 (f_X0_keepFirst t_heard_size p1) (fun r_1 t_size_2 =>
 (some (r_1, t_size_2))))
abbrev rmX7_hush : Room := { frames := 2, cells := 0, slots := 0, locals := 44 }
set_option maxHeartbeats 4000000 in
set_option maxRecDepth 100000 in
theorem c_X7_hush (l : Launch) (g : Gh) (sz : Nat) (t_q t_plan_q t_now_q t_ahead_q t_before_q t_images_q t_reader_q t_seen_q t_heard_q t_search_q t_passages_q t_sheets_q t_heard_times_q t_heard_subjects_q t_heard_values_q : Nat) (t_keptImages : Int32) (t_tornFault : Int32) (t_heard_size : Int32) (p1 : Int32) (rr : Int32) (t_heard_size' : Int32) (hf : f_X7_hush t_heard_size p1 = some (rr, t_heard_size')) : CI l yX7_hush wsX7_hush rmX7_hush [.ref t_q, .int p1] g sz [oX7 t_q t_plan_q t_now_q t_ahead_q t_before_q t_images_q t_keptImages t_reader_q t_seen_q t_heard_q t_search_q t_passages_q t_sheets_q t_tornFault, oX0 t_heard_q t_heard_times_q t_heard_subjects_q t_heard_values_q t_heard_size] [oX7 t_q t_plan_q t_now_q t_ahead_q t_before_q t_images_q t_keptImages t_reader_q t_seen_q t_heard_q t_search_q t_passages_q t_sheets_q t_tornFault, oX0 t_heard_q t_heard_times_q t_heard_subjects_q t_heard_values_q t_heard_size'] rr := by
  refine ent_i (cc := cX7_hush) (maxL := 2) (by decide) rfl (Nat.le_of_ble_eq_true rfl) ?_
  intro p e s m args below meth c A Q hx hb hml hown hts hK hz hk hA hD hP hS hret ls hl
  have hown : s.vm.findClass RX7 = some m.cls := hown
  have inX7 : ∀ w ∈ u_ws RX7 TX7 13, w ∈ wsX7_hush := by decide +kernel
  have k53 := hts (.fieldLink RX7 53 "ThreadMoved" "heard" "LThreadMoved$Notes;") (by decide +kernel)
  have hl : lv_has ls 2 [(0, .ref t_q), (1, .int p1)] := hl
  have hret : ∀ (rrz : Int32) (t_heard_sizez : Int32), (rrz, t_heard_sizez) = (rr, t_heard_size') → ∀ (H : Heap) (locs : List Loc) (pc : Nat) (ls : Array Slot), va_P g.1 vwCl [oX7 t_q t_plan_q t_now_q t_ahead_q t_before_q t_images_q t_keptImages t_reader_q t_seen_q t_heard_q t_search_q t_passages_q t_sheets_q t_tornFault, oX0 t_heard_q t_heard_times_q t_heard_subjects_q t_heard_values_q t_heard_sizez] H → va_S A s.heap H locs → decode cX7_hush pc = .ok (.ireturn, 1) → W p l e rmX7_hush s m args below meth c H locs 0 0 Q (F0 m pc ls [.int rrz]) := by
    intro rrz t_heard_sizez he H locs pc ls hP hS hd
    cases he
    exact hret H locs pc ls hP hS hd
  unfold f_X7_hush at hf
  refine lv_aload_n hx hb dX7_hush_0 rfl (lv_at hl 0 rfl) ?_
  refine va_get (D := g.1) (ci := 7) (v := .ref t_heard_q) (C := RX7) (T := TX7) (N := 13) hx hb hts inX7 hown hK hP 0 rfl rfl 8 (by decide) k53 (fun _ h9 => h9) rfl dX7_hush_1 ?_
  refine lv_iload_n hx hb dX7_hush_4 rfl (lv_at hl 1 rfl) ?_
  obtain ⟨r_1, t_size_2, hc_3, hf⟩ := ob2_e hf
  refine kV_i (wn := [oX7 t_q t_plan_q t_now_q t_ahead_q t_before_q t_images_q t_keptImages t_reader_q t_seen_q t_heard_q t_search_q t_passages_q t_sheets_q t_tornFault, oX0 t_heard_q t_heard_times_q t_heard_subjects_q t_heard_values_q t_size_2]) (As := [.int p1]) (rest := []) (c_X0_keepFirst l g _ t_heard_q t_heard_times_q t_heard_subjects_q t_heard_values_q t_heard_size p1 r_1 t_size_2 hc_3) ⟨hx, hb, hml, hown, hts⟩ (cwV 1 hts gX7_hush_X0_keepFirst rfl rfl rfl (by decide +kernel) ⟨by decide, by decide⟩) hK hz hk hP (hD.re rfl) hS hA [1] rfl rfl rfl rfl rfl rfl rfl hl.1 rfl (Nat.le_of_ble_eq_true rfl) dX7_hush_5 (fun H locs hP hS => ?_)
  exact hret r_1 t_size_2 (Option.some.inj hf) _ _ _ _ hP hS dX7_hush_8

def b_X7_isAsHeard_2 (t_heard_size : Int32) (t_heard_subjects : Nat → Int32) (t_heard_times : Nat → Int32) (t_heard_values : Nat → Int32) (p1 : Int32) (p2 : Int32) (v3_1 : Int32) : Option ((Int32) ⊕ ((Int32) ⊕ (Int32))) :=
 (if t_heard_size ≤ v3_1 then
 (some (.inr (.inr v3_1)))
 else (gin v3_1 6 (jn1 (fun (s_5 : Int32) => (ob1 (f_X7_asNumber s_5) (fun r_7 =>
 (gin v3_1 6 (jn0 (bnd (v3_1 + (1 : Int32)) (fun v3_11 =>
 (some (.inl v3_11)))) (fun j_10 =>
 (if (t_heard_times v3_1.toNatClampNeg) = p1 then
 (gin v3_1 6 (if (t_heard_values v3_1.toNatClampNeg) = r_7 then
 (j_10)
 else (some (.inr (.inl (0 : Int32))))))
 else (j_10)))))))) (fun j_6 =>
 (if (t_heard_subjects v3_1.toNatClampNeg) = p2 then
 (j_6 (1 : Int32))
 else (j_6 (0 : Int32)))))))
def f_X7_isAsHeard (t_heard_size : Int32) (t_heard_subjects : Nat → Int32) (t_heard_times : Nat → Int32) (t_heard_values : Nat → Int32) (p1 : Int32) (p2 : Int32) : Option (Int32) :=
 (obm1 (itr (un1 (b_X7_isAsHeard_2 t_heard_size t_heard_subjects t_heard_times t_heard_values p1 p2)) FU (0 : Int32)) (fun x3_16 =>
 (some (1 : Int32))))
abbrev rmX7_isAsHeard : Room := { frames := 1, cells := 0, slots := 0, locals := 20 }
set_option maxHeartbeats 4000000 in
set_option maxRecDepth 100000 in
theorem c_X7_isAsHeard (l : Launch) (g : Gh) (sz : Nat) (t_q t_plan_q t_now_q t_ahead_q t_before_q t_images_q t_reader_q t_seen_q t_heard_q t_search_q t_passages_q t_sheets_q t_heard_times_q t_heard_subjects_q t_heard_values_q : Nat) (t_keptImages : Int32) (t_tornFault : Int32) (t_heard_size : Int32) (t_heard_subjects : Nat → Int32) (t_heard_times : Nat → Int32) (t_heard_values : Nat → Int32) (p1 : Int32) (p2 : Int32) (rr : Int32) (hf : f_X7_isAsHeard t_heard_size t_heard_subjects t_heard_times t_heard_values p1 p2 = some rr) : CI l yX7_isAsHeard wsX7_isAsHeard rmX7_isAsHeard [.ref t_q, .int p1, .int p2] g sz [oX7 t_q t_plan_q t_now_q t_ahead_q t_before_q t_images_q t_keptImages t_reader_q t_seen_q t_heard_q t_search_q t_passages_q t_sheets_q t_tornFault, oX0 t_heard_q t_heard_times_q t_heard_subjects_q t_heard_values_q t_heard_size, aI g t_heard_subjects_q 6 t_heard_subjects, aI g t_heard_times_q 6 t_heard_times, aI g t_heard_values_q 6 t_heard_values] [oX7 t_q t_plan_q t_now_q t_ahead_q t_before_q t_images_q t_keptImages t_reader_q t_seen_q t_heard_q t_search_q t_passages_q t_sheets_q t_tornFault, oX0 t_heard_q t_heard_times_q t_heard_subjects_q t_heard_values_q t_heard_size, aI g t_heard_subjects_q 6 t_heard_subjects, aI g t_heard_times_q 6 t_heard_times, aI g t_heard_values_q 6 t_heard_values] rr := by
  refine ent_z (cc := cX7_isAsHeard) (maxL := 5) (by decide) rfl (Nat.le_of_ble_eq_true rfl) ?_
  intro p e s m args below meth c A Q hx hb hml hown hts hK hz hk hA hD hP hS hret ls hl
  have hown : s.vm.findClass RX7 = some m.cls := hown
  have inX0 : ∀ w ∈ u_ws RX0 TX0 4, w ∈ wsX7_isAsHeard := by decide +kernel
  have inX7 : ∀ w ∈ u_ws RX7 TX7 13, w ∈ wsX7_isAsHeard := by decide +kernel
  have k53 := hts (.fieldLink RX7 53 "ThreadMoved" "heard" "LThreadMoved$Notes;") (by decide +kernel)
  have k110 := hts (.fieldLink RX7 110 "ThreadMoved$Notes" "size" "I") (by decide +kernel)
  have k241 := hts (.fieldLink RX7 241 "ThreadMoved$Notes" "times" "[I") (by decide +kernel)
  have k247 := hts (.fieldLink RX7 247 "ThreadMoved$Notes" "subjects" "[I") (by decide +kernel)
  have k250 := hts (.fieldLink RX7 250 "ThreadMoved$Notes" "values" "[I") (by decide +kernel)
  have hl : lv_has ls 5 [(0, .ref t_q), (1, .int p1), (2, .int p2)] := hl
  have hret : ∀ (rrz : Int32), rrz = rr → narrow .boolean (.int rrz) = .int rrz → ∀ (H : Heap) (locs : List Loc) (pc : Nat) (ls : Array Slot), va_P g.1 vwCl [oX7 t_q t_plan_q t_now_q t_ahead_q t_before_q t_images_q t_keptImages t_reader_q t_seen_q t_heard_q t_search_q t_passages_q t_sheets_q t_tornFault, oX0 t_heard_q t_heard_times_q t_heard_subjects_q t_heard_values_q t_heard_size, aI g t_heard_subjects_q 6 t_heard_subjects, aI g t_heard_times_q 6 t_heard_times, aI g t_heard_values_q 6 t_heard_values] H → va_S A s.heap H locs → decode cX7_isAsHeard pc = .ok (.ireturn, 1) → W p l e rmX7_isAsHeard s m args below meth c H locs 0 0 Q (F0 m pc ls [.int rrz]) := by
    intro rrz he hzz H locs pc ls hP hS hd
    cases he
    exact hret H locs pc ls hzz hP hS hd
  unfold f_X7_isAsHeard at hf
  refine lv_iconst (v := (0 : Int32)) hx hb dX7_isAsHeard_0 (by decide) ?_
  refine lv_istore_n (lv' := [(3, .int (0 : Int32)), (0, .ref t_q), (1, .int p1), (2, .int p2)]) hx hb dX7_isAsHeard_1 rfl hl (by decide) rfl (fun ls hl => ?_)
  obtain ⟨z0_2, ho_2, hkr_2, hke_2⟩ := obm1_e hf
  have K_2 : ∀ (x3_16 : Int32), z0_2 = .inr x3_16 → ∀ (H : Heap) (locs : List Loc) (ls : Array Slot), va_P g.1 vwCl [oX7 t_q t_plan_q t_now_q t_ahead_q t_before_q t_images_q t_keptImages t_reader_q t_seen_q t_heard_q t_search_q t_passages_q t_sheets_q t_tornFault, oX0 t_heard_q t_heard_times_q t_heard_subjects_q t_heard_values_q t_heard_size, aI g t_heard_subjects_q 6 t_heard_subjects, aI g t_heard_times_q 6 t_heard_times, aI g t_heard_values_q 6 t_heard_values] H → va_S A s.heap H locs → lv_has ls 5 [] → W p l e rmX7_isAsHeard s m args below meth c H locs 0 0 Q (F0 m 71 ls []) := by
    intro x3_16 hz9 H locs ls hP hS hl
    have hf := hke_2 x3_16 hz9
    refine lv_iconst (v := (1 : Int32)) hx hb dX7_isAsHeard_71 (by decide) ?_
    exact hret (1 : Int32) (Option.some.inj hf) rfl _ _ _ _ hP hS dX7_isAsHeard_72
  have L_2 : ∀ (n : Nat) (v3_1 : Int32), itr (un1 (b_X7_isAsHeard_2 t_heard_size t_heard_subjects t_heard_times t_heard_values p1 p2)) n v3_1 = some z0_2 → ∀ (H : Heap) (locs : List Loc) (ls : Array Slot), va_P g.1 vwCl [oX7 t_q t_plan_q t_now_q t_ahead_q t_before_q t_images_q t_keptImages t_reader_q t_seen_q t_heard_q t_search_q t_passages_q t_sheets_q t_tornFault, oX0 t_heard_q t_heard_times_q t_heard_subjects_q t_heard_values_q t_heard_size, aI g t_heard_subjects_q 6 t_heard_subjects, aI g t_heard_times_q 6 t_heard_times, aI g t_heard_values_q 6 t_heard_values] H → va_S A s.heap H locs → lv_has ls 5 [(0, .ref t_q), (1, .int p1), (2, .int p2), (3, .int v3_1)] → W p l e rmX7_isAsHeard s m args below meth c H locs 0 0 Q (F0 m 2 ls []) := by
    refine itr_ind1 ?_
    intro v3_1 z_2 hf hrec hex H locs ls hP hS hl
    unfold b_X7_isAsHeard_2 at hf
    refine lv_iload_n hx hb dX7_isAsHeard_2 rfl (lv_at hl 3 rfl) ?_
    refine lv_aload_n hx hb dX7_isAsHeard_3 rfl (lv_at hl 0 rfl) ?_
    refine va_get (D := g.1) (ci := 7) (v := .ref t_heard_q) (C := RX7) (T := TX7) (N := 13) hx hb hts inX7 hown hK hP 0 rfl rfl 8 (by decide) k53 (fun _ h9 => h9) rfl dX7_isAsHeard_4 ?_
    refine va_get (D := g.1) (ci := 0) (v := .int t_heard_size) (C := RX0) (T := TX0) (N := 4) hx hb hts inX0 hown hK hP 1 rfl rfl 3 (by decide) k110 (fun _ h9 => h9) rfl dX7_isAsHeard_7 ?_
    refine lv_icmp_ge (tgt := 71) hx hb dX7_isAsHeard_10 (by decide) (fun c_3 => ?_) (fun c_3 => ?_)
    · have hf := ite_t hf c_3
      exact K_2 v3_1 (hex _ (Option.some.inj hf).symm).symm _ _ _ hP hS (lv_sub hl [] rfl)
    · have hf := ite_f hf c_3
      refine lv_aload_n hx hb dX7_isAsHeard_13 rfl (lv_at hl 0 rfl) ?_
      refine va_get (D := g.1) (ci := 7) (v := .ref t_heard_q) (C := RX7) (T := TX7) (N := 13) hx hb hts inX7 hown hK hP 0 rfl rfl 8 (by decide) k53 (fun _ h9 => h9) rfl dX7_isAsHeard_14 ?_
      refine va_get (D := g.1) (ci := 0) (v := .ref t_heard_subjects_q) (C := RX0) (T := TX0) (N := 4) hx hb hts inX0 hown hK hP 1 rfl rfl 1 (by decide) k247 (fun _ h9 => h9) rfl dX7_isAsHeard_17 ?_
      refine lv_iload_n hx hb dX7_isAsHeard_20 rfl (lv_at hl 3 rfl) ?_
      obtain ⟨h_4, hf⟩ := gin_e hf
      refine va_iald hx hb hK hP 2 0 rfl rfl h_4 dX7_isAsHeard_21 ?_
      refine lv_iload_n hx hb dX7_isAsHeard_22 rfl (lv_at hl 2 rfl) ?_
      obtain ⟨j_6, hj_6, hf⟩ := jn1_e hf
      have J_6 : ∀ (s_5 : Int32), j_6 s_5 = some z_2 → ∀ (H : Heap) (locs : List Loc) (ls : Array Slot), va_P g.1 vwCl [oX7 t_q t_plan_q t_now_q t_ahead_q t_before_q t_images_q t_keptImages t_reader_q t_seen_q t_heard_q t_search_q t_passages_q t_sheets_q t_tornFault, oX0 t_heard_q t_heard_times_q t_heard_subjects_q t_heard_values_q t_heard_size, aI g t_heard_subjects_q 6 t_heard_subjects, aI g t_heard_times_q 6 t_heard_times, aI g t_heard_values_q 6 t_heard_values] H → va_S A s.heap H locs → lv_has ls 5 [(0, .ref t_q), (1, .int p1), (2, .int p2), (3, .int v3_1)] → W p l e rmX7_isAsHeard s m args below meth c H locs 0 0 Q (F0 m 31 ls [.int s_5]) := by
        intro s_5 hf H locs ls hP hS hl
        rw [hj_6] at hf
        obtain ⟨r_7, hc_8, hf⟩ := ob1_e hf
        refine kS_i (wn := [oX7 t_q t_plan_q t_now_q t_ahead_q t_before_q t_images_q t_keptImages t_reader_q t_seen_q t_heard_q t_search_q t_passages_q t_sheets_q t_tornFault, oX0 t_heard_q t_heard_times_q t_heard_subjects_q t_heard_values_q t_heard_size, aI g t_heard_subjects_q 6 t_heard_subjects, aI g t_heard_times_q 6 t_heard_times, aI g t_heard_values_q 6 t_heard_values]) (As := [.int s_5]) (rest := []) (c_X7_asNumber l g _ s_5 r_7 hc_8) ⟨hx, hb, hml, hown, hts⟩ (va_cwS 1 hts gX7_isAsHeard_X7_asNumber rfl rfl rfl (by decide +kernel) ⟨by decide, by decide⟩) hK hz hk hP (hD.re rfl) hS hA [] rfl rfl rfl rfl rfl hl.1 rfl (Nat.le_of_ble_eq_true rfl) dX7_isAsHeard_31 (fun H locs hP hS => ?_)
        refine lv_istore (lv' := [(4, .int r_7), (0, .ref t_q), (1, .int p1), (2, .int p2), (3, .int v3_1)]) hx hb dX7_isAsHeard_34 hl (by decide) rfl (fun ls hl => ?_)
        refine lv_aload_n hx hb dX7_isAsHeard_36 rfl (lv_at hl 1 rfl) ?_
        refine va_get (D := g.1) (ci := 7) (v := .ref t_heard_q) (C := RX7) (T := TX7) (N := 13) hx hb hts inX7 hown hK hP 0 rfl rfl 8 (by decide) k53 (fun _ h9 => h9) rfl dX7_isAsHeard_37 ?_
        refine va_get (D := g.1) (ci := 0) (v := .ref t_heard_times_q) (C := RX0) (T := TX0) (N := 4) hx hb hts inX0 hown hK hP 1 rfl rfl 0 (by decide) k241 (fun _ h9 => h9) rfl dX7_isAsHeard_40 ?_
        refine lv_iload_n hx hb dX7_isAsHeard_43 rfl (lv_at hl 4 rfl) ?_
        obtain ⟨h_9, hf⟩ := gin_e hf
        refine va_iald hx hb hK hP 3 0 rfl rfl h_9 dX7_isAsHeard_44 ?_
        refine lv_iload_n hx hb dX7_isAsHeard_45 rfl (lv_at hl 2 rfl) ?_
        obtain ⟨j_10, hj_10, hf⟩ := jn0_e hf
        have J_10 : j_10 = some z_2 → ∀ (H : Heap) (locs : List Loc) (ls : Array Slot), va_P g.1 vwCl [oX7 t_q t_plan_q t_now_q t_ahead_q t_before_q t_images_q t_keptImages t_reader_q t_seen_q t_heard_q t_search_q t_passages_q t_sheets_q t_tornFault, oX0 t_heard_q t_heard_times_q t_heard_subjects_q t_heard_values_q t_heard_size, aI g t_heard_subjects_q 6 t_heard_subjects, aI g t_heard_times_q 6 t_heard_times, aI g t_heard_values_q 6 t_heard_values] H → va_S A s.heap H locs → lv_has ls 5 [(0, .ref t_q), (1, .int p1), (2, .int p2), (3, .int v3_1)] → W p l e rmX7_isAsHeard s m args below meth c H locs 0 0 Q (F0 m 65 ls []) := by
          intro hf H locs ls hP hS hl
          rw [hj_10] at hf
          obtain ⟨v3_11, ev3_11, hf⟩ := bnd_e hf
          refine lv_iinc (v := v3_11) (lv' := [(3, .int v3_11), (0, .ref t_q), (1, .int p1), (2, .int p2)]) hx hb dX7_isAsHeard_65 hl (k := 3) rfl (by rw [ev3_11]; rfl) (by decide) rfl (fun ls hl => ?_)
          refine lv_goto (tgt := 2) hx hb dX7_isAsHeard_68 (by decide) ?_
          exact hrec v3_11 (Option.some.inj hf).symm _ _ _ hP hS (lv_sub hl [1, 2, 3, 0] rfl)
        refine lv_icmp_ne (tgt := 65) hx hb dX7_isAsHeard_46 (by decide) (fun c_12 => ?_) (fun c_12 => ?_)
        · have hf := ite_f hf c_12
          exact J_10 hf _ _ _ hP hS (lv_sub hl [1, 2, 3, 4] rfl)
        · have hf := ite_t hf c_12
          refine lv_aload_n hx hb dX7_isAsHeard_49 rfl (lv_at hl 1 rfl) ?_
          refine va_get (D := g.1) (ci := 7) (v := .ref t_heard_q) (C := RX7) (T := TX7) (N := 13) hx hb hts inX7 hown hK hP 0 rfl rfl 8 (by decide) k53 (fun _ h9 => h9) rfl dX7_isAsHeard_50 ?_
          refine va_get (D := g.1) (ci := 0) (v := .ref t_heard_values_q) (C := RX0) (T := TX0) (N := 4) hx hb hts inX0 hown hK hP 1 rfl rfl 2 (by decide) k250 (fun _ h9 => h9) rfl dX7_isAsHeard_53 ?_
          refine lv_iload_n hx hb dX7_isAsHeard_56 rfl (lv_at hl 4 rfl) ?_
          obtain ⟨h_13, hf⟩ := gin_e hf
          refine va_iald hx hb hK hP 4 0 rfl rfl h_13 dX7_isAsHeard_57 ?_
          refine lv_iload hx hb dX7_isAsHeard_58 (lv_at hl 0 rfl) ?_
          refine lv_icmp_eq (tgt := 65) hx hb dX7_isAsHeard_60 (by decide) (fun c_14 => ?_) (fun c_14 => ?_)
          · have hf := ite_t hf c_14
            exact J_10 hf _ _ _ hP hS (lv_sub hl [1, 2, 3, 4] rfl)
          · have hf := ite_f hf c_14
            refine lv_iconst (v := (0 : Int32)) hx hb dX7_isAsHeard_63 (by decide) ?_
            exact hret (0 : Int32) (hkr_2 _ (hex _ (Option.some.inj hf).symm).symm) rfl _ _ _ _ hP hS dX7_isAsHeard_64
      refine lv_icmp_ne (tgt := 30) hx hb dX7_isAsHeard_23 (by decide) (fun c_15 => ?_) (fun c_15 => ?_)
      · have hf := ite_f hf c_15
        refine lv_iconst (v := (0 : Int32)) hx hb dX7_isAsHeard_30 (by decide) ?_
        exact J_6 (0 : Int32) hf _ _ _ hP hS (lv_sub hl [0, 1, 2, 3] rfl)
      · have hf := ite_t hf c_15
        refine lv_iconst (v := (1 : Int32)) hx hb dX7_isAsHeard_26 (by decide) ?_
        refine lv_goto (tgt := 31) hx hb dX7_isAsHeard_27 (by decide) ?_
        exact J_6 (1 : Int32) hf _ _ _ hP hS (lv_sub hl [0, 1, 2, 3] rfl)
  exact L_2 FU (0 : Int32) ho_2 _ _ _ hP hS (lv_sub hl [1, 2, 3, 0] rfl)

def f_X7_isHabit (p0 : Int32) : Option (Int32) :=
 (ob1 (f_X7_isWithin p0 (0 : Int32) (3 : Int32)) (fun r_1 =>
 (gbl r_1 (some r_1))))
abbrev rmX7_isHabit : Room := { frames := 1, cells := 0, slots := 0, locals := 22 }
set_option maxHeartbeats 4000000 in
set_option maxRecDepth 100000 in
theorem c_X7_isHabit (l : Launch) (g : Gh) (sz : Nat) (p0 : Int32) (rr : Int32) (hf : f_X7_isHabit p0 = some rr) : CI l yX7_isHabit wsX7_isHabit rmX7_isHabit [.int p0] g sz [] [] rr := by
  refine ent_z (cc := cX7_isHabit) (maxL := 1) (by decide) rfl (Nat.le_of_ble_eq_true rfl) ?_
  intro p e s m args below meth c A Q hx hb hml hown hts hK hz hk hA hD hP hS hret ls hl
  have hown : s.vm.findClass RX7 = some m.cls := hown
  have hl : lv_has ls 1 [(0, .int p0)] := hl
  have hret : ∀ (rrz : Int32), rrz = rr → narrow .boolean (.int rrz) = .int rrz → ∀ (H : Heap) (locs : List Loc) (pc : Nat) (ls : Array Slot), va_P g.1 vwCl [] H → va_S A s.heap H locs → decode cX7_isHabit pc = .ok (.ireturn, 1) → W p l e rmX7_isHabit s m args below meth c H locs 0 0 Q (F0 m pc ls [.int rrz]) := by
    intro rrz he hzz H locs pc ls hP hS hd
    cases he
    exact hret H locs pc ls hzz hP hS hd
  unfold f_X7_isHabit at hf
  refine lv_iload_n hx hb dX7_isHabit_0 rfl (lv_at hl 0 rfl) ?_
  refine lv_iconst (v := (0 : Int32)) hx hb dX7_isHabit_1 (by decide) ?_
  refine lv_iconst (v := (3 : Int32)) hx hb dX7_isHabit_2 (by decide) ?_
  obtain ⟨r_1, hc_2, hf⟩ := ob1_e hf
  refine kS_i (wn := []) (As := [.int p0, .int (0 : Int32), .int (3 : Int32)]) (rest := []) (c_X7_isWithin l g _ p0 (0 : Int32) (3 : Int32) r_1 hc_2) ⟨hx, hb, hml, hown, hts⟩ (va_cwS 3 hts gX7_isHabit_X7_isWithin rfl rfl rfl (by decide +kernel) ⟨by decide, by decide⟩) hK hz hk hP (hD.re rfl) hS hA [] rfl rfl rfl rfl rfl hl.1 rfl (Nat.le_of_ble_eq_true rfl) dX7_isHabit_3 (fun H locs hP hS => ?_)
  obtain ⟨b_3, hf⟩ := gbl_e hf
  exact hret r_1 (Option.some.inj hf) (bl_n b_3) _ _ _ _ hP hS dX7_isHabit_6

def f_X7_isLane (p0 : Int32) : Option (Int32) :=
 (ob1 (f_X7_isWithin p0 (0 : Int32) (2 : Int32)) (fun r_1 =>
 (gbl r_1 (some r_1))))
abbrev rmX7_isLane : Room := { frames := 1, cells := 0, slots := 0, locals := 22 }
set_option maxHeartbeats 4000000 in
set_option maxRecDepth 100000 in
theorem c_X7_isLane (l : Launch) (g : Gh) (sz : Nat) (p0 : Int32) (rr : Int32) (hf : f_X7_isLane p0 = some rr) : CI l yX7_isLane wsX7_isLane rmX7_isLane [.int p0] g sz [] [] rr := by
  refine ent_z (cc := cX7_isLane) (maxL := 1) (by decide) rfl (Nat.le_of_ble_eq_true rfl) ?_
  intro p e s m args below meth c A Q hx hb hml hown hts hK hz hk hA hD hP hS hret ls hl
  have hown : s.vm.findClass RX7 = some m.cls := hown
  have hl : lv_has ls 1 [(0, .int p0)] := hl
  have hret : ∀ (rrz : Int32), rrz = rr → narrow .boolean (.int rrz) = .int rrz → ∀ (H : Heap) (locs : List Loc) (pc : Nat) (ls : Array Slot), va_P g.1 vwCl [] H → va_S A s.heap H locs → decode cX7_isLane pc = .ok (.ireturn, 1) → W p l e rmX7_isLane s m args below meth c H locs 0 0 Q (F0 m pc ls [.int rrz]) := by
    intro rrz he hzz H locs pc ls hP hS hd
    cases he
    exact hret H locs pc ls hzz hP hS hd
  unfold f_X7_isLane at hf
  refine lv_iload_n hx hb dX7_isLane_0 rfl (lv_at hl 0 rfl) ?_
  refine lv_iconst (v := (0 : Int32)) hx hb dX7_isLane_1 (by decide) ?_
  refine lv_iconst (v := (2 : Int32)) hx hb dX7_isLane_2 (by decide) ?_
  obtain ⟨r_1, hc_2, hf⟩ := ob1_e hf
  refine kS_i (wn := []) (As := [.int p0, .int (0 : Int32), .int (2 : Int32)]) (rest := []) (c_X7_isWithin l g _ p0 (0 : Int32) (2 : Int32) r_1 hc_2) ⟨hx, hb, hml, hown, hts⟩ (va_cwS 3 hts gX7_isLane_X7_isWithin rfl rfl rfl (by decide +kernel) ⟨by decide, by decide⟩) hK hz hk hP (hD.re rfl) hS hA [] rfl rfl rfl rfl rfl hl.1 rfl (Nat.le_of_ble_eq_true rfl) dX7_isLane_3 (fun H locs hP hS => ?_)
  obtain ⟨b_3, hf⟩ := gbl_e hf
  exact hret r_1 (Option.some.inj hf) (bl_n b_3) _ _ _ _ hP hS dX7_isLane_6
