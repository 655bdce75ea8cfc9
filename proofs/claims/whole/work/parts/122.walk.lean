def f_X7_period (t_now_period : Int32) (p1 : Int32) : Option (Int32 × Int32) :=
 (ob1 (f_X7_isWithin p1 (1 : Int32) (6 : Int32)) (fun r_1 =>
 (if r_1 = (0 : Int32) then
 (some ((-1 : Int32), t_now_period))
 else (some (t_now_period, p1)))))
abbrev rmX7_period : Room := { frames := 1, cells := 0, slots := 0, locals := 22 }
set_option maxHeartbeats 4000000 in
set_option maxRecDepth 100000 in
theorem c_X7_period (l : Launch) (g : Gh) (sz : Nat) (t_q t_plan_q t_now_q t_ahead_q t_before_q t_images_q t_reader_q t_seen_q t_heard_q t_search_q t_passages_q t_sheets_q t_now_secondEnds_q t_now_string_q : Nat) (t_keptImages : Int32) (t_tornFault : Int32) (t_now_barred : Int32) (t_now_period : Int32) (t_now_his : Int32) (t_now_beast : Int32) (t_now_habit : Int32) (t_now_onString : Int32) (t_now_step : Int32) (t_now_eaten : Int32) (p1 : Int32) (rr : Int32) (t_now_period' : Int32) (hf : f_X7_period t_now_period p1 = some (rr, t_now_period')) : CI l yX7_period wsX7_period rmX7_period [.ref t_q, .int p1] g sz [oX7 t_q t_plan_q t_now_q t_ahead_q t_before_q t_images_q t_keptImages t_reader_q t_seen_q t_heard_q t_search_q t_passages_q t_sheets_q t_tornFault, oX6 t_now_q t_plan_q t_now_secondEnds_q t_now_string_q t_now_barred t_now_period t_now_his t_now_beast t_now_habit t_now_onString t_now_step t_now_eaten] [oX7 t_q t_plan_q t_now_q t_ahead_q t_before_q t_images_q t_keptImages t_reader_q t_seen_q t_heard_q t_search_q t_passages_q t_sheets_q t_tornFault, oX6 t_now_q t_plan_q t_now_secondEnds_q t_now_string_q t_now_barred t_now_period' t_now_his t_now_beast t_now_habit t_now_onString t_now_step t_now_eaten] rr := by
  refine ent_i (cc := cX7_period) (maxL := 3) (by decide) rfl (Nat.le_of_ble_eq_true rfl) ?_
  intro p e s m args below meth c A Q hx hb hml hown hts hK hz hk hA hD hP hS hret ls hl
  have hown : s.vm.findClass RX7 = some m.cls := hown
  have inX6 : ∀ w ∈ u_ws RX6 TX6 11, w ∈ wsX7_period := by decide +kernel
  have inX7 : ∀ w ∈ u_ws RX7 TX7 13, w ∈ wsX7_period := by decide +kernel
  have k21 := hts (.fieldLink RX7 21 "ThreadMoved" "now" "LThreadMoved$State;") (by decide +kernel)
  have k122 := hts (.fieldLink RX7 122 "ThreadMoved$State" "period" "I") (by decide +kernel)
  have hl : lv_has ls 3 [(0, .ref t_q), (1, .int p1)] := hl
  have hret : ∀ (rrz : Int32) (t_now_periodz : Int32), (rrz, t_now_periodz) = (rr, t_now_period') → ∀ (H : Heap) (locs : List Loc) (pc : Nat) (ls : Array Slot), va_P g.1 vwCl [oX7 t_q t_plan_q t_now_q t_ahead_q t_before_q t_images_q t_keptImages t_reader_q t_seen_q t_heard_q t_search_q t_passages_q t_sheets_q t_tornFault, oX6 t_now_q t_plan_q t_now_secondEnds_q t_now_string_q t_now_barred t_now_periodz t_now_his t_now_beast t_now_habit t_now_onString t_now_step t_now_eaten] H → va_S A s.heap H locs → decode cX7_period pc = .ok (.ireturn, 1) → W p l e rmX7_period s m args below meth c H locs 0 0 Q (F0 m pc ls [.int rrz]) := by
    intro rrz t_now_periodz he H locs pc ls hP hS hd
    cases he
    exact hret H locs pc ls hP hS hd
  unfold f_X7_period at hf
  refine lv_iload_n hx hb dX7_period_0 rfl (lv_at hl 1 rfl) ?_
  refine lv_iconst (v := (1 : Int32)) hx hb dX7_period_1 (by decide) ?_
  refine lv_bipush (v := (6 : Int32)) hx hb dX7_period_2 (by decide) ?_
  obtain ⟨r_1, hc_2, hf⟩ := ob1_e hf
  refine kS_i (wn := [oX7 t_q t_plan_q t_now_q t_ahead_q t_before_q t_images_q t_keptImages t_reader_q t_seen_q t_heard_q t_search_q t_passages_q t_sheets_q t_tornFault, oX6 t_now_q t_plan_q t_now_secondEnds_q t_now_string_q t_now_barred t_now_period t_now_his t_now_beast t_now_habit t_now_onString t_now_step t_now_eaten]) (As := [.int p1, .int (1 : Int32), .int (6 : Int32)]) (rest := []) (c_X7_isWithin l g _ p1 (1 : Int32) (6 : Int32) r_1 hc_2) ⟨hx, hb, hml, hown, hts⟩ (va_cwS 3 hts gX7_period_X7_isWithin rfl rfl rfl (by decide +kernel) ⟨by decide, by decide⟩) hK hz hk hP (hD.re rfl) hS hA [] rfl rfl rfl rfl rfl hl.1 rfl (Nat.le_of_ble_eq_true rfl) dX7_period_4 (fun H locs hP hS => ?_)
  refine lv_if_ne (tgt := 12) hx hb dX7_period_7 (by decide) (fun c_3 => ?_) (fun c_3 => ?_)
  · have hf := ite_f hf c_3
    refine lv_aload_n hx hb dX7_period_12 rfl (lv_at hl 0 rfl) ?_
    refine va_get (D := g.1) (ci := 7) (v := .ref t_now_q) (C := RX7) (T := TX7) (N := 13) hx hb hts inX7 hown hK hP 0 rfl rfl 1 (by decide) k21 (fun _ h9 => h9) rfl dX7_period_13 ?_
    refine va_get (D := g.1) (ci := 6) (v := .int t_now_period) (C := RX6) (T := TX6) (N := 11) hx hb hts inX6 hown hK hP 1 rfl rfl 4 (by decide) k122 (fun _ h9 => h9) rfl dX7_period_16 ?_
    refine lv_istore_n (lv' := [(2, .int t_now_period), (0, .ref t_q), (1, .int p1)]) hx hb dX7_period_19 rfl hl (by decide) rfl (fun ls hl => ?_)
    refine lv_aload_n hx hb dX7_period_20 rfl (lv_at hl 1 rfl) ?_
    refine va_get (D := g.1) (ci := 7) (v := .ref t_now_q) (C := RX7) (T := TX7) (N := 13) hx hb hts inX7 hown hK hP 0 rfl rfl 1 (by decide) k21 (fun _ h9 => h9) rfl dX7_period_21 ?_
    refine lv_iload_n hx hb dX7_period_24 rfl (lv_at hl 2 rfl) ?_
    refine va_put (D := g.1) (ci := 6) (v := .int p1) (ty := .int) (C := RX6) (T := TX6) (N := 11) hx hb hts inX6 tyX6 tyX6_ok nmX6 hown hK hP (hD.re rfl) hS 1 rfl rfl 4 (by decide) k122 (fun _ h9 => h9) rfl (by decide +kernel) rfl rfl (Nat.le_of_ble_eq_true rfl) dX7_period_25 (fun H locs hP _ hS => ?_)
    have hP : va_P g.1 vwCl [oX7 t_q t_plan_q t_now_q t_ahead_q t_before_q t_images_q t_keptImages t_reader_q t_seen_q t_heard_q t_search_q t_passages_q t_sheets_q t_tornFault, oX6 t_now_q t_plan_q t_now_secondEnds_q t_now_string_q t_now_barred p1 t_now_his t_now_beast t_now_habit t_now_onString t_now_step t_now_eaten] H := hP
    refine lv_iload_n hx hb dX7_period_28 rfl (lv_at hl 0 rfl) ?_
    exact hret t_now_period p1 (Option.some.inj hf) _ _ _ _ hP hS dX7_period_29
  · have hf := ite_t hf c_3
    refine lv_iconst (v := (-1 : Int32)) hx hb dX7_period_10 (by decide) ?_
    exact hret (-1 : Int32) t_now_period (Option.some.inj hf) _ _ _ _ hP hS dX7_period_11

def f_X7_put (t_now_his : Int32) (t_now_beast : Int32) (t_now_eaten : Int32) (t_plan_rooms : Int32) (p1 : Int32) : Option (Int32 × Int32 × Int32) :=
 (ob1 (f_X2_hasRoom t_plan_rooms p1) (fun r_1 =>
 (if r_1 = (0 : Int32) then
 (some ((-1 : Int32), t_now_eaten, t_now_his))
 else (if t_now_beast = p1 then
 (some ((-2 : Int32), t_now_eaten, t_now_his))
 else (some (t_now_his, (0 : Int32), p1))))))
abbrev rmX7_put : Room := { frames := 1, cells := 0, slots := 0, locals := 21 }
set_option maxHeartbeats 4000000 in
set_option maxRecDepth 100000 in
theorem c_X7_put (l : Launch) (g : Gh) (sz : Nat) (t_q t_plan_q t_now_q t_ahead_q t_before_q t_images_q t_reader_q t_seen_q t_heard_q t_search_q t_passages_q t_sheets_q t_now_secondEnds_q t_now_string_q t_plan_firstEnds_q t_plan_rules_q : Nat) (t_keptImages : Int32) (t_tornFault : Int32) (t_now_barred : Int32) (t_now_period : Int32) (t_now_his : Int32) (t_now_beast : Int32) (t_now_habit : Int32) (t_now_onString : Int32) (t_now_step : Int32) (t_now_eaten : Int32) (t_plan_rooms : Int32) (t_plan_doorCount : Int32) (t_plan_ruleCount : Int32) (t_plan_stringLength : Int32) (p1 : Int32) (rr : Int32) (t_now_eaten' : Int32) (t_now_his' : Int32) (hf : f_X7_put t_now_his t_now_beast t_now_eaten t_plan_rooms p1 = some (rr, t_now_eaten', t_now_his')) : CI l yX7_put wsX7_put rmX7_put [.ref t_q, .int p1] g sz [oX7 t_q t_plan_q t_now_q t_ahead_q t_before_q t_images_q t_keptImages t_reader_q t_seen_q t_heard_q t_search_q t_passages_q t_sheets_q t_tornFault, oX6 t_now_q t_plan_q t_now_secondEnds_q t_now_string_q t_now_barred t_now_period t_now_his t_now_beast t_now_habit t_now_onString t_now_step t_now_eaten, oX2 t_plan_q t_plan_firstEnds_q t_plan_rules_q t_plan_rooms t_plan_doorCount t_plan_ruleCount t_plan_stringLength] [oX7 t_q t_plan_q t_now_q t_ahead_q t_before_q t_images_q t_keptImages t_reader_q t_seen_q t_heard_q t_search_q t_passages_q t_sheets_q t_tornFault, oX6 t_now_q t_plan_q t_now_secondEnds_q t_now_string_q t_now_barred t_now_period t_now_his' t_now_beast t_now_habit t_now_onString t_now_step t_now_eaten', oX2 t_plan_q t_plan_firstEnds_q t_plan_rules_q t_plan_rooms t_plan_doorCount t_plan_ruleCount t_plan_stringLength] rr := by
  refine ent_i (cc := cX7_put) (maxL := 3) (by decide) rfl (Nat.le_of_ble_eq_true rfl) ?_
  intro p e s m args below meth c A Q hx hb hml hown hts hK hz hk hA hD hP hS hret ls hl
  have hown : s.vm.findClass RX7 = some m.cls := hown
  have inX6 : ∀ w ∈ u_ws RX6 TX6 11, w ∈ wsX7_put := by decide +kernel
  have inX7 : ∀ w ∈ u_ws RX7 TX7 13, w ∈ wsX7_put := by decide +kernel
  have k12 := hts (.fieldLink RX7 12 "ThreadMoved" "plan" "LThreadMoved$Plan;") (by decide +kernel)
  have k21 := hts (.fieldLink RX7 21 "ThreadMoved" "now" "LThreadMoved$State;") (by decide +kernel)
  have k134 := hts (.fieldLink RX7 134 "ThreadMoved$State" "his" "I") (by decide +kernel)
  have k137 := hts (.fieldLink RX7 137 "ThreadMoved$State" "beast" "I") (by decide +kernel)
  have k143 := hts (.fieldLink RX7 143 "ThreadMoved$State" "eaten" "Z") (by decide +kernel)
  have hl : lv_has ls 3 [(0, .ref t_q), (1, .int p1)] := hl
  have hret : ∀ (rrz : Int32) (t_now_eatenz : Int32) (t_now_hisz : Int32), (rrz, t_now_eatenz, t_now_hisz) = (rr, t_now_eaten', t_now_his') → ∀ (H : Heap) (locs : List Loc) (pc : Nat) (ls : Array Slot), va_P g.1 vwCl [oX7 t_q t_plan_q t_now_q t_ahead_q t_before_q t_images_q t_keptImages t_reader_q t_seen_q t_heard_q t_search_q t_passages_q t_sheets_q t_tornFault, oX6 t_now_q t_plan_q t_now_secondEnds_q t_now_string_q t_now_barred t_now_period t_now_hisz t_now_beast t_now_habit t_now_onString t_now_step t_now_eatenz, oX2 t_plan_q t_plan_firstEnds_q t_plan_rules_q t_plan_rooms t_plan_doorCount t_plan_ruleCount t_plan_stringLength] H → va_S A s.heap H locs → decode cX7_put pc = .ok (.ireturn, 1) → W p l e rmX7_put s m args below meth c H locs 0 0 Q (F0 m pc ls [.int rrz]) := by
    intro rrz t_now_eatenz t_now_hisz he H locs pc ls hP hS hd
    cases he
    exact hret H locs pc ls hP hS hd
  unfold f_X7_put at hf
  refine lv_aload_n hx hb dX7_put_0 rfl (lv_at hl 0 rfl) ?_
  refine va_get (D := g.1) (ci := 7) (v := .ref t_plan_q) (C := RX7) (T := TX7) (N := 13) hx hb hts inX7 hown hK hP 0 rfl rfl 0 (by decide) k12 (fun _ h9 => h9) rfl dX7_put_1 ?_
  refine lv_iload_n hx hb dX7_put_4 rfl (lv_at hl 1 rfl) ?_
  obtain ⟨r_1, hc_2, hf⟩ := ob1_e hf
  refine kV_i (wn := [oX7 t_q t_plan_q t_now_q t_ahead_q t_before_q t_images_q t_keptImages t_reader_q t_seen_q t_heard_q t_search_q t_passages_q t_sheets_q t_tornFault, oX6 t_now_q t_plan_q t_now_secondEnds_q t_now_string_q t_now_barred t_now_period t_now_his t_now_beast t_now_habit t_now_onString t_now_step t_now_eaten, oX2 t_plan_q t_plan_firstEnds_q t_plan_rules_q t_plan_rooms t_plan_doorCount t_plan_ruleCount t_plan_stringLength]) (As := [.int p1]) (rest := []) (c_X2_hasRoom l g _ t_plan_q t_plan_firstEnds_q t_plan_rules_q t_plan_rooms t_plan_doorCount t_plan_ruleCount t_plan_stringLength p1 r_1 hc_2) ⟨hx, hb, hml, hown, hts⟩ (cwV 1 hts gX7_put_X2_hasRoom rfl rfl rfl (by decide +kernel) ⟨by decide, by decide⟩) hK hz hk hP (hD.re rfl) hS hA [2] rfl rfl rfl rfl rfl rfl rfl hl.1 rfl (Nat.le_of_ble_eq_true rfl) dX7_put_5 (fun H locs hP hS => ?_)
  refine lv_if_ne (tgt := 13) hx hb dX7_put_8 (by decide) (fun c_3 => ?_) (fun c_3 => ?_)
  · have hf := ite_f hf c_3
    refine lv_aload_n hx hb dX7_put_13 rfl (lv_at hl 0 rfl) ?_
    refine va_get (D := g.1) (ci := 7) (v := .ref t_now_q) (C := RX7) (T := TX7) (N := 13) hx hb hts inX7 hown hK hP 0 rfl rfl 1 (by decide) k21 (fun _ h9 => h9) rfl dX7_put_14 ?_
    refine va_get (D := g.1) (ci := 6) (v := .int t_now_beast) (C := RX6) (T := TX6) (N := 11) hx hb hts inX6 hown hK hP 1 rfl rfl 6 (by decide) k137 (fun _ h9 => h9) rfl dX7_put_17 ?_
    refine lv_iload_n hx hb dX7_put_20 rfl (lv_at hl 1 rfl) ?_
    refine lv_icmp_ne (tgt := 27) hx hb dX7_put_21 (by decide) (fun c_4 => ?_) (fun c_4 => ?_)
    · have hf := ite_f hf c_4
      refine lv_aload_n hx hb dX7_put_27 rfl (lv_at hl 0 rfl) ?_
      refine va_get (D := g.1) (ci := 7) (v := .ref t_now_q) (C := RX7) (T := TX7) (N := 13) hx hb hts inX7 hown hK hP 0 rfl rfl 1 (by decide) k21 (fun _ h9 => h9) rfl dX7_put_28 ?_
      refine va_get (D := g.1) (ci := 6) (v := .int t_now_his) (C := RX6) (T := TX6) (N := 11) hx hb hts inX6 hown hK hP 1 rfl rfl 5 (by decide) k134 (fun _ h9 => h9) rfl dX7_put_31 ?_
      refine lv_istore_n (lv' := [(2, .int t_now_his), (0, .ref t_q), (1, .int p1)]) hx hb dX7_put_34 rfl hl (by decide) rfl (fun ls hl => ?_)
      refine lv_aload_n hx hb dX7_put_35 rfl (lv_at hl 1 rfl) ?_
      refine va_get (D := g.1) (ci := 7) (v := .ref t_now_q) (C := RX7) (T := TX7) (N := 13) hx hb hts inX7 hown hK hP 0 rfl rfl 1 (by decide) k21 (fun _ h9 => h9) rfl dX7_put_36 ?_
      refine lv_iload_n hx hb dX7_put_39 rfl (lv_at hl 2 rfl) ?_
      refine va_put (D := g.1) (ci := 6) (v := .int p1) (ty := .int) (C := RX6) (T := TX6) (N := 11) hx hb hts inX6 tyX6 tyX6_ok nmX6 hown hK hP (hD.re rfl) hS 1 rfl rfl 5 (by decide) k134 (fun _ h9 => h9) rfl (by decide +kernel) rfl rfl (Nat.le_of_ble_eq_true rfl) dX7_put_40 (fun H locs hP _ hS => ?_)
      have hP : va_P g.1 vwCl [oX7 t_q t_plan_q t_now_q t_ahead_q t_before_q t_images_q t_keptImages t_reader_q t_seen_q t_heard_q t_search_q t_passages_q t_sheets_q t_tornFault, oX6 t_now_q t_plan_q t_now_secondEnds_q t_now_string_q t_now_barred t_now_period p1 t_now_beast t_now_habit t_now_onString t_now_step t_now_eaten, oX2 t_plan_q t_plan_firstEnds_q t_plan_rules_q t_plan_rooms t_plan_doorCount t_plan_ruleCount t_plan_stringLength] H := hP
      refine lv_aload_n hx hb dX7_put_43 rfl (lv_at hl 1 rfl) ?_
      refine va_get (D := g.1) (ci := 7) (v := .ref t_now_q) (C := RX7) (T := TX7) (N := 13) hx hb hts inX7 hown hK hP 0 rfl rfl 1 (by decide) k21 (fun _ h9 => h9) rfl dX7_put_44 ?_
      refine lv_iconst (v := (0 : Int32)) hx hb dX7_put_47 (by decide) ?_
      refine va_put (D := g.1) (ci := 6) (v := .int (0 : Int32)) (ty := .boolean) (C := RX6) (T := TX6) (N := 11) hx hb hts inX6 tyX6 tyX6_ok nmX6 hown hK hP (hD.re rfl) hS 1 rfl rfl 10 (by decide) k143 (fun _ h9 => h9) rfl (by decide +kernel) rfl rfl (Nat.le_of_ble_eq_true rfl) dX7_put_48 (fun H locs hP _ hS => ?_)
      have hP : va_P g.1 vwCl [oX7 t_q t_plan_q t_now_q t_ahead_q t_before_q t_images_q t_keptImages t_reader_q t_seen_q t_heard_q t_search_q t_passages_q t_sheets_q t_tornFault, oX6 t_now_q t_plan_q t_now_secondEnds_q t_now_string_q t_now_barred t_now_period p1 t_now_beast t_now_habit t_now_onString t_now_step (0 : Int32), oX2 t_plan_q t_plan_firstEnds_q t_plan_rules_q t_plan_rooms t_plan_doorCount t_plan_ruleCount t_plan_stringLength] H := hP
      refine lv_iload_n hx hb dX7_put_51 rfl (lv_at hl 0 rfl) ?_
      exact hret t_now_his (0 : Int32) p1 (Option.some.inj hf) _ _ _ _ hP hS dX7_put_52
    · have hf := ite_t hf c_4
      refine lv_bipush (v := (-2 : Int32)) hx hb dX7_put_24 (by decide) ?_
      exact hret (-2 : Int32) t_now_eaten t_now_his (Option.some.inj hf) _ _ _ _ hP hS dX7_put_26
  · have hf := ite_t hf c_3
    refine lv_iconst (v := (-1 : Int32)) hx hb dX7_put_11 (by decide) ?_
    exact hret (-1 : Int32) t_now_eaten t_now_his (Option.some.inj hf) _ _ _ _ hP hS dX7_put_12
