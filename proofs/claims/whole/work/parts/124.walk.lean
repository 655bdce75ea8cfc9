def f_X7_rule (t_now_period : Int32) (t_now_his : Int32) (t_now_beast : Int32) (t_now_habit : Int32) (t_now_step : Int32) (t_now_eaten : Int32) (t_plan_rooms : Int32) (t_plan_doorCount : Int32) (t_plan_ruleCount : Int32) (t_plan_stringLength : Int32) (p1 : Int32) : Option (Int32) :=
 (if p1 = (0 : Int32) then
 (some t_plan_rooms)
 else (if p1 = (1 : Int32) then
 (some t_plan_doorCount)
 else (if p1 = (2 : Int32) then
 (some t_now_period)
 else (if p1 = (3 : Int32) then
 (some t_plan_ruleCount)
 else (if p1 = (4 : Int32) then
 (some t_plan_stringLength)
 else (if p1 = (5 : Int32) then
 (some t_now_step)
 else (if p1 = (6 : Int32) then
 (some t_now_his)
 else (if p1 = (7 : Int32) then
 (some t_now_beast)
 else (if p1 = (8 : Int32) then
 (some t_now_habit)
 else (if p1 = (9 : Int32) then
 (ob1 (f_X7_asNumber t_now_eaten) (fun r_11 =>
 (some r_11)))
 else (some (-1 : Int32))))))))))))
abbrev rmX7_rule : Room := { frames := 1, cells := 0, slots := 0, locals := 20 }
set_option maxHeartbeats 4000000 in
set_option maxRecDepth 100000 in
theorem c_X7_rule (l : Launch) (g : Gh) (sz : Nat) (t_q t_plan_q t_now_q t_ahead_q t_before_q t_images_q t_reader_q t_seen_q t_heard_q t_search_q t_passages_q t_sheets_q t_now_secondEnds_q t_now_string_q t_plan_firstEnds_q t_plan_rules_q : Nat) (t_keptImages : Int32) (t_tornFault : Int32) (t_now_barred : Int32) (t_now_period : Int32) (t_now_his : Int32) (t_now_beast : Int32) (t_now_habit : Int32) (t_now_onString : Int32) (t_now_step : Int32) (t_now_eaten : Int32) (t_plan_rooms : Int32) (t_plan_doorCount : Int32) (t_plan_ruleCount : Int32) (t_plan_stringLength : Int32) (p1 : Int32) (rr : Int32) (hf : f_X7_rule t_now_period t_now_his t_now_beast t_now_habit t_now_step t_now_eaten t_plan_rooms t_plan_doorCount t_plan_ruleCount t_plan_stringLength p1 = some rr) : CI l yX7_rule wsX7_rule rmX7_rule [.ref t_q, .int p1] g sz [oX7 t_q t_plan_q t_now_q t_ahead_q t_before_q t_images_q t_keptImages t_reader_q t_seen_q t_heard_q t_search_q t_passages_q t_sheets_q t_tornFault, oX6 t_now_q t_plan_q t_now_secondEnds_q t_now_string_q t_now_barred t_now_period t_now_his t_now_beast t_now_habit t_now_onString t_now_step t_now_eaten, oX2 t_plan_q t_plan_firstEnds_q t_plan_rules_q t_plan_rooms t_plan_doorCount t_plan_ruleCount t_plan_stringLength] [oX7 t_q t_plan_q t_now_q t_ahead_q t_before_q t_images_q t_keptImages t_reader_q t_seen_q t_heard_q t_search_q t_passages_q t_sheets_q t_tornFault, oX6 t_now_q t_plan_q t_now_secondEnds_q t_now_string_q t_now_barred t_now_period t_now_his t_now_beast t_now_habit t_now_onString t_now_step t_now_eaten, oX2 t_plan_q t_plan_firstEnds_q t_plan_rules_q t_plan_rooms t_plan_doorCount t_plan_ruleCount t_plan_stringLength] rr := by
  refine ent_i (cc := cX7_rule) (maxL := 2) (by decide) rfl (Nat.le_of_ble_eq_true rfl) ?_
  intro p e s m args below meth c A Q hx hb hml hown hts hK hz hk hA hD hP hS hret ls hl
  have hown : s.vm.findClass RX7 = some m.cls := hown
  have inX2 : ∀ w ∈ u_ws RX2 TX2 6, w ∈ wsX7_rule := by decide +kernel
  have inX6 : ∀ w ∈ u_ws RX6 TX6 11, w ∈ wsX7_rule := by decide +kernel
  have inX7 : ∀ w ∈ u_ws RX7 TX7 13, w ∈ wsX7_rule := by decide +kernel
  have k12 := hts (.fieldLink RX7 12 "ThreadMoved" "plan" "LThreadMoved$Plan;") (by decide +kernel)
  have k21 := hts (.fieldLink RX7 21 "ThreadMoved" "now" "LThreadMoved$State;") (by decide +kernel)
  have k116 := hts (.fieldLink RX7 116 "ThreadMoved$Plan" "rooms" "I") (by decide +kernel)
  have k119 := hts (.fieldLink RX7 119 "ThreadMoved$Plan" "doorCount" "I") (by decide +kernel)
  have k122 := hts (.fieldLink RX7 122 "ThreadMoved$State" "period" "I") (by decide +kernel)
  have k125 := hts (.fieldLink RX7 125 "ThreadMoved$Plan" "ruleCount" "I") (by decide +kernel)
  have k128 := hts (.fieldLink RX7 128 "ThreadMoved$Plan" "stringLength" "I") (by decide +kernel)
  have k131 := hts (.fieldLink RX7 131 "ThreadMoved$State" "step" "I") (by decide +kernel)
  have k134 := hts (.fieldLink RX7 134 "ThreadMoved$State" "his" "I") (by decide +kernel)
  have k137 := hts (.fieldLink RX7 137 "ThreadMoved$State" "beast" "I") (by decide +kernel)
  have k140 := hts (.fieldLink RX7 140 "ThreadMoved$State" "habit" "I") (by decide +kernel)
  have k143 := hts (.fieldLink RX7 143 "ThreadMoved$State" "eaten" "Z") (by decide +kernel)
  have hl : lv_has ls 2 [(0, .ref t_q), (1, .int p1)] := hl
  have hret : ∀ (rrz : Int32), rrz = rr → ∀ (H : Heap) (locs : List Loc) (pc : Nat) (ls : Array Slot), va_P g.1 vwCl [oX7 t_q t_plan_q t_now_q t_ahead_q t_before_q t_images_q t_keptImages t_reader_q t_seen_q t_heard_q t_search_q t_passages_q t_sheets_q t_tornFault, oX6 t_now_q t_plan_q t_now_secondEnds_q t_now_string_q t_now_barred t_now_period t_now_his t_now_beast t_now_habit t_now_onString t_now_step t_now_eaten, oX2 t_plan_q t_plan_firstEnds_q t_plan_rules_q t_plan_rooms t_plan_doorCount t_plan_ruleCount t_plan_stringLength] H → va_S A s.heap H locs → decode cX7_rule pc = .ok (.ireturn, 1) → W p l e rmX7_rule s m args below meth c H locs 0 0 Q (F0 m pc ls [.int rrz]) := by
    intro rrz he H locs pc ls hP hS hd
    cases he
    exact hret H locs pc ls hP hS hd
  unfold f_X7_rule at hf
  refine lv_iload_n hx hb dX7_rule_0 rfl (lv_at hl 1 rfl) ?_
  by_cases c_1 : p1 = (0 : Int32)
  · have hf := ite_t hf c_1
    refine lv_tableIn (off := 55) (tgt := 56) hx hb dX7_rule_1 (by rw [c_1]; decide) (by rw [c_1]; decide) (by rw [c_1]; rfl) (by decide) ?_
    refine lv_aload_n hx hb dX7_rule_56 rfl (lv_at hl 0 rfl) ?_
    refine va_get (D := g.1) (ci := 7) (v := .ref t_plan_q) (C := RX7) (T := TX7) (N := 13) hx hb hts inX7 hown hK hP 0 rfl rfl 0 (by decide) k12 (fun _ h9 => h9) rfl dX7_rule_57 ?_
    refine va_get (D := g.1) (ci := 2) (v := .int t_plan_rooms) (C := RX2) (T := TX2) (N := 6) hx hb hts inX2 hown hK hP 2 rfl rfl 2 (by decide) k116 (fun _ h9 => h9) rfl dX7_rule_60 ?_
    exact hret t_plan_rooms (Option.some.inj hf) _ _ _ _ hP hS dX7_rule_63
  have hf := ite_f hf c_1
  by_cases c_2 : p1 = (1 : Int32)
  · have hf := ite_t hf c_2
    refine lv_tableIn (off := 63) (tgt := 64) hx hb dX7_rule_1 (by rw [c_2]; decide) (by rw [c_2]; decide) (by rw [c_2]; rfl) (by decide) ?_
    refine lv_aload_n hx hb dX7_rule_64 rfl (lv_at hl 0 rfl) ?_
    refine va_get (D := g.1) (ci := 7) (v := .ref t_plan_q) (C := RX7) (T := TX7) (N := 13) hx hb hts inX7 hown hK hP 0 rfl rfl 0 (by decide) k12 (fun _ h9 => h9) rfl dX7_rule_65 ?_
    refine va_get (D := g.1) (ci := 2) (v := .int t_plan_doorCount) (C := RX2) (T := TX2) (N := 6) hx hb hts inX2 hown hK hP 2 rfl rfl 3 (by decide) k119 (fun _ h9 => h9) rfl dX7_rule_68 ?_
    exact hret t_plan_doorCount (Option.some.inj hf) _ _ _ _ hP hS dX7_rule_71
  have hf := ite_f hf c_2
  by_cases c_3 : p1 = (2 : Int32)
  · have hf := ite_t hf c_3
    refine lv_tableIn (off := 71) (tgt := 72) hx hb dX7_rule_1 (by rw [c_3]; decide) (by rw [c_3]; decide) (by rw [c_3]; rfl) (by decide) ?_
    refine lv_aload_n hx hb dX7_rule_72 rfl (lv_at hl 0 rfl) ?_
    refine va_get (D := g.1) (ci := 7) (v := .ref t_now_q) (C := RX7) (T := TX7) (N := 13) hx hb hts inX7 hown hK hP 0 rfl rfl 1 (by decide) k21 (fun _ h9 => h9) rfl dX7_rule_73 ?_
    refine va_get (D := g.1) (ci := 6) (v := .int t_now_period) (C := RX6) (T := TX6) (N := 11) hx hb hts inX6 hown hK hP 1 rfl rfl 4 (by decide) k122 (fun _ h9 => h9) rfl dX7_rule_76 ?_
    exact hret t_now_period (Option.some.inj hf) _ _ _ _ hP hS dX7_rule_79
  have hf := ite_f hf c_3
  by_cases c_4 : p1 = (3 : Int32)
  · have hf := ite_t hf c_4
    refine lv_tableIn (off := 79) (tgt := 80) hx hb dX7_rule_1 (by rw [c_4]; decide) (by rw [c_4]; decide) (by rw [c_4]; rfl) (by decide) ?_
    refine lv_aload_n hx hb dX7_rule_80 rfl (lv_at hl 0 rfl) ?_
    refine va_get (D := g.1) (ci := 7) (v := .ref t_plan_q) (C := RX7) (T := TX7) (N := 13) hx hb hts inX7 hown hK hP 0 rfl rfl 0 (by decide) k12 (fun _ h9 => h9) rfl dX7_rule_81 ?_
    refine va_get (D := g.1) (ci := 2) (v := .int t_plan_ruleCount) (C := RX2) (T := TX2) (N := 6) hx hb hts inX2 hown hK hP 2 rfl rfl 4 (by decide) k125 (fun _ h9 => h9) rfl dX7_rule_84 ?_
    exact hret t_plan_ruleCount (Option.some.inj hf) _ _ _ _ hP hS dX7_rule_87
  have hf := ite_f hf c_4
  by_cases c_5 : p1 = (4 : Int32)
  · have hf := ite_t hf c_5
    refine lv_tableIn (off := 87) (tgt := 88) hx hb dX7_rule_1 (by rw [c_5]; decide) (by rw [c_5]; decide) (by rw [c_5]; rfl) (by decide) ?_
    refine lv_aload_n hx hb dX7_rule_88 rfl (lv_at hl 0 rfl) ?_
    refine va_get (D := g.1) (ci := 7) (v := .ref t_plan_q) (C := RX7) (T := TX7) (N := 13) hx hb hts inX7 hown hK hP 0 rfl rfl 0 (by decide) k12 (fun _ h9 => h9) rfl dX7_rule_89 ?_
    refine va_get (D := g.1) (ci := 2) (v := .int t_plan_stringLength) (C := RX2) (T := TX2) (N := 6) hx hb hts inX2 hown hK hP 2 rfl rfl 5 (by decide) k128 (fun _ h9 => h9) rfl dX7_rule_92 ?_
    exact hret t_plan_stringLength (Option.some.inj hf) _ _ _ _ hP hS dX7_rule_95
  have hf := ite_f hf c_5
  by_cases c_6 : p1 = (5 : Int32)
  · have hf := ite_t hf c_6
    refine lv_tableIn (off := 95) (tgt := 96) hx hb dX7_rule_1 (by rw [c_6]; decide) (by rw [c_6]; decide) (by rw [c_6]; rfl) (by decide) ?_
    refine lv_aload_n hx hb dX7_rule_96 rfl (lv_at hl 0 rfl) ?_
    refine va_get (D := g.1) (ci := 7) (v := .ref t_now_q) (C := RX7) (T := TX7) (N := 13) hx hb hts inX7 hown hK hP 0 rfl rfl 1 (by decide) k21 (fun _ h9 => h9) rfl dX7_rule_97 ?_
    refine va_get (D := g.1) (ci := 6) (v := .int t_now_step) (C := RX6) (T := TX6) (N := 11) hx hb hts inX6 hown hK hP 1 rfl rfl 9 (by decide) k131 (fun _ h9 => h9) rfl dX7_rule_100 ?_
    exact hret t_now_step (Option.some.inj hf) _ _ _ _ hP hS dX7_rule_103
  have hf := ite_f hf c_6
  by_cases c_7 : p1 = (6 : Int32)
  · have hf := ite_t hf c_7
    refine lv_tableIn (off := 103) (tgt := 104) hx hb dX7_rule_1 (by rw [c_7]; decide) (by rw [c_7]; decide) (by rw [c_7]; rfl) (by decide) ?_
    refine lv_aload_n hx hb dX7_rule_104 rfl (lv_at hl 0 rfl) ?_
    refine va_get (D := g.1) (ci := 7) (v := .ref t_now_q) (C := RX7) (T := TX7) (N := 13) hx hb hts inX7 hown hK hP 0 rfl rfl 1 (by decide) k21 (fun _ h9 => h9) rfl dX7_rule_105 ?_
    refine va_get (D := g.1) (ci := 6) (v := .int t_now_his) (C := RX6) (T := TX6) (N := 11) hx hb hts inX6 hown hK hP 1 rfl rfl 5 (by decide) k134 (fun _ h9 => h9) rfl dX7_rule_108 ?_
    exact hret t_now_his (Option.some.inj hf) _ _ _ _ hP hS dX7_rule_111
  have hf := ite_f hf c_7
  by_cases c_8 : p1 = (7 : Int32)
  · have hf := ite_t hf c_8
    refine lv_tableIn (off := 111) (tgt := 112) hx hb dX7_rule_1 (by rw [c_8]; decide) (by rw [c_8]; decide) (by rw [c_8]; rfl) (by decide) ?_
    refine lv_aload_n hx hb dX7_rule_112 rfl (lv_at hl 0 rfl) ?_
    refine va_get (D := g.1) (ci := 7) (v := .ref t_now_q) (C := RX7) (T := TX7) (N := 13) hx hb hts inX7 hown hK hP 0 rfl rfl 1 (by decide) k21 (fun _ h9 => h9) rfl dX7_rule_113 ?_
    refine va_get (D := g.1) (ci := 6) (v := .int t_now_beast) (C := RX6) (T := TX6) (N := 11) hx hb hts inX6 hown hK hP 1 rfl rfl 6 (by decide) k137 (fun _ h9 => h9) rfl dX7_rule_116 ?_
    exact hret t_now_beast (Option.some.inj hf) _ _ _ _ hP hS dX7_rule_119
  have hf := ite_f hf c_8
  by_cases c_9 : p1 = (8 : Int32)
  · have hf := ite_t hf c_9
    refine lv_tableIn (off := 119) (tgt := 120) hx hb dX7_rule_1 (by rw [c_9]; decide) (by rw [c_9]; decide) (by rw [c_9]; rfl) (by decide) ?_
    refine lv_aload_n hx hb dX7_rule_120 rfl (lv_at hl 0 rfl) ?_
    refine va_get (D := g.1) (ci := 7) (v := .ref t_now_q) (C := RX7) (T := TX7) (N := 13) hx hb hts inX7 hown hK hP 0 rfl rfl 1 (by decide) k21 (fun _ h9 => h9) rfl dX7_rule_121 ?_
    refine va_get (D := g.1) (ci := 6) (v := .int t_now_habit) (C := RX6) (T := TX6) (N := 11) hx hb hts inX6 hown hK hP 1 rfl rfl 7 (by decide) k140 (fun _ h9 => h9) rfl dX7_rule_124 ?_
    exact hret t_now_habit (Option.some.inj hf) _ _ _ _ hP hS dX7_rule_127
  have hf := ite_f hf c_9
  by_cases c_10 : p1 = (9 : Int32)
  · have hf := ite_t hf c_10
    refine lv_tableIn (off := 127) (tgt := 128) hx hb dX7_rule_1 (by rw [c_10]; decide) (by rw [c_10]; decide) (by rw [c_10]; rfl) (by decide) ?_
    refine lv_aload_n hx hb dX7_rule_128 rfl (lv_at hl 0 rfl) ?_
    refine va_get (D := g.1) (ci := 7) (v := .ref t_now_q) (C := RX7) (T := TX7) (N := 13) hx hb hts inX7 hown hK hP 0 rfl rfl 1 (by decide) k21 (fun _ h9 => h9) rfl dX7_rule_129 ?_
    refine va_get (D := g.1) (ci := 6) (v := .int t_now_eaten) (C := RX6) (T := TX6) (N := 11) hx hb hts inX6 hown hK hP 1 rfl rfl 10 (by decide) k143 (fun _ h9 => h9) rfl dX7_rule_132 ?_
    obtain ⟨r_11, hc_12, hf⟩ := ob1_e hf
    refine kS_i (wn := [oX7 t_q t_plan_q t_now_q t_ahead_q t_before_q t_images_q t_keptImages t_reader_q t_seen_q t_heard_q t_search_q t_passages_q t_sheets_q t_tornFault, oX6 t_now_q t_plan_q t_now_secondEnds_q t_now_string_q t_now_barred t_now_period t_now_his t_now_beast t_now_habit t_now_onString t_now_step t_now_eaten, oX2 t_plan_q t_plan_firstEnds_q t_plan_rules_q t_plan_rooms t_plan_doorCount t_plan_ruleCount t_plan_stringLength]) (As := [.int t_now_eaten]) (rest := []) (c_X7_asNumber l g _ t_now_eaten r_11 hc_12) ⟨hx, hb, hml, hown, hts⟩ (va_cwS 1 hts gX7_rule_X7_asNumber rfl rfl rfl (by decide +kernel) ⟨by decide, by decide⟩) hK hz hk hP (hD.re rfl) hS hA [] rfl rfl rfl rfl rfl hl.1 rfl (Nat.le_of_ble_eq_true rfl) dX7_rule_135 (fun H locs hP hS => ?_)
    exact hret r_11 (Option.some.inj hf) _ _ _ _ hP hS dX7_rule_138
  have hf := ite_f hf c_10
  refine lv_tableOut (tgt := 139) hx hb dX7_rule_1 (tsw_out 9 (by decide) rfl (fun k hk => ?_)) (by decide) ?_
  · match k, hk with
    | 0, _ => exact c_1
    | 1, _ => exact c_2
    | 2, _ => exact c_3
    | 3, _ => exact c_4
    | 4, _ => exact c_5
    | 5, _ => exact c_6
    | 6, _ => exact c_7
    | 7, _ => exact c_8
    | 8, _ => exact c_9
    | 9, _ => exact c_10
    | k + 10, hk => exact absurd hk (by omega)
  refine lv_iconst (v := (-1 : Int32)) hx hb dX7_rule_139 (by decide) ?_
  exact hret (-1 : Int32) (Option.some.inj hf) _ _ _ _ hP hS dX7_rule_140

def f_X7_see (t_plan_rooms : Int32) (t_plan_doorCount : Int32) (t_seen_size : Int32) (t_seen_subjects : Nat → Int32) (t_seen_times : Nat → Int32) (t_seen_values : Nat → Int32) (p1 : Int32) (p2 : Int32) (p3 : Int32) : Option (Int32 × Int32 × (Nat → Int32) × (Nat → Int32) × (Nat → Int32)) :=
 (ob1 (f_X7_isWithin p1 (1 : Int32) (6 : Int32)) (fun r_1 =>
 (if r_1 = (0 : Int32) then
 (some ((-1 : Int32), t_seen_size, t_seen_subjects, t_seen_times, t_seen_values))
 else (ob1 (f_X2_hasDoor t_plan_doorCount p2) (fun r_4 =>
 (if r_4 = (0 : Int32) then
 (some ((-1 : Int32), t_seen_size, t_seen_subjects, t_seen_times, t_seen_values))
 else (ob1 (f_X2_hasRoom t_plan_rooms p3) (fun r_7 =>
 (if r_7 = (0 : Int32) then
 (some ((-1 : Int32), t_seen_size, t_seen_subjects, t_seen_times, t_seen_values))
 else (ob5 (f_X0_add t_seen_size t_seen_subjects t_seen_times t_seen_values p1 p2 p3) (fun r_10 t_size_11 t_subjects_12 t_times_13 t_values_14 =>
 (if r_10 = (0 : Int32) then
 (some ((-3 : Int32), t_size_11, t_subjects_12, t_times_13, t_values_14))
 else (some (t_size_11, t_size_11, t_subjects_12, t_times_13, t_values_14))))))))))))))
abbrev rmX7_see : Room := { frames := 1, cells := 0, slots := 0, locals := 23 }
set_option maxHeartbeats 4000000 in
set_option maxRecDepth 100000 in
theorem c_X7_see (l : Launch) (g : Gh) (sz : Nat) (t_q t_plan_q t_now_q t_ahead_q t_before_q t_images_q t_reader_q t_seen_q t_heard_q t_search_q t_passages_q t_sheets_q t_plan_firstEnds_q t_plan_rules_q t_seen_times_q t_seen_subjects_q t_seen_values_q : Nat) (t_keptImages : Int32) (t_tornFault : Int32) (t_plan_rooms : Int32) (t_plan_doorCount : Int32) (t_plan_ruleCount : Int32) (t_plan_stringLength : Int32) (t_seen_size : Int32) (t_seen_subjects : Nat → Int32) (t_seen_times : Nat → Int32) (t_seen_values : Nat → Int32) (p1 : Int32) (p2 : Int32) (p3 : Int32) (rr : Int32) (t_seen_size' : Int32) (t_seen_subjects' : Nat → Int32) (t_seen_times' : Nat → Int32) (t_seen_values' : Nat → Int32) (hf : f_X7_see t_plan_rooms t_plan_doorCount t_seen_size t_seen_subjects t_seen_times t_seen_values p1 p2 p3 = some (rr, t_seen_size', t_seen_subjects', t_seen_times', t_seen_values')) : CI l yX7_see wsX7_see rmX7_see [.ref t_q, .int p1, .int p2, .int p3] g sz [oX7 t_q t_plan_q t_now_q t_ahead_q t_before_q t_images_q t_keptImages t_reader_q t_seen_q t_heard_q t_search_q t_passages_q t_sheets_q t_tornFault, oX2 t_plan_q t_plan_firstEnds_q t_plan_rules_q t_plan_rooms t_plan_doorCount t_plan_ruleCount t_plan_stringLength, oX0 t_seen_q t_seen_times_q t_seen_subjects_q t_seen_values_q t_seen_size, aI g t_seen_subjects_q 6 t_seen_subjects, aI g t_seen_times_q 6 t_seen_times, aI g t_seen_values_q 6 t_seen_values] [oX7 t_q t_plan_q t_now_q t_ahead_q t_before_q t_images_q t_keptImages t_reader_q t_seen_q t_heard_q t_search_q t_passages_q t_sheets_q t_tornFault, oX2 t_plan_q t_plan_firstEnds_q t_plan_rules_q t_plan_rooms t_plan_doorCount t_plan_ruleCount t_plan_stringLength, oX0 t_seen_q t_seen_times_q t_seen_subjects_q t_seen_values_q t_seen_size', aI g t_seen_subjects_q 6 t_seen_subjects', aI g t_seen_times_q 6 t_seen_times', aI g t_seen_values_q 6 t_seen_values'] rr := by
  refine ent_i (cc := cX7_see) (maxL := 4) (by decide) rfl (Nat.le_of_ble_eq_true rfl) ?_
  intro p e s m args below meth c A Q hx hb hml hown hts hK hz hk hA hD hP hS hret ls hl
  have hown : s.vm.findClass RX7 = some m.cls := hown
  have inX0 : ∀ w ∈ u_ws RX0 TX0 4, w ∈ wsX7_see := by decide +kernel
  have inX7 : ∀ w ∈ u_ws RX7 TX7 13, w ∈ wsX7_see := by decide +kernel
  have k12 := hts (.fieldLink RX7 12 "ThreadMoved" "plan" "LThreadMoved$Plan;") (by decide +kernel)
  have k49 := hts (.fieldLink RX7 49 "ThreadMoved" "seen" "LThreadMoved$Notes;") (by decide +kernel)
  have k110 := hts (.fieldLink RX7 110 "ThreadMoved$Notes" "size" "I") (by decide +kernel)
  have hl : lv_has ls 4 [(0, .ref t_q), (1, .int p1), (2, .int p2), (3, .int p3)] := hl
  have hret : ∀ (rrz : Int32) (t_seen_sizez : Int32) (t_seen_subjectsz : Nat → Int32) (t_seen_timesz : Nat → Int32) (t_seen_valuesz : Nat → Int32), (rrz, t_seen_sizez, t_seen_subjectsz, t_seen_timesz, t_seen_valuesz) = (rr, t_seen_size', t_seen_subjects', t_seen_times', t_seen_values') → ∀ (H : Heap) (locs : List Loc) (pc : Nat) (ls : Array Slot), va_P g.1 vwCl [oX7 t_q t_plan_q t_now_q t_ahead_q t_before_q t_images_q t_keptImages t_reader_q t_seen_q t_heard_q t_search_q t_passages_q t_sheets_q t_tornFault, oX2 t_plan_q t_plan_firstEnds_q t_plan_rules_q t_plan_rooms t_plan_doorCount t_plan_ruleCount t_plan_stringLength, oX0 t_seen_q t_seen_times_q t_seen_subjects_q t_seen_values_q t_seen_sizez, aI g t_seen_subjects_q 6 t_seen_subjectsz, aI g t_seen_times_q 6 t_seen_timesz, aI g t_seen_values_q 6 t_seen_valuesz] H → va_S A s.heap H locs → decode cX7_see pc = .ok (.ireturn, 1) → W p l e rmX7_see s m args below meth c H locs 0 0 Q (F0 m pc ls [.int rrz]) := by
    intro rrz t_seen_sizez t_seen_subjectsz t_seen_timesz t_seen_valuesz he H locs pc ls hP hS hd
    cases he
    exact hret H locs pc ls hP hS hd
  unfold f_X7_see at hf
  refine lv_iload_n hx hb dX7_see_0 rfl (lv_at hl 1 rfl) ?_
  refine lv_iconst (v := (1 : Int32)) hx hb dX7_see_1 (by decide) ?_
  refine lv_bipush (v := (6 : Int32)) hx hb dX7_see_2 (by decide) ?_
  obtain ⟨r_1, hc_2, hf⟩ := ob1_e hf
  refine kS_i (wn := [oX7 t_q t_plan_q t_now_q t_ahead_q t_before_q t_images_q t_keptImages t_reader_q t_seen_q t_heard_q t_search_q t_passages_q t_sheets_q t_tornFault, oX2 t_plan_q t_plan_firstEnds_q t_plan_rules_q t_plan_rooms t_plan_doorCount t_plan_ruleCount t_plan_stringLength, oX0 t_seen_q t_seen_times_q t_seen_subjects_q t_seen_values_q t_seen_size, aI g t_seen_subjects_q 6 t_seen_subjects, aI g t_seen_times_q 6 t_seen_times, aI g t_seen_values_q 6 t_seen_values]) (As := [.int p1, .int (1 : Int32), .int (6 : Int32)]) (rest := []) (c_X7_isWithin l g _ p1 (1 : Int32) (6 : Int32) r_1 hc_2) ⟨hx, hb, hml, hown, hts⟩ (va_cwS 3 hts gX7_see_X7_isWithin rfl rfl rfl (by decide +kernel) ⟨by decide, by decide⟩) hK hz hk hP (hD.re rfl) hS hA [] rfl rfl rfl rfl rfl hl.1 rfl (Nat.le_of_ble_eq_true rfl) dX7_see_4 (fun H locs hP hS => ?_)
  refine lv_if_eq (tgt := 32) hx hb dX7_see_7 (by decide) (fun c_3 => ?_) (fun c_3 => ?_)
  · have hf := ite_t hf c_3
    refine lv_iconst (v := (-1 : Int32)) hx hb dX7_see_32 (by decide) ?_
    exact hret (-1 : Int32) t_seen_size t_seen_subjects t_seen_times t_seen_values (Option.some.inj hf) _ _ _ _ hP hS dX7_see_33
  · have hf := ite_f hf c_3
    refine lv_aload_n hx hb dX7_see_10 rfl (lv_at hl 0 rfl) ?_
    refine va_get (D := g.1) (ci := 7) (v := .ref t_plan_q) (C := RX7) (T := TX7) (N := 13) hx hb hts inX7 hown hK hP 0 rfl rfl 0 (by decide) k12 (fun _ h9 => h9) rfl dX7_see_11 ?_
    refine lv_iload_n hx hb dX7_see_14 rfl (lv_at hl 2 rfl) ?_
    obtain ⟨r_4, hc_5, hf⟩ := ob1_e hf
    refine kV_i (wn := [oX7 t_q t_plan_q t_now_q t_ahead_q t_before_q t_images_q t_keptImages t_reader_q t_seen_q t_heard_q t_search_q t_passages_q t_sheets_q t_tornFault, oX2 t_plan_q t_plan_firstEnds_q t_plan_rules_q t_plan_rooms t_plan_doorCount t_plan_ruleCount t_plan_stringLength, oX0 t_seen_q t_seen_times_q t_seen_subjects_q t_seen_values_q t_seen_size, aI g t_seen_subjects_q 6 t_seen_subjects, aI g t_seen_times_q 6 t_seen_times, aI g t_seen_values_q 6 t_seen_values]) (As := [.int p2]) (rest := []) (c_X2_hasDoor l g _ t_plan_q t_plan_firstEnds_q t_plan_rules_q t_plan_rooms t_plan_doorCount t_plan_ruleCount t_plan_stringLength p2 r_4 hc_5) ⟨hx, hb, hml, hown, hts⟩ (cwV 1 hts gX7_see_X2_hasDoor rfl rfl rfl (by decide +kernel) ⟨by decide, by decide⟩) hK hz hk hP (hD.re rfl) hS hA [1] rfl rfl rfl rfl rfl rfl rfl hl.1 rfl (Nat.le_of_ble_eq_true rfl) dX7_see_15 (fun H locs hP hS => ?_)
    refine lv_if_eq (tgt := 32) hx hb dX7_see_18 (by decide) (fun c_6 => ?_) (fun c_6 => ?_)
    · have hf := ite_t hf c_6
      refine lv_iconst (v := (-1 : Int32)) hx hb dX7_see_32 (by decide) ?_
      exact hret (-1 : Int32) t_seen_size t_seen_subjects t_seen_times t_seen_values (Option.some.inj hf) _ _ _ _ hP hS dX7_see_33
    · have hf := ite_f hf c_6
      refine lv_aload_n hx hb dX7_see_21 rfl (lv_at hl 0 rfl) ?_
      refine va_get (D := g.1) (ci := 7) (v := .ref t_plan_q) (C := RX7) (T := TX7) (N := 13) hx hb hts inX7 hown hK hP 0 rfl rfl 0 (by decide) k12 (fun _ h9 => h9) rfl dX7_see_22 ?_
      refine lv_iload_n hx hb dX7_see_25 rfl (lv_at hl 3 rfl) ?_
      obtain ⟨r_7, hc_8, hf⟩ := ob1_e hf
      refine kV_i (wn := [oX7 t_q t_plan_q t_now_q t_ahead_q t_before_q t_images_q t_keptImages t_reader_q t_seen_q t_heard_q t_search_q t_passages_q t_sheets_q t_tornFault, oX2 t_plan_q t_plan_firstEnds_q t_plan_rules_q t_plan_rooms t_plan_doorCount t_plan_ruleCount t_plan_stringLength, oX0 t_seen_q t_seen_times_q t_seen_subjects_q t_seen_values_q t_seen_size, aI g t_seen_subjects_q 6 t_seen_subjects, aI g t_seen_times_q 6 t_seen_times, aI g t_seen_values_q 6 t_seen_values]) (As := [.int p3]) (rest := []) (c_X2_hasRoom l g _ t_plan_q t_plan_firstEnds_q t_plan_rules_q t_plan_rooms t_plan_doorCount t_plan_ruleCount t_plan_stringLength p3 r_7 hc_8) ⟨hx, hb, hml, hown, hts⟩ (cwV 1 hts gX7_see_X2_hasRoom rfl rfl rfl (by decide +kernel) ⟨by decide, by decide⟩) hK hz hk hP (hD.re rfl) hS hA [1] rfl rfl rfl rfl rfl rfl rfl hl.1 rfl (Nat.le_of_ble_eq_true rfl) dX7_see_26 (fun H locs hP hS => ?_)
      refine lv_if_ne (tgt := 34) hx hb dX7_see_29 (by decide) (fun c_9 => ?_) (fun c_9 => ?_)
      · have hf := ite_f hf c_9
        refine lv_aload_n hx hb dX7_see_34 rfl (lv_at hl 0 rfl) ?_
        refine va_get (D := g.1) (ci := 7) (v := .ref t_seen_q) (C := RX7) (T := TX7) (N := 13) hx hb hts inX7 hown hK hP 0 rfl rfl 7 (by decide) k49 (fun _ h9 => h9) rfl dX7_see_35 ?_
        refine lv_iload_n hx hb dX7_see_38 rfl (lv_at hl 1 rfl) ?_
        refine lv_iload_n hx hb dX7_see_39 rfl (lv_at hl 2 rfl) ?_
        refine lv_iload_n hx hb dX7_see_40 rfl (lv_at hl 3 rfl) ?_
        obtain ⟨r_10, t_size_11, t_subjects_12, t_times_13, t_values_14, hc_15, hf⟩ := ob5_e hf
        refine kV_i (wn := [oX7 t_q t_plan_q t_now_q t_ahead_q t_before_q t_images_q t_keptImages t_reader_q t_seen_q t_heard_q t_search_q t_passages_q t_sheets_q t_tornFault, oX2 t_plan_q t_plan_firstEnds_q t_plan_rules_q t_plan_rooms t_plan_doorCount t_plan_ruleCount t_plan_stringLength, oX0 t_seen_q t_seen_times_q t_seen_subjects_q t_seen_values_q t_size_11, aI g t_seen_subjects_q 6 t_subjects_12, aI g t_seen_times_q 6 t_times_13, aI g t_seen_values_q 6 t_values_14]) (As := [.int p1, .int p2, .int p3]) (rest := []) (c_X0_add l g _ t_seen_q t_seen_times_q t_seen_subjects_q t_seen_values_q t_seen_size t_seen_subjects t_seen_times t_seen_values p1 p2 p3 r_10 t_size_11 t_subjects_12 t_times_13 t_values_14 hc_15) ⟨hx, hb, hml, hown, hts⟩ (cwV 3 hts gX7_see_X0_add rfl rfl rfl (by decide +kernel) ⟨by decide, by decide⟩) hK hz hk hP (hD.re rfl) hS hA [2, 3, 4, 5] rfl rfl rfl rfl rfl rfl rfl hl.1 rfl (Nat.le_of_ble_eq_true rfl) dX7_see_41 (fun H locs hP hS => ?_)
        refine lv_if_eq (tgt := 57) hx hb dX7_see_44 (by decide) (fun c_16 => ?_) (fun c_16 => ?_)
        · have hf := ite_t hf c_16
          refine lv_bipush (v := (-3 : Int32)) hx hb dX7_see_57 (by decide) ?_
          exact hret (-3 : Int32) t_size_11 t_subjects_12 t_times_13 t_values_14 (Option.some.inj hf) _ _ _ _ hP hS dX7_see_59
        · have hf := ite_f hf c_16
          refine lv_aload_n hx hb dX7_see_47 rfl (lv_at hl 0 rfl) ?_
          refine va_get (D := g.1) (ci := 7) (v := .ref t_seen_q) (C := RX7) (T := TX7) (N := 13) hx hb hts inX7 hown hK hP 0 rfl rfl 7 (by decide) k49 (fun _ h9 => h9) rfl dX7_see_48 ?_
          refine va_get (D := g.1) (ci := 0) (v := .int t_size_11) (C := RX0) (T := TX0) (N := 4) hx hb hts inX0 hown hK hP 2 rfl rfl 3 (by decide) k110 (fun _ h9 => h9) rfl dX7_see_51 ?_
          refine lv_goto (tgt := 59) hx hb dX7_see_54 (by decide) ?_
          exact hret t_size_11 t_size_11 t_subjects_12 t_times_13 t_values_14 (Option.some.inj hf) _ _ _ _ hP hS dX7_see_59
      · have hf := ite_t hf c_9
        refine lv_iconst (v := (-1 : Int32)) hx hb dX7_see_32 (by decide) ?_
        exact hret (-1 : Int32) t_seen_size t_seen_subjects t_seen_times t_seen_values (Option.some.inj hf) _ _ _ _ hP hS dX7_see_33

def f_X7_sheet (t_sheets_0_lane : Int32) (t_sheets_0_size : Int32) (t_sheets_0_cells : Nat → Int32) (t_sheets_1_lane : Int32) (t_sheets_1_size : Int32) (t_sheets_1_cells : Nat → Int32) (t_sheets_2_lane : Int32) (t_sheets_2_size : Int32) (t_sheets_2_cells : Nat → Int32) (t_sheets_3_lane : Int32) (t_sheets_3_size : Int32) (t_sheets_3_cells : Nat → Int32) (p1 : Int32) (p2 : Int32) (p3 : Int32) : Option (Int32 × Int32 × Int32 × (Nat → Int32) × Int32 × Int32 × (Nat → Int32) × Int32 × Int32 × (Nat → Int32) × Int32 × Int32 × (Nat → Int32)) :=
 (ob1 (f_X7_isSheet p1) (fun r_1 =>
 (if r_1 = (0 : Int32) then
 (some ((-1 : Int32), t_sheets_0_lane, t_sheets_0_size, t_sheets_0_cells, t_sheets_1_lane, t_sheets_1_size, t_sheets_1_cells, t_sheets_2_lane, t_sheets_2_size, t_sheets_2_cells, t_sheets_3_lane, t_sheets_3_size, t_sheets_3_cells))
 else (ob1 (f_X7_isLane p2) (fun r_4 =>
 (if r_4 = (0 : Int32) then
 (some ((-1 : Int32), t_sheets_0_lane, t_sheets_0_size, t_sheets_0_cells, t_sheets_1_lane, t_sheets_1_size, t_sheets_1_cells, t_sheets_2_lane, t_sheets_2_size, t_sheets_2_cells, t_sheets_3_lane, t_sheets_3_size, t_sheets_3_cells))
 else (if p3 ≤ (40 : Int32) then
 (if (0 : Int32) ≤ p3 then
 (gin p1 4 (if p1 = (0 : Int32) then
 (ob3 (f_X5_renew t_sheets_0_cells p2 p3) (fun t_lane_11 t_size_12 t_cells_13 =>
 (some ((1 : Int32), t_lane_11, t_size_12, t_cells_13, t_sheets_1_lane, t_sheets_1_size, t_sheets_1_cells, t_sheets_2_lane, t_sheets_2_size, t_sheets_2_cells, t_sheets_3_lane, t_sheets_3_size, t_sheets_3_cells))))
 else (if p1 = (1 : Int32) then
 (ob3 (f_X5_renew t_sheets_1_cells p2 p3) (fun t_lane_16 t_size_17 t_cells_18 =>
 (some ((1 : Int32), t_sheets_0_lane, t_sheets_0_size, t_sheets_0_cells, t_lane_16, t_size_17, t_cells_18, t_sheets_2_lane, t_sheets_2_size, t_sheets_2_cells, t_sheets_3_lane, t_sheets_3_size, t_sheets_3_cells))))
 else (if p1 = (2 : Int32) then
 (ob3 (f_X5_renew t_sheets_2_cells p2 p3) (fun t_lane_21 t_size_22 t_cells_23 =>
 (some ((1 : Int32), t_sheets_0_lane, t_sheets_0_size, t_sheets_0_cells, t_sheets_1_lane, t_sheets_1_size, t_sheets_1_cells, t_lane_21, t_size_22, t_cells_23, t_sheets_3_lane, t_sheets_3_size, t_sheets_3_cells))))
 else (if p1 = (3 : Int32) then
 (ob3 (f_X5_renew t_sheets_3_cells p2 p3) (fun t_lane_26 t_size_27 t_cells_28 =>
 (some ((1 : Int32), t_sheets_0_lane, t_sheets_0_size, t_sheets_0_cells, t_sheets_1_lane, t_sheets_1_size, t_sheets_1_cells, t_sheets_2_lane, t_sheets_2_size, t_sheets_2_cells, t_lane_26, t_size_27, t_cells_28))))
 else none)))))
 else (some ((-14 : Int32), t_sheets_0_lane, t_sheets_0_size, t_sheets_0_cells, t_sheets_1_lane, t_sheets_1_size, t_sheets_1_cells, t_sheets_2_lane, t_sheets_2_size, t_sheets_2_cells, t_sheets_3_lane, t_sheets_3_size, t_sheets_3_cells)))
 else (some ((-1 : Int32), t_sheets_0_lane, t_sheets_0_size, t_sheets_0_cells, t_sheets_1_lane, t_sheets_1_size, t_sheets_1_cells, t_sheets_2_lane, t_sheets_2_size, t_sheets_2_cells, t_sheets_3_lane, t_sheets_3_size, t_sheets_3_cells)))))))))
abbrev rmX7_sheet : Room := { frames := 2, cells := 0, slots := 0, locals := 45 }
set_option maxHeartbeats 4000000 in
set_option maxRecDepth 100000 in
theorem c_X7_sheet (l : Launch) (g : Gh) (sz : Nat) (t_q t_plan_q t_now_q t_ahead_q t_before_q t_images_q t_reader_q t_seen_q t_heard_q t_search_q t_passages_q t_sheets_q t_sheets_0_q t_sheets_1_q t_sheets_2_q t_sheets_3_q t_sheets_0_cells_q t_sheets_1_cells_q t_sheets_2_cells_q t_sheets_3_cells_q : Nat) (t_keptImages : Int32) (t_tornFault : Int32) (t_sheets_0_lane : Int32) (t_sheets_0_size : Int32) (t_sheets_0_cells : Nat → Int32) (t_sheets_1_lane : Int32) (t_sheets_1_size : Int32) (t_sheets_1_cells : Nat → Int32) (t_sheets_2_lane : Int32) (t_sheets_2_size : Int32) (t_sheets_2_cells : Nat → Int32) (t_sheets_3_lane : Int32) (t_sheets_3_size : Int32) (t_sheets_3_cells : Nat → Int32) (p1 : Int32) (p2 : Int32) (p3 : Int32) (rr : Int32) (t_sheets_0_lane' : Int32) (t_sheets_0_size' : Int32) (t_sheets_0_cells' : Nat → Int32) (t_sheets_1_lane' : Int32) (t_sheets_1_size' : Int32) (t_sheets_1_cells' : Nat → Int32) (t_sheets_2_lane' : Int32) (t_sheets_2_size' : Int32) (t_sheets_2_cells' : Nat → Int32) (t_sheets_3_lane' : Int32) (t_sheets_3_size' : Int32) (t_sheets_3_cells' : Nat → Int32) (hf : f_X7_sheet t_sheets_0_lane t_sheets_0_size t_sheets_0_cells t_sheets_1_lane t_sheets_1_size t_sheets_1_cells t_sheets_2_lane t_sheets_2_size t_sheets_2_cells t_sheets_3_lane t_sheets_3_size t_sheets_3_cells p1 p2 p3 = some (rr, t_sheets_0_lane', t_sheets_0_size', t_sheets_0_cells', t_sheets_1_lane', t_sheets_1_size', t_sheets_1_cells', t_sheets_2_lane', t_sheets_2_size', t_sheets_2_cells', t_sheets_3_lane', t_sheets_3_size', t_sheets_3_cells')) : CI l yX7_sheet wsX7_sheet rmX7_sheet [.ref t_q, .int p1, .int p2, .int p3] g sz [oX7 t_q t_plan_q t_now_q t_ahead_q t_before_q t_images_q t_keptImages t_reader_q t_seen_q t_heard_q t_search_q t_passages_q t_sheets_q t_tornFault, aH g t_sheets_q 4 (va_up (va_up (va_up (va_up (fun _ => none) 0 (some t_sheets_0_q)) 1 (some t_sheets_1_q)) 2 (some t_sheets_2_q)) 3 (some t_sheets_3_q)), oX5 t_sheets_0_q t_sheets_0_cells_q t_sheets_0_lane t_sheets_0_size, aI g t_sheets_0_cells_q 40 t_sheets_0_cells, oX5 t_sheets_1_q t_sheets_1_cells_q t_sheets_1_lane t_sheets_1_size, aI g t_sheets_1_cells_q 40 t_sheets_1_cells, oX5 t_sheets_2_q t_sheets_2_cells_q t_sheets_2_lane t_sheets_2_size, aI g t_sheets_2_cells_q 40 t_sheets_2_cells, oX5 t_sheets_3_q t_sheets_3_cells_q t_sheets_3_lane t_sheets_3_size, aI g t_sheets_3_cells_q 40 t_sheets_3_cells] [oX7 t_q t_plan_q t_now_q t_ahead_q t_before_q t_images_q t_keptImages t_reader_q t_seen_q t_heard_q t_search_q t_passages_q t_sheets_q t_tornFault, aH g t_sheets_q 4 (va_up (va_up (va_up (va_up (fun _ => none) 0 (some t_sheets_0_q)) 1 (some t_sheets_1_q)) 2 (some t_sheets_2_q)) 3 (some t_sheets_3_q)), oX5 t_sheets_0_q t_sheets_0_cells_q t_sheets_0_lane' t_sheets_0_size', aI g t_sheets_0_cells_q 40 t_sheets_0_cells', oX5 t_sheets_1_q t_sheets_1_cells_q t_sheets_1_lane' t_sheets_1_size', aI g t_sheets_1_cells_q 40 t_sheets_1_cells', oX5 t_sheets_2_q t_sheets_2_cells_q t_sheets_2_lane' t_sheets_2_size', aI g t_sheets_2_cells_q 40 t_sheets_2_cells', oX5 t_sheets_3_q t_sheets_3_cells_q t_sheets_3_lane' t_sheets_3_size', aI g t_sheets_3_cells_q 40 t_sheets_3_cells'] rr := by
  refine ent_i (cc := cX7_sheet) (maxL := 4) (by decide) rfl (Nat.le_of_ble_eq_true rfl) ?_
  intro p e s m args below meth c A Q hx hb hml hown hts hK hz hk hA hD hP hS hret ls hl
  have hown : s.vm.findClass RX7 = some m.cls := hown
  have inX7 : ∀ w ∈ u_ws RX7 TX7 13, w ∈ wsX7_sheet := by decide +kernel
  have k72 := hts (.fieldLink RX7 72 "ThreadMoved" "sheets" "[LThreadMoved$Sheet;") (by decide +kernel)
  have hl : lv_has ls 4 [(0, .ref t_q), (1, .int p1), (2, .int p2), (3, .int p3)] := hl
  have hret : ∀ (rrz : Int32) (t_sheets_0_lanez : Int32) (t_sheets_0_sizez : Int32) (t_sheets_0_cellsz : Nat → Int32) (t_sheets_1_lanez : Int32) (t_sheets_1_sizez : Int32) (t_sheets_1_cellsz : Nat → Int32) (t_sheets_2_lanez : Int32) (t_sheets_2_sizez : Int32) (t_sheets_2_cellsz : Nat → Int32) (t_sheets_3_lanez : Int32) (t_sheets_3_sizez : Int32) (t_sheets_3_cellsz : Nat → Int32), (rrz, t_sheets_0_lanez, t_sheets_0_sizez, t_sheets_0_cellsz, t_sheets_1_lanez, t_sheets_1_sizez, t_sheets_1_cellsz, t_sheets_2_lanez, t_sheets_2_sizez, t_sheets_2_cellsz, t_sheets_3_lanez, t_sheets_3_sizez, t_sheets_3_cellsz) = (rr, t_sheets_0_lane', t_sheets_0_size', t_sheets_0_cells', t_sheets_1_lane', t_sheets_1_size', t_sheets_1_cells', t_sheets_2_lane', t_sheets_2_size', t_sheets_2_cells', t_sheets_3_lane', t_sheets_3_size', t_sheets_3_cells') → ∀ (H : Heap) (locs : List Loc) (pc : Nat) (ls : Array Slot), va_P g.1 vwCl [oX7 t_q t_plan_q t_now_q t_ahead_q t_before_q t_images_q t_keptImages t_reader_q t_seen_q t_heard_q t_search_q t_passages_q t_sheets_q t_tornFault, aH g t_sheets_q 4 (va_up (va_up (va_up (va_up (fun _ => none) 0 (some t_sheets_0_q)) 1 (some t_sheets_1_q)) 2 (some t_sheets_2_q)) 3 (some t_sheets_3_q)), oX5 t_sheets_0_q t_sheets_0_cells_q t_sheets_0_lanez t_sheets_0_sizez, aI g t_sheets_0_cells_q 40 t_sheets_0_cellsz, oX5 t_sheets_1_q t_sheets_1_cells_q t_sheets_1_lanez t_sheets_1_sizez, aI g t_sheets_1_cells_q 40 t_sheets_1_cellsz, oX5 t_sheets_2_q t_sheets_2_cells_q t_sheets_2_lanez t_sheets_2_sizez, aI g t_sheets_2_cells_q 40 t_sheets_2_cellsz, oX5 t_sheets_3_q t_sheets_3_cells_q t_sheets_3_lanez t_sheets_3_sizez, aI g t_sheets_3_cells_q 40 t_sheets_3_cellsz] H → va_S A s.heap H locs → decode cX7_sheet pc = .ok (.ireturn, 1) → W p l e rmX7_sheet s m args below meth c H locs 0 0 Q (F0 m pc ls [.int rrz]) := by
    intro rrz t_sheets_0_lanez t_sheets_0_sizez t_sheets_0_cellsz t_sheets_1_lanez t_sheets_1_sizez t_sheets_1_cellsz t_sheets_2_lanez t_sheets_2_sizez t_sheets_2_cellsz t_sheets_3_lanez t_sheets_3_sizez t_sheets_3_cellsz he H locs pc ls hP hS hd
    cases he
    exact hret H locs pc ls hP hS hd
  unfold f_X7_sheet at hf
  refine lv_aload_n hx hb dX7_sheet_0 rfl (lv_at hl 0 rfl) ?_
  refine lv_iload_n hx hb dX7_sheet_1 rfl (lv_at hl 1 rfl) ?_
  obtain ⟨r_1, hc_2, hf⟩ := ob1_e hf
  refine kV_i (wn := [oX7 t_q t_plan_q t_now_q t_ahead_q t_before_q t_images_q t_keptImages t_reader_q t_seen_q t_heard_q t_search_q t_passages_q t_sheets_q t_tornFault, aH g t_sheets_q 4 (va_up (va_up (va_up (va_up (fun _ => none) 0 (some t_sheets_0_q)) 1 (some t_sheets_1_q)) 2 (some t_sheets_2_q)) 3 (some t_sheets_3_q)), oX5 t_sheets_0_q t_sheets_0_cells_q t_sheets_0_lane t_sheets_0_size, aI g t_sheets_0_cells_q 40 t_sheets_0_cells, oX5 t_sheets_1_q t_sheets_1_cells_q t_sheets_1_lane t_sheets_1_size, aI g t_sheets_1_cells_q 40 t_sheets_1_cells, oX5 t_sheets_2_q t_sheets_2_cells_q t_sheets_2_lane t_sheets_2_size, aI g t_sheets_2_cells_q 40 t_sheets_2_cells, oX5 t_sheets_3_q t_sheets_3_cells_q t_sheets_3_lane t_sheets_3_size, aI g t_sheets_3_cells_q 40 t_sheets_3_cells]) (As := [.int p1]) (rest := []) (c_X7_isSheet l g _ t_q t_plan_q t_now_q t_ahead_q t_before_q t_images_q t_reader_q t_seen_q t_heard_q t_search_q t_passages_q t_sheets_q t_sheets_0_q t_sheets_1_q t_sheets_2_q t_sheets_3_q t_keptImages t_tornFault p1 r_1 hc_2) ⟨hx, hb, hml, hown, hts⟩ (cwV 1 hts gX7_sheet_X7_isSheet rfl rfl rfl (by decide +kernel) ⟨by decide, by decide⟩) hK hz hk hP (hD.re rfl) hS hA [0, 1] rfl rfl rfl rfl rfl rfl rfl hl.1 rfl (Nat.le_of_ble_eq_true rfl) dX7_sheet_2 (fun H locs hP hS => ?_)
  refine lv_if_eq (tgt := 21) hx hb dX7_sheet_5 (by decide) (fun c_3 => ?_) (fun c_3 => ?_)
  · have hf := ite_t hf c_3
    refine lv_iconst (v := (-1 : Int32)) hx hb dX7_sheet_21 (by decide) ?_
    exact hret (-1 : Int32) t_sheets_0_lane t_sheets_0_size t_sheets_0_cells t_sheets_1_lane t_sheets_1_size t_sheets_1_cells t_sheets_2_lane t_sheets_2_size t_sheets_2_cells t_sheets_3_lane t_sheets_3_size t_sheets_3_cells (Option.some.inj hf) _ _ _ _ hP hS dX7_sheet_22
  · have hf := ite_f hf c_3
    refine lv_iload_n hx hb dX7_sheet_8 rfl (lv_at hl 2 rfl) ?_
    obtain ⟨r_4, hc_5, hf⟩ := ob1_e hf
    refine kS_i (wn := [oX7 t_q t_plan_q t_now_q t_ahead_q t_before_q t_images_q t_keptImages t_reader_q t_seen_q t_heard_q t_search_q t_passages_q t_sheets_q t_tornFault, aH g t_sheets_q 4 (va_up (va_up (va_up (va_up (fun _ => none) 0 (some t_sheets_0_q)) 1 (some t_sheets_1_q)) 2 (some t_sheets_2_q)) 3 (some t_sheets_3_q)), oX5 t_sheets_0_q t_sheets_0_cells_q t_sheets_0_lane t_sheets_0_size, aI g t_sheets_0_cells_q 40 t_sheets_0_cells, oX5 t_sheets_1_q t_sheets_1_cells_q t_sheets_1_lane t_sheets_1_size, aI g t_sheets_1_cells_q 40 t_sheets_1_cells, oX5 t_sheets_2_q t_sheets_2_cells_q t_sheets_2_lane t_sheets_2_size, aI g t_sheets_2_cells_q 40 t_sheets_2_cells, oX5 t_sheets_3_q t_sheets_3_cells_q t_sheets_3_lane t_sheets_3_size, aI g t_sheets_3_cells_q 40 t_sheets_3_cells]) (As := [.int p2]) (rest := []) (c_X7_isLane l g _ p2 r_4 hc_5) ⟨hx, hb, hml, hown, hts⟩ (va_cwS 1 hts gX7_sheet_X7_isLane rfl rfl rfl (by decide +kernel) ⟨by decide, by decide⟩) hK hz hk hP (hD.re rfl) hS hA [] rfl rfl rfl rfl rfl hl.1 rfl (Nat.le_of_ble_eq_true rfl) dX7_sheet_9 (fun H locs hP hS => ?_)
    refine lv_if_eq (tgt := 21) hx hb dX7_sheet_12 (by decide) (fun c_6 => ?_) (fun c_6 => ?_)
    · have hf := ite_t hf c_6
      refine lv_iconst (v := (-1 : Int32)) hx hb dX7_sheet_21 (by decide) ?_
      exact hret (-1 : Int32) t_sheets_0_lane t_sheets_0_size t_sheets_0_cells t_sheets_1_lane t_sheets_1_size t_sheets_1_cells t_sheets_2_lane t_sheets_2_size t_sheets_2_cells t_sheets_3_lane t_sheets_3_size t_sheets_3_cells (Option.some.inj hf) _ _ _ _ hP hS dX7_sheet_22
    · have hf := ite_f hf c_6
      refine lv_iload_n hx hb dX7_sheet_15 rfl (lv_at hl 3 rfl) ?_
      refine lv_bipush (v := (40 : Int32)) hx hb dX7_sheet_16 (by decide) ?_
      refine lv_icmp_le (tgt := 23) hx hb dX7_sheet_18 (by decide) (fun c_7 => ?_) (fun c_7 => ?_)
      · have hf := ite_t hf c_7
        refine lv_iload_n hx hb dX7_sheet_23 rfl (lv_at hl 3 rfl) ?_
        refine lv_if_ge (tgt := 30) hx hb dX7_sheet_24 (by decide) (fun c_8 => ?_) (fun c_8 => ?_)
        · have hf := ite_t hf c_8
          refine lv_aload_n hx hb dX7_sheet_30 rfl (lv_at hl 0 rfl) ?_
          refine va_get (D := g.1) (ci := 7) (v := .ref t_sheets_q) (C := RX7) (T := TX7) (N := 13) hx hb hts inX7 hown hK hP 0 rfl rfl 11 (by decide) k72 (fun _ h9 => h9) rfl dX7_sheet_31 ?_
          refine lv_iload_n hx hb dX7_sheet_34 rfl (lv_at hl 1 rfl) ?_
          obtain ⟨h_9, hf⟩ := gin_e hf
          refine va_aldq hx hb hK hP 1 4 rfl rfl h_9 dX7_sheet_35 ?_
          by_cases c_10 : p1 = (0 : Int32)
          · have hf := ite_t hf c_10
            refine tp_v (show _ = Value.ref t_sheets_0_q by rw [c_10]; rfl) ?_
            refine lv_iload_n hx hb dX7_sheet_36 rfl (lv_at hl 2 rfl) ?_
            refine lv_iload_n hx hb dX7_sheet_37 rfl (lv_at hl 3 rfl) ?_
            obtain ⟨t_lane_11, t_size_12, t_cells_13, hc_14, hf⟩ := ob3_e hf
            refine kV_v (wn := [oX7 t_q t_plan_q t_now_q t_ahead_q t_before_q t_images_q t_keptImages t_reader_q t_seen_q t_heard_q t_search_q t_passages_q t_sheets_q t_tornFault, aH g t_sheets_q 4 (va_up (va_up (va_up (va_up (fun _ => none) 0 (some t_sheets_0_q)) 1 (some t_sheets_1_q)) 2 (some t_sheets_2_q)) 3 (some t_sheets_3_q)), oX5 t_sheets_0_q t_sheets_0_cells_q t_lane_11 t_size_12, aI g t_sheets_0_cells_q 40 t_cells_13, oX5 t_sheets_1_q t_sheets_1_cells_q t_sheets_1_lane t_sheets_1_size, aI g t_sheets_1_cells_q 40 t_sheets_1_cells, oX5 t_sheets_2_q t_sheets_2_cells_q t_sheets_2_lane t_sheets_2_size, aI g t_sheets_2_cells_q 40 t_sheets_2_cells, oX5 t_sheets_3_q t_sheets_3_cells_q t_sheets_3_lane t_sheets_3_size, aI g t_sheets_3_cells_q 40 t_sheets_3_cells]) (As := [.int p2, .int p3]) (rest := []) (c_X5_renew l g _ t_sheets_0_q t_sheets_0_cells_q t_sheets_0_lane t_sheets_0_size t_sheets_0_cells p2 p3 t_lane_11 t_size_12 t_cells_13 hc_14) ⟨hx, hb, hml, hown, hts⟩ (cwV 2 hts gX7_sheet_X5_renew rfl rfl rfl (by decide +kernel) ⟨by decide, by decide⟩) hK hz hk hP (hD.re rfl) hS hA [2, 3] rfl rfl rfl rfl rfl rfl rfl hl.1 rfl (Nat.le_of_ble_eq_true rfl) dX7_sheet_38 (fun H locs hP hS => ?_)
            refine lv_iconst (v := (1 : Int32)) hx hb dX7_sheet_41 (by decide) ?_
            exact hret (1 : Int32) t_lane_11 t_size_12 t_cells_13 t_sheets_1_lane t_sheets_1_size t_sheets_1_cells t_sheets_2_lane t_sheets_2_size t_sheets_2_cells t_sheets_3_lane t_sheets_3_size t_sheets_3_cells (Option.some.inj hf) _ _ _ _ hP hS dX7_sheet_42
          have hf := ite_f hf c_10
          by_cases c_15 : p1 = (1 : Int32)
          · have hf := ite_t hf c_15
            refine tp_v (show _ = Value.ref t_sheets_1_q by rw [c_15]; rfl) ?_
            refine lv_iload_n hx hb dX7_sheet_36 rfl (lv_at hl 2 rfl) ?_
            refine lv_iload_n hx hb dX7_sheet_37 rfl (lv_at hl 3 rfl) ?_
            obtain ⟨t_lane_16, t_size_17, t_cells_18, hc_19, hf⟩ := ob3_e hf
            refine kV_v (wn := [oX7 t_q t_plan_q t_now_q t_ahead_q t_before_q t_images_q t_keptImages t_reader_q t_seen_q t_heard_q t_search_q t_passages_q t_sheets_q t_tornFault, aH g t_sheets_q 4 (va_up (va_up (va_up (va_up (fun _ => none) 0 (some t_sheets_0_q)) 1 (some t_sheets_1_q)) 2 (some t_sheets_2_q)) 3 (some t_sheets_3_q)), oX5 t_sheets_0_q t_sheets_0_cells_q t_sheets_0_lane t_sheets_0_size, aI g t_sheets_0_cells_q 40 t_sheets_0_cells, oX5 t_sheets_1_q t_sheets_1_cells_q t_lane_16 t_size_17, aI g t_sheets_1_cells_q 40 t_cells_18, oX5 t_sheets_2_q t_sheets_2_cells_q t_sheets_2_lane t_sheets_2_size, aI g t_sheets_2_cells_q 40 t_sheets_2_cells, oX5 t_sheets_3_q t_sheets_3_cells_q t_sheets_3_lane t_sheets_3_size, aI g t_sheets_3_cells_q 40 t_sheets_3_cells]) (As := [.int p2, .int p3]) (rest := []) (c_X5_renew l g _ t_sheets_1_q t_sheets_1_cells_q t_sheets_1_lane t_sheets_1_size t_sheets_1_cells p2 p3 t_lane_16 t_size_17 t_cells_18 hc_19) ⟨hx, hb, hml, hown, hts⟩ (cwV 2 hts gX7_sheet_X5_renew rfl rfl rfl (by decide +kernel) ⟨by decide, by decide⟩) hK hz hk hP (hD.re rfl) hS hA [4, 5] rfl rfl rfl rfl rfl rfl rfl hl.1 rfl (Nat.le_of_ble_eq_true rfl) dX7_sheet_38 (fun H locs hP hS => ?_)
            refine lv_iconst (v := (1 : Int32)) hx hb dX7_sheet_41 (by decide) ?_
            exact hret (1 : Int32) t_sheets_0_lane t_sheets_0_size t_sheets_0_cells t_lane_16 t_size_17 t_cells_18 t_sheets_2_lane t_sheets_2_size t_sheets_2_cells t_sheets_3_lane t_sheets_3_size t_sheets_3_cells (Option.some.inj hf) _ _ _ _ hP hS dX7_sheet_42
          have hf := ite_f hf c_15
          by_cases c_20 : p1 = (2 : Int32)
          · have hf := ite_t hf c_20
            refine tp_v (show _ = Value.ref t_sheets_2_q by rw [c_20]; rfl) ?_
            refine lv_iload_n hx hb dX7_sheet_36 rfl (lv_at hl 2 rfl) ?_
            refine lv_iload_n hx hb dX7_sheet_37 rfl (lv_at hl 3 rfl) ?_
            obtain ⟨t_lane_21, t_size_22, t_cells_23, hc_24, hf⟩ := ob3_e hf
            refine kV_v (wn := [oX7 t_q t_plan_q t_now_q t_ahead_q t_before_q t_images_q t_keptImages t_reader_q t_seen_q t_heard_q t_search_q t_passages_q t_sheets_q t_tornFault, aH g t_sheets_q 4 (va_up (va_up (va_up (va_up (fun _ => none) 0 (some t_sheets_0_q)) 1 (some t_sheets_1_q)) 2 (some t_sheets_2_q)) 3 (some t_sheets_3_q)), oX5 t_sheets_0_q t_sheets_0_cells_q t_sheets_0_lane t_sheets_0_size, aI g t_sheets_0_cells_q 40 t_sheets_0_cells, oX5 t_sheets_1_q t_sheets_1_cells_q t_sheets_1_lane t_sheets_1_size, aI g t_sheets_1_cells_q 40 t_sheets_1_cells, oX5 t_sheets_2_q t_sheets_2_cells_q t_lane_21 t_size_22, aI g t_sheets_2_cells_q 40 t_cells_23, oX5 t_sheets_3_q t_sheets_3_cells_q t_sheets_3_lane t_sheets_3_size, aI g t_sheets_3_cells_q 40 t_sheets_3_cells]) (As := [.int p2, .int p3]) (rest := []) (c_X5_renew l g _ t_sheets_2_q t_sheets_2_cells_q t_sheets_2_lane t_sheets_2_size t_sheets_2_cells p2 p3 t_lane_21 t_size_22 t_cells_23 hc_24) ⟨hx, hb, hml, hown, hts⟩ (cwV 2 hts gX7_sheet_X5_renew rfl rfl rfl (by decide +kernel) ⟨by decide, by decide⟩) hK hz hk hP (hD.re rfl) hS hA [6, 7] rfl rfl rfl rfl rfl rfl rfl hl.1 rfl (Nat.le_of_ble_eq_true rfl) dX7_sheet_38 (fun H locs hP hS => ?_)
            refine lv_iconst (v := (1 : Int32)) hx hb dX7_sheet_41 (by decide) ?_
            exact hret (1 : Int32) t_sheets_0_lane t_sheets_0_size t_sheets_0_cells t_sheets_1_lane t_sheets_1_size t_sheets_1_cells t_lane_21 t_size_22 t_cells_23 t_sheets_3_lane t_sheets_3_size t_sheets_3_cells (Option.some.inj hf) _ _ _ _ hP hS dX7_sheet_42
          have hf := ite_f hf c_20
          by_cases c_25 : p1 = (3 : Int32)
          · have hf := ite_t hf c_25
            refine tp_v (show _ = Value.ref t_sheets_3_q by rw [c_25]; rfl) ?_
            refine lv_iload_n hx hb dX7_sheet_36 rfl (lv_at hl 2 rfl) ?_
            refine lv_iload_n hx hb dX7_sheet_37 rfl (lv_at hl 3 rfl) ?_
            obtain ⟨t_lane_26, t_size_27, t_cells_28, hc_29, hf⟩ := ob3_e hf
            refine kV_v (wn := [oX7 t_q t_plan_q t_now_q t_ahead_q t_before_q t_images_q t_keptImages t_reader_q t_seen_q t_heard_q t_search_q t_passages_q t_sheets_q t_tornFault, aH g t_sheets_q 4 (va_up (va_up (va_up (va_up (fun _ => none) 0 (some t_sheets_0_q)) 1 (some t_sheets_1_q)) 2 (some t_sheets_2_q)) 3 (some t_sheets_3_q)), oX5 t_sheets_0_q t_sheets_0_cells_q t_sheets_0_lane t_sheets_0_size, aI g t_sheets_0_cells_q 40 t_sheets_0_cells, oX5 t_sheets_1_q t_sheets_1_cells_q t_sheets_1_lane t_sheets_1_size, aI g t_sheets_1_cells_q 40 t_sheets_1_cells, oX5 t_sheets_2_q t_sheets_2_cells_q t_sheets_2_lane t_sheets_2_size, aI g t_sheets_2_cells_q 40 t_sheets_2_cells, oX5 t_sheets_3_q t_sheets_3_cells_q t_lane_26 t_size_27, aI g t_sheets_3_cells_q 40 t_cells_28]) (As := [.int p2, .int p3]) (rest := []) (c_X5_renew l g _ t_sheets_3_q t_sheets_3_cells_q t_sheets_3_lane t_sheets_3_size t_sheets_3_cells p2 p3 t_lane_26 t_size_27 t_cells_28 hc_29) ⟨hx, hb, hml, hown, hts⟩ (cwV 2 hts gX7_sheet_X5_renew rfl rfl rfl (by decide +kernel) ⟨by decide, by decide⟩) hK hz hk hP (hD.re rfl) hS hA [8, 9] rfl rfl rfl rfl rfl rfl rfl hl.1 rfl (Nat.le_of_ble_eq_true rfl) dX7_sheet_38 (fun H locs hP hS => ?_)
            refine lv_iconst (v := (1 : Int32)) hx hb dX7_sheet_41 (by decide) ?_
            exact hret (1 : Int32) t_sheets_0_lane t_sheets_0_size t_sheets_0_cells t_sheets_1_lane t_sheets_1_size t_sheets_1_cells t_sheets_2_lane t_sheets_2_size t_sheets_2_cells t_lane_26 t_size_27 t_cells_28 (Option.some.inj hf) _ _ _ _ hP hS dX7_sheet_42
          have hf := ite_f hf c_25
          cases hf
        · have hf := ite_f hf c_8
          refine lv_bipush (v := (-14 : Int32)) hx hb dX7_sheet_27 (by decide) ?_
          exact hret (-14 : Int32) t_sheets_0_lane t_sheets_0_size t_sheets_0_cells t_sheets_1_lane t_sheets_1_size t_sheets_1_cells t_sheets_2_lane t_sheets_2_size t_sheets_2_cells t_sheets_3_lane t_sheets_3_size t_sheets_3_cells (Option.some.inj hf) _ _ _ _ hP hS dX7_sheet_29
      · have hf := ite_f hf c_7
        refine lv_iconst (v := (-1 : Int32)) hx hb dX7_sheet_21 (by decide) ?_
        exact hret (-1 : Int32) t_sheets_0_lane t_sheets_0_size t_sheets_0_cells t_sheets_1_lane t_sheets_1_size t_sheets_1_cells t_sheets_2_lane t_sheets_2_size t_sheets_2_cells t_sheets_3_lane t_sheets_3_size t_sheets_3_cells (Option.some.inj hf) _ _ _ _ hP hS dX7_sheet_22
