def f_X7_fault (t_reader_fault : Int32) : Option (Int32) :=
 (some t_reader_fault)
abbrev rmX7_fault : Room := { frames := 0, cells := 0, slots := 0, locals := 0 }
set_option maxHeartbeats 4000000 in
set_option maxRecDepth 100000 in
theorem c_X7_fault (l : Launch) (g : Gh) (sz : Nat) (t_q t_plan_q t_now_q t_ahead_q t_before_q t_images_q t_reader_q t_seen_q t_heard_q t_search_q t_passages_q t_sheets_q t_reader_plan_q t_reader_state_q t_reader_tape_q : Nat) (t_keptImages : Int32) (t_tornFault : Int32) (t_reader_length : Int32) (t_reader_fault : Int32) (t_reader_faultPlace : Int32) (t_reader_lines : Int32) (t_reader_place : Int32) (t_reader_kind : Int32) (t_reader_start : Int32) (t_reader_value : Int32) (t_reader_told : Int32) (rr : Int32) (hf : f_X7_fault t_reader_fault = some rr) : CI l yX7_fault wsX7_fault rmX7_fault [.ref t_q] g sz [oX7 t_q t_plan_q t_now_q t_ahead_q t_before_q t_images_q t_keptImages t_reader_q t_seen_q t_heard_q t_search_q t_passages_q t_sheets_q t_tornFault, oX3 t_reader_q t_reader_plan_q t_reader_state_q t_reader_length t_reader_fault t_reader_faultPlace t_reader_lines t_reader_tape_q t_reader_place t_reader_kind t_reader_start t_reader_value t_reader_told] [oX7 t_q t_plan_q t_now_q t_ahead_q t_before_q t_images_q t_keptImages t_reader_q t_seen_q t_heard_q t_search_q t_passages_q t_sheets_q t_tornFault, oX3 t_reader_q t_reader_plan_q t_reader_state_q t_reader_length t_reader_fault t_reader_faultPlace t_reader_lines t_reader_tape_q t_reader_place t_reader_kind t_reader_start t_reader_value t_reader_told] rr := by
  refine ent_i (cc := cX7_fault) (maxL := 1) (by decide) rfl (Nat.le_of_ble_eq_true rfl) ?_
  intro p e s m args below meth c A Q hx hb hml hown hts hK hz hk hA hD hP hS hret ls hl
  have hown : s.vm.findClass RX7 = some m.cls := hown
  have inX3 : ∀ w ∈ u_ws RX3 TX3 12, w ∈ wsX7_fault := by decide +kernel
  have inX7 : ∀ w ∈ u_ws RX7 TX7 13, w ∈ wsX7_fault := by decide +kernel
  have k42 := hts (.fieldLink RX7 42 "ThreadMoved" "reader" "LThreadMoved$Reader;") (by decide +kernel)
  have k94 := hts (.fieldLink RX7 94 "ThreadMoved$Reader" "fault" "I") (by decide +kernel)
  have hl : lv_has ls 1 [(0, .ref t_q)] := hl
  have hret : ∀ (rrz : Int32), rrz = rr → ∀ (H : Heap) (locs : List Loc) (pc : Nat) (ls : Array Slot), va_P g.1 vwCl [oX7 t_q t_plan_q t_now_q t_ahead_q t_before_q t_images_q t_keptImages t_reader_q t_seen_q t_heard_q t_search_q t_passages_q t_sheets_q t_tornFault, oX3 t_reader_q t_reader_plan_q t_reader_state_q t_reader_length t_reader_fault t_reader_faultPlace t_reader_lines t_reader_tape_q t_reader_place t_reader_kind t_reader_start t_reader_value t_reader_told] H → va_S A s.heap H locs → decode cX7_fault pc = .ok (.ireturn, 1) → W p l e rmX7_fault s m args below meth c H locs 0 0 Q (F0 m pc ls [.int rrz]) := by
    intro rrz he H locs pc ls hP hS hd
    cases he
    exact hret H locs pc ls hP hS hd
  unfold f_X7_fault at hf
  refine lv_aload_n hx hb dX7_fault_0 rfl (lv_at hl 0 rfl) ?_
  refine va_get (D := g.1) (ci := 7) (v := .ref t_reader_q) (C := RX7) (T := TX7) (N := 13) hx hb hts inX7 hown hK hP 0 rfl rfl 6 (by decide) k42 (fun _ h9 => h9) rfl dX7_fault_1 ?_
  refine va_get (D := g.1) (ci := 3) (v := .int t_reader_fault) (C := RX3) (T := TX3) (N := 12) hx hb hts inX3 hown hK hP 1 rfl rfl 3 (by decide) k94 (fun _ h9 => h9) rfl dX7_fault_4 ?_
  exact hret t_reader_fault (Option.some.inj hf) _ _ _ _ hP hS dX7_fault_7

def f_X7_feed (t_reader_length : Int32) (t_reader_tape : Nat → Int32) (p1 : Int64) : Option (Int32 × Int32 × (Nat → Int32)) :=
 (ob3 (f_X3_append t_reader_length t_reader_tape p1) (fun r_1 t_length_2 t_tape_3 =>
 (if r_1 = (0 : Int32) then
 (some ((-3 : Int32), t_length_2, t_tape_3))
 else (some (t_length_2, t_length_2, t_tape_3)))))
abbrev rmX7_feed : Room := { frames := 1, cells := 0, slots := 0, locals := 23 }
set_option maxHeartbeats 4000000 in
set_option maxRecDepth 100000 in
theorem c_X7_feed (l : Launch) (g : Gh) (sz : Nat) (t_q t_plan_q t_now_q t_ahead_q t_before_q t_images_q t_reader_q t_seen_q t_heard_q t_search_q t_passages_q t_sheets_q t_reader_plan_q t_reader_state_q t_reader_tape_q : Nat) (t_keptImages : Int32) (t_tornFault : Int32) (t_reader_length : Int32) (t_reader_fault : Int32) (t_reader_faultPlace : Int32) (t_reader_lines : Int32) (t_reader_place : Int32) (t_reader_kind : Int32) (t_reader_start : Int32) (t_reader_value : Int32) (t_reader_told : Int32) (t_reader_tape : Nat → Int32) (p1 : Int64) (rr : Int32) (t_reader_length' : Int32) (t_reader_tape' : Nat → Int32) (hf : f_X7_feed t_reader_length t_reader_tape p1 = some (rr, t_reader_length', t_reader_tape')) : CI l yX7_feed wsX7_feed rmX7_feed [.ref t_q, .long p1] g sz [oX7 t_q t_plan_q t_now_q t_ahead_q t_before_q t_images_q t_keptImages t_reader_q t_seen_q t_heard_q t_search_q t_passages_q t_sheets_q t_tornFault, oX3 t_reader_q t_reader_plan_q t_reader_state_q t_reader_length t_reader_fault t_reader_faultPlace t_reader_lines t_reader_tape_q t_reader_place t_reader_kind t_reader_start t_reader_value t_reader_told, aB g t_reader_tape_q 320 t_reader_tape] [oX7 t_q t_plan_q t_now_q t_ahead_q t_before_q t_images_q t_keptImages t_reader_q t_seen_q t_heard_q t_search_q t_passages_q t_sheets_q t_tornFault, oX3 t_reader_q t_reader_plan_q t_reader_state_q t_reader_length' t_reader_fault t_reader_faultPlace t_reader_lines t_reader_tape_q t_reader_place t_reader_kind t_reader_start t_reader_value t_reader_told, aB g t_reader_tape_q 320 t_reader_tape'] rr := by
  refine ent_i (cc := cX7_feed) (maxL := 3) (by decide) rfl (Nat.le_of_ble_eq_true rfl) ?_
  intro p e s m args below meth c A Q hx hb hml hown hts hK hz hk hA hD hP hS hret ls hl
  have hown : s.vm.findClass RX7 = some m.cls := hown
  have inX3 : ∀ w ∈ u_ws RX3 TX3 12, w ∈ wsX7_feed := by decide +kernel
  have inX7 : ∀ w ∈ u_ws RX7 TX7 13, w ∈ wsX7_feed := by decide +kernel
  have k42 := hts (.fieldLink RX7 42 "ThreadMoved" "reader" "LThreadMoved$Reader;") (by decide +kernel)
  have k84 := hts (.fieldLink RX7 84 "ThreadMoved$Reader" "length" "I") (by decide +kernel)
  have hl : lv_has ls 3 [(0, .ref t_q), (1, .long p1)] := hl
  have hret : ∀ (rrz : Int32) (t_reader_lengthz : Int32) (t_reader_tapez : Nat → Int32), (rrz, t_reader_lengthz, t_reader_tapez) = (rr, t_reader_length', t_reader_tape') → ∀ (H : Heap) (locs : List Loc) (pc : Nat) (ls : Array Slot), va_P g.1 vwCl [oX7 t_q t_plan_q t_now_q t_ahead_q t_before_q t_images_q t_keptImages t_reader_q t_seen_q t_heard_q t_search_q t_passages_q t_sheets_q t_tornFault, oX3 t_reader_q t_reader_plan_q t_reader_state_q t_reader_lengthz t_reader_fault t_reader_faultPlace t_reader_lines t_reader_tape_q t_reader_place t_reader_kind t_reader_start t_reader_value t_reader_told, aB g t_reader_tape_q 320 t_reader_tapez] H → va_S A s.heap H locs → decode cX7_feed pc = .ok (.ireturn, 1) → W p l e rmX7_feed s m args below meth c H locs 0 0 Q (F0 m pc ls [.int rrz]) := by
    intro rrz t_reader_lengthz t_reader_tapez he H locs pc ls hP hS hd
    cases he
    exact hret H locs pc ls hP hS hd
  unfold f_X7_feed at hf
  refine lv_aload_n hx hb dX7_feed_0 rfl (lv_at hl 0 rfl) ?_
  refine va_get (D := g.1) (ci := 7) (v := .ref t_reader_q) (C := RX7) (T := TX7) (N := 13) hx hb hts inX7 hown hK hP 0 rfl rfl 6 (by decide) k42 (fun _ h9 => h9) rfl dX7_feed_1 ?_
  refine lv_lload_n hx hb dX7_feed_4 rfl (lv_at hl 1 rfl) ?_
  obtain ⟨r_1, t_length_2, t_tape_3, hc_4, hf⟩ := ob3_e hf
  refine kV_i (wn := [oX7 t_q t_plan_q t_now_q t_ahead_q t_before_q t_images_q t_keptImages t_reader_q t_seen_q t_heard_q t_search_q t_passages_q t_sheets_q t_tornFault, oX3 t_reader_q t_reader_plan_q t_reader_state_q t_length_2 t_reader_fault t_reader_faultPlace t_reader_lines t_reader_tape_q t_reader_place t_reader_kind t_reader_start t_reader_value t_reader_told, aB g t_reader_tape_q 320 t_tape_3]) (As := [.long p1]) (rest := []) (c_X3_append l g _ t_reader_q t_reader_plan_q t_reader_state_q t_reader_tape_q t_reader_length t_reader_fault t_reader_faultPlace t_reader_lines t_reader_place t_reader_kind t_reader_start t_reader_value t_reader_told t_reader_tape p1 r_1 t_length_2 t_tape_3 hc_4) ⟨hx, hb, hml, hown, hts⟩ (cwV 1 hts gX7_feed_X3_append rfl rfl rfl (by decide +kernel) ⟨by decide, by decide⟩) hK hz hk hP (hD.re rfl) hS hA [1, 2] rfl rfl rfl rfl rfl rfl rfl hl.1 rfl (Nat.le_of_ble_eq_true rfl) dX7_feed_5 (fun H locs hP hS => ?_)
  refine lv_if_eq (tgt := 21) hx hb dX7_feed_8 (by decide) (fun c_5 => ?_) (fun c_5 => ?_)
  · have hf := ite_t hf c_5
    refine lv_bipush (v := (-3 : Int32)) hx hb dX7_feed_21 (by decide) ?_
    exact hret (-3 : Int32) t_length_2 t_tape_3 (Option.some.inj hf) _ _ _ _ hP hS dX7_feed_23
  · have hf := ite_f hf c_5
    refine lv_aload_n hx hb dX7_feed_11 rfl (lv_at hl 0 rfl) ?_
    refine va_get (D := g.1) (ci := 7) (v := .ref t_reader_q) (C := RX7) (T := TX7) (N := 13) hx hb hts inX7 hown hK hP 0 rfl rfl 6 (by decide) k42 (fun _ h9 => h9) rfl dX7_feed_12 ?_
    refine va_get (D := g.1) (ci := 3) (v := .int t_length_2) (C := RX3) (T := TX3) (N := 12) hx hb hts inX3 hown hK hP 1 rfl rfl 2 (by decide) k84 (fun _ h9 => h9) rfl dX7_feed_15 ?_
    refine lv_goto (tgt := 23) hx hb dX7_feed_18 (by decide) ?_
    exact hret t_length_2 t_length_2 t_tape_3 (Option.some.inj hf) _ _ _ _ hP hS dX7_feed_23

def b_X7_isAsSeen_2 (t_ahead_secondEnds : Nat → Int32) (t_seen_size : Int32) (t_seen_subjects : Nat → Int32) (t_seen_times : Nat → Int32) (t_seen_values : Nat → Int32) (p1 : Int32) (v2_1 : Int32) : Option ((Int32) ⊕ ((Int32) ⊕ (Int32))) :=
 (if t_seen_size ≤ v2_1 then
 (some (.inr (.inr v2_1)))
 else (gin v2_1 6 (jn0 (bnd (v2_1 + (1 : Int32)) (fun v2_6 =>
 (some (.inl v2_6)))) (fun j_5 =>
 (if (t_seen_times v2_1.toNatClampNeg) = p1 then
 (gin v2_1 6 (gin (t_seen_subjects v2_1.toNatClampNeg) 10 (gin v2_1 6 (if (t_ahead_secondEnds (t_seen_subjects v2_1.toNatClampNeg).toNatClampNeg) = (t_seen_values v2_1.toNatClampNeg) then
 (j_5)
 else (some (.inr (.inl (0 : Int32))))))))
 else (j_5))))))
def f_X7_isAsSeen (t_ahead_secondEnds : Nat → Int32) (t_seen_size : Int32) (t_seen_subjects : Nat → Int32) (t_seen_times : Nat → Int32) (t_seen_values : Nat → Int32) (p1 : Int32) : Option (Int32) :=
 (obm1 (itr (un1 (b_X7_isAsSeen_2 t_ahead_secondEnds t_seen_size t_seen_subjects t_seen_times t_seen_values p1)) FU (0 : Int32)) (fun x2_12 =>
 (some (1 : Int32))))
abbrev rmX7_isAsSeen : Room := { frames := 0, cells := 0, slots := 0, locals := 0 }
set_option maxHeartbeats 4000000 in
set_option maxRecDepth 100000 in
theorem c_X7_isAsSeen (l : Launch) (g : Gh) (sz : Nat) (t_q t_plan_q t_now_q t_ahead_q t_before_q t_images_q t_reader_q t_seen_q t_heard_q t_search_q t_passages_q t_sheets_q t_ahead_secondEnds_q t_ahead_string_q t_seen_times_q t_seen_subjects_q t_seen_values_q : Nat) (t_keptImages : Int32) (t_tornFault : Int32) (t_ahead_barred : Int32) (t_ahead_period : Int32) (t_ahead_his : Int32) (t_ahead_beast : Int32) (t_ahead_habit : Int32) (t_ahead_onString : Int32) (t_ahead_step : Int32) (t_ahead_eaten : Int32) (t_ahead_secondEnds : Nat → Int32) (t_seen_size : Int32) (t_seen_subjects : Nat → Int32) (t_seen_times : Nat → Int32) (t_seen_values : Nat → Int32) (p1 : Int32) (rr : Int32) (hf : f_X7_isAsSeen t_ahead_secondEnds t_seen_size t_seen_subjects t_seen_times t_seen_values p1 = some rr) : CI l yX7_isAsSeen wsX7_isAsSeen rmX7_isAsSeen [.ref t_q, .int p1] g sz [oX7 t_q t_plan_q t_now_q t_ahead_q t_before_q t_images_q t_keptImages t_reader_q t_seen_q t_heard_q t_search_q t_passages_q t_sheets_q t_tornFault, oX6 t_ahead_q t_plan_q t_ahead_secondEnds_q t_ahead_string_q t_ahead_barred t_ahead_period t_ahead_his t_ahead_beast t_ahead_habit t_ahead_onString t_ahead_step t_ahead_eaten, aI g t_ahead_secondEnds_q 10 t_ahead_secondEnds, oX0 t_seen_q t_seen_times_q t_seen_subjects_q t_seen_values_q t_seen_size, aI g t_seen_subjects_q 6 t_seen_subjects, aI g t_seen_times_q 6 t_seen_times, aI g t_seen_values_q 6 t_seen_values] [oX7 t_q t_plan_q t_now_q t_ahead_q t_before_q t_images_q t_keptImages t_reader_q t_seen_q t_heard_q t_search_q t_passages_q t_sheets_q t_tornFault, oX6 t_ahead_q t_plan_q t_ahead_secondEnds_q t_ahead_string_q t_ahead_barred t_ahead_period t_ahead_his t_ahead_beast t_ahead_habit t_ahead_onString t_ahead_step t_ahead_eaten, aI g t_ahead_secondEnds_q 10 t_ahead_secondEnds, oX0 t_seen_q t_seen_times_q t_seen_subjects_q t_seen_values_q t_seen_size, aI g t_seen_subjects_q 6 t_seen_subjects, aI g t_seen_times_q 6 t_seen_times, aI g t_seen_values_q 6 t_seen_values] rr := by
  refine ent_z (cc := cX7_isAsSeen) (maxL := 3) (by decide) rfl (Nat.le_of_ble_eq_true rfl) ?_
  intro p e s m args below meth c A Q hx hb hml hown hts hK hz hk hA hD hP hS hret ls hl
  have hown : s.vm.findClass RX7 = some m.cls := hown
  have inX0 : ∀ w ∈ u_ws RX0 TX0 4, w ∈ wsX7_isAsSeen := by decide +kernel
  have inX6 : ∀ w ∈ u_ws RX6 TX6 11, w ∈ wsX7_isAsSeen := by decide +kernel
  have inX7 : ∀ w ∈ u_ws RX7 TX7 13, w ∈ wsX7_isAsSeen := by decide +kernel
  have k25 := hts (.fieldLink RX7 25 "ThreadMoved" "ahead" "LThreadMoved$State;") (by decide +kernel)
  have k49 := hts (.fieldLink RX7 49 "ThreadMoved" "seen" "LThreadMoved$Notes;") (by decide +kernel)
  have k110 := hts (.fieldLink RX7 110 "ThreadMoved$Notes" "size" "I") (by decide +kernel)
  have k241 := hts (.fieldLink RX7 241 "ThreadMoved$Notes" "times" "[I") (by decide +kernel)
  have k244 := hts (.fieldLink RX7 244 "ThreadMoved$State" "secondEnds" "[I") (by decide +kernel)
  have k247 := hts (.fieldLink RX7 247 "ThreadMoved$Notes" "subjects" "[I") (by decide +kernel)
  have k250 := hts (.fieldLink RX7 250 "ThreadMoved$Notes" "values" "[I") (by decide +kernel)
  have hl : lv_has ls 3 [(0, .ref t_q), (1, .int p1)] := hl
  have hret : ∀ (rrz : Int32), rrz = rr → narrow .boolean (.int rrz) = .int rrz → ∀ (H : Heap) (locs : List Loc) (pc : Nat) (ls : Array Slot), va_P g.1 vwCl [oX7 t_q t_plan_q t_now_q t_ahead_q t_before_q t_images_q t_keptImages t_reader_q t_seen_q t_heard_q t_search_q t_passages_q t_sheets_q t_tornFault, oX6 t_ahead_q t_plan_q t_ahead_secondEnds_q t_ahead_string_q t_ahead_barred t_ahead_period t_ahead_his t_ahead_beast t_ahead_habit t_ahead_onString t_ahead_step t_ahead_eaten, aI g t_ahead_secondEnds_q 10 t_ahead_secondEnds, oX0 t_seen_q t_seen_times_q t_seen_subjects_q t_seen_values_q t_seen_size, aI g t_seen_subjects_q 6 t_seen_subjects, aI g t_seen_times_q 6 t_seen_times, aI g t_seen_values_q 6 t_seen_values] H → va_S A s.heap H locs → decode cX7_isAsSeen pc = .ok (.ireturn, 1) → W p l e rmX7_isAsSeen s m args below meth c H locs 0 0 Q (F0 m pc ls [.int rrz]) := by
    intro rrz he hzz H locs pc ls hP hS hd
    cases he
    exact hret H locs pc ls hzz hP hS hd
  unfold f_X7_isAsSeen at hf
  refine lv_iconst (v := (0 : Int32)) hx hb dX7_isAsSeen_0 (by decide) ?_
  refine lv_istore_n (lv' := [(2, .int (0 : Int32)), (0, .ref t_q), (1, .int p1)]) hx hb dX7_isAsSeen_1 rfl hl (by decide) rfl (fun ls hl => ?_)
  obtain ⟨z0_2, ho_2, hkr_2, hke_2⟩ := obm1_e hf
  have K_2 : ∀ (x2_12 : Int32), z0_2 = .inr x2_12 → ∀ (H : Heap) (locs : List Loc) (ls : Array Slot), va_P g.1 vwCl [oX7 t_q t_plan_q t_now_q t_ahead_q t_before_q t_images_q t_keptImages t_reader_q t_seen_q t_heard_q t_search_q t_passages_q t_sheets_q t_tornFault, oX6 t_ahead_q t_plan_q t_ahead_secondEnds_q t_ahead_string_q t_ahead_barred t_ahead_period t_ahead_his t_ahead_beast t_ahead_habit t_ahead_onString t_ahead_step t_ahead_eaten, aI g t_ahead_secondEnds_q 10 t_ahead_secondEnds, oX0 t_seen_q t_seen_times_q t_seen_subjects_q t_seen_values_q t_seen_size, aI g t_seen_subjects_q 6 t_seen_subjects, aI g t_seen_times_q 6 t_seen_times, aI g t_seen_values_q 6 t_seen_values] H → va_S A s.heap H locs → lv_has ls 3 [] → W p l e rmX7_isAsSeen s m args below meth c H locs 0 0 Q (F0 m 63 ls []) := by
    intro x2_12 hz9 H locs ls hP hS hl
    have hf := hke_2 x2_12 hz9
    refine lv_iconst (v := (1 : Int32)) hx hb dX7_isAsSeen_63 (by decide) ?_
    exact hret (1 : Int32) (Option.some.inj hf) rfl _ _ _ _ hP hS dX7_isAsSeen_64
  have L_2 : ∀ (n : Nat) (v2_1 : Int32), itr (un1 (b_X7_isAsSeen_2 t_ahead_secondEnds t_seen_size t_seen_subjects t_seen_times t_seen_values p1)) n v2_1 = some z0_2 → ∀ (H : Heap) (locs : List Loc) (ls : Array Slot), va_P g.1 vwCl [oX7 t_q t_plan_q t_now_q t_ahead_q t_before_q t_images_q t_keptImages t_reader_q t_seen_q t_heard_q t_search_q t_passages_q t_sheets_q t_tornFault, oX6 t_ahead_q t_plan_q t_ahead_secondEnds_q t_ahead_string_q t_ahead_barred t_ahead_period t_ahead_his t_ahead_beast t_ahead_habit t_ahead_onString t_ahead_step t_ahead_eaten, aI g t_ahead_secondEnds_q 10 t_ahead_secondEnds, oX0 t_seen_q t_seen_times_q t_seen_subjects_q t_seen_values_q t_seen_size, aI g t_seen_subjects_q 6 t_seen_subjects, aI g t_seen_times_q 6 t_seen_times, aI g t_seen_values_q 6 t_seen_values] H → va_S A s.heap H locs → lv_has ls 3 [(0, .ref t_q), (1, .int p1), (2, .int v2_1)] → W p l e rmX7_isAsSeen s m args below meth c H locs 0 0 Q (F0 m 2 ls []) := by
    refine itr_ind1 ?_
    intro v2_1 z_2 hf hrec hex H locs ls hP hS hl
    unfold b_X7_isAsSeen_2 at hf
    refine lv_iload_n hx hb dX7_isAsSeen_2 rfl (lv_at hl 2 rfl) ?_
    refine lv_aload_n hx hb dX7_isAsSeen_3 rfl (lv_at hl 0 rfl) ?_
    refine va_get (D := g.1) (ci := 7) (v := .ref t_seen_q) (C := RX7) (T := TX7) (N := 13) hx hb hts inX7 hown hK hP 0 rfl rfl 7 (by decide) k49 (fun _ h9 => h9) rfl dX7_isAsSeen_4 ?_
    refine va_get (D := g.1) (ci := 0) (v := .int t_seen_size) (C := RX0) (T := TX0) (N := 4) hx hb hts inX0 hown hK hP 3 rfl rfl 3 (by decide) k110 (fun _ h9 => h9) rfl dX7_isAsSeen_7 ?_
    refine lv_icmp_ge (tgt := 63) hx hb dX7_isAsSeen_10 (by decide) (fun c_3 => ?_) (fun c_3 => ?_)
    · have hf := ite_t hf c_3
      exact K_2 v2_1 (hex _ (Option.some.inj hf).symm).symm _ _ _ hP hS (lv_sub hl [] rfl)
    · have hf := ite_f hf c_3
      refine lv_aload_n hx hb dX7_isAsSeen_13 rfl (lv_at hl 0 rfl) ?_
      refine va_get (D := g.1) (ci := 7) (v := .ref t_seen_q) (C := RX7) (T := TX7) (N := 13) hx hb hts inX7 hown hK hP 0 rfl rfl 7 (by decide) k49 (fun _ h9 => h9) rfl dX7_isAsSeen_14 ?_
      refine va_get (D := g.1) (ci := 0) (v := .ref t_seen_times_q) (C := RX0) (T := TX0) (N := 4) hx hb hts inX0 hown hK hP 3 rfl rfl 0 (by decide) k241 (fun _ h9 => h9) rfl dX7_isAsSeen_17 ?_
      refine lv_iload_n hx hb dX7_isAsSeen_20 rfl (lv_at hl 2 rfl) ?_
      obtain ⟨h_4, hf⟩ := gin_e hf
      refine va_iald hx hb hK hP 5 0 rfl rfl h_4 dX7_isAsSeen_21 ?_
      refine lv_iload_n hx hb dX7_isAsSeen_22 rfl (lv_at hl 1 rfl) ?_
      obtain ⟨j_5, hj_5, hf⟩ := jn0_e hf
      have J_5 : j_5 = some z_2 → ∀ (H : Heap) (locs : List Loc) (ls : Array Slot), va_P g.1 vwCl [oX7 t_q t_plan_q t_now_q t_ahead_q t_before_q t_images_q t_keptImages t_reader_q t_seen_q t_heard_q t_search_q t_passages_q t_sheets_q t_tornFault, oX6 t_ahead_q t_plan_q t_ahead_secondEnds_q t_ahead_string_q t_ahead_barred t_ahead_period t_ahead_his t_ahead_beast t_ahead_habit t_ahead_onString t_ahead_step t_ahead_eaten, aI g t_ahead_secondEnds_q 10 t_ahead_secondEnds, oX0 t_seen_q t_seen_times_q t_seen_subjects_q t_seen_values_q t_seen_size, aI g t_seen_subjects_q 6 t_seen_subjects, aI g t_seen_times_q 6 t_seen_times, aI g t_seen_values_q 6 t_seen_values] H → va_S A s.heap H locs → lv_has ls 3 [(0, .ref t_q), (1, .int p1), (2, .int v2_1)] → W p l e rmX7_isAsSeen s m args below meth c H locs 0 0 Q (F0 m 57 ls []) := by
        intro hf H locs ls hP hS hl
        rw [hj_5] at hf
        obtain ⟨v2_6, ev2_6, hf⟩ := bnd_e hf
        refine lv_iinc (v := v2_6) (lv' := [(2, .int v2_6), (0, .ref t_q), (1, .int p1)]) hx hb dX7_isAsSeen_57 hl (k := 2) rfl (by rw [ev2_6]; rfl) (by decide) rfl (fun ls hl => ?_)
        refine lv_goto (tgt := 2) hx hb dX7_isAsSeen_60 (by decide) ?_
        exact hrec v2_6 (Option.some.inj hf).symm _ _ _ hP hS (lv_sub hl [1, 2, 0] rfl)
      refine lv_icmp_ne (tgt := 57) hx hb dX7_isAsSeen_23 (by decide) (fun c_7 => ?_) (fun c_7 => ?_)
      · have hf := ite_f hf c_7
        exact J_5 hf _ _ _ hP hS (lv_sub hl [0, 1, 2] rfl)
      · have hf := ite_t hf c_7
        refine lv_aload_n hx hb dX7_isAsSeen_26 rfl (lv_at hl 0 rfl) ?_
        refine va_get (D := g.1) (ci := 7) (v := .ref t_ahead_q) (C := RX7) (T := TX7) (N := 13) hx hb hts inX7 hown hK hP 0 rfl rfl 2 (by decide) k25 (fun _ h9 => h9) rfl dX7_isAsSeen_27 ?_
        refine va_get (D := g.1) (ci := 6) (v := .ref t_ahead_secondEnds_q) (C := RX6) (T := TX6) (N := 11) hx hb hts inX6 hown hK hP 1 rfl rfl 1 (by decide) k244 (fun _ h9 => h9) rfl dX7_isAsSeen_30 ?_
        refine lv_aload_n hx hb dX7_isAsSeen_33 rfl (lv_at hl 0 rfl) ?_
        refine va_get (D := g.1) (ci := 7) (v := .ref t_seen_q) (C := RX7) (T := TX7) (N := 13) hx hb hts inX7 hown hK hP 0 rfl rfl 7 (by decide) k49 (fun _ h9 => h9) rfl dX7_isAsSeen_34 ?_
        refine va_get (D := g.1) (ci := 0) (v := .ref t_seen_subjects_q) (C := RX0) (T := TX0) (N := 4) hx hb hts inX0 hown hK hP 3 rfl rfl 1 (by decide) k247 (fun _ h9 => h9) rfl dX7_isAsSeen_37 ?_
        refine lv_iload_n hx hb dX7_isAsSeen_40 rfl (lv_at hl 2 rfl) ?_
        obtain ⟨h_8, hf⟩ := gin_e hf
        refine va_iald hx hb hK hP 4 0 rfl rfl h_8 dX7_isAsSeen_41 ?_
        obtain ⟨h_9, hf⟩ := gin_e hf
        refine va_iald hx hb hK hP 2 0 rfl rfl h_9 dX7_isAsSeen_42 ?_
        refine lv_aload_n hx hb dX7_isAsSeen_43 rfl (lv_at hl 0 rfl) ?_
        refine va_get (D := g.1) (ci := 7) (v := .ref t_seen_q) (C := RX7) (T := TX7) (N := 13) hx hb hts inX7 hown hK hP 0 rfl rfl 7 (by decide) k49 (fun _ h9 => h9) rfl dX7_isAsSeen_44 ?_
        refine va_get (D := g.1) (ci := 0) (v := .ref t_seen_values_q) (C := RX0) (T := TX0) (N := 4) hx hb hts inX0 hown hK hP 3 rfl rfl 2 (by decide) k250 (fun _ h9 => h9) rfl dX7_isAsSeen_47 ?_
        refine lv_iload_n hx hb dX7_isAsSeen_50 rfl (lv_at hl 2 rfl) ?_
        obtain ⟨h_10, hf⟩ := gin_e hf
        refine va_iald hx hb hK hP 6 0 rfl rfl h_10 dX7_isAsSeen_51 ?_
        refine lv_icmp_eq (tgt := 57) hx hb dX7_isAsSeen_52 (by decide) (fun c_11 => ?_) (fun c_11 => ?_)
        · have hf := ite_t hf c_11
          exact J_5 hf _ _ _ hP hS (lv_sub hl [0, 1, 2] rfl)
        · have hf := ite_f hf c_11
          refine lv_iconst (v := (0 : Int32)) hx hb dX7_isAsSeen_55 (by decide) ?_
          exact hret (0 : Int32) (hkr_2 _ (hex _ (Option.some.inj hf).symm).symm) rfl _ _ _ _ hP hS dX7_isAsSeen_56
  exact L_2 FU (0 : Int32) ho_2 _ _ _ hP hS (lv_sub hl [1, 2, 0] rfl)

def b_X7_fits_26 (t_plan_rooms : Int32) (t_seen_size : Int32) (t_seen_subjects : Nat → Int32) (t_seen_times : Nat → Int32) (t_seen_values : Nat → Int32) (p1 : Int32) (t_beast_5 : Int32) (t_eaten_6 : Int32) (t_habit_7 : Int32) (t_his_8 : Int32) (t_onString_9 : Int32) (t_period_10 : Int32) (t_step_11 : Int32) (t_string_13 : Nat → Int32) (v2_15 : Int32) (t_ahead_barred_16 : Int32) (t_ahead_secondEnds_17 : Nat → Int32) : Option ((Int32 × Int32 × (Nat → Int32)) ⊕ ((Int32 × Int32 × Int32 × Int32 × Int32 × Int32 × Int32 × Int32 × Int32 × (Nat → Int32) × (Nat → Int32)) ⊕ (Int32 × Int32 × (Nat → Int32)))) :=
 (if (6 : Int32) < v2_15 then
 (some (.inr (.inr (v2_15, t_ahead_barred_16, t_ahead_secondEnds_17))))
 else (ob2 (f_X6_change t_ahead_barred_16 t_plan_rooms t_ahead_secondEnds_17 p1) (fun t_barred_20 t_secondEnds_21 =>
 (ob1 (f_X7_isAsSeen t_secondEnds_21 t_seen_size t_seen_subjects t_seen_times t_seen_values v2_15) (fun r_23 =>
 (if r_23 = (0 : Int32) then
 (some (.inr (.inl ((0 : Int32), t_barred_20, t_beast_5, t_eaten_6, t_habit_7, t_his_8, t_onString_9, t_period_10, t_step_11, t_secondEnds_21, t_string_13))))
 else (bnd (v2_15 + (1 : Int32)) (fun v2_26 =>
 (some (.inl (v2_26, t_barred_20, t_secondEnds_21)))))))))))
def f_X7_fits (t_ahead_barred : Int32) (t_ahead_period : Int32) (t_ahead_his : Int32) (t_ahead_beast : Int32) (t_ahead_habit : Int32) (t_ahead_onString : Int32) (t_ahead_step : Int32) (t_ahead_eaten : Int32) (t_ahead_secondEnds : Nat → Int32) (t_ahead_string : Nat → Int32) (t_now_barred : Int32) (t_now_period : Int32) (t_now_his : Int32) (t_now_beast : Int32) (t_now_habit : Int32) (t_now_onString : Int32) (t_now_step : Int32) (t_now_eaten : Int32) (t_now_secondEnds : Nat → Int32) (t_now_string : Nat → Int32) (t_plan_rooms : Int32) (t_plan_doorCount : Int32) (t_seen_size : Int32) (t_seen_subjects : Nat → Int32) (t_seen_times : Nat → Int32) (t_seen_values : Nat → Int32) (p1 : Int32) : Option (Int32 × Int32 × Int32 × Int32 × Int32 × Int32 × Int32 × Int32 × Int32 × (Nat → Int32) × (Nat → Int32)) :=
 (ob1 (f_X2_isLaw t_plan_rooms t_plan_doorCount p1) (fun r_1 =>
 (if r_1 = (0 : Int32) then
 (some ((0 : Int32), t_ahead_barred, t_ahead_beast, t_ahead_eaten, t_ahead_habit, t_ahead_his, t_ahead_onString, t_ahead_period, t_ahead_step, t_ahead_secondEnds, t_ahead_string))
 else (ob10 (f_X6_copyFrom t_now_barred t_now_period t_now_his t_now_beast t_now_habit t_now_onString t_now_step t_now_eaten t_now_secondEnds t_now_string t_ahead_secondEnds t_ahead_string) (fun t_barred_4 t_beast_5 t_eaten_6 t_habit_7 t_his_8 t_onString_9 t_period_10 t_step_11 t_secondEnds_12 t_string_13 =>
 (obm3 (itr (un3 (b_X7_fits_26 t_plan_rooms t_seen_size t_seen_subjects t_seen_times t_seen_values p1 t_beast_5 t_eaten_6 t_habit_7 t_his_8 t_onString_9 t_period_10 t_step_11 t_string_13)) FU ((1 : Int32), t_barred_4, t_secondEnds_12)) (fun x2_27 t_ahead_barred_28 t_ahead_secondEnds_29 =>
 (some ((1 : Int32), t_ahead_barred_28, t_beast_5, t_eaten_6, t_habit_7, t_his_8, t_onString_9, t_period_10, t_step_11, t_ahead_secondEnds_29, t_string_13)))))))))
abbrev rmX7_fits : Room := { frames := 3, cells := 0, slots := 0, locals := 63 }
set_option maxHeartbeats 4000000 in
set_option maxRecDepth 100000 in
theorem c_X7_fits (l : Launch) (g : Gh) (sz : Nat) (t_q t_plan_q t_now_q t_ahead_q t_before_q t_images_q t_reader_q t_seen_q t_heard_q t_search_q t_passages_q t_sheets_q t_ahead_secondEnds_q t_ahead_string_q t_now_secondEnds_q t_now_string_q t_plan_firstEnds_q t_plan_rules_q t_seen_times_q t_seen_subjects_q t_seen_values_q : Nat) (t_keptImages : Int32) (t_tornFault : Int32) (t_ahead_barred : Int32) (t_ahead_period : Int32) (t_ahead_his : Int32) (t_ahead_beast : Int32) (t_ahead_habit : Int32) (t_ahead_onString : Int32) (t_ahead_step : Int32) (t_ahead_eaten : Int32) (t_ahead_secondEnds : Nat → Int32) (t_ahead_string : Nat → Int32) (t_now_barred : Int32) (t_now_period : Int32) (t_now_his : Int32) (t_now_beast : Int32) (t_now_habit : Int32) (t_now_onString : Int32) (t_now_step : Int32) (t_now_eaten : Int32) (t_now_secondEnds : Nat → Int32) (t_now_string : Nat → Int32) (t_plan_rooms : Int32) (t_plan_doorCount : Int32) (t_plan_ruleCount : Int32) (t_plan_stringLength : Int32) (t_seen_size : Int32) (t_seen_subjects : Nat → Int32) (t_seen_times : Nat → Int32) (t_seen_values : Nat → Int32) (p1 : Int32) (rr : Int32) (t_ahead_barred' : Int32) (t_ahead_beast' : Int32) (t_ahead_eaten' : Int32) (t_ahead_habit' : Int32) (t_ahead_his' : Int32) (t_ahead_onString' : Int32) (t_ahead_period' : Int32) (t_ahead_step' : Int32) (t_ahead_secondEnds' : Nat → Int32) (t_ahead_string' : Nat → Int32) (hf : f_X7_fits t_ahead_barred t_ahead_period t_ahead_his t_ahead_beast t_ahead_habit t_ahead_onString t_ahead_step t_ahead_eaten t_ahead_secondEnds t_ahead_string t_now_barred t_now_period t_now_his t_now_beast t_now_habit t_now_onString t_now_step t_now_eaten t_now_secondEnds t_now_string t_plan_rooms t_plan_doorCount t_seen_size t_seen_subjects t_seen_times t_seen_values p1 = some (rr, t_ahead_barred', t_ahead_beast', t_ahead_eaten', t_ahead_habit', t_ahead_his', t_ahead_onString', t_ahead_period', t_ahead_step', t_ahead_secondEnds', t_ahead_string')) : CI l yX7_fits wsX7_fits rmX7_fits [.ref t_q, .int p1] g sz [oX7 t_q t_plan_q t_now_q t_ahead_q t_before_q t_images_q t_keptImages t_reader_q t_seen_q t_heard_q t_search_q t_passages_q t_sheets_q t_tornFault, oX6 t_ahead_q t_plan_q t_ahead_secondEnds_q t_ahead_string_q t_ahead_barred t_ahead_period t_ahead_his t_ahead_beast t_ahead_habit t_ahead_onString t_ahead_step t_ahead_eaten, aI g t_ahead_secondEnds_q 10 t_ahead_secondEnds, aI g t_ahead_string_q 12 t_ahead_string, oX6 t_now_q t_plan_q t_now_secondEnds_q t_now_string_q t_now_barred t_now_period t_now_his t_now_beast t_now_habit t_now_onString t_now_step t_now_eaten, aI g t_now_secondEnds_q 10 t_now_secondEnds, aI g t_now_string_q 12 t_now_string, oX2 t_plan_q t_plan_firstEnds_q t_plan_rules_q t_plan_rooms t_plan_doorCount t_plan_ruleCount t_plan_stringLength, oX0 t_seen_q t_seen_times_q t_seen_subjects_q t_seen_values_q t_seen_size, aI g t_seen_subjects_q 6 t_seen_subjects, aI g t_seen_times_q 6 t_seen_times, aI g t_seen_values_q 6 t_seen_values] [oX7 t_q t_plan_q t_now_q t_ahead_q t_before_q t_images_q t_keptImages t_reader_q t_seen_q t_heard_q t_search_q t_passages_q t_sheets_q t_tornFault, oX6 t_ahead_q t_plan_q t_ahead_secondEnds_q t_ahead_string_q t_ahead_barred' t_ahead_period' t_ahead_his' t_ahead_beast' t_ahead_habit' t_ahead_onString' t_ahead_step' t_ahead_eaten', aI g t_ahead_secondEnds_q 10 t_ahead_secondEnds', aI g t_ahead_string_q 12 t_ahead_string', oX6 t_now_q t_plan_q t_now_secondEnds_q t_now_string_q t_now_barred t_now_period t_now_his t_now_beast t_now_habit t_now_onString t_now_step t_now_eaten, aI g t_now_secondEnds_q 10 t_now_secondEnds, aI g t_now_string_q 12 t_now_string, oX2 t_plan_q t_plan_firstEnds_q t_plan_rules_q t_plan_rooms t_plan_doorCount t_plan_ruleCount t_plan_stringLength, oX0 t_seen_q t_seen_times_q t_seen_subjects_q t_seen_values_q t_seen_size, aI g t_seen_subjects_q 6 t_seen_subjects, aI g t_seen_times_q 6 t_seen_times, aI g t_seen_values_q 6 t_seen_values] rr := by
  refine ent_z (cc := cX7_fits) (maxL := 3) (by decide) rfl (Nat.le_of_ble_eq_true rfl) ?_
  intro p e s m args below meth c A Q hx hb hml hown hts hK hz hk hA hD hP hS hret ls hl
  have hown : s.vm.findClass RX7 = some m.cls := hown
  have inX7 : ∀ w ∈ u_ws RX7 TX7 13, w ∈ wsX7_fits := by decide +kernel
  have k12 := hts (.fieldLink RX7 12 "ThreadMoved" "plan" "LThreadMoved$Plan;") (by decide +kernel)
  have k21 := hts (.fieldLink RX7 21 "ThreadMoved" "now" "LThreadMoved$State;") (by decide +kernel)
  have k25 := hts (.fieldLink RX7 25 "ThreadMoved" "ahead" "LThreadMoved$State;") (by decide +kernel)
  have hl : lv_has ls 3 [(0, .ref t_q), (1, .int p1)] := hl
  have hret : ∀ (rrz : Int32) (t_ahead_barredz : Int32) (t_ahead_beastz : Int32) (t_ahead_eatenz : Int32) (t_ahead_habitz : Int32) (t_ahead_hisz : Int32) (t_ahead_onStringz : Int32) (t_ahead_periodz : Int32) (t_ahead_stepz : Int32) (t_ahead_secondEndsz : Nat → Int32) (t_ahead_stringz : Nat → Int32), (rrz, t_ahead_barredz, t_ahead_beastz, t_ahead_eatenz, t_ahead_habitz, t_ahead_hisz, t_ahead_onStringz, t_ahead_periodz, t_ahead_stepz, t_ahead_secondEndsz, t_ahead_stringz) = (rr, t_ahead_barred', t_ahead_beast', t_ahead_eaten', t_ahead_habit', t_ahead_his', t_ahead_onString', t_ahead_period', t_ahead_step', t_ahead_secondEnds', t_ahead_string') → narrow .boolean (.int rrz) = .int rrz → ∀ (H : Heap) (locs : List Loc) (pc : Nat) (ls : Array Slot), va_P g.1 vwCl [oX7 t_q t_plan_q t_now_q t_ahead_q t_before_q t_images_q t_keptImages t_reader_q t_seen_q t_heard_q t_search_q t_passages_q t_sheets_q t_tornFault, oX6 t_ahead_q t_plan_q t_ahead_secondEnds_q t_ahead_string_q t_ahead_barredz t_ahead_periodz t_ahead_hisz t_ahead_beastz t_ahead_habitz t_ahead_onStringz t_ahead_stepz t_ahead_eatenz, aI g t_ahead_secondEnds_q 10 t_ahead_secondEndsz, aI g t_ahead_string_q 12 t_ahead_stringz, oX6 t_now_q t_plan_q t_now_secondEnds_q t_now_string_q t_now_barred t_now_period t_now_his t_now_beast t_now_habit t_now_onString t_now_step t_now_eaten, aI g t_now_secondEnds_q 10 t_now_secondEnds, aI g t_now_string_q 12 t_now_string, oX2 t_plan_q t_plan_firstEnds_q t_plan_rules_q t_plan_rooms t_plan_doorCount t_plan_ruleCount t_plan_stringLength, oX0 t_seen_q t_seen_times_q t_seen_subjects_q t_seen_values_q t_seen_size, aI g t_seen_subjects_q 6 t_seen_subjects, aI g t_seen_times_q 6 t_seen_times, aI g t_seen_values_q 6 t_seen_values] H → va_S A s.heap H locs → decode cX7_fits pc = .ok (.ireturn, 1) → W p l e rmX7_fits s m args below meth c H locs 0 0 Q (F0 m pc ls [.int rrz]) := by
    intro rrz t_ahead_barredz t_ahead_beastz t_ahead_eatenz t_ahead_habitz t_ahead_hisz t_ahead_onStringz t_ahead_periodz t_ahead_stepz t_ahead_secondEndsz t_ahead_stringz he hzz H locs pc ls hP hS hd
    cases he
    exact hret H locs pc ls hzz hP hS hd
  unfold f_X7_fits at hf
  refine lv_aload_n hx hb dX7_fits_0 rfl (lv_at hl 0 rfl) ?_
  refine va_get (D := g.1) (ci := 7) (v := .ref t_plan_q) (C := RX7) (T := TX7) (N := 13) hx hb hts inX7 hown hK hP 0 rfl rfl 0 (by decide) k12 (fun _ h9 => h9) rfl dX7_fits_1 ?_
  refine lv_iload_n hx hb dX7_fits_4 rfl (lv_at hl 1 rfl) ?_
  obtain ⟨r_1, hc_2, hf⟩ := ob1_e hf
  refine kV_i (wn := [oX7 t_q t_plan_q t_now_q t_ahead_q t_before_q t_images_q t_keptImages t_reader_q t_seen_q t_heard_q t_search_q t_passages_q t_sheets_q t_tornFault, oX6 t_ahead_q t_plan_q t_ahead_secondEnds_q t_ahead_string_q t_ahead_barred t_ahead_period t_ahead_his t_ahead_beast t_ahead_habit t_ahead_onString t_ahead_step t_ahead_eaten, aI g t_ahead_secondEnds_q 10 t_ahead_secondEnds, aI g t_ahead_string_q 12 t_ahead_string, oX6 t_now_q t_plan_q t_now_secondEnds_q t_now_string_q t_now_barred t_now_period t_now_his t_now_beast t_now_habit t_now_onString t_now_step t_now_eaten, aI g t_now_secondEnds_q 10 t_now_secondEnds, aI g t_now_string_q 12 t_now_string, oX2 t_plan_q t_plan_firstEnds_q t_plan_rules_q t_plan_rooms t_plan_doorCount t_plan_ruleCount t_plan_stringLength, oX0 t_seen_q t_seen_times_q t_seen_subjects_q t_seen_values_q t_seen_size, aI g t_seen_subjects_q 6 t_seen_subjects, aI g t_seen_times_q 6 t_seen_times, aI g t_seen_values_q 6 t_seen_values]) (As := [.int p1]) (rest := []) (c_X2_isLaw l g _ t_plan_q t_plan_firstEnds_q t_plan_rules_q t_plan_rooms t_plan_doorCount t_plan_ruleCount t_plan_stringLength p1 r_1 hc_2) ⟨hx, hb, hml, hown, hts⟩ (cwV 1 hts gX7_fits_X2_isLaw rfl rfl rfl (by decide +kernel) ⟨by decide, by decide⟩) hK hz hk hP (hD.re rfl) hS hA [7] rfl rfl rfl rfl rfl rfl rfl hl.1 rfl (Nat.le_of_ble_eq_true rfl) dX7_fits_5 (fun H locs hP hS => ?_)
  refine lv_if_ne (tgt := 13) hx hb dX7_fits_8 (by decide) (fun c_3 => ?_) (fun c_3 => ?_)
  · have hf := ite_f hf c_3
    refine lv_aload_n hx hb dX7_fits_13 rfl (lv_at hl 0 rfl) ?_
    refine va_get (D := g.1) (ci := 7) (v := .ref t_ahead_q) (C := RX7) (T := TX7) (N := 13) hx hb hts inX7 hown hK hP 0 rfl rfl 2 (by decide) k25 (fun _ h9 => h9) rfl dX7_fits_14 ?_
    refine lv_aload_n hx hb dX7_fits_17 rfl (lv_at hl 0 rfl) ?_
    refine va_get (D := g.1) (ci := 7) (v := .ref t_now_q) (C := RX7) (T := TX7) (N := 13) hx hb hts inX7 hown hK hP 0 rfl rfl 1 (by decide) k21 (fun _ h9 => h9) rfl dX7_fits_18 ?_
    obtain ⟨t_barred_4, t_beast_5, t_eaten_6, t_habit_7, t_his_8, t_onString_9, t_period_10, t_step_11, t_secondEnds_12, t_string_13, hc_14, hf⟩ := ob10_e hf
    refine kV_v (wn := [oX7 t_q t_plan_q t_now_q t_ahead_q t_before_q t_images_q t_keptImages t_reader_q t_seen_q t_heard_q t_search_q t_passages_q t_sheets_q t_tornFault, oX6 t_ahead_q t_plan_q t_ahead_secondEnds_q t_ahead_string_q t_barred_4 t_period_10 t_his_8 t_beast_5 t_habit_7 t_onString_9 t_step_11 t_eaten_6, aI g t_ahead_secondEnds_q 10 t_secondEnds_12, aI g t_ahead_string_q 12 t_string_13, oX6 t_now_q t_plan_q t_now_secondEnds_q t_now_string_q t_now_barred t_now_period t_now_his t_now_beast t_now_habit t_now_onString t_now_step t_now_eaten, aI g t_now_secondEnds_q 10 t_now_secondEnds, aI g t_now_string_q 12 t_now_string, oX2 t_plan_q t_plan_firstEnds_q t_plan_rules_q t_plan_rooms t_plan_doorCount t_plan_ruleCount t_plan_stringLength, oX0 t_seen_q t_seen_times_q t_seen_subjects_q t_seen_values_q t_seen_size, aI g t_seen_subjects_q 6 t_seen_subjects, aI g t_seen_times_q 6 t_seen_times, aI g t_seen_values_q 6 t_seen_values]) (As := [.ref t_now_q]) (rest := []) (c_X6_copyFrom l g _ t_ahead_q t_plan_q t_ahead_secondEnds_q t_ahead_string_q t_now_q t_plan_q t_now_secondEnds_q t_now_string_q t_ahead_barred t_ahead_period t_ahead_his t_ahead_beast t_ahead_habit t_ahead_onString t_ahead_step t_ahead_eaten t_now_barred t_now_period t_now_his t_now_beast t_now_habit t_now_onString t_now_step t_now_eaten t_now_secondEnds t_now_string t_ahead_secondEnds t_ahead_string t_barred_4 t_beast_5 t_eaten_6 t_habit_7 t_his_8 t_onString_9 t_period_10 t_step_11 t_secondEnds_12 t_string_13 hc_14) ⟨hx, hb, hml, hown, hts⟩ (cwV 1 hts gX7_fits_X6_copyFrom rfl rfl rfl (by decide +kernel) ⟨by decide, by decide⟩) hK hz hk hP (hD.re rfl) hS hA [1, 4, 5, 6, 2, 3] rfl rfl rfl rfl rfl rfl rfl hl.1 rfl (Nat.le_of_ble_eq_true rfl) dX7_fits_21 (fun H locs hP hS => ?_)
    refine lv_iconst (v := (1 : Int32)) hx hb dX7_fits_24 (by decide) ?_
    refine lv_istore_n (lv' := [(2, .int (1 : Int32)), (0, .ref t_q), (1, .int p1)]) hx hb dX7_fits_25 rfl hl (by decide) rfl (fun ls hl => ?_)
    obtain ⟨z0_18, ho_18, hkr_18, hke_18⟩ := obm3_e hf
    have K_18 : ∀ (x2_27 : Int32) (t_ahead_barred_28 : Int32) (t_ahead_secondEnds_29 : Nat → Int32), z0_18 = .inr (x2_27, t_ahead_barred_28, t_ahead_secondEnds_29) → ∀ (H : Heap) (locs : List Loc) (ls : Array Slot), va_P g.1 vwCl [oX7 t_q t_plan_q t_now_q t_ahead_q t_before_q t_images_q t_keptImages t_reader_q t_seen_q t_heard_q t_search_q t_passages_q t_sheets_q t_tornFault, oX6 t_ahead_q t_plan_q t_ahead_secondEnds_q t_ahead_string_q t_ahead_barred_28 t_period_10 t_his_8 t_beast_5 t_habit_7 t_onString_9 t_step_11 t_eaten_6, aI g t_ahead_secondEnds_q 10 t_ahead_secondEnds_29, aI g t_ahead_string_q 12 t_string_13, oX6 t_now_q t_plan_q t_now_secondEnds_q t_now_string_q t_now_barred t_now_period t_now_his t_now_beast t_now_habit t_now_onString t_now_step t_now_eaten, aI g t_now_secondEnds_q 10 t_now_secondEnds, aI g t_now_string_q 12 t_now_string, oX2 t_plan_q t_plan_firstEnds_q t_plan_rules_q t_plan_rooms t_plan_doorCount t_plan_ruleCount t_plan_stringLength, oX0 t_seen_q t_seen_times_q t_seen_subjects_q t_seen_values_q t_seen_size, aI g t_seen_subjects_q 6 t_seen_subjects, aI g t_seen_times_q 6 t_seen_times, aI g t_seen_values_q 6 t_seen_values] H → va_S A s.heap H locs → lv_has ls 3 [] → W p l e rmX7_fits s m args below meth c H locs 0 0 Q (F0 m 56 ls []) := by
      intro x2_27 t_ahead_barred_28 t_ahead_secondEnds_29 hz9 H locs ls hP hS hl
      have hf := hke_18 x2_27 t_ahead_barred_28 t_ahead_secondEnds_29 hz9
      refine lv_iconst (v := (1 : Int32)) hx hb dX7_fits_56 (by decide) ?_
      exact hret (1 : Int32) t_ahead_barred_28 t_beast_5 t_eaten_6 t_habit_7 t_his_8 t_onString_9 t_period_10 t_step_11 t_ahead_secondEnds_29 t_string_13 (Option.some.inj hf) rfl _ _ _ _ hP hS dX7_fits_57
    have L_18 : ∀ (n : Nat) (v2_15 : Int32) (t_ahead_barred_16 : Int32) (t_ahead_secondEnds_17 : Nat → Int32), itr (un3 (b_X7_fits_26 t_plan_rooms t_seen_size t_seen_subjects t_seen_times t_seen_values p1 t_beast_5 t_eaten_6 t_habit_7 t_his_8 t_onString_9 t_period_10 t_step_11 t_string_13)) n (v2_15, t_ahead_barred_16, t_ahead_secondEnds_17) = some z0_18 → ∀ (H : Heap) (locs : List Loc) (ls : Array Slot), va_P g.1 vwCl [oX7 t_q t_plan_q t_now_q t_ahead_q t_before_q t_images_q t_keptImages t_reader_q t_seen_q t_heard_q t_search_q t_passages_q t_sheets_q t_tornFault, oX6 t_ahead_q t_plan_q t_ahead_secondEnds_q t_ahead_string_q t_ahead_barred_16 t_period_10 t_his_8 t_beast_5 t_habit_7 t_onString_9 t_step_11 t_eaten_6, aI g t_ahead_secondEnds_q 10 t_ahead_secondEnds_17, aI g t_ahead_string_q 12 t_string_13, oX6 t_now_q t_plan_q t_now_secondEnds_q t_now_string_q t_now_barred t_now_period t_now_his t_now_beast t_now_habit t_now_onString t_now_step t_now_eaten, aI g t_now_secondEnds_q 10 t_now_secondEnds, aI g t_now_string_q 12 t_now_string, oX2 t_plan_q t_plan_firstEnds_q t_plan_rules_q t_plan_rooms t_plan_doorCount t_plan_ruleCount t_plan_stringLength, oX0 t_seen_q t_seen_times_q t_seen_subjects_q t_seen_values_q t_seen_size, aI g t_seen_subjects_q 6 t_seen_subjects, aI g t_seen_times_q 6 t_seen_times, aI g t_seen_values_q 6 t_seen_values] H → va_S A s.heap H locs → lv_has ls 3 [(0, .ref t_q), (1, .int p1), (2, .int v2_15)] → W p l e rmX7_fits s m args below meth c H locs 0 0 Q (F0 m 26 ls []) := by
      refine itr_ind3 ?_
      intro v2_15 t_ahead_barred_16 t_ahead_secondEnds_17 z_18 hf hrec hex H locs ls hP hS hl
      unfold b_X7_fits_26 at hf
      refine lv_iload_n hx hb dX7_fits_26 rfl (lv_at hl 2 rfl) ?_
      refine lv_bipush (v := (6 : Int32)) hx hb dX7_fits_27 (by decide) ?_
      refine lv_icmp_gt (tgt := 56) hx hb dX7_fits_29 (by decide) (fun c_19 => ?_) (fun c_19 => ?_)
      · have hf := ite_t hf c_19
        exact K_18 v2_15 t_ahead_barred_16 t_ahead_secondEnds_17 (hex _ (Option.some.inj hf).symm).symm _ _ _ hP hS (lv_sub hl [] rfl)
      · have hf := ite_f hf c_19
        refine lv_aload_n hx hb dX7_fits_32 rfl (lv_at hl 0 rfl) ?_
        refine va_get (D := g.1) (ci := 7) (v := .ref t_ahead_q) (C := RX7) (T := TX7) (N := 13) hx hb hts inX7 hown hK hP 0 rfl rfl 2 (by decide) k25 (fun _ h9 => h9) rfl dX7_fits_33 ?_
        refine lv_iload_n hx hb dX7_fits_36 rfl (lv_at hl 1 rfl) ?_
        obtain ⟨t_barred_20, t_secondEnds_21, hc_22, hf⟩ := ob2_e hf
        refine kV_v (wn := [oX7 t_q t_plan_q t_now_q t_ahead_q t_before_q t_images_q t_keptImages t_reader_q t_seen_q t_heard_q t_search_q t_passages_q t_sheets_q t_tornFault, oX6 t_ahead_q t_plan_q t_ahead_secondEnds_q t_ahead_string_q t_barred_20 t_period_10 t_his_8 t_beast_5 t_habit_7 t_onString_9 t_step_11 t_eaten_6, aI g t_ahead_secondEnds_q 10 t_secondEnds_21, aI g t_ahead_string_q 12 t_string_13, oX6 t_now_q t_plan_q t_now_secondEnds_q t_now_string_q t_now_barred t_now_period t_now_his t_now_beast t_now_habit t_now_onString t_now_step t_now_eaten, aI g t_now_secondEnds_q 10 t_now_secondEnds, aI g t_now_string_q 12 t_now_string, oX2 t_plan_q t_plan_firstEnds_q t_plan_rules_q t_plan_rooms t_plan_doorCount t_plan_ruleCount t_plan_stringLength, oX0 t_seen_q t_seen_times_q t_seen_subjects_q t_seen_values_q t_seen_size, aI g t_seen_subjects_q 6 t_seen_subjects, aI g t_seen_times_q 6 t_seen_times, aI g t_seen_values_q 6 t_seen_values]) (As := [.int p1]) (rest := []) (c_X6_change l g _ t_ahead_q t_plan_q t_ahead_secondEnds_q t_ahead_string_q t_plan_firstEnds_q t_plan_rules_q t_ahead_barred_16 t_period_10 t_his_8 t_beast_5 t_habit_7 t_onString_9 t_step_11 t_eaten_6 t_plan_rooms t_plan_doorCount t_plan_ruleCount t_plan_stringLength t_ahead_secondEnds_17 p1 t_barred_20 t_secondEnds_21 hc_22) ⟨hx, hb, hml, hown, hts⟩ (cwV 1 hts gX7_fits_X6_change rfl rfl rfl (by decide +kernel) ⟨by decide, by decide⟩) hK hz hk hP (hD.re rfl) hS hA [1, 7, 2] rfl rfl rfl rfl rfl rfl rfl hl.1 rfl (Nat.le_of_ble_eq_true rfl) dX7_fits_37 (fun H locs hP hS => ?_)
        refine lv_aload_n hx hb dX7_fits_40 rfl (lv_at hl 0 rfl) ?_
        refine lv_iload_n hx hb dX7_fits_41 rfl (lv_at hl 2 rfl) ?_
        obtain ⟨r_23, hc_24, hf⟩ := ob1_e hf
        refine kV_i (wn := [oX7 t_q t_plan_q t_now_q t_ahead_q t_before_q t_images_q t_keptImages t_reader_q t_seen_q t_heard_q t_search_q t_passages_q t_sheets_q t_tornFault, oX6 t_ahead_q t_plan_q t_ahead_secondEnds_q t_ahead_string_q t_barred_20 t_period_10 t_his_8 t_beast_5 t_habit_7 t_onString_9 t_step_11 t_eaten_6, aI g t_ahead_secondEnds_q 10 t_secondEnds_21, aI g t_ahead_string_q 12 t_string_13, oX6 t_now_q t_plan_q t_now_secondEnds_q t_now_string_q t_now_barred t_now_period t_now_his t_now_beast t_now_habit t_now_onString t_now_step t_now_eaten, aI g t_now_secondEnds_q 10 t_now_secondEnds, aI g t_now_string_q 12 t_now_string, oX2 t_plan_q t_plan_firstEnds_q t_plan_rules_q t_plan_rooms t_plan_doorCount t_plan_ruleCount t_plan_stringLength, oX0 t_seen_q t_seen_times_q t_seen_subjects_q t_seen_values_q t_seen_size, aI g t_seen_subjects_q 6 t_seen_subjects, aI g t_seen_times_q 6 t_seen_times, aI g t_seen_values_q 6 t_seen_values]) (As := [.int v2_15]) (rest := []) (c_X7_isAsSeen l g _ t_q t_plan_q t_now_q t_ahead_q t_before_q t_images_q t_reader_q t_seen_q t_heard_q t_search_q t_passages_q t_sheets_q t_ahead_secondEnds_q t_ahead_string_q t_seen_times_q t_seen_subjects_q t_seen_values_q t_keptImages t_tornFault t_barred_20 t_period_10 t_his_8 t_beast_5 t_habit_7 t_onString_9 t_step_11 t_eaten_6 t_secondEnds_21 t_seen_size t_seen_subjects t_seen_times t_seen_values v2_15 r_23 hc_24) ⟨hx, hb, hml, hown, hts⟩ (cwV 1 hts gX7_fits_X7_isAsSeen rfl rfl rfl (by decide +kernel) ⟨by decide, by decide⟩) hK hz hk hP (hD.re rfl) hS hA [0, 1, 2, 8, 9, 10, 11] rfl rfl rfl rfl rfl rfl rfl hl.1 rfl (Nat.le_of_ble_eq_true rfl) dX7_fits_42 (fun H locs hP hS => ?_)
        refine lv_if_ne (tgt := 50) hx hb dX7_fits_45 (by decide) (fun c_25 => ?_) (fun c_25 => ?_)
        · have hf := ite_f hf c_25
          obtain ⟨v2_26, ev2_26, hf⟩ := bnd_e hf
          refine lv_iinc (v := v2_26) (lv' := [(2, .int v2_26), (0, .ref t_q), (1, .int p1)]) hx hb dX7_fits_50 hl (k := 2) rfl (by rw [ev2_26]; rfl) (by decide) rfl (fun ls hl => ?_)
          refine lv_goto (tgt := 26) hx hb dX7_fits_53 (by decide) ?_
          exact hrec v2_26 t_barred_20 t_secondEnds_21 (Option.some.inj hf).symm _ _ _ hP hS (lv_sub hl [1, 2, 0] rfl)
        · have hf := ite_t hf c_25
          refine lv_iconst (v := (0 : Int32)) hx hb dX7_fits_48 (by decide) ?_
          exact hret (0 : Int32) t_barred_20 t_beast_5 t_eaten_6 t_habit_7 t_his_8 t_onString_9 t_period_10 t_step_11 t_secondEnds_21 t_string_13 (hkr_18 _ (hex _ (Option.some.inj hf).symm).symm) rfl _ _ _ _ hP hS dX7_fits_49
    exact L_18 FU (1 : Int32) t_barred_4 t_secondEnds_12 ho_18 _ _ _ hP hS (lv_sub hl [1, 2, 0] rfl)
  · have hf := ite_t hf c_3
    refine lv_iconst (v := (0 : Int32)) hx hb dX7_fits_11 (by decide) ?_
    exact hret (0 : Int32) t_ahead_barred t_ahead_beast t_ahead_eaten t_ahead_habit t_ahead_his t_ahead_onString t_ahead_period t_ahead_step t_ahead_secondEnds t_ahead_string (Option.some.inj hf) rfl _ _ _ _ hP hS dX7_fits_12

def f_X7_forget (t_seen_size : Int32) (p1 : Int32) : Option (Int32 × Int32) :=
 (ob2 (f_X0_keepFirst t_seen_size p1) (fun r_1 t_size_2 =>
 (some (r_1, t_size_2))))
abbrev rmX7_forget : Room := { frames := 2, cells := 0, slots := 0, locals := 44 }
set_option maxHeartbeats 4000000 in
set_option maxRecDepth 100000 in
theorem c_X7_forget (l : Launch) (g : Gh) (sz : Nat) (t_q t_plan_q t_now_q t_ahead_q t_before_q t_images_q t_reader_q t_seen_q t_heard_q t_search_q t_passages_q t_sheets_q t_seen_times_q t_seen_subjects_q t_seen_values_q : Nat) (t_keptImages : Int32) (t_tornFault : Int32) (t_seen_size : Int32) (p1 : Int32) (rr : Int32) (t_seen_size' : Int32) (hf : f_X7_forget t_seen_size p1 = some (rr, t_seen_size')) : CI l yX7_forget wsX7_forget rmX7_forget [.ref t_q, .int p1] g sz [oX7 t_q t_plan_q t_now_q t_ahead_q t_before_q t_images_q t_keptImages t_reader_q t_seen_q t_heard_q t_search_q t_passages_q t_sheets_q t_tornFault, oX0 t_seen_q t_seen_times_q t_seen_subjects_q t_seen_values_q t_seen_size] [oX7 t_q t_plan_q t_now_q t_ahead_q t_before_q t_images_q t_keptImages t_reader_q t_seen_q t_heard_q t_search_q t_passages_q t_sheets_q t_tornFault, oX0 t_seen_q t_seen_times_q t_seen_subjects_q t_seen_values_q t_seen_size'] rr := by
  refine ent_i (cc := cX7_forget) (maxL := 2) (by decide) rfl (Nat.le_of_ble_eq_true rfl) ?_
  intro p e s m args below meth c A Q hx hb hml hown hts hK hz hk hA hD hP hS hret ls hl
  have hown : s.vm.findClass RX7 = some m.cls := hown
  have inX7 : ∀ w ∈ u_ws RX7 TX7 13, w ∈ wsX7_forget := by decide +kernel
  have k49 := hts (.fieldLink RX7 49 "ThreadMoved" "seen" "LThreadMoved$Notes;") (by decide +kernel)
  have hl : lv_has ls 2 [(0, .ref t_q), (1, .int p1)] := hl
  have hret : ∀ (rrz : Int32) (t_seen_sizez : Int32), (rrz, t_seen_sizez) = (rr, t_seen_size') → ∀ (H : Heap) (locs : List Loc) (pc : Nat) (ls : Array Slot), va_P g.1 vwCl [oX7 t_q t_plan_q t_now_q t_ahead_q t_before_q t_images_q t_keptImages t_reader_q t_seen_q t_heard_q t_search_q t_passages_q t_sheets_q t_tornFault, oX0 t_seen_q t_seen_times_q t_seen_subjects_q t_seen_values_q t_seen_sizez] H → va_S A s.heap H locs → decode cX7_forget pc = .ok (.ireturn, 1) → W p l e rmX7_forget s m args below meth c H locs 0 0 Q (F0 m pc ls [.int rrz]) := by
    intro rrz t_seen_sizez he H locs pc ls hP hS hd
    cases he
    exact hret H locs pc ls hP hS hd
  unfold f_X7_forget at hf
  refine lv_aload_n hx hb dX7_forget_0 rfl (lv_at hl 0 rfl) ?_
  refine va_get (D := g.1) (ci := 7) (v := .ref t_seen_q) (C := RX7) (T := TX7) (N := 13) hx hb hts inX7 hown hK hP 0 rfl rfl 7 (by decide) k49 (fun _ h9 => h9) rfl dX7_forget_1 ?_
  refine lv_iload_n hx hb dX7_forget_4 rfl (lv_at hl 1 rfl) ?_
  obtain ⟨r_1, t_size_2, hc_3, hf⟩ := ob2_e hf
  refine kV_i (wn := [oX7 t_q t_plan_q t_now_q t_ahead_q t_before_q t_images_q t_keptImages t_reader_q t_seen_q t_heard_q t_search_q t_passages_q t_sheets_q t_tornFault, oX0 t_seen_q t_seen_times_q t_seen_subjects_q t_seen_values_q t_size_2]) (As := [.int p1]) (rest := []) (c_X0_keepFirst l g _ t_seen_q t_seen_times_q t_seen_subjects_q t_seen_values_q t_seen_size p1 r_1 t_size_2 hc_3) ⟨hx, hb, hml, hown, hts⟩ (cwV 1 hts gX7_forget_X0_keepFirst rfl rfl rfl (by decide +kernel) ⟨by decide, by decide⟩) hK hz hk hP (hD.re rfl) hS hA [1] rfl rfl rfl rfl rfl rfl rfl hl.1 rfl (Nat.le_of_ble_eq_true rfl) dX7_forget_5 (fun H locs hP hS => ?_)
  exact hret r_1 t_size_2 (Option.some.inj hf) _ _ _ _ hP hS dX7_forget_8
