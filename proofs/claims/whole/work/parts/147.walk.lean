def f_X8_readDoor (t_readDoors : Int32) (t_highRoom : Int32) (t_taped : Int32) (t_broken : Int32) (t_brokenAt : Int32) (t_spot : Int32) (t_here : Int32) (t_token : Int32) (t_value : Int32) (t_cuts : Nat → Int32) (t_letters : Nat → Int32) (t_readPage : Nat → Int32) (t_tape : Nat → Int32) : Option (Int32 × Int32 × Int32 × Int32 × Int32 × Int32 × Int32 × Int32 × (Nat → Int32)) :=
 (bnd ((3 : Int32) * t_readDoors) (fun v1_1 =>
 (ob8 (f_X8_room t_highRoom t_taped t_broken t_brokenAt t_spot t_here t_token t_value t_tape) (fun r_2 t_broken_3 t_brokenAt_4 t_here_5 t_highRoom_6 t_spot_7 t_token_8 t_value_9 =>
 (gin v1_1 49 (bnd (upd t_readPage v1_1.toNatClampNeg r_2) (fun t_readPage_12 =>
 (ob8 (f_X8_room t_highRoom_6 t_taped t_broken_3 t_brokenAt_4 t_spot_7 t_here_5 t_token_8 t_value_9 t_tape) (fun r_13 t_broken_14 t_brokenAt_15 t_here_16 t_highRoom_17 t_spot_18 t_token_19 t_value_20 =>
 (gin (v1_1 + (1 : Int32)) 49 (bnd (upd t_readPage_12 (v1_1 + (1 : Int32)).toNatClampNeg r_13) (fun t_readPage_23 =>
 (jn7 (fun (t_broken_24 : Int32) (t_brokenAt_25 : Int32) (t_here_26 : Int32) (t_spot_27 : Int32) (t_token_28 : Int32) (t_value_29 : Int32) (t_readPage_30 : Nat → Int32) => (bnd (t_readDoors + (1 : Int32)) (fun t_readDoors_32 =>
 (some (t_broken_24, t_brokenAt_25, t_here_26, t_highRoom_17, t_readDoors_32, t_spot_27, t_token_28, t_value_29, t_readPage_30))))) (fun j_31 =>
 (if t_broken_14 = (0 : Int32) then
 (if t_token_19 = (1 : Int32) then
 (ob1 (f_X8_nameHere t_taped t_spot_18 t_here_16 t_token_19 t_cuts t_letters t_tape) (fun r_35 =>
 (jn2 (fun (t_broken_37 : Int32) (t_brokenAt_38 : Int32) => (gin (v1_1 + (2 : Int32)) 49 (bnd (upd t_readPage_23 (v1_1 + (2 : Int32)).toNatClampNeg (1 : Int32)) (fun t_readPage_41 =>
 (ob6 (f_X8_step t_taped t_broken_37 t_brokenAt_38 t_spot_18 t_here_16 t_token_19 t_value_20 t_tape) (fun t_broken_42 t_brokenAt_43 t_here_44 t_spot_45 t_token_46 t_value_47 =>
 (j_31 t_broken_42 t_brokenAt_43 t_here_44 t_spot_45 t_token_46 t_value_47 t_readPage_41))))))) (fun j_39 =>
 (if r_35 = (9 : Int32) then
 (j_39 t_broken_14 t_brokenAt_15)
 else (ob2 (f_X8_fails t_broken_14 t_brokenAt_15 t_here_16 (2 : Int32)) (fun t_broken_50 t_brokenAt_51 =>
 (j_39 t_broken_50 t_brokenAt_51))))))))
 else (j_31 t_broken_14 t_brokenAt_15 t_here_16 t_spot_18 t_token_19 t_value_20 t_readPage_23))
 else (j_31 t_broken_14 t_brokenAt_15 t_here_16 t_spot_18 t_token_19 t_value_20 t_readPage_23))))))))))))))))
abbrev rmX8_readDoor : Room := { frames := 4, cells := 0, slots := 0, locals := 91 }
set_option maxHeartbeats 4000000 in
set_option maxRecDepth 100000 in
theorem c_X8_readDoor (l : Launch) (g : Gh) (sz : Nat) (t_q t_state_q t_laws_q t_readPage_q t_readLaws_q t_tape_q t_cuts_q t_letters_q t_work_q t_pages_q t_canBe_q t_leadsOn_q t_seen_q t_heard_q t_isKept_q t_lanes_q t_lengths_q t_cells_q : Nat) (t_roomMany : Int32) (t_doorMany : Int32) (t_stringLong : Int32) (t_lawMany : Int32) (t_readRooms : Int32) (t_readDoors : Int32) (t_readString : Int32) (t_readLawMany : Int32) (t_toldOnce : Int32) (t_highRoom : Int32) (t_highDoor : Int32) (t_taped : Int32) (t_fault : Int32) (t_broken : Int32) (t_brokenAt : Int32) (t_spot : Int32) (t_here : Int32) (t_token : Int32) (t_value : Int32) (t_seenMany : Int32) (t_heardMany : Int32) (t_torn : Int32) (t_cuts : Nat → Int32) (t_letters : Nat → Int32) (t_readPage : Nat → Int32) (t_tape : Nat → Int32) (t_broken' : Int32) (t_brokenAt' : Int32) (t_here' : Int32) (t_highRoom' : Int32) (t_readDoors' : Int32) (t_spot' : Int32) (t_token' : Int32) (t_value' : Int32) (t_readPage' : Nat → Int32) (hf : f_X8_readDoor t_readDoors t_highRoom t_taped t_broken t_brokenAt t_spot t_here t_token t_value t_cuts t_letters t_readPage t_tape = some (t_broken', t_brokenAt', t_here', t_highRoom', t_readDoors', t_spot', t_token', t_value', t_readPage')) : CV l yX8_readDoor wsX8_readDoor rmX8_readDoor [.ref t_q] g sz [oX8 t_q t_state_q t_roomMany t_doorMany t_stringLong t_laws_q t_lawMany t_readPage_q t_readLaws_q t_readRooms t_readDoors t_readString t_readLawMany t_toldOnce t_highRoom t_highDoor t_tape_q t_taped t_fault t_broken t_brokenAt t_spot t_here t_token t_value t_cuts_q t_letters_q t_work_q t_pages_q t_canBe_q t_leadsOn_q t_seen_q t_seenMany t_heard_q t_heardMany t_isKept_q t_lanes_q t_lengths_q t_cells_q t_torn, aI g t_cuts_q 15 t_cuts, aI g t_letters_q 66 t_letters, aI g t_readPage_q 49 t_readPage, aI g t_tape_q 320 t_tape] [oX8 t_q t_state_q t_roomMany t_doorMany t_stringLong t_laws_q t_lawMany t_readPage_q t_readLaws_q t_readRooms t_readDoors' t_readString t_readLawMany t_toldOnce t_highRoom' t_highDoor t_tape_q t_taped t_fault t_broken' t_brokenAt' t_spot' t_here' t_token' t_value' t_cuts_q t_letters_q t_work_q t_pages_q t_canBe_q t_leadsOn_q t_seen_q t_seenMany t_heard_q t_heardMany t_isKept_q t_lanes_q t_lengths_q t_cells_q t_torn, aI g t_cuts_q 15 t_cuts, aI g t_letters_q 66 t_letters, aI g t_readPage_q 49 t_readPage', aI g t_tape_q 320 t_tape] := by
  refine ent_v (cc := cX8_readDoor) (maxL := 2) (by decide) rfl (Nat.le_of_ble_eq_true rfl) ?_
  intro p e s m args below meth c A Q hx hb hml hown hts hK hz hk hA hD hP hS hret ls hl
  have hown : s.vm.findClass RX8 = some m.cls := hown
  have inX8 : ∀ w ∈ u_ws RX8 TX8 39, w ∈ wsX8_readDoor := by decide +kernel
  have k23 := hts (.fieldLink RX8 23 "ThreadMovedModel" "readPage" "[I") (by decide +kernel)
  have k76 := hts (.fieldLink RX8 76 "ThreadMovedModel" "broken" "I") (by decide +kernel)
  have k85 := hts (.fieldLink RX8 85 "ThreadMovedModel" "token" "I") (by decide +kernel)
  have k123 := hts (.fieldLink RX8 123 "ThreadMovedModel" "readDoors" "I") (by decide +kernel)
  have hl : lv_has ls 2 [(0, .ref t_q)] := hl
  have hret : ∀ (t_brokenz : Int32) (t_brokenAtz : Int32) (t_herez : Int32) (t_highRoomz : Int32) (t_readDoorsz : Int32) (t_spotz : Int32) (t_tokenz : Int32) (t_valuez : Int32) (t_readPagez : Nat → Int32), (t_brokenz, t_brokenAtz, t_herez, t_highRoomz, t_readDoorsz, t_spotz, t_tokenz, t_valuez, t_readPagez) = (t_broken', t_brokenAt', t_here', t_highRoom', t_readDoors', t_spot', t_token', t_value', t_readPage') → ∀ (H : Heap) (locs : List Loc) (pc : Nat) (ls : Array Slot), va_P g.1 vwCl [oX8 t_q t_state_q t_roomMany t_doorMany t_stringLong t_laws_q t_lawMany t_readPage_q t_readLaws_q t_readRooms t_readDoorsz t_readString t_readLawMany t_toldOnce t_highRoomz t_highDoor t_tape_q t_taped t_fault t_brokenz t_brokenAtz t_spotz t_herez t_tokenz t_valuez t_cuts_q t_letters_q t_work_q t_pages_q t_canBe_q t_leadsOn_q t_seen_q t_seenMany t_heard_q t_heardMany t_isKept_q t_lanes_q t_lengths_q t_cells_q t_torn, aI g t_cuts_q 15 t_cuts, aI g t_letters_q 66 t_letters, aI g t_readPage_q 49 t_readPagez, aI g t_tape_q 320 t_tape] H → va_S A s.heap H locs → decode cX8_readDoor pc = .ok (.return_, 1) → W p l e rmX8_readDoor s m args below meth c H locs 0 0 Q (F0 m pc ls []) := by
    intro t_brokenz t_brokenAtz t_herez t_highRoomz t_readDoorsz t_spotz t_tokenz t_valuez t_readPagez he H locs pc ls hP hS hd
    cases he
    exact hret H locs pc ls hP hS hd
  unfold f_X8_readDoor at hf
  refine lv_iconst (v := (3 : Int32)) hx hb dX8_readDoor_0 (by decide) ?_
  refine lv_aload_n hx hb dX8_readDoor_1 rfl (lv_at hl 0 rfl) ?_
  refine va_get (D := g.1) (ci := 8) (v := .int t_readDoors) (C := RX8) (T := TX8) (N := 39) hx hb hts inX8 hown hK hP 0 rfl rfl 9 (by decide) k123 (fun _ h9 => h9) rfl dX8_readDoor_2 ?_
  refine lv_imul hx hb dX8_readDoor_5 ?_
  obtain ⟨v1_1, ev1_1, hf⟩ := bnd_e hf
  refine tp_i ev1_1 ?_
  refine lv_istore_n (lv' := [(1, .int v1_1), (0, .ref t_q)]) hx hb dX8_readDoor_6 rfl hl (by decide) rfl (fun ls hl => ?_)
  refine lv_aload_n hx hb dX8_readDoor_7 rfl (lv_at hl 1 rfl) ?_
  refine va_get (D := g.1) (ci := 8) (v := .ref t_readPage_q) (C := RX8) (T := TX8) (N := 39) hx hb hts inX8 hown hK hP 0 rfl rfl 6 (by decide) k23 (fun _ h9 => h9) rfl dX8_readDoor_8 ?_
  refine lv_iload_n hx hb dX8_readDoor_11 rfl (lv_at hl 0 rfl) ?_
  refine lv_aload_n hx hb dX8_readDoor_12 rfl (lv_at hl 1 rfl) ?_
  obtain ⟨r_2, t_broken_3, t_brokenAt_4, t_here_5, t_highRoom_6, t_spot_7, t_token_8, t_value_9, hc_10, hf⟩ := ob8_e hf
  refine kV_i (wn := [oX8 t_q t_state_q t_roomMany t_doorMany t_stringLong t_laws_q t_lawMany t_readPage_q t_readLaws_q t_readRooms t_readDoors t_readString t_readLawMany t_toldOnce t_highRoom_6 t_highDoor t_tape_q t_taped t_fault t_broken_3 t_brokenAt_4 t_spot_7 t_here_5 t_token_8 t_value_9 t_cuts_q t_letters_q t_work_q t_pages_q t_canBe_q t_leadsOn_q t_seen_q t_seenMany t_heard_q t_heardMany t_isKept_q t_lanes_q t_lengths_q t_cells_q t_torn, aI g t_cuts_q 15 t_cuts, aI g t_letters_q 66 t_letters, aI g t_readPage_q 49 t_readPage, aI g t_tape_q 320 t_tape]) (As := []) (rest := [.int v1_1, .ref t_readPage_q]) (c_X8_room l g _ t_q t_state_q t_laws_q t_readPage_q t_readLaws_q t_tape_q t_cuts_q t_letters_q t_work_q t_pages_q t_canBe_q t_leadsOn_q t_seen_q t_heard_q t_isKept_q t_lanes_q t_lengths_q t_cells_q t_roomMany t_doorMany t_stringLong t_lawMany t_readRooms t_readDoors t_readString t_readLawMany t_toldOnce t_highRoom t_highDoor t_taped t_fault t_broken t_brokenAt t_spot t_here t_token t_value t_seenMany t_heardMany t_torn t_tape r_2 t_broken_3 t_brokenAt_4 t_here_5 t_highRoom_6 t_spot_7 t_token_8 t_value_9 hc_10) ⟨hx, hb, hml, hown, hts⟩ (cwV 0 hts gX8_readDoor_X8_room rfl rfl rfl (by decide +kernel) ⟨by decide, by decide⟩) hK hz hk hP (hD.re rfl) hS hA [0, 4] rfl rfl rfl rfl rfl rfl rfl hl.1 rfl (Nat.le_of_ble_eq_true rfl) dX8_readDoor_13 (fun H locs hP hS => ?_)
  obtain ⟨h_11, hf⟩ := gin_e hf
  obtain ⟨t_readPage_12, et_readPage_12, hf⟩ := bnd_e hf
  refine va_iast hx hb hK hP (hD.re rfl) hS 3 0 rfl rfl h_11 dX8_readDoor_16 (fun H locs hP _ hS => ?_)
  have hP : va_P g.1 vwCl [oX8 t_q t_state_q t_roomMany t_doorMany t_stringLong t_laws_q t_lawMany t_readPage_q t_readLaws_q t_readRooms t_readDoors t_readString t_readLawMany t_toldOnce t_highRoom_6 t_highDoor t_tape_q t_taped t_fault t_broken_3 t_brokenAt_4 t_spot_7 t_here_5 t_token_8 t_value_9 t_cuts_q t_letters_q t_work_q t_pages_q t_canBe_q t_leadsOn_q t_seen_q t_seenMany t_heard_q t_heardMany t_isKept_q t_lanes_q t_lengths_q t_cells_q t_torn, aI g t_cuts_q 15 t_cuts, aI g t_letters_q 66 t_letters, aI g t_readPage_q 49 t_readPage_12, aI g t_tape_q 320 t_tape] H := by rw [et_readPage_12]; exact hP
  refine lv_aload_n hx hb dX8_readDoor_17 rfl (lv_at hl 1 rfl) ?_
  refine va_get (D := g.1) (ci := 8) (v := .ref t_readPage_q) (C := RX8) (T := TX8) (N := 39) hx hb hts inX8 hown hK hP 0 rfl rfl 6 (by decide) k23 (fun _ h9 => h9) rfl dX8_readDoor_18 ?_
  refine lv_iload_n hx hb dX8_readDoor_21 rfl (lv_at hl 0 rfl) ?_
  refine lv_iconst (v := (1 : Int32)) hx hb dX8_readDoor_22 (by decide) ?_
  refine lv_iadd hx hb dX8_readDoor_23 ?_
  refine lv_aload_n hx hb dX8_readDoor_24 rfl (lv_at hl 1 rfl) ?_
  obtain ⟨r_13, t_broken_14, t_brokenAt_15, t_here_16, t_highRoom_17, t_spot_18, t_token_19, t_value_20, hc_21, hf⟩ := ob8_e hf
  refine kV_i (wn := [oX8 t_q t_state_q t_roomMany t_doorMany t_stringLong t_laws_q t_lawMany t_readPage_q t_readLaws_q t_readRooms t_readDoors t_readString t_readLawMany t_toldOnce t_highRoom_17 t_highDoor t_tape_q t_taped t_fault t_broken_14 t_brokenAt_15 t_spot_18 t_here_16 t_token_19 t_value_20 t_cuts_q t_letters_q t_work_q t_pages_q t_canBe_q t_leadsOn_q t_seen_q t_seenMany t_heard_q t_heardMany t_isKept_q t_lanes_q t_lengths_q t_cells_q t_torn, aI g t_cuts_q 15 t_cuts, aI g t_letters_q 66 t_letters, aI g t_readPage_q 49 t_readPage_12, aI g t_tape_q 320 t_tape]) (As := []) (rest := [.int (v1_1 + (1 : Int32)), .ref t_readPage_q]) (c_X8_room l g _ t_q t_state_q t_laws_q t_readPage_q t_readLaws_q t_tape_q t_cuts_q t_letters_q t_work_q t_pages_q t_canBe_q t_leadsOn_q t_seen_q t_heard_q t_isKept_q t_lanes_q t_lengths_q t_cells_q t_roomMany t_doorMany t_stringLong t_lawMany t_readRooms t_readDoors t_readString t_readLawMany t_toldOnce t_highRoom_6 t_highDoor t_taped t_fault t_broken_3 t_brokenAt_4 t_spot_7 t_here_5 t_token_8 t_value_9 t_seenMany t_heardMany t_torn t_tape r_13 t_broken_14 t_brokenAt_15 t_here_16 t_highRoom_17 t_spot_18 t_token_19 t_value_20 hc_21) ⟨hx, hb, hml, hown, hts⟩ (cwV 0 hts gX8_readDoor_X8_room rfl rfl rfl (by decide +kernel) ⟨by decide, by decide⟩) hK hz hk hP (hD.re rfl) hS hA [0, 4] rfl rfl rfl rfl rfl rfl rfl hl.1 rfl (Nat.le_of_ble_eq_true rfl) dX8_readDoor_25 (fun H locs hP hS => ?_)
  obtain ⟨h_22, hf⟩ := gin_e hf
  obtain ⟨t_readPage_23, et_readPage_23, hf⟩ := bnd_e hf
  refine va_iast hx hb hK hP (hD.re rfl) hS 3 0 rfl rfl h_22 dX8_readDoor_28 (fun H locs hP _ hS => ?_)
  have hP : va_P g.1 vwCl [oX8 t_q t_state_q t_roomMany t_doorMany t_stringLong t_laws_q t_lawMany t_readPage_q t_readLaws_q t_readRooms t_readDoors t_readString t_readLawMany t_toldOnce t_highRoom_17 t_highDoor t_tape_q t_taped t_fault t_broken_14 t_brokenAt_15 t_spot_18 t_here_16 t_token_19 t_value_20 t_cuts_q t_letters_q t_work_q t_pages_q t_canBe_q t_leadsOn_q t_seen_q t_seenMany t_heard_q t_heardMany t_isKept_q t_lanes_q t_lengths_q t_cells_q t_torn, aI g t_cuts_q 15 t_cuts, aI g t_letters_q 66 t_letters, aI g t_readPage_q 49 t_readPage_23, aI g t_tape_q 320 t_tape] H := by rw [et_readPage_23]; exact hP
  refine lv_aload_n hx hb dX8_readDoor_29 rfl (lv_at hl 1 rfl) ?_
  refine va_get (D := g.1) (ci := 8) (v := .int t_broken_14) (C := RX8) (T := TX8) (N := 39) hx hb hts inX8 hown hK hP 0 rfl rfl 18 (by decide) k76 (fun _ h9 => h9) rfl dX8_readDoor_30 ?_
  obtain ⟨j_31, hj_31, hf⟩ := jn7_e hf
  have J_31 : ∀ (t_broken_24 : Int32) (t_brokenAt_25 : Int32) (t_here_26 : Int32) (t_spot_27 : Int32) (t_token_28 : Int32) (t_value_29 : Int32) (t_readPage_30 : Nat → Int32), j_31 t_broken_24 t_brokenAt_25 t_here_26 t_spot_27 t_token_28 t_value_29 t_readPage_30 = some (t_broken', t_brokenAt', t_here', t_highRoom', t_readDoors', t_spot', t_token', t_value', t_readPage') → ∀ (H : Heap) (locs : List Loc) (ls : Array Slot), va_P g.1 vwCl [oX8 t_q t_state_q t_roomMany t_doorMany t_stringLong t_laws_q t_lawMany t_readPage_q t_readLaws_q t_readRooms t_readDoors t_readString t_readLawMany t_toldOnce t_highRoom_17 t_highDoor t_tape_q t_taped t_fault t_broken_24 t_brokenAt_25 t_spot_27 t_here_26 t_token_28 t_value_29 t_cuts_q t_letters_q t_work_q t_pages_q t_canBe_q t_leadsOn_q t_seen_q t_seenMany t_heard_q t_heardMany t_isKept_q t_lanes_q t_lengths_q t_cells_q t_torn, aI g t_cuts_q 15 t_cuts, aI g t_letters_q 66 t_letters, aI g t_readPage_q 49 t_readPage_30, aI g t_tape_q 320 t_tape] H → va_S A s.heap H locs → lv_has ls 2 [(0, .ref t_q)] → W p l e rmX8_readDoor s m args below meth c H locs 0 0 Q (F0 m 71 ls []) := by
    intro t_broken_24 t_brokenAt_25 t_here_26 t_spot_27 t_token_28 t_value_29 t_readPage_30 hf H locs ls hP hS hl
    rw [hj_31] at hf
    refine lv_aload_n hx hb dX8_readDoor_71 rfl (lv_at hl 0 rfl) ?_
    refine lv_dup hx hb dX8_readDoor_72 rfl ?_
    refine va_get (D := g.1) (ci := 8) (v := .int t_readDoors) (C := RX8) (T := TX8) (N := 39) hx hb hts inX8 hown hK hP 0 rfl rfl 9 (by decide) k123 (fun _ h9 => h9) rfl dX8_readDoor_73 ?_
    refine lv_iconst (v := (1 : Int32)) hx hb dX8_readDoor_76 (by decide) ?_
    refine lv_iadd hx hb dX8_readDoor_77 ?_
    obtain ⟨t_readDoors_32, et_readDoors_32, hf⟩ := bnd_e hf
    refine tp_i et_readDoors_32 ?_
    refine va_put (D := g.1) (ci := 8) (v := .int t_readDoors_32) (ty := .int) (C := RX8) (T := TX8) (N := 39) hx hb hts inX8 tyX8 tyX8_ok nmX8 hown hK hP (hD.re rfl) hS 0 rfl rfl 9 (by decide) k123 (fun _ h9 => h9) rfl (by decide +kernel) rfl rfl (Nat.le_of_ble_eq_true rfl) dX8_readDoor_78 (fun H locs hP _ hS => ?_)
    have hP : va_P g.1 vwCl [oX8 t_q t_state_q t_roomMany t_doorMany t_stringLong t_laws_q t_lawMany t_readPage_q t_readLaws_q t_readRooms t_readDoors_32 t_readString t_readLawMany t_toldOnce t_highRoom_17 t_highDoor t_tape_q t_taped t_fault t_broken_24 t_brokenAt_25 t_spot_27 t_here_26 t_token_28 t_value_29 t_cuts_q t_letters_q t_work_q t_pages_q t_canBe_q t_leadsOn_q t_seen_q t_seenMany t_heard_q t_heardMany t_isKept_q t_lanes_q t_lengths_q t_cells_q t_torn, aI g t_cuts_q 15 t_cuts, aI g t_letters_q 66 t_letters, aI g t_readPage_q 49 t_readPage_30, aI g t_tape_q 320 t_tape] H := hP
    exact hret t_broken_24 t_brokenAt_25 t_here_26 t_highRoom_17 t_readDoors_32 t_spot_27 t_token_28 t_value_29 t_readPage_30 (Option.some.inj hf) _ _ _ _ hP hS dX8_readDoor_81
  refine lv_if_ne (tgt := 71) hx hb dX8_readDoor_33 (by decide) (fun c_33 => ?_) (fun c_33 => ?_)
  · have hf := ite_f hf c_33
    exact J_31 t_broken_14 t_brokenAt_15 t_here_16 t_spot_18 t_token_19 t_value_20 t_readPage_23 hf _ _ _ hP hS (lv_sub hl [1] rfl)
  · have hf := ite_t hf c_33
    refine lv_aload_n hx hb dX8_readDoor_36 rfl (lv_at hl 1 rfl) ?_
    refine va_get (D := g.1) (ci := 8) (v := .int t_token_19) (C := RX8) (T := TX8) (N := 39) hx hb hts inX8 hown hK hP 0 rfl rfl 22 (by decide) k85 (fun _ h9 => h9) rfl dX8_readDoor_37 ?_
    refine lv_iconst (v := (1 : Int32)) hx hb dX8_readDoor_40 (by decide) ?_
    refine lv_icmp_ne (tgt := 71) hx hb dX8_readDoor_41 (by decide) (fun c_34 => ?_) (fun c_34 => ?_)
    · have hf := ite_f hf c_34
      exact J_31 t_broken_14 t_brokenAt_15 t_here_16 t_spot_18 t_token_19 t_value_20 t_readPage_23 hf _ _ _ hP hS (lv_sub hl [1] rfl)
    · have hf := ite_t hf c_34
      refine lv_aload_n hx hb dX8_readDoor_44 rfl (lv_at hl 1 rfl) ?_
      obtain ⟨r_35, hc_36, hf⟩ := ob1_e hf
      refine kV_i (wn := [oX8 t_q t_state_q t_roomMany t_doorMany t_stringLong t_laws_q t_lawMany t_readPage_q t_readLaws_q t_readRooms t_readDoors t_readString t_readLawMany t_toldOnce t_highRoom_17 t_highDoor t_tape_q t_taped t_fault t_broken_14 t_brokenAt_15 t_spot_18 t_here_16 t_token_19 t_value_20 t_cuts_q t_letters_q t_work_q t_pages_q t_canBe_q t_leadsOn_q t_seen_q t_seenMany t_heard_q t_heardMany t_isKept_q t_lanes_q t_lengths_q t_cells_q t_torn, aI g t_cuts_q 15 t_cuts, aI g t_letters_q 66 t_letters, aI g t_readPage_q 49 t_readPage_23, aI g t_tape_q 320 t_tape]) (As := []) (rest := []) (c_X8_nameHere l g _ t_q t_state_q t_laws_q t_readPage_q t_readLaws_q t_tape_q t_cuts_q t_letters_q t_work_q t_pages_q t_canBe_q t_leadsOn_q t_seen_q t_heard_q t_isKept_q t_lanes_q t_lengths_q t_cells_q t_roomMany t_doorMany t_stringLong t_lawMany t_readRooms t_readDoors t_readString t_readLawMany t_toldOnce t_highRoom_17 t_highDoor t_taped t_fault t_broken_14 t_brokenAt_15 t_spot_18 t_here_16 t_token_19 t_value_20 t_seenMany t_heardMany t_torn t_cuts t_letters t_tape r_35 hc_36) ⟨hx, hb, hml, hown, hts⟩ (cwV 0 hts gX8_readDoor_X8_nameHere rfl rfl rfl (by decide +kernel) ⟨by decide, by decide⟩) hK hz hk hP (hD.re rfl) hS hA [0, 1, 2, 4] rfl rfl rfl rfl rfl rfl rfl hl.1 rfl (Nat.le_of_ble_eq_true rfl) dX8_readDoor_45 (fun H locs hP hS => ?_)
      refine lv_bipush (v := (9 : Int32)) hx hb dX8_readDoor_48 (by decide) ?_
      obtain ⟨j_39, hj_39, hf⟩ := jn2_e hf
      have J_39 : ∀ (t_broken_37 : Int32) (t_brokenAt_38 : Int32), j_39 t_broken_37 t_brokenAt_38 = some (t_broken', t_brokenAt', t_here', t_highRoom', t_readDoors', t_spot', t_token', t_value', t_readPage') → ∀ (H : Heap) (locs : List Loc) (ls : Array Slot), va_P g.1 vwCl [oX8 t_q t_state_q t_roomMany t_doorMany t_stringLong t_laws_q t_lawMany t_readPage_q t_readLaws_q t_readRooms t_readDoors t_readString t_readLawMany t_toldOnce t_highRoom_17 t_highDoor t_tape_q t_taped t_fault t_broken_37 t_brokenAt_38 t_spot_18 t_here_16 t_token_19 t_value_20 t_cuts_q t_letters_q t_work_q t_pages_q t_canBe_q t_leadsOn_q t_seen_q t_seenMany t_heard_q t_heardMany t_isKept_q t_lanes_q t_lengths_q t_cells_q t_torn, aI g t_cuts_q 15 t_cuts, aI g t_letters_q 66 t_letters, aI g t_readPage_q 49 t_readPage_23, aI g t_tape_q 320 t_tape] H → va_S A s.heap H locs → lv_has ls 2 [(0, .ref t_q), (1, .int v1_1)] → W p l e rmX8_readDoor s m args below meth c H locs 0 0 Q (F0 m 58 ls []) := by
        intro t_broken_37 t_brokenAt_38 hf H locs ls hP hS hl
        rw [hj_39] at hf
        refine lv_aload_n hx hb dX8_readDoor_58 rfl (lv_at hl 0 rfl) ?_
        refine va_get (D := g.1) (ci := 8) (v := .ref t_readPage_q) (C := RX8) (T := TX8) (N := 39) hx hb hts inX8 hown hK hP 0 rfl rfl 6 (by decide) k23 (fun _ h9 => h9) rfl dX8_readDoor_59 ?_
        refine lv_iload_n hx hb dX8_readDoor_62 rfl (lv_at hl 1 rfl) ?_
        refine lv_iconst (v := (2 : Int32)) hx hb dX8_readDoor_63 (by decide) ?_
        refine lv_iadd hx hb dX8_readDoor_64 ?_
        refine lv_iconst (v := (1 : Int32)) hx hb dX8_readDoor_65 (by decide) ?_
        obtain ⟨h_40, hf⟩ := gin_e hf
        obtain ⟨t_readPage_41, et_readPage_41, hf⟩ := bnd_e hf
        refine va_iast hx hb hK hP (hD.re rfl) hS 3 0 rfl rfl h_40 dX8_readDoor_66 (fun H locs hP _ hS => ?_)
        have hP : va_P g.1 vwCl [oX8 t_q t_state_q t_roomMany t_doorMany t_stringLong t_laws_q t_lawMany t_readPage_q t_readLaws_q t_readRooms t_readDoors t_readString t_readLawMany t_toldOnce t_highRoom_17 t_highDoor t_tape_q t_taped t_fault t_broken_37 t_brokenAt_38 t_spot_18 t_here_16 t_token_19 t_value_20 t_cuts_q t_letters_q t_work_q t_pages_q t_canBe_q t_leadsOn_q t_seen_q t_seenMany t_heard_q t_heardMany t_isKept_q t_lanes_q t_lengths_q t_cells_q t_torn, aI g t_cuts_q 15 t_cuts, aI g t_letters_q 66 t_letters, aI g t_readPage_q 49 t_readPage_41, aI g t_tape_q 320 t_tape] H := by rw [et_readPage_41]; exact hP
        refine lv_aload_n hx hb dX8_readDoor_67 rfl (lv_at hl 0 rfl) ?_
        obtain ⟨t_broken_42, t_brokenAt_43, t_here_44, t_spot_45, t_token_46, t_value_47, hc_48, hf⟩ := ob6_e hf
        refine kV_v (wn := [oX8 t_q t_state_q t_roomMany t_doorMany t_stringLong t_laws_q t_lawMany t_readPage_q t_readLaws_q t_readRooms t_readDoors t_readString t_readLawMany t_toldOnce t_highRoom_17 t_highDoor t_tape_q t_taped t_fault t_broken_42 t_brokenAt_43 t_spot_45 t_here_44 t_token_46 t_value_47 t_cuts_q t_letters_q t_work_q t_pages_q t_canBe_q t_leadsOn_q t_seen_q t_seenMany t_heard_q t_heardMany t_isKept_q t_lanes_q t_lengths_q t_cells_q t_torn, aI g t_cuts_q 15 t_cuts, aI g t_letters_q 66 t_letters, aI g t_readPage_q 49 t_readPage_41, aI g t_tape_q 320 t_tape]) (As := []) (rest := []) (c_X8_step l g _ t_q t_state_q t_laws_q t_readPage_q t_readLaws_q t_tape_q t_cuts_q t_letters_q t_work_q t_pages_q t_canBe_q t_leadsOn_q t_seen_q t_heard_q t_isKept_q t_lanes_q t_lengths_q t_cells_q t_roomMany t_doorMany t_stringLong t_lawMany t_readRooms t_readDoors t_readString t_readLawMany t_toldOnce t_highRoom_17 t_highDoor t_taped t_fault t_broken_37 t_brokenAt_38 t_spot_18 t_here_16 t_token_19 t_value_20 t_seenMany t_heardMany t_torn t_tape t_broken_42 t_brokenAt_43 t_here_44 t_spot_45 t_token_46 t_value_47 hc_48) ⟨hx, hb, hml, hown, hts⟩ (cwV 0 hts gX8_readDoor_X8_step rfl rfl rfl (by decide +kernel) ⟨by decide, by decide⟩) hK hz hk hP (hD.re rfl) hS hA [0, 4] rfl rfl rfl rfl rfl rfl rfl hl.1 rfl (Nat.le_of_ble_eq_true rfl) dX8_readDoor_68 (fun H locs hP hS => ?_)
        exact J_31 t_broken_42 t_brokenAt_43 t_here_44 t_spot_45 t_token_46 t_value_47 t_readPage_41 hf _ _ _ hP hS (lv_sub hl [0] rfl)
      refine lv_icmp_eq (tgt := 58) hx hb dX8_readDoor_50 (by decide) (fun c_49 => ?_) (fun c_49 => ?_)
      · have hf := ite_t hf c_49
        exact J_39 t_broken_14 t_brokenAt_15 hf _ _ _ hP hS (lv_sub hl [1, 0] rfl)
      · have hf := ite_f hf c_49
        refine lv_aload_n hx hb dX8_readDoor_53 rfl (lv_at hl 1 rfl) ?_
        refine lv_iconst (v := (2 : Int32)) hx hb dX8_readDoor_54 (by decide) ?_
        obtain ⟨t_broken_50, t_brokenAt_51, hc_52, hf⟩ := ob2_e hf
        refine kV_v (wn := [oX8 t_q t_state_q t_roomMany t_doorMany t_stringLong t_laws_q t_lawMany t_readPage_q t_readLaws_q t_readRooms t_readDoors t_readString t_readLawMany t_toldOnce t_highRoom_17 t_highDoor t_tape_q t_taped t_fault t_broken_50 t_brokenAt_51 t_spot_18 t_here_16 t_token_19 t_value_20 t_cuts_q t_letters_q t_work_q t_pages_q t_canBe_q t_leadsOn_q t_seen_q t_seenMany t_heard_q t_heardMany t_isKept_q t_lanes_q t_lengths_q t_cells_q t_torn, aI g t_cuts_q 15 t_cuts, aI g t_letters_q 66 t_letters, aI g t_readPage_q 49 t_readPage_23, aI g t_tape_q 320 t_tape]) (As := [.int (2 : Int32)]) (rest := []) (c_X8_fails l g _ t_q t_state_q t_laws_q t_readPage_q t_readLaws_q t_tape_q t_cuts_q t_letters_q t_work_q t_pages_q t_canBe_q t_leadsOn_q t_seen_q t_heard_q t_isKept_q t_lanes_q t_lengths_q t_cells_q t_roomMany t_doorMany t_stringLong t_lawMany t_readRooms t_readDoors t_readString t_readLawMany t_toldOnce t_highRoom_17 t_highDoor t_taped t_fault t_broken_14 t_brokenAt_15 t_spot_18 t_here_16 t_token_19 t_value_20 t_seenMany t_heardMany t_torn (2 : Int32) t_broken_50 t_brokenAt_51 hc_52) ⟨hx, hb, hml, hown, hts⟩ (cwV 1 hts gX8_readDoor_X8_fails rfl rfl rfl (by decide +kernel) ⟨by decide, by decide⟩) hK hz hk hP (hD.re rfl) hS hA [0] rfl rfl rfl rfl rfl rfl rfl hl.1 rfl (Nat.le_of_ble_eq_true rfl) dX8_readDoor_55 (fun H locs hP hS => ?_)
        exact J_39 t_broken_50 t_brokenAt_51 hf _ _ _ hP hS (lv_sub hl [1, 0] rfl)

def f_X8_readRule (t_readLawMany : Int32) (t_highDoor : Int32) (t_taped : Int32) (t_broken : Int32) (t_brokenAt : Int32) (t_spot : Int32) (t_here : Int32) (t_token : Int32) (t_value : Int32) (t_readLaws : Nat → Int32) (t_tape : Nat → Int32) (p1 : Int32) : Option (Int32 × Int32 × Int32 × Int32 × Int32 × Int32 × Int32 × Int32 × (Nat → Int32)) :=
 (bnd ((3 : Int32) * t_readLawMany) (fun v2_1 =>
 (gin v2_1 18 (bnd (upd t_readLaws v2_1.toNatClampNeg (p1 - (3 : Int32))) (fun t_readLaws_3 =>
 (ob8 (f_X8_doorOf t_highDoor t_taped t_broken t_brokenAt t_spot t_here t_token t_value t_tape (0 : Int32)) (fun r_4 t_broken_5 t_brokenAt_6 t_here_7 t_highDoor_8 t_spot_9 t_token_10 t_value_11 =>
 (gin (v2_1 + (1 : Int32)) 18 (bnd (upd t_readLaws_3 (v2_1 + (1 : Int32)).toNatClampNeg r_4) (fun t_readLaws_14 =>
 (jn8 (fun (s_15 : Int32) (t_broken_16 : Int32) (t_brokenAt_17 : Int32) (t_here_18 : Int32) (t_highDoor_19 : Int32) (t_spot_20 : Int32) (t_token_21 : Int32) (t_value_22 : Int32) => (gin (v2_1 + (2 : Int32)) 18 (bnd (upd t_readLaws_14 (v2_1 + (2 : Int32)).toNatClampNeg s_15) (fun t_readLaws_25 =>
 (bnd (t_readLawMany + (1 : Int32)) (fun t_readLawMany_26 =>
 (some (t_broken_16, t_brokenAt_17, t_here_18, t_highDoor_19, t_readLawMany_26, t_spot_20, t_token_21, t_value_22, t_readLaws_25)))))))) (fun j_23 =>
 (if p1 = (3 : Int32) then
 (gin (v2_1 + (1 : Int32)) 18 (ob8 (f_X8_doorOf t_highDoor_8 t_taped t_broken_5 t_brokenAt_6 t_spot_9 t_here_7 t_token_10 t_value_11 t_tape ((1 : Int32) <<< ((t_readLaws_14 (v2_1 + (1 : Int32)).toNatClampNeg) &&& 31))) (fun r_38 t_broken_39 t_brokenAt_40 t_here_41 t_highDoor_42 t_spot_43 t_token_44 t_value_45 =>
 (j_23 r_38 t_broken_39 t_brokenAt_40 t_here_41 t_highDoor_42 t_spot_43 t_token_44 t_value_45))))
 else (if p1 = (4 : Int32) then
 (ob7 (f_X8_other t_taped t_broken_5 t_brokenAt_6 t_spot_9 t_here_7 t_token_10 t_value_11 t_tape (1 : Int32) (6 : Int32) (0 : Int32)) (fun r_29 t_broken_30 t_brokenAt_31 t_here_32 t_spot_33 t_token_34 t_value_35 =>
 (j_23 r_29 t_broken_30 t_brokenAt_31 t_here_32 t_highDoor_8 t_spot_33 t_token_34 t_value_35)))
 else (j_23 (0 : Int32) t_broken_5 t_brokenAt_6 t_here_7 t_highDoor_8 t_spot_9 t_token_10 t_value_11)))))))))))))))
abbrev rmX8_readRule : Room := { frames := 4, cells := 0, slots := 0, locals := 92 }
set_option maxHeartbeats 4000000 in
set_option maxRecDepth 100000 in
theorem c_X8_readRule (l : Launch) (g : Gh) (sz : Nat) (t_q t_state_q t_laws_q t_readPage_q t_readLaws_q t_tape_q t_cuts_q t_letters_q t_work_q t_pages_q t_canBe_q t_leadsOn_q t_seen_q t_heard_q t_isKept_q t_lanes_q t_lengths_q t_cells_q : Nat) (t_roomMany : Int32) (t_doorMany : Int32) (t_stringLong : Int32) (t_lawMany : Int32) (t_readRooms : Int32) (t_readDoors : Int32) (t_readString : Int32) (t_readLawMany : Int32) (t_toldOnce : Int32) (t_highRoom : Int32) (t_highDoor : Int32) (t_taped : Int32) (t_fault : Int32) (t_broken : Int32) (t_brokenAt : Int32) (t_spot : Int32) (t_here : Int32) (t_token : Int32) (t_value : Int32) (t_seenMany : Int32) (t_heardMany : Int32) (t_torn : Int32) (t_readLaws : Nat → Int32) (t_tape : Nat → Int32) (p1 : Int32) (t_broken' : Int32) (t_brokenAt' : Int32) (t_here' : Int32) (t_highDoor' : Int32) (t_readLawMany' : Int32) (t_spot' : Int32) (t_token' : Int32) (t_value' : Int32) (t_readLaws' : Nat → Int32) (hf : f_X8_readRule t_readLawMany t_highDoor t_taped t_broken t_brokenAt t_spot t_here t_token t_value t_readLaws t_tape p1 = some (t_broken', t_brokenAt', t_here', t_highDoor', t_readLawMany', t_spot', t_token', t_value', t_readLaws')) : CV l yX8_readRule wsX8_readRule rmX8_readRule [.ref t_q, .int p1] g sz [oX8 t_q t_state_q t_roomMany t_doorMany t_stringLong t_laws_q t_lawMany t_readPage_q t_readLaws_q t_readRooms t_readDoors t_readString t_readLawMany t_toldOnce t_highRoom t_highDoor t_tape_q t_taped t_fault t_broken t_brokenAt t_spot t_here t_token t_value t_cuts_q t_letters_q t_work_q t_pages_q t_canBe_q t_leadsOn_q t_seen_q t_seenMany t_heard_q t_heardMany t_isKept_q t_lanes_q t_lengths_q t_cells_q t_torn, aI g t_readLaws_q 18 t_readLaws, aI g t_tape_q 320 t_tape] [oX8 t_q t_state_q t_roomMany t_doorMany t_stringLong t_laws_q t_lawMany t_readPage_q t_readLaws_q t_readRooms t_readDoors t_readString t_readLawMany' t_toldOnce t_highRoom t_highDoor' t_tape_q t_taped t_fault t_broken' t_brokenAt' t_spot' t_here' t_token' t_value' t_cuts_q t_letters_q t_work_q t_pages_q t_canBe_q t_leadsOn_q t_seen_q t_seenMany t_heard_q t_heardMany t_isKept_q t_lanes_q t_lengths_q t_cells_q t_torn, aI g t_readLaws_q 18 t_readLaws', aI g t_tape_q 320 t_tape] := by
  refine ent_v (cc := cX8_readRule) (maxL := 3) (by decide) rfl (Nat.le_of_ble_eq_true rfl) ?_
  intro p e s m args below meth c A Q hx hb hml hown hts hK hz hk hA hD hP hS hret ls hl
  have hown : s.vm.findClass RX8 = some m.cls := hown
  have inX8 : ∀ w ∈ u_ws RX8 TX8 39, w ∈ wsX8_readRule := by decide +kernel
  have k26 := hts (.fieldLink RX8 26 "ThreadMovedModel" "readLaws" "[I") (by decide +kernel)
  have k133 := hts (.fieldLink RX8 133 "ThreadMovedModel" "readLawMany" "I") (by decide +kernel)
  have hl : lv_has ls 3 [(0, .ref t_q), (1, .int p1)] := hl
  have hret : ∀ (t_brokenz : Int32) (t_brokenAtz : Int32) (t_herez : Int32) (t_highDoorz : Int32) (t_readLawManyz : Int32) (t_spotz : Int32) (t_tokenz : Int32) (t_valuez : Int32) (t_readLawsz : Nat → Int32), (t_brokenz, t_brokenAtz, t_herez, t_highDoorz, t_readLawManyz, t_spotz, t_tokenz, t_valuez, t_readLawsz) = (t_broken', t_brokenAt', t_here', t_highDoor', t_readLawMany', t_spot', t_token', t_value', t_readLaws') → ∀ (H : Heap) (locs : List Loc) (pc : Nat) (ls : Array Slot), va_P g.1 vwCl [oX8 t_q t_state_q t_roomMany t_doorMany t_stringLong t_laws_q t_lawMany t_readPage_q t_readLaws_q t_readRooms t_readDoors t_readString t_readLawManyz t_toldOnce t_highRoom t_highDoorz t_tape_q t_taped t_fault t_brokenz t_brokenAtz t_spotz t_herez t_tokenz t_valuez t_cuts_q t_letters_q t_work_q t_pages_q t_canBe_q t_leadsOn_q t_seen_q t_seenMany t_heard_q t_heardMany t_isKept_q t_lanes_q t_lengths_q t_cells_q t_torn, aI g t_readLaws_q 18 t_readLawsz, aI g t_tape_q 320 t_tape] H → va_S A s.heap H locs → decode cX8_readRule pc = .ok (.return_, 1) → W p l e rmX8_readRule s m args below meth c H locs 0 0 Q (F0 m pc ls []) := by
    intro t_brokenz t_brokenAtz t_herez t_highDoorz t_readLawManyz t_spotz t_tokenz t_valuez t_readLawsz he H locs pc ls hP hS hd
    cases he
    exact hret H locs pc ls hP hS hd
  unfold f_X8_readRule at hf
  refine lv_iconst (v := (3 : Int32)) hx hb dX8_readRule_0 (by decide) ?_
  refine lv_aload_n hx hb dX8_readRule_1 rfl (lv_at hl 0 rfl) ?_
  refine va_get (D := g.1) (ci := 8) (v := .int t_readLawMany) (C := RX8) (T := TX8) (N := 39) hx hb hts inX8 hown hK hP 0 rfl rfl 11 (by decide) k133 (fun _ h9 => h9) rfl dX8_readRule_2 ?_
  refine lv_imul hx hb dX8_readRule_5 ?_
  obtain ⟨v2_1, ev2_1, hf⟩ := bnd_e hf
  refine tp_i ev2_1 ?_
  refine lv_istore_n (lv' := [(2, .int v2_1), (0, .ref t_q), (1, .int p1)]) hx hb dX8_readRule_6 rfl hl (by decide) rfl (fun ls hl => ?_)
  refine lv_aload_n hx hb dX8_readRule_7 rfl (lv_at hl 1 rfl) ?_
  refine va_get (D := g.1) (ci := 8) (v := .ref t_readLaws_q) (C := RX8) (T := TX8) (N := 39) hx hb hts inX8 hown hK hP 0 rfl rfl 7 (by decide) k26 (fun _ h9 => h9) rfl dX8_readRule_8 ?_
  refine lv_iload_n hx hb dX8_readRule_11 rfl (lv_at hl 0 rfl) ?_
  refine lv_iload_n hx hb dX8_readRule_12 rfl (lv_at hl 2 rfl) ?_
  refine lv_iconst (v := (3 : Int32)) hx hb dX8_readRule_13 (by decide) ?_
  refine lv_isub hx hb dX8_readRule_14 ?_
  obtain ⟨h_2, hf⟩ := gin_e hf
  obtain ⟨t_readLaws_3, et_readLaws_3, hf⟩ := bnd_e hf
  refine va_iast hx hb hK hP (hD.re rfl) hS 1 0 rfl rfl h_2 dX8_readRule_15 (fun H locs hP _ hS => ?_)
  have hP : va_P g.1 vwCl [oX8 t_q t_state_q t_roomMany t_doorMany t_stringLong t_laws_q t_lawMany t_readPage_q t_readLaws_q t_readRooms t_readDoors t_readString t_readLawMany t_toldOnce t_highRoom t_highDoor t_tape_q t_taped t_fault t_broken t_brokenAt t_spot t_here t_token t_value t_cuts_q t_letters_q t_work_q t_pages_q t_canBe_q t_leadsOn_q t_seen_q t_seenMany t_heard_q t_heardMany t_isKept_q t_lanes_q t_lengths_q t_cells_q t_torn, aI g t_readLaws_q 18 t_readLaws_3, aI g t_tape_q 320 t_tape] H := by rw [et_readLaws_3]; exact hP
  refine lv_aload_n hx hb dX8_readRule_16 rfl (lv_at hl 1 rfl) ?_
  refine va_get (D := g.1) (ci := 8) (v := .ref t_readLaws_q) (C := RX8) (T := TX8) (N := 39) hx hb hts inX8 hown hK hP 0 rfl rfl 7 (by decide) k26 (fun _ h9 => h9) rfl dX8_readRule_17 ?_
  refine lv_iload_n hx hb dX8_readRule_20 rfl (lv_at hl 0 rfl) ?_
  refine lv_iconst (v := (1 : Int32)) hx hb dX8_readRule_21 (by decide) ?_
  refine lv_iadd hx hb dX8_readRule_22 ?_
  refine lv_aload_n hx hb dX8_readRule_23 rfl (lv_at hl 1 rfl) ?_
  refine lv_iconst (v := (0 : Int32)) hx hb dX8_readRule_24 (by decide) ?_
  obtain ⟨r_4, t_broken_5, t_brokenAt_6, t_here_7, t_highDoor_8, t_spot_9, t_token_10, t_value_11, hc_12, hf⟩ := ob8_e hf
  refine kV_i (wn := [oX8 t_q t_state_q t_roomMany t_doorMany t_stringLong t_laws_q t_lawMany t_readPage_q t_readLaws_q t_readRooms t_readDoors t_readString t_readLawMany t_toldOnce t_highRoom t_highDoor_8 t_tape_q t_taped t_fault t_broken_5 t_brokenAt_6 t_spot_9 t_here_7 t_token_10 t_value_11 t_cuts_q t_letters_q t_work_q t_pages_q t_canBe_q t_leadsOn_q t_seen_q t_seenMany t_heard_q t_heardMany t_isKept_q t_lanes_q t_lengths_q t_cells_q t_torn, aI g t_readLaws_q 18 t_readLaws_3, aI g t_tape_q 320 t_tape]) (As := [.int (0 : Int32)]) (rest := [.int (v2_1 + (1 : Int32)), .ref t_readLaws_q]) (c_X8_doorOf l g _ t_q t_state_q t_laws_q t_readPage_q t_readLaws_q t_tape_q t_cuts_q t_letters_q t_work_q t_pages_q t_canBe_q t_leadsOn_q t_seen_q t_heard_q t_isKept_q t_lanes_q t_lengths_q t_cells_q t_roomMany t_doorMany t_stringLong t_lawMany t_readRooms t_readDoors t_readString t_readLawMany t_toldOnce t_highRoom t_highDoor t_taped t_fault t_broken t_brokenAt t_spot t_here t_token t_value t_seenMany t_heardMany t_torn t_tape (0 : Int32) r_4 t_broken_5 t_brokenAt_6 t_here_7 t_highDoor_8 t_spot_9 t_token_10 t_value_11 hc_12) ⟨hx, hb, hml, hown, hts⟩ (cwV 1 hts gX8_readRule_X8_doorOf rfl rfl rfl (by decide +kernel) ⟨by decide, by decide⟩) hK hz hk hP (hD.re rfl) hS hA [0, 2] rfl rfl rfl rfl rfl rfl rfl hl.1 rfl (Nat.le_of_ble_eq_true rfl) dX8_readRule_25 (fun H locs hP hS => ?_)
  obtain ⟨h_13, hf⟩ := gin_e hf
  obtain ⟨t_readLaws_14, et_readLaws_14, hf⟩ := bnd_e hf
  refine va_iast hx hb hK hP (hD.re rfl) hS 1 0 rfl rfl h_13 dX8_readRule_28 (fun H locs hP _ hS => ?_)
  have hP : va_P g.1 vwCl [oX8 t_q t_state_q t_roomMany t_doorMany t_stringLong t_laws_q t_lawMany t_readPage_q t_readLaws_q t_readRooms t_readDoors t_readString t_readLawMany t_toldOnce t_highRoom t_highDoor_8 t_tape_q t_taped t_fault t_broken_5 t_brokenAt_6 t_spot_9 t_here_7 t_token_10 t_value_11 t_cuts_q t_letters_q t_work_q t_pages_q t_canBe_q t_leadsOn_q t_seen_q t_seenMany t_heard_q t_heardMany t_isKept_q t_lanes_q t_lengths_q t_cells_q t_torn, aI g t_readLaws_q 18 t_readLaws_14, aI g t_tape_q 320 t_tape] H := by rw [et_readLaws_14]; exact hP
  refine lv_aload_n hx hb dX8_readRule_29 rfl (lv_at hl 1 rfl) ?_
  refine va_get (D := g.1) (ci := 8) (v := .ref t_readLaws_q) (C := RX8) (T := TX8) (N := 39) hx hb hts inX8 hown hK hP 0 rfl rfl 7 (by decide) k26 (fun _ h9 => h9) rfl dX8_readRule_30 ?_
  refine lv_iload_n hx hb dX8_readRule_33 rfl (lv_at hl 0 rfl) ?_
  refine lv_iconst (v := (2 : Int32)) hx hb dX8_readRule_34 (by decide) ?_
  refine lv_iadd hx hb dX8_readRule_35 ?_
  refine lv_iload_n hx hb dX8_readRule_36 rfl (lv_at hl 2 rfl) ?_
  refine lv_iconst (v := (3 : Int32)) hx hb dX8_readRule_37 (by decide) ?_
  obtain ⟨j_23, hj_23, hf⟩ := jn8_e hf
  have J_23 : ∀ (s_15 : Int32) (t_broken_16 : Int32) (t_brokenAt_17 : Int32) (t_here_18 : Int32) (t_highDoor_19 : Int32) (t_spot_20 : Int32) (t_token_21 : Int32) (t_value_22 : Int32), j_23 s_15 t_broken_16 t_brokenAt_17 t_here_18 t_highDoor_19 t_spot_20 t_token_21 t_value_22 = some (t_broken', t_brokenAt', t_here', t_highDoor', t_readLawMany', t_spot', t_token', t_value', t_readLaws') → ∀ (H : Heap) (locs : List Loc) (ls : Array Slot), va_P g.1 vwCl [oX8 t_q t_state_q t_roomMany t_doorMany t_stringLong t_laws_q t_lawMany t_readPage_q t_readLaws_q t_readRooms t_readDoors t_readString t_readLawMany t_toldOnce t_highRoom t_highDoor_19 t_tape_q t_taped t_fault t_broken_16 t_brokenAt_17 t_spot_20 t_here_18 t_token_21 t_value_22 t_cuts_q t_letters_q t_work_q t_pages_q t_canBe_q t_leadsOn_q t_seen_q t_seenMany t_heard_q t_heardMany t_isKept_q t_lanes_q t_lengths_q t_cells_q t_torn, aI g t_readLaws_q 18 t_readLaws_14, aI g t_tape_q 320 t_tape] H → va_S A s.heap H locs → lv_has ls 3 [(0, .ref t_q)] → W p l e rmX8_readRule s m args below meth c H locs 0 0 Q (F0 m 75 ls [.int s_15, .int (v2_1 + (2 : Int32)), .ref t_readLaws_q]) := by
    intro s_15 t_broken_16 t_brokenAt_17 t_here_18 t_highDoor_19 t_spot_20 t_token_21 t_value_22 hf H locs ls hP hS hl
    rw [hj_23] at hf
    obtain ⟨h_24, hf⟩ := gin_e hf
    obtain ⟨t_readLaws_25, et_readLaws_25, hf⟩ := bnd_e hf
    refine va_iast hx hb hK hP (hD.re rfl) hS 1 0 rfl rfl h_24 dX8_readRule_75 (fun H locs hP _ hS => ?_)
    have hP : va_P g.1 vwCl [oX8 t_q t_state_q t_roomMany t_doorMany t_stringLong t_laws_q t_lawMany t_readPage_q t_readLaws_q t_readRooms t_readDoors t_readString t_readLawMany t_toldOnce t_highRoom t_highDoor_19 t_tape_q t_taped t_fault t_broken_16 t_brokenAt_17 t_spot_20 t_here_18 t_token_21 t_value_22 t_cuts_q t_letters_q t_work_q t_pages_q t_canBe_q t_leadsOn_q t_seen_q t_seenMany t_heard_q t_heardMany t_isKept_q t_lanes_q t_lengths_q t_cells_q t_torn, aI g t_readLaws_q 18 t_readLaws_25, aI g t_tape_q 320 t_tape] H := by rw [et_readLaws_25]; exact hP
    refine lv_aload_n hx hb dX8_readRule_76 rfl (lv_at hl 0 rfl) ?_
    refine lv_dup hx hb dX8_readRule_77 rfl ?_
    refine va_get (D := g.1) (ci := 8) (v := .int t_readLawMany) (C := RX8) (T := TX8) (N := 39) hx hb hts inX8 hown hK hP 0 rfl rfl 11 (by decide) k133 (fun _ h9 => h9) rfl dX8_readRule_78 ?_
    refine lv_iconst (v := (1 : Int32)) hx hb dX8_readRule_81 (by decide) ?_
    refine lv_iadd hx hb dX8_readRule_82 ?_
    obtain ⟨t_readLawMany_26, et_readLawMany_26, hf⟩ := bnd_e hf
    refine tp_i et_readLawMany_26 ?_
    refine va_put (D := g.1) (ci := 8) (v := .int t_readLawMany_26) (ty := .int) (C := RX8) (T := TX8) (N := 39) hx hb hts inX8 tyX8 tyX8_ok nmX8 hown hK hP (hD.re rfl) hS 0 rfl rfl 11 (by decide) k133 (fun _ h9 => h9) rfl (by decide +kernel) rfl rfl (Nat.le_of_ble_eq_true rfl) dX8_readRule_83 (fun H locs hP _ hS => ?_)
    have hP : va_P g.1 vwCl [oX8 t_q t_state_q t_roomMany t_doorMany t_stringLong t_laws_q t_lawMany t_readPage_q t_readLaws_q t_readRooms t_readDoors t_readString t_readLawMany_26 t_toldOnce t_highRoom t_highDoor_19 t_tape_q t_taped t_fault t_broken_16 t_brokenAt_17 t_spot_20 t_here_18 t_token_21 t_value_22 t_cuts_q t_letters_q t_work_q t_pages_q t_canBe_q t_leadsOn_q t_seen_q t_seenMany t_heard_q t_heardMany t_isKept_q t_lanes_q t_lengths_q t_cells_q t_torn, aI g t_readLaws_q 18 t_readLaws_25, aI g t_tape_q 320 t_tape] H := hP
    exact hret t_broken_16 t_brokenAt_17 t_here_18 t_highDoor_19 t_readLawMany_26 t_spot_20 t_token_21 t_value_22 t_readLaws_25 (Option.some.inj hf) _ _ _ _ hP hS dX8_readRule_86
  refine lv_icmp_ne (tgt := 58) hx hb dX8_readRule_38 (by decide) (fun c_27 => ?_) (fun c_27 => ?_)
  · have hf := ite_f hf c_27
    refine lv_iload_n hx hb dX8_readRule_58 rfl (lv_at hl 2 rfl) ?_
    refine lv_iconst (v := (4 : Int32)) hx hb dX8_readRule_59 (by decide) ?_
    refine lv_icmp_ne (tgt := 74) hx hb dX8_readRule_60 (by decide) (fun c_28 => ?_) (fun c_28 => ?_)
    · have hf := ite_f hf c_28
      refine lv_iconst (v := (0 : Int32)) hx hb dX8_readRule_74 (by decide) ?_
      exact J_23 (0 : Int32) t_broken_5 t_brokenAt_6 t_here_7 t_highDoor_8 t_spot_9 t_token_10 t_value_11 hf _ _ _ hP hS (lv_sub hl [1] rfl)
    · have hf := ite_t hf c_28
      refine lv_aload_n hx hb dX8_readRule_63 rfl (lv_at hl 1 rfl) ?_
      refine lv_iconst (v := (1 : Int32)) hx hb dX8_readRule_64 (by decide) ?_
      refine lv_bipush (v := (6 : Int32)) hx hb dX8_readRule_65 (by decide) ?_
      refine lv_iconst (v := (0 : Int32)) hx hb dX8_readRule_67 (by decide) ?_
      obtain ⟨r_29, t_broken_30, t_brokenAt_31, t_here_32, t_spot_33, t_token_34, t_value_35, hc_36, hf⟩ := ob7_e hf
      refine kV_i (wn := [oX8 t_q t_state_q t_roomMany t_doorMany t_stringLong t_laws_q t_lawMany t_readPage_q t_readLaws_q t_readRooms t_readDoors t_readString t_readLawMany t_toldOnce t_highRoom t_highDoor_8 t_tape_q t_taped t_fault t_broken_30 t_brokenAt_31 t_spot_33 t_here_32 t_token_34 t_value_35 t_cuts_q t_letters_q t_work_q t_pages_q t_canBe_q t_leadsOn_q t_seen_q t_seenMany t_heard_q t_heardMany t_isKept_q t_lanes_q t_lengths_q t_cells_q t_torn, aI g t_readLaws_q 18 t_readLaws_14, aI g t_tape_q 320 t_tape]) (As := [.int (1 : Int32), .int (6 : Int32), .int (0 : Int32)]) (rest := [.int (v2_1 + (2 : Int32)), .ref t_readLaws_q]) (c_X8_other l g _ t_q t_state_q t_laws_q t_readPage_q t_readLaws_q t_tape_q t_cuts_q t_letters_q t_work_q t_pages_q t_canBe_q t_leadsOn_q t_seen_q t_heard_q t_isKept_q t_lanes_q t_lengths_q t_cells_q t_roomMany t_doorMany t_stringLong t_lawMany t_readRooms t_readDoors t_readString t_readLawMany t_toldOnce t_highRoom t_highDoor_8 t_taped t_fault t_broken_5 t_brokenAt_6 t_spot_9 t_here_7 t_token_10 t_value_11 t_seenMany t_heardMany t_torn t_tape (1 : Int32) (6 : Int32) (0 : Int32) r_29 t_broken_30 t_brokenAt_31 t_here_32 t_spot_33 t_token_34 t_value_35 hc_36) ⟨hx, hb, hml, hown, hts⟩ (cwV 3 hts gX8_readRule_X8_other rfl rfl rfl (by decide +kernel) ⟨by decide, by decide⟩) hK hz hk hP (hD.re rfl) hS hA [0, 2] rfl rfl rfl rfl rfl rfl rfl hl.1 rfl (Nat.le_of_ble_eq_true rfl) dX8_readRule_68 (fun H locs hP hS => ?_)
      refine lv_goto (tgt := 75) hx hb dX8_readRule_71 (by decide) ?_
      exact J_23 r_29 t_broken_30 t_brokenAt_31 t_here_32 t_highDoor_8 t_spot_33 t_token_34 t_value_35 hf _ _ _ hP hS (lv_sub hl [1] rfl)
  · have hf := ite_t hf c_27
    refine lv_aload_n hx hb dX8_readRule_41 rfl (lv_at hl 1 rfl) ?_
    refine lv_iconst (v := (1 : Int32)) hx hb dX8_readRule_42 (by decide) ?_
    refine lv_aload_n hx hb dX8_readRule_43 rfl (lv_at hl 1 rfl) ?_
    refine va_get (D := g.1) (ci := 8) (v := .ref t_readLaws_q) (C := RX8) (T := TX8) (N := 39) hx hb hts inX8 hown hK hP 0 rfl rfl 7 (by decide) k26 (fun _ h9 => h9) rfl dX8_readRule_44 ?_
    refine lv_iload_n hx hb dX8_readRule_47 rfl (lv_at hl 0 rfl) ?_
    refine lv_iconst (v := (1 : Int32)) hx hb dX8_readRule_48 (by decide) ?_
    refine lv_iadd hx hb dX8_readRule_49 ?_
    obtain ⟨h_37, hf⟩ := gin_e hf
    refine va_iald hx hb hK hP 1 0 rfl rfl h_37 dX8_readRule_50 ?_
    refine lv_ishl hx hb dX8_readRule_51 ?_
    obtain ⟨r_38, t_broken_39, t_brokenAt_40, t_here_41, t_highDoor_42, t_spot_43, t_token_44, t_value_45, hc_46, hf⟩ := ob8_e hf
    refine kV_i (wn := [oX8 t_q t_state_q t_roomMany t_doorMany t_stringLong t_laws_q t_lawMany t_readPage_q t_readLaws_q t_readRooms t_readDoors t_readString t_readLawMany t_toldOnce t_highRoom t_highDoor_42 t_tape_q t_taped t_fault t_broken_39 t_brokenAt_40 t_spot_43 t_here_41 t_token_44 t_value_45 t_cuts_q t_letters_q t_work_q t_pages_q t_canBe_q t_leadsOn_q t_seen_q t_seenMany t_heard_q t_heardMany t_isKept_q t_lanes_q t_lengths_q t_cells_q t_torn, aI g t_readLaws_q 18 t_readLaws_14, aI g t_tape_q 320 t_tape]) (As := [.int ((1 : Int32) <<< ((t_readLaws_14 (v2_1 + (1 : Int32)).toNatClampNeg) &&& 31))]) (rest := [.int (v2_1 + (2 : Int32)), .ref t_readLaws_q]) (c_X8_doorOf l g _ t_q t_state_q t_laws_q t_readPage_q t_readLaws_q t_tape_q t_cuts_q t_letters_q t_work_q t_pages_q t_canBe_q t_leadsOn_q t_seen_q t_heard_q t_isKept_q t_lanes_q t_lengths_q t_cells_q t_roomMany t_doorMany t_stringLong t_lawMany t_readRooms t_readDoors t_readString t_readLawMany t_toldOnce t_highRoom t_highDoor_8 t_taped t_fault t_broken_5 t_brokenAt_6 t_spot_9 t_here_7 t_token_10 t_value_11 t_seenMany t_heardMany t_torn t_tape ((1 : Int32) <<< ((t_readLaws_14 (v2_1 + (1 : Int32)).toNatClampNeg) &&& 31)) r_38 t_broken_39 t_brokenAt_40 t_here_41 t_highDoor_42 t_spot_43 t_token_44 t_value_45 hc_46) ⟨hx, hb, hml, hown, hts⟩ (cwV 1 hts gX8_readRule_X8_doorOf rfl rfl rfl (by decide +kernel) ⟨by decide, by decide⟩) hK hz hk hP (hD.re rfl) hS hA [0, 2] rfl rfl rfl rfl rfl rfl rfl hl.1 rfl (Nat.le_of_ble_eq_true rfl) dX8_readRule_52 (fun H locs hP hS => ?_)
    refine lv_goto (tgt := 75) hx hb dX8_readRule_55 (by decide) ?_
    exact J_23 r_38 t_broken_39 t_brokenAt_40 t_here_41 t_highDoor_42 t_spot_43 t_token_44 t_value_45 hf _ _ _ hP hS (lv_sub hl [1] rfl)
