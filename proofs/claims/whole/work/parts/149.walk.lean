def f_X8_readLine (t_readRooms : Int32) (t_readDoors : Int32) (t_readString : Int32) (t_readLawMany : Int32) (t_toldOnce : Int32) (t_highRoom : Int32) (t_highDoor : Int32) (t_taped : Int32) (t_broken : Int32) (t_brokenAt : Int32) (t_spot : Int32) (t_here : Int32) (t_token : Int32) (t_value : Int32) (t_cuts : Nat → Int32) (t_letters : Nat → Int32) (t_readLaws : Nat → Int32) (t_readPage : Nat → Int32) (t_tape : Nat → Int32) : Option (Int32 × Int32 × Int32 × Int32 × Int32 × Int32 × Int32 × Int32 × Int32 × Int32 × Int32 × Int32 × Int32 × (Nat → Int32) × (Nat → Int32)) :=
 (ob1 (f_X8_nameHere t_taped t_spot t_here t_token t_cuts t_letters t_tape) (fun r_1 =>
 (ob1 (f_X8_in (r_1.toInt64) (0 : Int64) (8 : Int64)) (fun r_3 =>
 (if r_3 = (0 : Int32) then
 (ob2 (f_X8_fails t_broken t_brokenAt t_here (2 : Int32)) (fun t_broken_101 t_brokenAt_102 =>
 (some (t_broken_101, t_brokenAt_102, t_here, t_highDoor, t_highRoom, t_readDoors, t_readLawMany, t_readRooms, t_readString, t_spot, t_token, t_toldOnce, t_value, t_readLaws, t_readPage))))
 else (ob1 (f_X8_in (r_1.toInt64) (3 : Int64) (5 : Int64)) (fun r_6 =>
 (jn2 (fun (t_broken_8 : Int32) (t_brokenAt_9 : Int32) => (jn2 (fun (t_broken_11 : Int32) (t_brokenAt_12 : Int32) => (bnd (t_toldOnce ||| ((1 : Int32) <<< (r_1 &&& 31))) (fun t_toldOnce_14 =>
 (ob6 (f_X8_step t_taped t_broken_11 t_brokenAt_12 t_spot t_here t_token t_value t_tape) (fun t_broken_15 t_brokenAt_16 t_here_17 t_spot_18 t_token_19 t_value_20 =>
 (if t_broken_15 ≤ (0 : Int32) then
 (jn14 (fun (t_broken_23 : Int32) (t_brokenAt_24 : Int32) (t_here_25 : Int32) (t_highDoor_26 : Int32) (t_highRoom_27 : Int32) (t_readDoors_28 : Int32) (t_readLawMany_29 : Int32) (t_readRooms_30 : Int32) (t_readString_31 : Int32) (t_spot_32 : Int32) (t_token_33 : Int32) (t_value_34 : Int32) (t_readLaws_35 : Nat → Int32) (t_readPage_36 : Nat → Int32) => (jn2 (fun (t_broken_38 : Int32) (t_brokenAt_39 : Int32) => (ob6 (f_X8_step t_taped t_broken_38 t_brokenAt_39 t_spot_32 t_here_25 t_token_33 t_value_34 t_tape) (fun t_broken_41 t_brokenAt_42 t_here_43 t_spot_44 t_token_45 t_value_46 =>
 (some (t_broken_41, t_brokenAt_42, t_here_43, t_highDoor_26, t_highRoom_27, t_readDoors_28, t_readLawMany_29, t_readRooms_30, t_readString_31, t_spot_44, t_token_45, t_toldOnce_14, t_value_46, t_readLaws_35, t_readPage_36))))) (fun j_40 =>
 (if t_broken_23 = (0 : Int32) then
 (if t_token_33 = (3 : Int32) then
 (j_40 t_broken_23 t_brokenAt_24)
 else (ob2 (f_X8_fails t_broken_23 t_brokenAt_24 t_here_25 (2 : Int32)) (fun t_broken_50 t_brokenAt_51 =>
 (j_40 t_broken_50 t_brokenAt_51))))
 else (j_40 t_broken_23 t_brokenAt_24))))) (fun j_37 =>
 (if r_1 = (1 : Int32) then
 (ob9 (f_X8_readDoor t_readDoors t_highRoom t_taped t_broken_15 t_brokenAt_16 t_spot_18 t_here_17 t_token_19 t_value_20 t_cuts t_letters t_readPage t_tape) (fun t_broken_76 t_brokenAt_77 t_here_78 t_highRoom_79 t_readDoors_80 t_spot_81 t_token_82 t_value_83 t_readPage_84 =>
 (j_37 t_broken_76 t_brokenAt_77 t_here_78 t_highDoor t_highRoom_79 t_readDoors_80 t_readLawMany t_readRooms t_readString t_spot_81 t_token_82 t_value_83 t_readLaws t_readPage_84)))
 else (if r_6 = (0 : Int32) then
 (ob10 (f_X8_readOnce t_readRooms t_readString t_highRoom t_taped t_broken_15 t_brokenAt_16 t_spot_18 t_here_17 t_token_19 t_value_20 t_cuts t_letters t_readPage t_tape r_1) (fun t_broken_55 t_brokenAt_56 t_here_57 t_highRoom_58 t_readRooms_59 t_readString_60 t_spot_61 t_token_62 t_value_63 t_readPage_64 =>
 (j_37 t_broken_55 t_brokenAt_56 t_here_57 t_highDoor t_highRoom_58 t_readDoors t_readLawMany t_readRooms_59 t_readString_60 t_spot_61 t_token_62 t_value_63 t_readLaws t_readPage_64)))
 else (ob9 (f_X8_readRule t_readLawMany t_highDoor t_taped t_broken_15 t_brokenAt_16 t_spot_18 t_here_17 t_token_19 t_value_20 t_readLaws t_tape r_1) (fun t_broken_66 t_brokenAt_67 t_here_68 t_highDoor_69 t_readLawMany_70 t_spot_71 t_token_72 t_value_73 t_readLaws_74 =>
 (j_37 t_broken_66 t_brokenAt_67 t_here_68 t_highDoor_69 t_highRoom t_readDoors t_readLawMany_70 t_readRooms t_readString t_spot_71 t_token_72 t_value_73 t_readLaws_74 t_readPage)))))))
 else (some (t_broken_15, t_brokenAt_16, t_here_17, t_highDoor, t_highRoom, t_readDoors, t_readLawMany, t_readRooms, t_readString, t_spot_18, t_token_19, t_toldOnce_14, t_value_20, t_readLaws, t_readPage)))))))) (fun j_13 =>
 (if r_1 = (1 : Int32) then
 (j_13 t_broken_8 t_brokenAt_9)
 else (if r_6 = (0 : Int32) then
 (if ((t_toldOnce >>> (r_1 &&& 31)) &&& (1 : Int32)) = (1 : Int32) then
 (ob2 (f_X8_fails t_broken_8 t_brokenAt_9 t_here (4 : Int32)) (fun t_broken_89 t_brokenAt_90 =>
 (j_13 t_broken_89 t_brokenAt_90)))
 else (j_13 t_broken_8 t_brokenAt_9))
 else (j_13 t_broken_8 t_brokenAt_9)))))) (fun j_10 =>
 (jn0 (ob2 (f_X8_fails t_broken t_brokenAt t_here (5 : Int32)) (fun t_broken_93 t_brokenAt_94 =>
 (j_10 t_broken_93 t_brokenAt_94))) (fun j_92 =>
 (jn0 (if r_6 = (0 : Int32) then
 (j_10 t_broken t_brokenAt)
 else (if t_readLawMany = (6 : Int32) then
 (j_92)
 else (j_10 t_broken t_brokenAt))) (fun j_96 =>
 (if r_1 = (1 : Int32) then
 (if t_readDoors = (10 : Int32) then
 (j_92)
 else (j_96))
 else (j_96)))))))))))))))
abbrev rmX8_readLine : Room := { frames := 6, cells := 0, slots := 0, locals := 133 }
set_option maxHeartbeats 4000000 in
set_option maxRecDepth 100000 in
theorem c_X8_readLine (l : Launch) (g : Gh) (sz : Nat) (t_q t_state_q t_laws_q t_readPage_q t_readLaws_q t_tape_q t_cuts_q t_letters_q t_work_q t_pages_q t_canBe_q t_leadsOn_q t_seen_q t_heard_q t_isKept_q t_lanes_q t_lengths_q t_cells_q : Nat) (t_roomMany : Int32) (t_doorMany : Int32) (t_stringLong : Int32) (t_lawMany : Int32) (t_readRooms : Int32) (t_readDoors : Int32) (t_readString : Int32) (t_readLawMany : Int32) (t_toldOnce : Int32) (t_highRoom : Int32) (t_highDoor : Int32) (t_taped : Int32) (t_fault : Int32) (t_broken : Int32) (t_brokenAt : Int32) (t_spot : Int32) (t_here : Int32) (t_token : Int32) (t_value : Int32) (t_seenMany : Int32) (t_heardMany : Int32) (t_torn : Int32) (t_cuts : Nat → Int32) (t_letters : Nat → Int32) (t_readLaws : Nat → Int32) (t_readPage : Nat → Int32) (t_tape : Nat → Int32) (t_broken' : Int32) (t_brokenAt' : Int32) (t_here' : Int32) (t_highDoor' : Int32) (t_highRoom' : Int32) (t_readDoors' : Int32) (t_readLawMany' : Int32) (t_readRooms' : Int32) (t_readString' : Int32) (t_spot' : Int32) (t_token' : Int32) (t_toldOnce' : Int32) (t_value' : Int32) (t_readLaws' : Nat → Int32) (t_readPage' : Nat → Int32) (hf : f_X8_readLine t_readRooms t_readDoors t_readString t_readLawMany t_toldOnce t_highRoom t_highDoor t_taped t_broken t_brokenAt t_spot t_here t_token t_value t_cuts t_letters t_readLaws t_readPage t_tape = some (t_broken', t_brokenAt', t_here', t_highDoor', t_highRoom', t_readDoors', t_readLawMany', t_readRooms', t_readString', t_spot', t_token', t_toldOnce', t_value', t_readLaws', t_readPage')) : CV l yX8_readLine wsX8_readLine rmX8_readLine [.ref t_q] g sz [oX8 t_q t_state_q t_roomMany t_doorMany t_stringLong t_laws_q t_lawMany t_readPage_q t_readLaws_q t_readRooms t_readDoors t_readString t_readLawMany t_toldOnce t_highRoom t_highDoor t_tape_q t_taped t_fault t_broken t_brokenAt t_spot t_here t_token t_value t_cuts_q t_letters_q t_work_q t_pages_q t_canBe_q t_leadsOn_q t_seen_q t_seenMany t_heard_q t_heardMany t_isKept_q t_lanes_q t_lengths_q t_cells_q t_torn, aI g t_cuts_q 15 t_cuts, aI g t_letters_q 66 t_letters, aI g t_readLaws_q 18 t_readLaws, aI g t_readPage_q 49 t_readPage, aI g t_tape_q 320 t_tape] [oX8 t_q t_state_q t_roomMany t_doorMany t_stringLong t_laws_q t_lawMany t_readPage_q t_readLaws_q t_readRooms' t_readDoors' t_readString' t_readLawMany' t_toldOnce' t_highRoom' t_highDoor' t_tape_q t_taped t_fault t_broken' t_brokenAt' t_spot' t_here' t_token' t_value' t_cuts_q t_letters_q t_work_q t_pages_q t_canBe_q t_leadsOn_q t_seen_q t_seenMany t_heard_q t_heardMany t_isKept_q t_lanes_q t_lengths_q t_cells_q t_torn, aI g t_cuts_q 15 t_cuts, aI g t_letters_q 66 t_letters, aI g t_readLaws_q 18 t_readLaws', aI g t_readPage_q 49 t_readPage', aI g t_tape_q 320 t_tape] := by
  refine ent_v (cc := cX8_readLine) (maxL := 3) (by decide) rfl (Nat.le_of_ble_eq_true rfl) ?_
  intro p e s m args below meth c A Q hx hb hml hown hts hK hz hk hA hD hP hS hret ls hl
  have hown : s.vm.findClass RX8 = some m.cls := hown
  have inX8 : ∀ w ∈ u_ws RX8 TX8 39, w ∈ wsX8_readLine := by decide +kernel
  have k76 := hts (.fieldLink RX8 76 "ThreadMovedModel" "broken" "I") (by decide +kernel)
  have k85 := hts (.fieldLink RX8 85 "ThreadMovedModel" "token" "I") (by decide +kernel)
  have k123 := hts (.fieldLink RX8 123 "ThreadMovedModel" "readDoors" "I") (by decide +kernel)
  have k133 := hts (.fieldLink RX8 133 "ThreadMovedModel" "readLawMany" "I") (by decide +kernel)
  have k154 := hts (.fieldLink RX8 154 "ThreadMovedModel" "toldOnce" "I") (by decide +kernel)
  have q148 := hts (.constantLong RX8 148 (8)) (by decide +kernel)
  have q150 := hts (.constantLong RX8 150 (3)) (by decide +kernel)
  have q152 := hts (.constantLong RX8 152 (5)) (by decide +kernel)
  have hl : lv_has ls 3 [(0, .ref t_q)] := hl
  have hret : ∀ (t_brokenz : Int32) (t_brokenAtz : Int32) (t_herez : Int32) (t_highDoorz : Int32) (t_highRoomz : Int32) (t_readDoorsz : Int32) (t_readLawManyz : Int32) (t_readRoomsz : Int32) (t_readStringz : Int32) (t_spotz : Int32) (t_tokenz : Int32) (t_toldOncez : Int32) (t_valuez : Int32) (t_readLawsz : Nat → Int32) (t_readPagez : Nat → Int32), (t_brokenz, t_brokenAtz, t_herez, t_highDoorz, t_highRoomz, t_readDoorsz, t_readLawManyz, t_readRoomsz, t_readStringz, t_spotz, t_tokenz, t_toldOncez, t_valuez, t_readLawsz, t_readPagez) = (t_broken', t_brokenAt', t_here', t_highDoor', t_highRoom', t_readDoors', t_readLawMany', t_readRooms', t_readString', t_spot', t_token', t_toldOnce', t_value', t_readLaws', t_readPage') → ∀ (H : Heap) (locs : List Loc) (pc : Nat) (ls : Array Slot), va_P g.1 vwCl [oX8 t_q t_state_q t_roomMany t_doorMany t_stringLong t_laws_q t_lawMany t_readPage_q t_readLaws_q t_readRoomsz t_readDoorsz t_readStringz t_readLawManyz t_toldOncez t_highRoomz t_highDoorz t_tape_q t_taped t_fault t_brokenz t_brokenAtz t_spotz t_herez t_tokenz t_valuez t_cuts_q t_letters_q t_work_q t_pages_q t_canBe_q t_leadsOn_q t_seen_q t_seenMany t_heard_q t_heardMany t_isKept_q t_lanes_q t_lengths_q t_cells_q t_torn, aI g t_cuts_q 15 t_cuts, aI g t_letters_q 66 t_letters, aI g t_readLaws_q 18 t_readLawsz, aI g t_readPage_q 49 t_readPagez, aI g t_tape_q 320 t_tape] H → va_S A s.heap H locs → decode cX8_readLine pc = .ok (.return_, 1) → W p l e rmX8_readLine s m args below meth c H locs 0 0 Q (F0 m pc ls []) := by
    intro t_brokenz t_brokenAtz t_herez t_highDoorz t_highRoomz t_readDoorsz t_readLawManyz t_readRoomsz t_readStringz t_spotz t_tokenz t_toldOncez t_valuez t_readLawsz t_readPagez he H locs pc ls hP hS hd
    cases he
    exact hret H locs pc ls hP hS hd
  unfold f_X8_readLine at hf
  refine lv_aload_n hx hb dX8_readLine_0 rfl (lv_at hl 0 rfl) ?_
  obtain ⟨r_1, hc_2, hf⟩ := ob1_e hf
  refine kV_i (wn := [oX8 t_q t_state_q t_roomMany t_doorMany t_stringLong t_laws_q t_lawMany t_readPage_q t_readLaws_q t_readRooms t_readDoors t_readString t_readLawMany t_toldOnce t_highRoom t_highDoor t_tape_q t_taped t_fault t_broken t_brokenAt t_spot t_here t_token t_value t_cuts_q t_letters_q t_work_q t_pages_q t_canBe_q t_leadsOn_q t_seen_q t_seenMany t_heard_q t_heardMany t_isKept_q t_lanes_q t_lengths_q t_cells_q t_torn, aI g t_cuts_q 15 t_cuts, aI g t_letters_q 66 t_letters, aI g t_readLaws_q 18 t_readLaws, aI g t_readPage_q 49 t_readPage, aI g t_tape_q 320 t_tape]) (As := []) (rest := []) (c_X8_nameHere l g _ t_q t_state_q t_laws_q t_readPage_q t_readLaws_q t_tape_q t_cuts_q t_letters_q t_work_q t_pages_q t_canBe_q t_leadsOn_q t_seen_q t_heard_q t_isKept_q t_lanes_q t_lengths_q t_cells_q t_roomMany t_doorMany t_stringLong t_lawMany t_readRooms t_readDoors t_readString t_readLawMany t_toldOnce t_highRoom t_highDoor t_taped t_fault t_broken t_brokenAt t_spot t_here t_token t_value t_seenMany t_heardMany t_torn t_cuts t_letters t_tape r_1 hc_2) ⟨hx, hb, hml, hown, hts⟩ (cwV 0 hts gX8_readLine_X8_nameHere rfl rfl rfl (by decide +kernel) ⟨by decide, by decide⟩) hK hz hk hP (hD.re rfl) hS hA [0, 1, 2, 5] rfl rfl rfl rfl rfl rfl rfl hl.1 rfl (Nat.le_of_ble_eq_true rfl) dX8_readLine_1 (fun H locs hP hS => ?_)
  refine lv_istore_n (lv' := [(1, .int r_1), (0, .ref t_q)]) hx hb dX8_readLine_4 rfl hl (by decide) rfl (fun ls hl => ?_)
  refine lv_iload_n hx hb dX8_readLine_5 rfl (lv_at hl 0 rfl) ?_
  refine lv_i2l hx hb dX8_readLine_6 rfl ?_
  refine lv_lconst (v := (0 : Int64)) hx hb dX8_readLine_7 (by decide) ?_
  refine lv_ldc2 hx hb hown q148 dX8_readLine_8 ?_
  obtain ⟨r_3, hc_4, hf⟩ := ob1_e hf
  refine kS_i (wn := [oX8 t_q t_state_q t_roomMany t_doorMany t_stringLong t_laws_q t_lawMany t_readPage_q t_readLaws_q t_readRooms t_readDoors t_readString t_readLawMany t_toldOnce t_highRoom t_highDoor t_tape_q t_taped t_fault t_broken t_brokenAt t_spot t_here t_token t_value t_cuts_q t_letters_q t_work_q t_pages_q t_canBe_q t_leadsOn_q t_seen_q t_seenMany t_heard_q t_heardMany t_isKept_q t_lanes_q t_lengths_q t_cells_q t_torn, aI g t_cuts_q 15 t_cuts, aI g t_letters_q 66 t_letters, aI g t_readLaws_q 18 t_readLaws, aI g t_readPage_q 49 t_readPage, aI g t_tape_q 320 t_tape]) (As := [.long (r_1.toInt64), .long (0 : Int64), .long (8 : Int64)]) (rest := []) (c_X8_in l g _ (r_1.toInt64) (0 : Int64) (8 : Int64) r_3 hc_4) ⟨hx, hb, hml, hown, hts⟩ (va_cwS 3 hts gX8_readLine_X8_in rfl rfl rfl (by decide +kernel) ⟨by decide, by decide⟩) hK hz hk hP (hD.re rfl) hS hA [] rfl rfl rfl rfl rfl hl.1 rfl (Nat.le_of_ble_eq_true rfl) dX8_readLine_11 (fun H locs hP hS => ?_)
  refine lv_if_ne (tgt := 23) hx hb dX8_readLine_14 (by decide) (fun c_5 => ?_) (fun c_5 => ?_)
  · have hf := ite_f hf c_5
    refine lv_iload_n hx hb dX8_readLine_23 rfl (lv_at hl 0 rfl) ?_
    refine lv_i2l hx hb dX8_readLine_24 rfl ?_
    refine lv_ldc2 hx hb hown q150 dX8_readLine_25 ?_
    refine lv_ldc2 hx hb hown q152 dX8_readLine_28 ?_
    obtain ⟨r_6, hc_7, hf⟩ := ob1_e hf
    refine kS_i (wn := [oX8 t_q t_state_q t_roomMany t_doorMany t_stringLong t_laws_q t_lawMany t_readPage_q t_readLaws_q t_readRooms t_readDoors t_readString t_readLawMany t_toldOnce t_highRoom t_highDoor t_tape_q t_taped t_fault t_broken t_brokenAt t_spot t_here t_token t_value t_cuts_q t_letters_q t_work_q t_pages_q t_canBe_q t_leadsOn_q t_seen_q t_seenMany t_heard_q t_heardMany t_isKept_q t_lanes_q t_lengths_q t_cells_q t_torn, aI g t_cuts_q 15 t_cuts, aI g t_letters_q 66 t_letters, aI g t_readLaws_q 18 t_readLaws, aI g t_readPage_q 49 t_readPage, aI g t_tape_q 320 t_tape]) (As := [.long (r_1.toInt64), .long (3 : Int64), .long (5 : Int64)]) (rest := []) (c_X8_in l g _ (r_1.toInt64) (3 : Int64) (5 : Int64) r_6 hc_7) ⟨hx, hb, hml, hown, hts⟩ (va_cwS 3 hts gX8_readLine_X8_in rfl rfl rfl (by decide +kernel) ⟨by decide, by decide⟩) hK hz hk hP (hD.re rfl) hS hA [] rfl rfl rfl rfl rfl hl.1 rfl (Nat.le_of_ble_eq_true rfl) dX8_readLine_31 (fun H locs hP hS => ?_)
    refine lv_istore_n (lv' := [(2, .int r_6), (1, .int r_1), (0, .ref t_q)]) hx hb dX8_readLine_34 rfl hl (by decide) rfl (fun ls hl => ?_)
    refine lv_iload_n hx hb dX8_readLine_35 rfl (lv_at hl 1 rfl) ?_
    refine lv_iconst (v := (1 : Int32)) hx hb dX8_readLine_36 (by decide) ?_
    obtain ⟨j_10, hj_10, hf⟩ := jn2_e hf
    have J_10 : ∀ (t_broken_8 : Int32) (t_brokenAt_9 : Int32), j_10 t_broken_8 t_brokenAt_9 = some (t_broken', t_brokenAt', t_here', t_highDoor', t_highRoom', t_readDoors', t_readLawMany', t_readRooms', t_readString', t_spot', t_token', t_toldOnce', t_value', t_readLaws', t_readPage') → ∀ (H : Heap) (locs : List Loc) (ls : Array Slot), va_P g.1 vwCl [oX8 t_q t_state_q t_roomMany t_doorMany t_stringLong t_laws_q t_lawMany t_readPage_q t_readLaws_q t_readRooms t_readDoors t_readString t_readLawMany t_toldOnce t_highRoom t_highDoor t_tape_q t_taped t_fault t_broken_8 t_brokenAt_9 t_spot t_here t_token t_value t_cuts_q t_letters_q t_work_q t_pages_q t_canBe_q t_leadsOn_q t_seen_q t_seenMany t_heard_q t_heardMany t_isKept_q t_lanes_q t_lengths_q t_cells_q t_torn, aI g t_cuts_q 15 t_cuts, aI g t_letters_q 66 t_letters, aI g t_readLaws_q 18 t_readLaws, aI g t_readPage_q 49 t_readPage, aI g t_tape_q 320 t_tape] H → va_S A s.heap H locs → lv_has ls 3 [(0, .ref t_q), (1, .int r_1), (2, .int r_6)] → W p l e rmX8_readLine s m args below meth c H locs 0 0 Q (F0 m 67 ls []) := by
      intro t_broken_8 t_brokenAt_9 hf H locs ls hP hS hl
      rw [hj_10] at hf
      refine lv_iload_n hx hb dX8_readLine_67 rfl (lv_at hl 1 rfl) ?_
      refine lv_iconst (v := (1 : Int32)) hx hb dX8_readLine_68 (by decide) ?_
      obtain ⟨j_13, hj_13, hf⟩ := jn2_e hf
      have J_13 : ∀ (t_broken_11 : Int32) (t_brokenAt_12 : Int32), j_13 t_broken_11 t_brokenAt_12 = some (t_broken', t_brokenAt', t_here', t_highDoor', t_highRoom', t_readDoors', t_readLawMany', t_readRooms', t_readString', t_spot', t_token', t_toldOnce', t_value', t_readLaws', t_readPage') → ∀ (H : Heap) (locs : List Loc) (ls : Array Slot), va_P g.1 vwCl [oX8 t_q t_state_q t_roomMany t_doorMany t_stringLong t_laws_q t_lawMany t_readPage_q t_readLaws_q t_readRooms t_readDoors t_readString t_readLawMany t_toldOnce t_highRoom t_highDoor t_tape_q t_taped t_fault t_broken_11 t_brokenAt_12 t_spot t_here t_token t_value t_cuts_q t_letters_q t_work_q t_pages_q t_canBe_q t_leadsOn_q t_seen_q t_seenMany t_heard_q t_heardMany t_isKept_q t_lanes_q t_lengths_q t_cells_q t_torn, aI g t_cuts_q 15 t_cuts, aI g t_letters_q 66 t_letters, aI g t_readLaws_q 18 t_readLaws, aI g t_readPage_q 49 t_readPage, aI g t_tape_q 320 t_tape] H → va_S A s.heap H locs → lv_has ls 3 [(0, .ref t_q), (1, .int r_1), (2, .int r_6)] → W p l e rmX8_readLine s m args below meth c H locs 0 0 Q (F0 m 93 ls []) := by
        intro t_broken_11 t_brokenAt_12 hf H locs ls hP hS hl
        rw [hj_13] at hf
        refine lv_aload_n hx hb dX8_readLine_93 rfl (lv_at hl 0 rfl) ?_
        refine lv_dup hx hb dX8_readLine_94 rfl ?_
        refine va_get (D := g.1) (ci := 8) (v := .int t_toldOnce) (C := RX8) (T := TX8) (N := 39) hx hb hts inX8 hown hK hP 0 rfl rfl 12 (by decide) k154 (fun _ h9 => h9) rfl dX8_readLine_95 ?_
        refine lv_iconst (v := (1 : Int32)) hx hb dX8_readLine_98 (by decide) ?_
        refine lv_iload_n hx hb dX8_readLine_99 rfl (lv_at hl 1 rfl) ?_
        refine lv_ishl hx hb dX8_readLine_100 ?_
        refine lv_ior hx hb dX8_readLine_101 ?_
        obtain ⟨t_toldOnce_14, et_toldOnce_14, hf⟩ := bnd_e hf
        refine tp_i et_toldOnce_14 ?_
        refine va_put (D := g.1) (ci := 8) (v := .int t_toldOnce_14) (ty := .int) (C := RX8) (T := TX8) (N := 39) hx hb hts inX8 tyX8 tyX8_ok nmX8 hown hK hP (hD.re rfl) hS 0 rfl rfl 12 (by decide) k154 (fun _ h9 => h9) rfl (by decide +kernel) rfl rfl (Nat.le_of_ble_eq_true rfl) dX8_readLine_102 (fun H locs hP _ hS => ?_)
        have hP : va_P g.1 vwCl [oX8 t_q t_state_q t_roomMany t_doorMany t_stringLong t_laws_q t_lawMany t_readPage_q t_readLaws_q t_readRooms t_readDoors t_readString t_readLawMany t_toldOnce_14 t_highRoom t_highDoor t_tape_q t_taped t_fault t_broken_11 t_brokenAt_12 t_spot t_here t_token t_value t_cuts_q t_letters_q t_work_q t_pages_q t_canBe_q t_leadsOn_q t_seen_q t_seenMany t_heard_q t_heardMany t_isKept_q t_lanes_q t_lengths_q t_cells_q t_torn, aI g t_cuts_q 15 t_cuts, aI g t_letters_q 66 t_letters, aI g t_readLaws_q 18 t_readLaws, aI g t_readPage_q 49 t_readPage, aI g t_tape_q 320 t_tape] H := hP
        refine lv_aload_n hx hb dX8_readLine_105 rfl (lv_at hl 0 rfl) ?_
        obtain ⟨t_broken_15, t_brokenAt_16, t_here_17, t_spot_18, t_token_19, t_value_20, hc_21, hf⟩ := ob6_e hf
        refine kV_v (wn := [oX8 t_q t_state_q t_roomMany t_doorMany t_stringLong t_laws_q t_lawMany t_readPage_q t_readLaws_q t_readRooms t_readDoors t_readString t_readLawMany t_toldOnce_14 t_highRoom t_highDoor t_tape_q t_taped t_fault t_broken_15 t_brokenAt_16 t_spot_18 t_here_17 t_token_19 t_value_20 t_cuts_q t_letters_q t_work_q t_pages_q t_canBe_q t_leadsOn_q t_seen_q t_seenMany t_heard_q t_heardMany t_isKept_q t_lanes_q t_lengths_q t_cells_q t_torn, aI g t_cuts_q 15 t_cuts, aI g t_letters_q 66 t_letters, aI g t_readLaws_q 18 t_readLaws, aI g t_readPage_q 49 t_readPage, aI g t_tape_q 320 t_tape]) (As := []) (rest := []) (c_X8_step l g _ t_q t_state_q t_laws_q t_readPage_q t_readLaws_q t_tape_q t_cuts_q t_letters_q t_work_q t_pages_q t_canBe_q t_leadsOn_q t_seen_q t_heard_q t_isKept_q t_lanes_q t_lengths_q t_cells_q t_roomMany t_doorMany t_stringLong t_lawMany t_readRooms t_readDoors t_readString t_readLawMany t_toldOnce_14 t_highRoom t_highDoor t_taped t_fault t_broken_11 t_brokenAt_12 t_spot t_here t_token t_value t_seenMany t_heardMany t_torn t_tape t_broken_15 t_brokenAt_16 t_here_17 t_spot_18 t_token_19 t_value_20 hc_21) ⟨hx, hb, hml, hown, hts⟩ (cwV 0 hts gX8_readLine_X8_step rfl rfl rfl (by decide +kernel) ⟨by decide, by decide⟩) hK hz hk hP (hD.re rfl) hS hA [0, 5] rfl rfl rfl rfl rfl rfl rfl hl.1 rfl (Nat.le_of_ble_eq_true rfl) dX8_readLine_106 (fun H locs hP hS => ?_)
        refine lv_aload_n hx hb dX8_readLine_109 rfl (lv_at hl 0 rfl) ?_
        refine va_get (D := g.1) (ci := 8) (v := .int t_broken_15) (C := RX8) (T := TX8) (N := 39) hx hb hts inX8 hown hK hP 0 rfl rfl 18 (by decide) k76 (fun _ h9 => h9) rfl dX8_readLine_110 ?_
        refine lv_if_le (tgt := 117) hx hb dX8_readLine_113 (by decide) (fun c_22 => ?_) (fun c_22 => ?_)
        · have hf := ite_t hf c_22
          refine lv_iload_n hx hb dX8_readLine_117 rfl (lv_at hl 1 rfl) ?_
          refine lv_iconst (v := (1 : Int32)) hx hb dX8_readLine_118 (by decide) ?_
          obtain ⟨j_37, hj_37, hf⟩ := jn14_e hf
          have J_37 : ∀ (t_broken_23 : Int32) (t_brokenAt_24 : Int32) (t_here_25 : Int32) (t_highDoor_26 : Int32) (t_highRoom_27 : Int32) (t_readDoors_28 : Int32) (t_readLawMany_29 : Int32) (t_readRooms_30 : Int32) (t_readString_31 : Int32) (t_spot_32 : Int32) (t_token_33 : Int32) (t_value_34 : Int32) (t_readLaws_35 : Nat → Int32) (t_readPage_36 : Nat → Int32), j_37 t_broken_23 t_brokenAt_24 t_here_25 t_highDoor_26 t_highRoom_27 t_readDoors_28 t_readLawMany_29 t_readRooms_30 t_readString_31 t_spot_32 t_token_33 t_value_34 t_readLaws_35 t_readPage_36 = some (t_broken', t_brokenAt', t_here', t_highDoor', t_highRoom', t_readDoors', t_readLawMany', t_readRooms', t_readString', t_spot', t_token', t_toldOnce', t_value', t_readLaws', t_readPage') → ∀ (H : Heap) (locs : List Loc) (ls : Array Slot), va_P g.1 vwCl [oX8 t_q t_state_q t_roomMany t_doorMany t_stringLong t_laws_q t_lawMany t_readPage_q t_readLaws_q t_readRooms_30 t_readDoors_28 t_readString_31 t_readLawMany_29 t_toldOnce_14 t_highRoom_27 t_highDoor_26 t_tape_q t_taped t_fault t_broken_23 t_brokenAt_24 t_spot_32 t_here_25 t_token_33 t_value_34 t_cuts_q t_letters_q t_work_q t_pages_q t_canBe_q t_leadsOn_q t_seen_q t_seenMany t_heard_q t_heardMany t_isKept_q t_lanes_q t_lengths_q t_cells_q t_torn, aI g t_cuts_q 15 t_cuts, aI g t_letters_q 66 t_letters, aI g t_readLaws_q 18 t_readLaws_35, aI g t_readPage_q 49 t_readPage_36, aI g t_tape_q 320 t_tape] H → va_S A s.heap H locs → lv_has ls 3 [(0, .ref t_q)] → W p l e rmX8_readLine s m args below meth c H locs 0 0 Q (F0 m 146 ls []) := by
            intro t_broken_23 t_brokenAt_24 t_here_25 t_highDoor_26 t_highRoom_27 t_readDoors_28 t_readLawMany_29 t_readRooms_30 t_readString_31 t_spot_32 t_token_33 t_value_34 t_readLaws_35 t_readPage_36 hf H locs ls hP hS hl
            rw [hj_37] at hf
            refine lv_aload_n hx hb dX8_readLine_146 rfl (lv_at hl 0 rfl) ?_
            refine va_get (D := g.1) (ci := 8) (v := .int t_broken_23) (C := RX8) (T := TX8) (N := 39) hx hb hts inX8 hown hK hP 0 rfl rfl 18 (by decide) k76 (fun _ h9 => h9) rfl dX8_readLine_147 ?_
            obtain ⟨j_40, hj_40, hf⟩ := jn2_e hf
            have J_40 : ∀ (t_broken_38 : Int32) (t_brokenAt_39 : Int32), j_40 t_broken_38 t_brokenAt_39 = some (t_broken', t_brokenAt', t_here', t_highDoor', t_highRoom', t_readDoors', t_readLawMany', t_readRooms', t_readString', t_spot', t_token', t_toldOnce', t_value', t_readLaws', t_readPage') → ∀ (H : Heap) (locs : List Loc) (ls : Array Slot), va_P g.1 vwCl [oX8 t_q t_state_q t_roomMany t_doorMany t_stringLong t_laws_q t_lawMany t_readPage_q t_readLaws_q t_readRooms_30 t_readDoors_28 t_readString_31 t_readLawMany_29 t_toldOnce_14 t_highRoom_27 t_highDoor_26 t_tape_q t_taped t_fault t_broken_38 t_brokenAt_39 t_spot_32 t_here_25 t_token_33 t_value_34 t_cuts_q t_letters_q t_work_q t_pages_q t_canBe_q t_leadsOn_q t_seen_q t_seenMany t_heard_q t_heardMany t_isKept_q t_lanes_q t_lengths_q t_cells_q t_torn, aI g t_cuts_q 15 t_cuts, aI g t_letters_q 66 t_letters, aI g t_readLaws_q 18 t_readLaws_35, aI g t_readPage_q 49 t_readPage_36, aI g t_tape_q 320 t_tape] H → va_S A s.heap H locs → lv_has ls 3 [(0, .ref t_q)] → W p l e rmX8_readLine s m args below meth c H locs 0 0 Q (F0 m 166 ls []) := by
              intro t_broken_38 t_brokenAt_39 hf H locs ls hP hS hl
              rw [hj_40] at hf
              refine lv_aload_n hx hb dX8_readLine_166 rfl (lv_at hl 0 rfl) ?_
              obtain ⟨t_broken_41, t_brokenAt_42, t_here_43, t_spot_44, t_token_45, t_value_46, hc_47, hf⟩ := ob6_e hf
              refine kV_v (wn := [oX8 t_q t_state_q t_roomMany t_doorMany t_stringLong t_laws_q t_lawMany t_readPage_q t_readLaws_q t_readRooms_30 t_readDoors_28 t_readString_31 t_readLawMany_29 t_toldOnce_14 t_highRoom_27 t_highDoor_26 t_tape_q t_taped t_fault t_broken_41 t_brokenAt_42 t_spot_44 t_here_43 t_token_45 t_value_46 t_cuts_q t_letters_q t_work_q t_pages_q t_canBe_q t_leadsOn_q t_seen_q t_seenMany t_heard_q t_heardMany t_isKept_q t_lanes_q t_lengths_q t_cells_q t_torn, aI g t_cuts_q 15 t_cuts, aI g t_letters_q 66 t_letters, aI g t_readLaws_q 18 t_readLaws_35, aI g t_readPage_q 49 t_readPage_36, aI g t_tape_q 320 t_tape]) (As := []) (rest := []) (c_X8_step l g _ t_q t_state_q t_laws_q t_readPage_q t_readLaws_q t_tape_q t_cuts_q t_letters_q t_work_q t_pages_q t_canBe_q t_leadsOn_q t_seen_q t_heard_q t_isKept_q t_lanes_q t_lengths_q t_cells_q t_roomMany t_doorMany t_stringLong t_lawMany t_readRooms_30 t_readDoors_28 t_readString_31 t_readLawMany_29 t_toldOnce_14 t_highRoom_27 t_highDoor_26 t_taped t_fault t_broken_38 t_brokenAt_39 t_spot_32 t_here_25 t_token_33 t_value_34 t_seenMany t_heardMany t_torn t_tape t_broken_41 t_brokenAt_42 t_here_43 t_spot_44 t_token_45 t_value_46 hc_47) ⟨hx, hb, hml, hown, hts⟩ (cwV 0 hts gX8_readLine_X8_step rfl rfl rfl (by decide +kernel) ⟨by decide, by decide⟩) hK hz hk hP (hD.re rfl) hS hA [0, 5] rfl rfl rfl rfl rfl rfl rfl hl.1 rfl (Nat.le_of_ble_eq_true rfl) dX8_readLine_167 (fun H locs hP hS => ?_)
              exact hret t_broken_41 t_brokenAt_42 t_here_43 t_highDoor_26 t_highRoom_27 t_readDoors_28 t_readLawMany_29 t_readRooms_30 t_readString_31 t_spot_44 t_token_45 t_toldOnce_14 t_value_46 t_readLaws_35 t_readPage_36 (Option.some.inj hf) _ _ _ _ hP hS dX8_readLine_170
            refine lv_if_ne (tgt := 166) hx hb dX8_readLine_150 (by decide) (fun c_48 => ?_) (fun c_48 => ?_)
            · have hf := ite_f hf c_48
              exact J_40 t_broken_23 t_brokenAt_24 hf _ _ _ hP hS (lv_sub hl [0] rfl)
            · have hf := ite_t hf c_48
              refine lv_aload_n hx hb dX8_readLine_153 rfl (lv_at hl 0 rfl) ?_
              refine va_get (D := g.1) (ci := 8) (v := .int t_token_33) (C := RX8) (T := TX8) (N := 39) hx hb hts inX8 hown hK hP 0 rfl rfl 22 (by decide) k85 (fun _ h9 => h9) rfl dX8_readLine_154 ?_
              refine lv_iconst (v := (3 : Int32)) hx hb dX8_readLine_157 (by decide) ?_
              refine lv_icmp_eq (tgt := 166) hx hb dX8_readLine_158 (by decide) (fun c_49 => ?_) (fun c_49 => ?_)
              · have hf := ite_t hf c_49
                exact J_40 t_broken_23 t_brokenAt_24 hf _ _ _ hP hS (lv_sub hl [0] rfl)
              · have hf := ite_f hf c_49
                refine lv_aload_n hx hb dX8_readLine_161 rfl (lv_at hl 0 rfl) ?_
                refine lv_iconst (v := (2 : Int32)) hx hb dX8_readLine_162 (by decide) ?_
                obtain ⟨t_broken_50, t_brokenAt_51, hc_52, hf⟩ := ob2_e hf
                refine kV_v (wn := [oX8 t_q t_state_q t_roomMany t_doorMany t_stringLong t_laws_q t_lawMany t_readPage_q t_readLaws_q t_readRooms_30 t_readDoors_28 t_readString_31 t_readLawMany_29 t_toldOnce_14 t_highRoom_27 t_highDoor_26 t_tape_q t_taped t_fault t_broken_50 t_brokenAt_51 t_spot_32 t_here_25 t_token_33 t_value_34 t_cuts_q t_letters_q t_work_q t_pages_q t_canBe_q t_leadsOn_q t_seen_q t_seenMany t_heard_q t_heardMany t_isKept_q t_lanes_q t_lengths_q t_cells_q t_torn, aI g t_cuts_q 15 t_cuts, aI g t_letters_q 66 t_letters, aI g t_readLaws_q 18 t_readLaws_35, aI g t_readPage_q 49 t_readPage_36, aI g t_tape_q 320 t_tape]) (As := [.int (2 : Int32)]) (rest := []) (c_X8_fails l g _ t_q t_state_q t_laws_q t_readPage_q t_readLaws_q t_tape_q t_cuts_q t_letters_q t_work_q t_pages_q t_canBe_q t_leadsOn_q t_seen_q t_heard_q t_isKept_q t_lanes_q t_lengths_q t_cells_q t_roomMany t_doorMany t_stringLong t_lawMany t_readRooms_30 t_readDoors_28 t_readString_31 t_readLawMany_29 t_toldOnce_14 t_highRoom_27 t_highDoor_26 t_taped t_fault t_broken_23 t_brokenAt_24 t_spot_32 t_here_25 t_token_33 t_value_34 t_seenMany t_heardMany t_torn (2 : Int32) t_broken_50 t_brokenAt_51 hc_52) ⟨hx, hb, hml, hown, hts⟩ (cwV 1 hts gX8_readLine_X8_fails rfl rfl rfl (by decide +kernel) ⟨by decide, by decide⟩) hK hz hk hP (hD.re rfl) hS hA [0] rfl rfl rfl rfl rfl rfl rfl hl.1 rfl (Nat.le_of_ble_eq_true rfl) dX8_readLine_163 (fun H locs hP hS => ?_)
                exact J_40 t_broken_50 t_brokenAt_51 hf _ _ _ hP hS (lv_sub hl [0] rfl)
          refine lv_icmp_ne (tgt := 129) hx hb dX8_readLine_119 (by decide) (fun c_53 => ?_) (fun c_53 => ?_)
          · have hf := ite_f hf c_53
            refine lv_iload_n hx hb dX8_readLine_129 rfl (lv_at hl 2 rfl) ?_
            refine lv_if_eq (tgt := 141) hx hb dX8_readLine_130 (by decide) (fun c_54 => ?_) (fun c_54 => ?_)
            · have hf := ite_t hf c_54
              refine lv_aload_n hx hb dX8_readLine_141 rfl (lv_at hl 0 rfl) ?_
              refine lv_iload_n hx hb dX8_readLine_142 rfl (lv_at hl 1 rfl) ?_
              obtain ⟨t_broken_55, t_brokenAt_56, t_here_57, t_highRoom_58, t_readRooms_59, t_readString_60, t_spot_61, t_token_62, t_value_63, t_readPage_64, hc_65, hf⟩ := ob10_e hf
              refine kV_v (wn := [oX8 t_q t_state_q t_roomMany t_doorMany t_stringLong t_laws_q t_lawMany t_readPage_q t_readLaws_q t_readRooms_59 t_readDoors t_readString_60 t_readLawMany t_toldOnce_14 t_highRoom_58 t_highDoor t_tape_q t_taped t_fault t_broken_55 t_brokenAt_56 t_spot_61 t_here_57 t_token_62 t_value_63 t_cuts_q t_letters_q t_work_q t_pages_q t_canBe_q t_leadsOn_q t_seen_q t_seenMany t_heard_q t_heardMany t_isKept_q t_lanes_q t_lengths_q t_cells_q t_torn, aI g t_cuts_q 15 t_cuts, aI g t_letters_q 66 t_letters, aI g t_readLaws_q 18 t_readLaws, aI g t_readPage_q 49 t_readPage_64, aI g t_tape_q 320 t_tape]) (As := [.int r_1]) (rest := []) (c_X8_readOnce l g _ t_q t_state_q t_laws_q t_readPage_q t_readLaws_q t_tape_q t_cuts_q t_letters_q t_work_q t_pages_q t_canBe_q t_leadsOn_q t_seen_q t_heard_q t_isKept_q t_lanes_q t_lengths_q t_cells_q t_roomMany t_doorMany t_stringLong t_lawMany t_readRooms t_readDoors t_readString t_readLawMany t_toldOnce_14 t_highRoom t_highDoor t_taped t_fault t_broken_15 t_brokenAt_16 t_spot_18 t_here_17 t_token_19 t_value_20 t_seenMany t_heardMany t_torn t_cuts t_letters t_readPage t_tape r_1 t_broken_55 t_brokenAt_56 t_here_57 t_highRoom_58 t_readRooms_59 t_readString_60 t_spot_61 t_token_62 t_value_63 t_readPage_64 hc_65) ⟨hx, hb, hml, hown, hts⟩ (cwV 1 hts gX8_readLine_X8_readOnce rfl rfl rfl (by decide +kernel) ⟨by decide, by decide⟩) hK hz hk hP (hD.re rfl) hS hA [0, 1, 2, 4, 5] rfl rfl rfl rfl rfl rfl rfl hl.1 rfl (Nat.le_of_ble_eq_true rfl) dX8_readLine_143 (fun H locs hP hS => ?_)
              exact J_37 t_broken_55 t_brokenAt_56 t_here_57 t_highDoor t_highRoom_58 t_readDoors t_readLawMany t_readRooms_59 t_readString_60 t_spot_61 t_token_62 t_value_63 t_readLaws t_readPage_64 hf _ _ _ hP hS (lv_sub hl [0] rfl)
            · have hf := ite_f hf c_54
              refine lv_aload_n hx hb dX8_readLine_133 rfl (lv_at hl 0 rfl) ?_
              refine lv_iload_n hx hb dX8_readLine_134 rfl (lv_at hl 1 rfl) ?_
              obtain ⟨t_broken_66, t_brokenAt_67, t_here_68, t_highDoor_69, t_readLawMany_70, t_spot_71, t_token_72, t_value_73, t_readLaws_74, hc_75, hf⟩ := ob9_e hf
              refine kV_v (wn := [oX8 t_q t_state_q t_roomMany t_doorMany t_stringLong t_laws_q t_lawMany t_readPage_q t_readLaws_q t_readRooms t_readDoors t_readString t_readLawMany_70 t_toldOnce_14 t_highRoom t_highDoor_69 t_tape_q t_taped t_fault t_broken_66 t_brokenAt_67 t_spot_71 t_here_68 t_token_72 t_value_73 t_cuts_q t_letters_q t_work_q t_pages_q t_canBe_q t_leadsOn_q t_seen_q t_seenMany t_heard_q t_heardMany t_isKept_q t_lanes_q t_lengths_q t_cells_q t_torn, aI g t_cuts_q 15 t_cuts, aI g t_letters_q 66 t_letters, aI g t_readLaws_q 18 t_readLaws_74, aI g t_readPage_q 49 t_readPage, aI g t_tape_q 320 t_tape]) (As := [.int r_1]) (rest := []) (c_X8_readRule l g _ t_q t_state_q t_laws_q t_readPage_q t_readLaws_q t_tape_q t_cuts_q t_letters_q t_work_q t_pages_q t_canBe_q t_leadsOn_q t_seen_q t_heard_q t_isKept_q t_lanes_q t_lengths_q t_cells_q t_roomMany t_doorMany t_stringLong t_lawMany t_readRooms t_readDoors t_readString t_readLawMany t_toldOnce_14 t_highRoom t_highDoor t_taped t_fault t_broken_15 t_brokenAt_16 t_spot_18 t_here_17 t_token_19 t_value_20 t_seenMany t_heardMany t_torn t_readLaws t_tape r_1 t_broken_66 t_brokenAt_67 t_here_68 t_highDoor_69 t_readLawMany_70 t_spot_71 t_token_72 t_value_73 t_readLaws_74 hc_75) ⟨hx, hb, hml, hown, hts⟩ (cwV 1 hts gX8_readLine_X8_readRule rfl rfl rfl (by decide +kernel) ⟨by decide, by decide⟩) hK hz hk hP (hD.re rfl) hS hA [0, 3, 5] rfl rfl rfl rfl rfl rfl rfl hl.1 rfl (Nat.le_of_ble_eq_true rfl) dX8_readLine_135 (fun H locs hP hS => ?_)
              refine lv_goto (tgt := 146) hx hb dX8_readLine_138 (by decide) ?_
              exact J_37 t_broken_66 t_brokenAt_67 t_here_68 t_highDoor_69 t_highRoom t_readDoors t_readLawMany_70 t_readRooms t_readString t_spot_71 t_token_72 t_value_73 t_readLaws_74 t_readPage hf _ _ _ hP hS (lv_sub hl [0] rfl)
          · have hf := ite_t hf c_53
            refine lv_aload_n hx hb dX8_readLine_122 rfl (lv_at hl 0 rfl) ?_
            obtain ⟨t_broken_76, t_brokenAt_77, t_here_78, t_highRoom_79, t_readDoors_80, t_spot_81, t_token_82, t_value_83, t_readPage_84, hc_85, hf⟩ := ob9_e hf
            refine kV_v (wn := [oX8 t_q t_state_q t_roomMany t_doorMany t_stringLong t_laws_q t_lawMany t_readPage_q t_readLaws_q t_readRooms t_readDoors_80 t_readString t_readLawMany t_toldOnce_14 t_highRoom_79 t_highDoor t_tape_q t_taped t_fault t_broken_76 t_brokenAt_77 t_spot_81 t_here_78 t_token_82 t_value_83 t_cuts_q t_letters_q t_work_q t_pages_q t_canBe_q t_leadsOn_q t_seen_q t_seenMany t_heard_q t_heardMany t_isKept_q t_lanes_q t_lengths_q t_cells_q t_torn, aI g t_cuts_q 15 t_cuts, aI g t_letters_q 66 t_letters, aI g t_readLaws_q 18 t_readLaws, aI g t_readPage_q 49 t_readPage_84, aI g t_tape_q 320 t_tape]) (As := []) (rest := []) (c_X8_readDoor l g _ t_q t_state_q t_laws_q t_readPage_q t_readLaws_q t_tape_q t_cuts_q t_letters_q t_work_q t_pages_q t_canBe_q t_leadsOn_q t_seen_q t_heard_q t_isKept_q t_lanes_q t_lengths_q t_cells_q t_roomMany t_doorMany t_stringLong t_lawMany t_readRooms t_readDoors t_readString t_readLawMany t_toldOnce_14 t_highRoom t_highDoor t_taped t_fault t_broken_15 t_brokenAt_16 t_spot_18 t_here_17 t_token_19 t_value_20 t_seenMany t_heardMany t_torn t_cuts t_letters t_readPage t_tape t_broken_76 t_brokenAt_77 t_here_78 t_highRoom_79 t_readDoors_80 t_spot_81 t_token_82 t_value_83 t_readPage_84 hc_85) ⟨hx, hb, hml, hown, hts⟩ (cwV 0 hts gX8_readLine_X8_readDoor rfl rfl rfl (by decide +kernel) ⟨by decide, by decide⟩) hK hz hk hP (hD.re rfl) hS hA [0, 1, 2, 4, 5] rfl rfl rfl rfl rfl rfl rfl hl.1 rfl (Nat.le_of_ble_eq_true rfl) dX8_readLine_123 (fun H locs hP hS => ?_)
            refine lv_goto (tgt := 146) hx hb dX8_readLine_126 (by decide) ?_
            exact J_37 t_broken_76 t_brokenAt_77 t_here_78 t_highDoor t_highRoom_79 t_readDoors_80 t_readLawMany t_readRooms t_readString t_spot_81 t_token_82 t_value_83 t_readLaws t_readPage_84 hf _ _ _ hP hS (lv_sub hl [0] rfl)
        · have hf := ite_f hf c_22
          exact hret t_broken_15 t_brokenAt_16 t_here_17 t_highDoor t_highRoom t_readDoors t_readLawMany t_readRooms t_readString t_spot_18 t_token_19 t_toldOnce_14 t_value_20 t_readLaws t_readPage (Option.some.inj hf) _ _ _ _ hP hS dX8_readLine_116
      refine lv_icmp_eq (tgt := 93) hx hb dX8_readLine_69 (by decide) (fun c_86 => ?_) (fun c_86 => ?_)
      · have hf := ite_t hf c_86
        exact J_13 t_broken_8 t_brokenAt_9 hf _ _ _ hP hS (lv_sub hl [0, 1, 2] rfl)
      · have hf := ite_f hf c_86
        refine lv_iload_n hx hb dX8_readLine_72 rfl (lv_at hl 2 rfl) ?_
        refine lv_if_ne (tgt := 93) hx hb dX8_readLine_73 (by decide) (fun c_87 => ?_) (fun c_87 => ?_)
        · have hf := ite_f hf c_87
          exact J_13 t_broken_8 t_brokenAt_9 hf _ _ _ hP hS (lv_sub hl [0, 1, 2] rfl)
        · have hf := ite_t hf c_87
          refine lv_aload_n hx hb dX8_readLine_76 rfl (lv_at hl 0 rfl) ?_
          refine va_get (D := g.1) (ci := 8) (v := .int t_toldOnce) (C := RX8) (T := TX8) (N := 39) hx hb hts inX8 hown hK hP 0 rfl rfl 12 (by decide) k154 (fun _ h9 => h9) rfl dX8_readLine_77 ?_
          refine lv_iload_n hx hb dX8_readLine_80 rfl (lv_at hl 1 rfl) ?_
          refine lv_ishr hx hb dX8_readLine_81 ?_
          refine lv_iconst (v := (1 : Int32)) hx hb dX8_readLine_82 (by decide) ?_
          refine lv_iand hx hb dX8_readLine_83 ?_
          refine lv_iconst (v := (1 : Int32)) hx hb dX8_readLine_84 (by decide) ?_
          refine lv_icmp_ne (tgt := 93) hx hb dX8_readLine_85 (by decide) (fun c_88 => ?_) (fun c_88 => ?_)
          · have hf := ite_f hf c_88
            exact J_13 t_broken_8 t_brokenAt_9 hf _ _ _ hP hS (lv_sub hl [0, 1, 2] rfl)
          · have hf := ite_t hf c_88
            refine lv_aload_n hx hb dX8_readLine_88 rfl (lv_at hl 0 rfl) ?_
            refine lv_iconst (v := (4 : Int32)) hx hb dX8_readLine_89 (by decide) ?_
            obtain ⟨t_broken_89, t_brokenAt_90, hc_91, hf⟩ := ob2_e hf
            refine kV_v (wn := [oX8 t_q t_state_q t_roomMany t_doorMany t_stringLong t_laws_q t_lawMany t_readPage_q t_readLaws_q t_readRooms t_readDoors t_readString t_readLawMany t_toldOnce t_highRoom t_highDoor t_tape_q t_taped t_fault t_broken_89 t_brokenAt_90 t_spot t_here t_token t_value t_cuts_q t_letters_q t_work_q t_pages_q t_canBe_q t_leadsOn_q t_seen_q t_seenMany t_heard_q t_heardMany t_isKept_q t_lanes_q t_lengths_q t_cells_q t_torn, aI g t_cuts_q 15 t_cuts, aI g t_letters_q 66 t_letters, aI g t_readLaws_q 18 t_readLaws, aI g t_readPage_q 49 t_readPage, aI g t_tape_q 320 t_tape]) (As := [.int (4 : Int32)]) (rest := []) (c_X8_fails l g _ t_q t_state_q t_laws_q t_readPage_q t_readLaws_q t_tape_q t_cuts_q t_letters_q t_work_q t_pages_q t_canBe_q t_leadsOn_q t_seen_q t_heard_q t_isKept_q t_lanes_q t_lengths_q t_cells_q t_roomMany t_doorMany t_stringLong t_lawMany t_readRooms t_readDoors t_readString t_readLawMany t_toldOnce t_highRoom t_highDoor t_taped t_fault t_broken_8 t_brokenAt_9 t_spot t_here t_token t_value t_seenMany t_heardMany t_torn (4 : Int32) t_broken_89 t_brokenAt_90 hc_91) ⟨hx, hb, hml, hown, hts⟩ (cwV 1 hts gX8_readLine_X8_fails rfl rfl rfl (by decide +kernel) ⟨by decide, by decide⟩) hK hz hk hP (hD.re rfl) hS hA [0] rfl rfl rfl rfl rfl rfl rfl hl.1 rfl (Nat.le_of_ble_eq_true rfl) dX8_readLine_90 (fun H locs hP hS => ?_)
            exact J_13 t_broken_89 t_brokenAt_90 hf _ _ _ hP hS (lv_sub hl [0, 1, 2] rfl)
    obtain ⟨j_92, hj_92, hf⟩ := jn0_e hf
    have J_92 : j_92 = some (t_broken', t_brokenAt', t_here', t_highDoor', t_highRoom', t_readDoors', t_readLawMany', t_readRooms', t_readString', t_spot', t_token', t_toldOnce', t_value', t_readLaws', t_readPage') → ∀ (H : Heap) (locs : List Loc) (ls : Array Slot), va_P g.1 vwCl [oX8 t_q t_state_q t_roomMany t_doorMany t_stringLong t_laws_q t_lawMany t_readPage_q t_readLaws_q t_readRooms t_readDoors t_readString t_readLawMany t_toldOnce t_highRoom t_highDoor t_tape_q t_taped t_fault t_broken t_brokenAt t_spot t_here t_token t_value t_cuts_q t_letters_q t_work_q t_pages_q t_canBe_q t_leadsOn_q t_seen_q t_seenMany t_heard_q t_heardMany t_isKept_q t_lanes_q t_lengths_q t_cells_q t_torn, aI g t_cuts_q 15 t_cuts, aI g t_letters_q 66 t_letters, aI g t_readLaws_q 18 t_readLaws, aI g t_readPage_q 49 t_readPage, aI g t_tape_q 320 t_tape] H → va_S A s.heap H locs → lv_has ls 3 [(0, .ref t_q), (1, .int r_1), (2, .int r_6)] → W p l e rmX8_readLine s m args below meth c H locs 0 0 Q (F0 m 62 ls []) := by
      intro hf H locs ls hP hS hl
      rw [hj_92] at hf
      refine lv_aload_n hx hb dX8_readLine_62 rfl (lv_at hl 0 rfl) ?_
      refine lv_iconst (v := (5 : Int32)) hx hb dX8_readLine_63 (by decide) ?_
      obtain ⟨t_broken_93, t_brokenAt_94, hc_95, hf⟩ := ob2_e hf
      refine kV_v (wn := [oX8 t_q t_state_q t_roomMany t_doorMany t_stringLong t_laws_q t_lawMany t_readPage_q t_readLaws_q t_readRooms t_readDoors t_readString t_readLawMany t_toldOnce t_highRoom t_highDoor t_tape_q t_taped t_fault t_broken_93 t_brokenAt_94 t_spot t_here t_token t_value t_cuts_q t_letters_q t_work_q t_pages_q t_canBe_q t_leadsOn_q t_seen_q t_seenMany t_heard_q t_heardMany t_isKept_q t_lanes_q t_lengths_q t_cells_q t_torn, aI g t_cuts_q 15 t_cuts, aI g t_letters_q 66 t_letters, aI g t_readLaws_q 18 t_readLaws, aI g t_readPage_q 49 t_readPage, aI g t_tape_q 320 t_tape]) (As := [.int (5 : Int32)]) (rest := []) (c_X8_fails l g _ t_q t_state_q t_laws_q t_readPage_q t_readLaws_q t_tape_q t_cuts_q t_letters_q t_work_q t_pages_q t_canBe_q t_leadsOn_q t_seen_q t_heard_q t_isKept_q t_lanes_q t_lengths_q t_cells_q t_roomMany t_doorMany t_stringLong t_lawMany t_readRooms t_readDoors t_readString t_readLawMany t_toldOnce t_highRoom t_highDoor t_taped t_fault t_broken t_brokenAt t_spot t_here t_token t_value t_seenMany t_heardMany t_torn (5 : Int32) t_broken_93 t_brokenAt_94 hc_95) ⟨hx, hb, hml, hown, hts⟩ (cwV 1 hts gX8_readLine_X8_fails rfl rfl rfl (by decide +kernel) ⟨by decide, by decide⟩) hK hz hk hP (hD.re rfl) hS hA [0] rfl rfl rfl rfl rfl rfl rfl hl.1 rfl (Nat.le_of_ble_eq_true rfl) dX8_readLine_64 (fun H locs hP hS => ?_)
      exact J_10 t_broken_93 t_brokenAt_94 hf _ _ _ hP hS (lv_sub hl [0, 1, 2] rfl)
    obtain ⟨j_96, hj_96, hf⟩ := jn0_e hf
    have J_96 : j_96 = some (t_broken', t_brokenAt', t_here', t_highDoor', t_highRoom', t_readDoors', t_readLawMany', t_readRooms', t_readString', t_spot', t_token', t_toldOnce', t_value', t_readLaws', t_readPage') → ∀ (H : Heap) (locs : List Loc) (ls : Array Slot), va_P g.1 vwCl [oX8 t_q t_state_q t_roomMany t_doorMany t_stringLong t_laws_q t_lawMany t_readPage_q t_readLaws_q t_readRooms t_readDoors t_readString t_readLawMany t_toldOnce t_highRoom t_highDoor t_tape_q t_taped t_fault t_broken t_brokenAt t_spot t_here t_token t_value t_cuts_q t_letters_q t_work_q t_pages_q t_canBe_q t_leadsOn_q t_seen_q t_seenMany t_heard_q t_heardMany t_isKept_q t_lanes_q t_lengths_q t_cells_q t_torn, aI g t_cuts_q 15 t_cuts, aI g t_letters_q 66 t_letters, aI g t_readLaws_q 18 t_readLaws, aI g t_readPage_q 49 t_readPage, aI g t_tape_q 320 t_tape] H → va_S A s.heap H locs → lv_has ls 3 [(0, .ref t_q), (1, .int r_1), (2, .int r_6)] → W p l e rmX8_readLine s m args below meth c H locs 0 0 Q (F0 m 49 ls []) := by
      intro hf H locs ls hP hS hl
      rw [hj_96] at hf
      refine lv_iload_n hx hb dX8_readLine_49 rfl (lv_at hl 2 rfl) ?_
      refine lv_if_eq (tgt := 67) hx hb dX8_readLine_50 (by decide) (fun c_97 => ?_) (fun c_97 => ?_)
      · have hf := ite_t hf c_97
        exact J_10 t_broken t_brokenAt hf _ _ _ hP hS (lv_sub hl [0, 1, 2] rfl)
      · have hf := ite_f hf c_97
        refine lv_aload_n hx hb dX8_readLine_53 rfl (lv_at hl 0 rfl) ?_
        refine va_get (D := g.1) (ci := 8) (v := .int t_readLawMany) (C := RX8) (T := TX8) (N := 39) hx hb hts inX8 hown hK hP 0 rfl rfl 11 (by decide) k133 (fun _ h9 => h9) rfl dX8_readLine_54 ?_
        refine lv_bipush (v := (6 : Int32)) hx hb dX8_readLine_57 (by decide) ?_
        refine lv_icmp_ne (tgt := 67) hx hb dX8_readLine_59 (by decide) (fun c_98 => ?_) (fun c_98 => ?_)
        · have hf := ite_f hf c_98
          exact J_10 t_broken t_brokenAt hf _ _ _ hP hS (lv_sub hl [0, 1, 2] rfl)
        · have hf := ite_t hf c_98
          exact J_92 hf _ _ _ hP hS (lv_sub hl [0, 1, 2] rfl)
    refine lv_icmp_ne (tgt := 49) hx hb dX8_readLine_37 (by decide) (fun c_99 => ?_) (fun c_99 => ?_)
    · have hf := ite_f hf c_99
      exact J_96 hf _ _ _ hP hS (lv_sub hl [2, 1, 0] rfl)
    · have hf := ite_t hf c_99
      refine lv_aload_n hx hb dX8_readLine_40 rfl (lv_at hl 2 rfl) ?_
      refine va_get (D := g.1) (ci := 8) (v := .int t_readDoors) (C := RX8) (T := TX8) (N := 39) hx hb hts inX8 hown hK hP 0 rfl rfl 9 (by decide) k123 (fun _ h9 => h9) rfl dX8_readLine_41 ?_
      refine lv_bipush (v := (10 : Int32)) hx hb dX8_readLine_44 (by decide) ?_
      refine lv_icmp_eq (tgt := 62) hx hb dX8_readLine_46 (by decide) (fun c_100 => ?_) (fun c_100 => ?_)
      · have hf := ite_t hf c_100
        exact J_92 hf _ _ _ hP hS (lv_sub hl [2, 1, 0] rfl)
      · have hf := ite_f hf c_100
        exact J_96 hf _ _ _ hP hS (lv_sub hl [2, 1, 0] rfl)
  · have hf := ite_t hf c_5
    refine lv_aload_n hx hb dX8_readLine_17 rfl (lv_at hl 1 rfl) ?_
    refine lv_iconst (v := (2 : Int32)) hx hb dX8_readLine_18 (by decide) ?_
    obtain ⟨t_broken_101, t_brokenAt_102, hc_103, hf⟩ := ob2_e hf
    refine kV_v (wn := [oX8 t_q t_state_q t_roomMany t_doorMany t_stringLong t_laws_q t_lawMany t_readPage_q t_readLaws_q t_readRooms t_readDoors t_readString t_readLawMany t_toldOnce t_highRoom t_highDoor t_tape_q t_taped t_fault t_broken_101 t_brokenAt_102 t_spot t_here t_token t_value t_cuts_q t_letters_q t_work_q t_pages_q t_canBe_q t_leadsOn_q t_seen_q t_seenMany t_heard_q t_heardMany t_isKept_q t_lanes_q t_lengths_q t_cells_q t_torn, aI g t_cuts_q 15 t_cuts, aI g t_letters_q 66 t_letters, aI g t_readLaws_q 18 t_readLaws, aI g t_readPage_q 49 t_readPage, aI g t_tape_q 320 t_tape]) (As := [.int (2 : Int32)]) (rest := []) (c_X8_fails l g _ t_q t_state_q t_laws_q t_readPage_q t_readLaws_q t_tape_q t_cuts_q t_letters_q t_work_q t_pages_q t_canBe_q t_leadsOn_q t_seen_q t_heard_q t_isKept_q t_lanes_q t_lengths_q t_cells_q t_roomMany t_doorMany t_stringLong t_lawMany t_readRooms t_readDoors t_readString t_readLawMany t_toldOnce t_highRoom t_highDoor t_taped t_fault t_broken t_brokenAt t_spot t_here t_token t_value t_seenMany t_heardMany t_torn (2 : Int32) t_broken_101 t_brokenAt_102 hc_103) ⟨hx, hb, hml, hown, hts⟩ (cwV 1 hts gX8_readLine_X8_fails rfl rfl rfl (by decide +kernel) ⟨by decide, by decide⟩) hK hz hk hP (hD.re rfl) hS hA [0] rfl rfl rfl rfl rfl rfl rfl hl.1 rfl (Nat.le_of_ble_eq_true rfl) dX8_readLine_19 (fun H locs hP hS => ?_)
    exact hret t_broken_101 t_brokenAt_102 t_here t_highDoor t_highRoom t_readDoors t_readLawMany t_readRooms t_readString t_spot t_token t_toldOnce t_value t_readLaws t_readPage (Option.some.inj hf) _ _ _ _ hP hS dX8_readLine_22
