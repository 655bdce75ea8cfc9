def b_X8_beginsText_48 (v1_1 : Int32) (t_readPage_2 : Nat → Int32) : Option ((Int32 × (Nat → Int32)) ⊕ (Int32 × (Nat → Int32))) :=
 (if (49 : Int32) ≤ v1_1 then
 (some (.inr (v1_1, t_readPage_2)))
 else (gin v1_1 49 (bnd (upd t_readPage_2 v1_1.toNatClampNeg (0 : Int32)) (fun t_readPage_6 =>
 (bnd (v1_1 + (1 : Int32)) (fun v1_7 =>
 (some (.inl (v1_7, t_readPage_6)))))))))
def f_X8_beginsText (t_readPage : Nat → Int32) : Option (Int32 × Int32 × Int32 × Int32 × Int32 × Int32 × Int32 × Int32 × Int32 × (Nat → Int32)) :=
 (ob2 (itr (un2 b_X8_beginsText_48) FU ((0 : Int32), t_readPage)) (fun x1_8 t_readPage_9 =>
 (some ((0 : Int32), (-1 : Int32), (-1 : Int32), (0 : Int32), (0 : Int32), (2 : Int32), (12 : Int32), (0 : Int32), (0 : Int32), t_readPage_9))))
abbrev rmX8_beginsText : Room := { frames := 0, cells := 0, slots := 0, locals := 0 }
set_option maxHeartbeats 4000000 in
set_option maxRecDepth 100000 in
theorem c_X8_beginsText (l : Launch) (g : Gh) (sz : Nat) (t_q t_state_q t_laws_q t_readPage_q t_readLaws_q t_tape_q t_cuts_q t_letters_q t_work_q t_pages_q t_canBe_q t_leadsOn_q t_seen_q t_heard_q t_isKept_q t_lanes_q t_lengths_q t_cells_q : Nat) (t_roomMany : Int32) (t_doorMany : Int32) (t_stringLong : Int32) (t_lawMany : Int32) (t_readRooms : Int32) (t_readDoors : Int32) (t_readString : Int32) (t_readLawMany : Int32) (t_toldOnce : Int32) (t_highRoom : Int32) (t_highDoor : Int32) (t_taped : Int32) (t_fault : Int32) (t_broken : Int32) (t_brokenAt : Int32) (t_spot : Int32) (t_here : Int32) (t_token : Int32) (t_value : Int32) (t_seenMany : Int32) (t_heardMany : Int32) (t_torn : Int32) (t_readPage : Nat → Int32) (t_broken' : Int32) (t_highDoor' : Int32) (t_highRoom' : Int32) (t_readDoors' : Int32) (t_readLawMany' : Int32) (t_readRooms' : Int32) (t_readString' : Int32) (t_spot' : Int32) (t_toldOnce' : Int32) (t_readPage' : Nat → Int32) (hf : f_X8_beginsText t_readPage = some (t_broken', t_highDoor', t_highRoom', t_readDoors', t_readLawMany', t_readRooms', t_readString', t_spot', t_toldOnce', t_readPage')) : CV l yX8_beginsText wsX8_beginsText rmX8_beginsText [.ref t_q] g sz [oX8 t_q t_state_q t_roomMany t_doorMany t_stringLong t_laws_q t_lawMany t_readPage_q t_readLaws_q t_readRooms t_readDoors t_readString t_readLawMany t_toldOnce t_highRoom t_highDoor t_tape_q t_taped t_fault t_broken t_brokenAt t_spot t_here t_token t_value t_cuts_q t_letters_q t_work_q t_pages_q t_canBe_q t_leadsOn_q t_seen_q t_seenMany t_heard_q t_heardMany t_isKept_q t_lanes_q t_lengths_q t_cells_q t_torn, aI g t_readPage_q 49 t_readPage] [oX8 t_q t_state_q t_roomMany t_doorMany t_stringLong t_laws_q t_lawMany t_readPage_q t_readLaws_q t_readRooms' t_readDoors' t_readString' t_readLawMany' t_toldOnce' t_highRoom' t_highDoor' t_tape_q t_taped t_fault t_broken' t_brokenAt t_spot' t_here t_token t_value t_cuts_q t_letters_q t_work_q t_pages_q t_canBe_q t_leadsOn_q t_seen_q t_seenMany t_heard_q t_heardMany t_isKept_q t_lanes_q t_lengths_q t_cells_q t_torn, aI g t_readPage_q 49 t_readPage'] := by
  refine ent_v (cc := cX8_beginsText) (maxL := 2) (by decide) rfl (Nat.le_of_ble_eq_true rfl) ?_
  intro p e s m args below meth c A Q hx hb hml hown hts hK hz hk hA hD hP hS hret ls hl
  have hown : s.vm.findClass RX8 = some m.cls := hown
  have inX8 : ∀ w ∈ u_ws RX8 TX8 39, w ∈ wsX8_beginsText := by decide +kernel
  have k23 := hts (.fieldLink RX8 23 "ThreadMovedModel" "readPage" "[I") (by decide +kernel)
  have k76 := hts (.fieldLink RX8 76 "ThreadMovedModel" "broken" "I") (by decide +kernel)
  have k88 := hts (.fieldLink RX8 88 "ThreadMovedModel" "spot" "I") (by decide +kernel)
  have k117 := hts (.fieldLink RX8 117 "ThreadMovedModel" "highRoom" "I") (by decide +kernel)
  have k120 := hts (.fieldLink RX8 120 "ThreadMovedModel" "highDoor" "I") (by decide +kernel)
  have k123 := hts (.fieldLink RX8 123 "ThreadMovedModel" "readDoors" "I") (by decide +kernel)
  have k133 := hts (.fieldLink RX8 133 "ThreadMovedModel" "readLawMany" "I") (by decide +kernel)
  have k139 := hts (.fieldLink RX8 139 "ThreadMovedModel" "readRooms" "I") (by decide +kernel)
  have k145 := hts (.fieldLink RX8 145 "ThreadMovedModel" "readString" "I") (by decide +kernel)
  have k154 := hts (.fieldLink RX8 154 "ThreadMovedModel" "toldOnce" "I") (by decide +kernel)
  have hl : lv_has ls 2 [(0, .ref t_q)] := hl
  have hret : ∀ (t_brokenz : Int32) (t_highDoorz : Int32) (t_highRoomz : Int32) (t_readDoorsz : Int32) (t_readLawManyz : Int32) (t_readRoomsz : Int32) (t_readStringz : Int32) (t_spotz : Int32) (t_toldOncez : Int32) (t_readPagez : Nat → Int32), (t_brokenz, t_highDoorz, t_highRoomz, t_readDoorsz, t_readLawManyz, t_readRoomsz, t_readStringz, t_spotz, t_toldOncez, t_readPagez) = (t_broken', t_highDoor', t_highRoom', t_readDoors', t_readLawMany', t_readRooms', t_readString', t_spot', t_toldOnce', t_readPage') → ∀ (H : Heap) (locs : List Loc) (pc : Nat) (ls : Array Slot), va_P g.1 vwCl [oX8 t_q t_state_q t_roomMany t_doorMany t_stringLong t_laws_q t_lawMany t_readPage_q t_readLaws_q t_readRoomsz t_readDoorsz t_readStringz t_readLawManyz t_toldOncez t_highRoomz t_highDoorz t_tape_q t_taped t_fault t_brokenz t_brokenAt t_spotz t_here t_token t_value t_cuts_q t_letters_q t_work_q t_pages_q t_canBe_q t_leadsOn_q t_seen_q t_seenMany t_heard_q t_heardMany t_isKept_q t_lanes_q t_lengths_q t_cells_q t_torn, aI g t_readPage_q 49 t_readPagez] H → va_S A s.heap H locs → decode cX8_beginsText pc = .ok (.return_, 1) → W p l e rmX8_beginsText s m args below meth c H locs 0 0 Q (F0 m pc ls []) := by
    intro t_brokenz t_highDoorz t_highRoomz t_readDoorsz t_readLawManyz t_readRoomsz t_readStringz t_spotz t_toldOncez t_readPagez he H locs pc ls hP hS hd
    cases he
    exact hret H locs pc ls hP hS hd
  unfold f_X8_beginsText at hf
  refine lv_aload_n hx hb dX8_beginsText_0 rfl (lv_at hl 0 rfl) ?_
  refine lv_iconst (v := (0 : Int32)) hx hb dX8_beginsText_1 (by decide) ?_
  refine va_put (D := g.1) (ci := 8) (v := .int (0 : Int32)) (ty := .int) (C := RX8) (T := TX8) (N := 39) hx hb hts inX8 tyX8 tyX8_ok nmX8 hown hK hP (hD.re rfl) hS 0 rfl rfl 18 (by decide) k76 (fun _ h9 => h9) rfl (by decide +kernel) rfl rfl (Nat.le_of_ble_eq_true rfl) dX8_beginsText_2 (fun H locs hP _ hS => ?_)
  have hP : va_P g.1 vwCl [oX8 t_q t_state_q t_roomMany t_doorMany t_stringLong t_laws_q t_lawMany t_readPage_q t_readLaws_q t_readRooms t_readDoors t_readString t_readLawMany t_toldOnce t_highRoom t_highDoor t_tape_q t_taped t_fault (0 : Int32) t_brokenAt t_spot t_here t_token t_value t_cuts_q t_letters_q t_work_q t_pages_q t_canBe_q t_leadsOn_q t_seen_q t_seenMany t_heard_q t_heardMany t_isKept_q t_lanes_q t_lengths_q t_cells_q t_torn, aI g t_readPage_q 49 t_readPage] H := hP
  refine lv_aload_n hx hb dX8_beginsText_5 rfl (lv_at hl 0 rfl) ?_
  refine lv_iconst (v := (0 : Int32)) hx hb dX8_beginsText_6 (by decide) ?_
  refine va_put (D := g.1) (ci := 8) (v := .int (0 : Int32)) (ty := .int) (C := RX8) (T := TX8) (N := 39) hx hb hts inX8 tyX8 tyX8_ok nmX8 hown hK hP (hD.re rfl) hS 0 rfl rfl 20 (by decide) k88 (fun _ h9 => h9) rfl (by decide +kernel) rfl rfl (Nat.le_of_ble_eq_true rfl) dX8_beginsText_7 (fun H locs hP _ hS => ?_)
  have hP : va_P g.1 vwCl [oX8 t_q t_state_q t_roomMany t_doorMany t_stringLong t_laws_q t_lawMany t_readPage_q t_readLaws_q t_readRooms t_readDoors t_readString t_readLawMany t_toldOnce t_highRoom t_highDoor t_tape_q t_taped t_fault (0 : Int32) t_brokenAt (0 : Int32) t_here t_token t_value t_cuts_q t_letters_q t_work_q t_pages_q t_canBe_q t_leadsOn_q t_seen_q t_seenMany t_heard_q t_heardMany t_isKept_q t_lanes_q t_lengths_q t_cells_q t_torn, aI g t_readPage_q 49 t_readPage] H := hP
  refine lv_aload_n hx hb dX8_beginsText_10 rfl (lv_at hl 0 rfl) ?_
  refine lv_iconst (v := (2 : Int32)) hx hb dX8_beginsText_11 (by decide) ?_
  refine va_put (D := g.1) (ci := 8) (v := .int (2 : Int32)) (ty := .int) (C := RX8) (T := TX8) (N := 39) hx hb hts inX8 tyX8 tyX8_ok nmX8 hown hK hP (hD.re rfl) hS 0 rfl rfl 8 (by decide) k139 (fun _ h9 => h9) rfl (by decide +kernel) rfl rfl (Nat.le_of_ble_eq_true rfl) dX8_beginsText_12 (fun H locs hP _ hS => ?_)
  have hP : va_P g.1 vwCl [oX8 t_q t_state_q t_roomMany t_doorMany t_stringLong t_laws_q t_lawMany t_readPage_q t_readLaws_q (2 : Int32) t_readDoors t_readString t_readLawMany t_toldOnce t_highRoom t_highDoor t_tape_q t_taped t_fault (0 : Int32) t_brokenAt (0 : Int32) t_here t_token t_value t_cuts_q t_letters_q t_work_q t_pages_q t_canBe_q t_leadsOn_q t_seen_q t_seenMany t_heard_q t_heardMany t_isKept_q t_lanes_q t_lengths_q t_cells_q t_torn, aI g t_readPage_q 49 t_readPage] H := hP
  refine lv_aload_n hx hb dX8_beginsText_15 rfl (lv_at hl 0 rfl) ?_
  refine lv_iconst (v := (0 : Int32)) hx hb dX8_beginsText_16 (by decide) ?_
  refine va_put (D := g.1) (ci := 8) (v := .int (0 : Int32)) (ty := .int) (C := RX8) (T := TX8) (N := 39) hx hb hts inX8 tyX8 tyX8_ok nmX8 hown hK hP (hD.re rfl) hS 0 rfl rfl 9 (by decide) k123 (fun _ h9 => h9) rfl (by decide +kernel) rfl rfl (Nat.le_of_ble_eq_true rfl) dX8_beginsText_17 (fun H locs hP _ hS => ?_)
  have hP : va_P g.1 vwCl [oX8 t_q t_state_q t_roomMany t_doorMany t_stringLong t_laws_q t_lawMany t_readPage_q t_readLaws_q (2 : Int32) (0 : Int32) t_readString t_readLawMany t_toldOnce t_highRoom t_highDoor t_tape_q t_taped t_fault (0 : Int32) t_brokenAt (0 : Int32) t_here t_token t_value t_cuts_q t_letters_q t_work_q t_pages_q t_canBe_q t_leadsOn_q t_seen_q t_seenMany t_heard_q t_heardMany t_isKept_q t_lanes_q t_lengths_q t_cells_q t_torn, aI g t_readPage_q 49 t_readPage] H := hP
  refine lv_aload_n hx hb dX8_beginsText_20 rfl (lv_at hl 0 rfl) ?_
  refine lv_bipush (v := (12 : Int32)) hx hb dX8_beginsText_21 (by decide) ?_
  refine va_put (D := g.1) (ci := 8) (v := .int (12 : Int32)) (ty := .int) (C := RX8) (T := TX8) (N := 39) hx hb hts inX8 tyX8 tyX8_ok nmX8 hown hK hP (hD.re rfl) hS 0 rfl rfl 10 (by decide) k145 (fun _ h9 => h9) rfl (by decide +kernel) rfl rfl (Nat.le_of_ble_eq_true rfl) dX8_beginsText_23 (fun H locs hP _ hS => ?_)
  have hP : va_P g.1 vwCl [oX8 t_q t_state_q t_roomMany t_doorMany t_stringLong t_laws_q t_lawMany t_readPage_q t_readLaws_q (2 : Int32) (0 : Int32) (12 : Int32) t_readLawMany t_toldOnce t_highRoom t_highDoor t_tape_q t_taped t_fault (0 : Int32) t_brokenAt (0 : Int32) t_here t_token t_value t_cuts_q t_letters_q t_work_q t_pages_q t_canBe_q t_leadsOn_q t_seen_q t_seenMany t_heard_q t_heardMany t_isKept_q t_lanes_q t_lengths_q t_cells_q t_torn, aI g t_readPage_q 49 t_readPage] H := hP
  refine lv_aload_n hx hb dX8_beginsText_26 rfl (lv_at hl 0 rfl) ?_
  refine lv_iconst (v := (0 : Int32)) hx hb dX8_beginsText_27 (by decide) ?_
  refine va_put (D := g.1) (ci := 8) (v := .int (0 : Int32)) (ty := .int) (C := RX8) (T := TX8) (N := 39) hx hb hts inX8 tyX8 tyX8_ok nmX8 hown hK hP (hD.re rfl) hS 0 rfl rfl 11 (by decide) k133 (fun _ h9 => h9) rfl (by decide +kernel) rfl rfl (Nat.le_of_ble_eq_true rfl) dX8_beginsText_28 (fun H locs hP _ hS => ?_)
  have hP : va_P g.1 vwCl [oX8 t_q t_state_q t_roomMany t_doorMany t_stringLong t_laws_q t_lawMany t_readPage_q t_readLaws_q (2 : Int32) (0 : Int32) (12 : Int32) (0 : Int32) t_toldOnce t_highRoom t_highDoor t_tape_q t_taped t_fault (0 : Int32) t_brokenAt (0 : Int32) t_here t_token t_value t_cuts_q t_letters_q t_work_q t_pages_q t_canBe_q t_leadsOn_q t_seen_q t_seenMany t_heard_q t_heardMany t_isKept_q t_lanes_q t_lengths_q t_cells_q t_torn, aI g t_readPage_q 49 t_readPage] H := hP
  refine lv_aload_n hx hb dX8_beginsText_31 rfl (lv_at hl 0 rfl) ?_
  refine lv_iconst (v := (0 : Int32)) hx hb dX8_beginsText_32 (by decide) ?_
  refine va_put (D := g.1) (ci := 8) (v := .int (0 : Int32)) (ty := .int) (C := RX8) (T := TX8) (N := 39) hx hb hts inX8 tyX8 tyX8_ok nmX8 hown hK hP (hD.re rfl) hS 0 rfl rfl 12 (by decide) k154 (fun _ h9 => h9) rfl (by decide +kernel) rfl rfl (Nat.le_of_ble_eq_true rfl) dX8_beginsText_33 (fun H locs hP _ hS => ?_)
  have hP : va_P g.1 vwCl [oX8 t_q t_state_q t_roomMany t_doorMany t_stringLong t_laws_q t_lawMany t_readPage_q t_readLaws_q (2 : Int32) (0 : Int32) (12 : Int32) (0 : Int32) (0 : Int32) t_highRoom t_highDoor t_tape_q t_taped t_fault (0 : Int32) t_brokenAt (0 : Int32) t_here t_token t_value t_cuts_q t_letters_q t_work_q t_pages_q t_canBe_q t_leadsOn_q t_seen_q t_seenMany t_heard_q t_heardMany t_isKept_q t_lanes_q t_lengths_q t_cells_q t_torn, aI g t_readPage_q 49 t_readPage] H := hP
  refine lv_aload_n hx hb dX8_beginsText_36 rfl (lv_at hl 0 rfl) ?_
  refine lv_iconst (v := (-1 : Int32)) hx hb dX8_beginsText_37 (by decide) ?_
  refine va_put (D := g.1) (ci := 8) (v := .int (-1 : Int32)) (ty := .int) (C := RX8) (T := TX8) (N := 39) hx hb hts inX8 tyX8 tyX8_ok nmX8 hown hK hP (hD.re rfl) hS 0 rfl rfl 13 (by decide) k117 (fun _ h9 => h9) rfl (by decide +kernel) rfl rfl (Nat.le_of_ble_eq_true rfl) dX8_beginsText_38 (fun H locs hP _ hS => ?_)
  have hP : va_P g.1 vwCl [oX8 t_q t_state_q t_roomMany t_doorMany t_stringLong t_laws_q t_lawMany t_readPage_q t_readLaws_q (2 : Int32) (0 : Int32) (12 : Int32) (0 : Int32) (0 : Int32) (-1 : Int32) t_highDoor t_tape_q t_taped t_fault (0 : Int32) t_brokenAt (0 : Int32) t_here t_token t_value t_cuts_q t_letters_q t_work_q t_pages_q t_canBe_q t_leadsOn_q t_seen_q t_seenMany t_heard_q t_heardMany t_isKept_q t_lanes_q t_lengths_q t_cells_q t_torn, aI g t_readPage_q 49 t_readPage] H := hP
  refine lv_aload_n hx hb dX8_beginsText_41 rfl (lv_at hl 0 rfl) ?_
  refine lv_iconst (v := (-1 : Int32)) hx hb dX8_beginsText_42 (by decide) ?_
  refine va_put (D := g.1) (ci := 8) (v := .int (-1 : Int32)) (ty := .int) (C := RX8) (T := TX8) (N := 39) hx hb hts inX8 tyX8 tyX8_ok nmX8 hown hK hP (hD.re rfl) hS 0 rfl rfl 14 (by decide) k120 (fun _ h9 => h9) rfl (by decide +kernel) rfl rfl (Nat.le_of_ble_eq_true rfl) dX8_beginsText_43 (fun H locs hP _ hS => ?_)
  have hP : va_P g.1 vwCl [oX8 t_q t_state_q t_roomMany t_doorMany t_stringLong t_laws_q t_lawMany t_readPage_q t_readLaws_q (2 : Int32) (0 : Int32) (12 : Int32) (0 : Int32) (0 : Int32) (-1 : Int32) (-1 : Int32) t_tape_q t_taped t_fault (0 : Int32) t_brokenAt (0 : Int32) t_here t_token t_value t_cuts_q t_letters_q t_work_q t_pages_q t_canBe_q t_leadsOn_q t_seen_q t_seenMany t_heard_q t_heardMany t_isKept_q t_lanes_q t_lengths_q t_cells_q t_torn, aI g t_readPage_q 49 t_readPage] H := hP
  refine lv_iconst (v := (0 : Int32)) hx hb dX8_beginsText_46 (by decide) ?_
  refine lv_istore_n (lv' := [(1, .int (0 : Int32)), (0, .ref t_q)]) hx hb dX8_beginsText_47 rfl hl (by decide) rfl (fun ls hl => ?_)
  obtain ⟨x1_8, t_readPage_9, ho_3, hf⟩ := ob2_e hf
  have K_3 : ∀ (x1_8y : Int32) (t_readPage_9y : Nat → Int32), x1_8 = x1_8y → t_readPage_9 = t_readPage_9y → ∀ (H : Heap) (locs : List Loc) (ls : Array Slot), va_P g.1 vwCl [oX8 t_q t_state_q t_roomMany t_doorMany t_stringLong t_laws_q t_lawMany t_readPage_q t_readLaws_q (2 : Int32) (0 : Int32) (12 : Int32) (0 : Int32) (0 : Int32) (-1 : Int32) (-1 : Int32) t_tape_q t_taped t_fault (0 : Int32) t_brokenAt (0 : Int32) t_here t_token t_value t_cuts_q t_letters_q t_work_q t_pages_q t_canBe_q t_leadsOn_q t_seen_q t_seenMany t_heard_q t_heardMany t_isKept_q t_lanes_q t_lengths_q t_cells_q t_torn, aI g t_readPage_q 49 t_readPage_9y] H → va_S A s.heap H locs → lv_has ls 2 [] → W p l e rmX8_beginsText s m args below meth c H locs 0 0 Q (F0 m 67 ls []) := by
    intro x1_8y t_readPage_9y ey0 ey1 H locs ls hP hS hl
    subst ey0
    subst ey1
    exact hret (0 : Int32) (-1 : Int32) (-1 : Int32) (0 : Int32) (0 : Int32) (2 : Int32) (12 : Int32) (0 : Int32) (0 : Int32) t_readPage_9 (Option.some.inj hf) _ _ _ _ hP hS dX8_beginsText_67
  have L_3 : ∀ (n : Nat) (v1_1 : Int32) (t_readPage_2 : Nat → Int32), itr (un2 b_X8_beginsText_48) n (v1_1, t_readPage_2) = some (x1_8, t_readPage_9) → ∀ (H : Heap) (locs : List Loc) (ls : Array Slot), va_P g.1 vwCl [oX8 t_q t_state_q t_roomMany t_doorMany t_stringLong t_laws_q t_lawMany t_readPage_q t_readLaws_q (2 : Int32) (0 : Int32) (12 : Int32) (0 : Int32) (0 : Int32) (-1 : Int32) (-1 : Int32) t_tape_q t_taped t_fault (0 : Int32) t_brokenAt (0 : Int32) t_here t_token t_value t_cuts_q t_letters_q t_work_q t_pages_q t_canBe_q t_leadsOn_q t_seen_q t_seenMany t_heard_q t_heardMany t_isKept_q t_lanes_q t_lengths_q t_cells_q t_torn, aI g t_readPage_q 49 t_readPage_2] H → va_S A s.heap H locs → lv_has ls 2 [(0, .ref t_q), (1, .int v1_1)] → W p l e rmX8_beginsText s m args below meth c H locs 0 0 Q (F0 m 48 ls []) := by
    refine itr_ind2 ?_
    intro v1_1 t_readPage_2 z_3 hf hrec hex H locs ls hP hS hl
    unfold b_X8_beginsText_48 at hf
    refine lv_iload_n hx hb dX8_beginsText_48 rfl (lv_at hl 1 rfl) ?_
    refine lv_bipush (v := (49 : Int32)) hx hb dX8_beginsText_49 (by decide) ?_
    refine lv_icmp_ge (tgt := 67) hx hb dX8_beginsText_51 (by decide) (fun c_4 => ?_) (fun c_4 => ?_)
    · have hf := ite_t hf c_4
      exact K_3 v1_1 t_readPage_2 (congrArg (fun t => t.1) (hex _ (Option.some.inj hf).symm).symm) (congrArg (fun t => t.2) (hex _ (Option.some.inj hf).symm).symm) _ _ _ hP hS (lv_sub hl [] rfl)
    · have hf := ite_f hf c_4
      refine lv_aload_n hx hb dX8_beginsText_54 rfl (lv_at hl 0 rfl) ?_
      refine va_get (D := g.1) (ci := 8) (v := .ref t_readPage_q) (C := RX8) (T := TX8) (N := 39) hx hb hts inX8 hown hK hP 0 rfl rfl 6 (by decide) k23 (fun _ h9 => h9) rfl dX8_beginsText_55 ?_
      refine lv_iload_n hx hb dX8_beginsText_58 rfl (lv_at hl 1 rfl) ?_
      refine lv_iconst (v := (0 : Int32)) hx hb dX8_beginsText_59 (by decide) ?_
      obtain ⟨h_5, hf⟩ := gin_e hf
      obtain ⟨t_readPage_6, et_readPage_6, hf⟩ := bnd_e hf
      refine va_iast hx hb hK hP (hD.re rfl) hS 1 0 rfl rfl h_5 dX8_beginsText_60 (fun H locs hP _ hS => ?_)
      have hP : va_P g.1 vwCl [oX8 t_q t_state_q t_roomMany t_doorMany t_stringLong t_laws_q t_lawMany t_readPage_q t_readLaws_q (2 : Int32) (0 : Int32) (12 : Int32) (0 : Int32) (0 : Int32) (-1 : Int32) (-1 : Int32) t_tape_q t_taped t_fault (0 : Int32) t_brokenAt (0 : Int32) t_here t_token t_value t_cuts_q t_letters_q t_work_q t_pages_q t_canBe_q t_leadsOn_q t_seen_q t_seenMany t_heard_q t_heardMany t_isKept_q t_lanes_q t_lengths_q t_cells_q t_torn, aI g t_readPage_q 49 t_readPage_6] H := by rw [et_readPage_6]; exact hP
      obtain ⟨v1_7, ev1_7, hf⟩ := bnd_e hf
      refine lv_iinc (v := v1_7) (lv' := [(1, .int v1_7), (0, .ref t_q)]) hx hb dX8_beginsText_61 hl (k := 1) rfl (by rw [ev1_7]; rfl) (by decide) rfl (fun ls hl => ?_)
      refine lv_goto (tgt := 48) hx hb dX8_beginsText_64 (by decide) ?_
      exact hrec v1_7 t_readPage_6 (Option.some.inj hf).symm _ _ _ hP hS (lv_sub hl [1, 0] rfl)
  exact L_3 FU (0 : Int32) t_readPage ho_3 _ _ _ hP hS (lv_sub hl [1, 0] rfl)

def f_X8_bite (t_state : Nat → Int32) (p1 : Int32) : Option (Int32 × (Nat → Int32)) :=
 (gin (46 : Int32) 196 (ob1 (f_X8_in (p1.toInt64) (0 : Int64) ((t_state (46 : Int32).toNatClampNeg).toInt64)) (fun r_2 =>
 (ob2 (f_X8_sets t_state r_2 (46 : Int32) p1) (fun r_4 t_state_5 =>
 (some (r_4, t_state_5)))))))
abbrev rmX8_bite : Room := { frames := 1, cells := 0, slots := 0, locals := 25 }
set_option maxHeartbeats 4000000 in
set_option maxRecDepth 100000 in
theorem c_X8_bite (l : Launch) (g : Gh) (sz : Nat) (t_q t_state_q t_laws_q t_readPage_q t_readLaws_q t_tape_q t_cuts_q t_letters_q t_work_q t_pages_q t_canBe_q t_leadsOn_q t_seen_q t_heard_q t_isKept_q t_lanes_q t_lengths_q t_cells_q : Nat) (t_roomMany : Int32) (t_doorMany : Int32) (t_stringLong : Int32) (t_lawMany : Int32) (t_readRooms : Int32) (t_readDoors : Int32) (t_readString : Int32) (t_readLawMany : Int32) (t_toldOnce : Int32) (t_highRoom : Int32) (t_highDoor : Int32) (t_taped : Int32) (t_fault : Int32) (t_broken : Int32) (t_brokenAt : Int32) (t_spot : Int32) (t_here : Int32) (t_token : Int32) (t_value : Int32) (t_seenMany : Int32) (t_heardMany : Int32) (t_torn : Int32) (t_state : Nat → Int32) (p1 : Int32) (rr : Int32) (t_state' : Nat → Int32) (hf : f_X8_bite t_state p1 = some (rr, t_state')) : CI l yX8_bite wsX8_bite rmX8_bite [.ref t_q, .int p1] g sz [oX8 t_q t_state_q t_roomMany t_doorMany t_stringLong t_laws_q t_lawMany t_readPage_q t_readLaws_q t_readRooms t_readDoors t_readString t_readLawMany t_toldOnce t_highRoom t_highDoor t_tape_q t_taped t_fault t_broken t_brokenAt t_spot t_here t_token t_value t_cuts_q t_letters_q t_work_q t_pages_q t_canBe_q t_leadsOn_q t_seen_q t_seenMany t_heard_q t_heardMany t_isKept_q t_lanes_q t_lengths_q t_cells_q t_torn, aI g t_state_q 196 t_state] [oX8 t_q t_state_q t_roomMany t_doorMany t_stringLong t_laws_q t_lawMany t_readPage_q t_readLaws_q t_readRooms t_readDoors t_readString t_readLawMany t_toldOnce t_highRoom t_highDoor t_tape_q t_taped t_fault t_broken t_brokenAt t_spot t_here t_token t_value t_cuts_q t_letters_q t_work_q t_pages_q t_canBe_q t_leadsOn_q t_seen_q t_seenMany t_heard_q t_heardMany t_isKept_q t_lanes_q t_lengths_q t_cells_q t_torn, aI g t_state_q 196 t_state'] rr := by
  refine ent_i (cc := cX8_bite) (maxL := 2) (by decide) rfl (Nat.le_of_ble_eq_true rfl) ?_
  intro p e s m args below meth c A Q hx hb hml hown hts hK hz hk hA hD hP hS hret ls hl
  have hown : s.vm.findClass RX8 = some m.cls := hown
  have inX8 : ∀ w ∈ u_ws RX8 TX8 39, w ∈ wsX8_bite := by decide +kernel
  have k7 := hts (.fieldLink RX8 7 "ThreadMovedModel" "state" "[I") (by decide +kernel)
  have hl : lv_has ls 2 [(0, .ref t_q), (1, .int p1)] := hl
  have hret : ∀ (rrz : Int32) (t_statez : Nat → Int32), (rrz, t_statez) = (rr, t_state') → ∀ (H : Heap) (locs : List Loc) (pc : Nat) (ls : Array Slot), va_P g.1 vwCl [oX8 t_q t_state_q t_roomMany t_doorMany t_stringLong t_laws_q t_lawMany t_readPage_q t_readLaws_q t_readRooms t_readDoors t_readString t_readLawMany t_toldOnce t_highRoom t_highDoor t_tape_q t_taped t_fault t_broken t_brokenAt t_spot t_here t_token t_value t_cuts_q t_letters_q t_work_q t_pages_q t_canBe_q t_leadsOn_q t_seen_q t_seenMany t_heard_q t_heardMany t_isKept_q t_lanes_q t_lengths_q t_cells_q t_torn, aI g t_state_q 196 t_statez] H → va_S A s.heap H locs → decode cX8_bite pc = .ok (.ireturn, 1) → W p l e rmX8_bite s m args below meth c H locs 0 0 Q (F0 m pc ls [.int rrz]) := by
    intro rrz t_statez he H locs pc ls hP hS hd
    cases he
    exact hret H locs pc ls hP hS hd
  unfold f_X8_bite at hf
  refine lv_aload_n hx hb dX8_bite_0 rfl (lv_at hl 0 rfl) ?_
  refine lv_iload_n hx hb dX8_bite_1 rfl (lv_at hl 1 rfl) ?_
  refine lv_i2l hx hb dX8_bite_2 rfl ?_
  refine lv_lconst (v := (0 : Int64)) hx hb dX8_bite_3 (by decide) ?_
  refine lv_aload_n hx hb dX8_bite_4 rfl (lv_at hl 0 rfl) ?_
  refine va_get (D := g.1) (ci := 8) (v := .ref t_state_q) (C := RX8) (T := TX8) (N := 39) hx hb hts inX8 hown hK hP 0 rfl rfl 0 (by decide) k7 (fun _ h9 => h9) rfl dX8_bite_5 ?_
  refine lv_bipush (v := (46 : Int32)) hx hb dX8_bite_8 (by decide) ?_
  obtain ⟨h_1, hf⟩ := gin_e hf
  refine va_iald hx hb hK hP 1 0 rfl rfl h_1 dX8_bite_10 ?_
  refine lv_i2l hx hb dX8_bite_11 rfl ?_
  obtain ⟨r_2, hc_3, hf⟩ := ob1_e hf
  refine kS_i (wn := [oX8 t_q t_state_q t_roomMany t_doorMany t_stringLong t_laws_q t_lawMany t_readPage_q t_readLaws_q t_readRooms t_readDoors t_readString t_readLawMany t_toldOnce t_highRoom t_highDoor t_tape_q t_taped t_fault t_broken t_brokenAt t_spot t_here t_token t_value t_cuts_q t_letters_q t_work_q t_pages_q t_canBe_q t_leadsOn_q t_seen_q t_seenMany t_heard_q t_heardMany t_isKept_q t_lanes_q t_lengths_q t_cells_q t_torn, aI g t_state_q 196 t_state]) (As := [.long (p1.toInt64), .long (0 : Int64), .long ((t_state (46 : Int32).toNatClampNeg).toInt64)]) (rest := [.ref t_q]) (c_X8_in l g _ (p1.toInt64) (0 : Int64) ((t_state (46 : Int32).toNatClampNeg).toInt64) r_2 hc_3) ⟨hx, hb, hml, hown, hts⟩ (va_cwS 3 hts gX8_bite_X8_in rfl rfl rfl (by decide +kernel) ⟨by decide, by decide⟩) hK hz hk hP (hD.re rfl) hS hA [] rfl rfl rfl rfl rfl hl.1 rfl (Nat.le_of_ble_eq_true rfl) dX8_bite_12 (fun H locs hP hS => ?_)
  refine lv_bipush (v := (46 : Int32)) hx hb dX8_bite_15 (by decide) ?_
  refine lv_iload_n hx hb dX8_bite_17 rfl (lv_at hl 1 rfl) ?_
  obtain ⟨r_4, t_state_5, hc_6, hf⟩ := ob2_e hf
  refine kV_i (wn := [oX8 t_q t_state_q t_roomMany t_doorMany t_stringLong t_laws_q t_lawMany t_readPage_q t_readLaws_q t_readRooms t_readDoors t_readString t_readLawMany t_toldOnce t_highRoom t_highDoor t_tape_q t_taped t_fault t_broken t_brokenAt t_spot t_here t_token t_value t_cuts_q t_letters_q t_work_q t_pages_q t_canBe_q t_leadsOn_q t_seen_q t_seenMany t_heard_q t_heardMany t_isKept_q t_lanes_q t_lengths_q t_cells_q t_torn, aI g t_state_q 196 t_state_5]) (As := [.int r_2, .int (46 : Int32), .int p1]) (rest := []) (c_X8_sets l g _ t_q t_state_q t_laws_q t_readPage_q t_readLaws_q t_tape_q t_cuts_q t_letters_q t_work_q t_pages_q t_canBe_q t_leadsOn_q t_seen_q t_heard_q t_isKept_q t_lanes_q t_lengths_q t_cells_q t_roomMany t_doorMany t_stringLong t_lawMany t_readRooms t_readDoors t_readString t_readLawMany t_toldOnce t_highRoom t_highDoor t_taped t_fault t_broken t_brokenAt t_spot t_here t_token t_value t_seenMany t_heardMany t_torn t_state r_2 (46 : Int32) p1 r_4 t_state_5 hc_6) ⟨hx, hb, hml, hown, hts⟩ (cwV 3 hts gX8_bite_X8_sets rfl rfl rfl (by decide +kernel) ⟨by decide, by decide⟩) hK hz hk hP (hD.re rfl) hS hA [0, 1] rfl rfl rfl rfl rfl rfl rfl hl.1 rfl (Nat.le_of_ble_eq_true rfl) dX8_bite_18 (fun H locs hP hS => ?_)
  exact hret r_4 t_state_5 (Option.some.inj hf) _ _ _ _ hP hS dX8_bite_21

def f_X8_byteAt (t_taped : Int32) (t_tape : Nat → Int32) (p1 : Int32) : Option (Int32) :=
 (if t_taped ≤ p1 then
 (some (-4 : Int32))
 else (gin p1 320 (some (t_tape p1.toNatClampNeg))))
abbrev rmX8_byteAt : Room := { frames := 0, cells := 0, slots := 0, locals := 0 }
set_option maxHeartbeats 4000000 in
set_option maxRecDepth 100000 in
theorem c_X8_byteAt (l : Launch) (g : Gh) (sz : Nat) (t_q t_state_q t_laws_q t_readPage_q t_readLaws_q t_tape_q t_cuts_q t_letters_q t_work_q t_pages_q t_canBe_q t_leadsOn_q t_seen_q t_heard_q t_isKept_q t_lanes_q t_lengths_q t_cells_q : Nat) (t_roomMany : Int32) (t_doorMany : Int32) (t_stringLong : Int32) (t_lawMany : Int32) (t_readRooms : Int32) (t_readDoors : Int32) (t_readString : Int32) (t_readLawMany : Int32) (t_toldOnce : Int32) (t_highRoom : Int32) (t_highDoor : Int32) (t_taped : Int32) (t_fault : Int32) (t_broken : Int32) (t_brokenAt : Int32) (t_spot : Int32) (t_here : Int32) (t_token : Int32) (t_value : Int32) (t_seenMany : Int32) (t_heardMany : Int32) (t_torn : Int32) (t_tape : Nat → Int32) (p1 : Int32) (rr : Int32) (hf : f_X8_byteAt t_taped t_tape p1 = some rr) : CI l yX8_byteAt wsX8_byteAt rmX8_byteAt [.ref t_q, .int p1] g sz [oX8 t_q t_state_q t_roomMany t_doorMany t_stringLong t_laws_q t_lawMany t_readPage_q t_readLaws_q t_readRooms t_readDoors t_readString t_readLawMany t_toldOnce t_highRoom t_highDoor t_tape_q t_taped t_fault t_broken t_brokenAt t_spot t_here t_token t_value t_cuts_q t_letters_q t_work_q t_pages_q t_canBe_q t_leadsOn_q t_seen_q t_seenMany t_heard_q t_heardMany t_isKept_q t_lanes_q t_lengths_q t_cells_q t_torn, aI g t_tape_q 320 t_tape] [oX8 t_q t_state_q t_roomMany t_doorMany t_stringLong t_laws_q t_lawMany t_readPage_q t_readLaws_q t_readRooms t_readDoors t_readString t_readLawMany t_toldOnce t_highRoom t_highDoor t_tape_q t_taped t_fault t_broken t_brokenAt t_spot t_here t_token t_value t_cuts_q t_letters_q t_work_q t_pages_q t_canBe_q t_leadsOn_q t_seen_q t_seenMany t_heard_q t_heardMany t_isKept_q t_lanes_q t_lengths_q t_cells_q t_torn, aI g t_tape_q 320 t_tape] rr := by
  refine ent_i (cc := cX8_byteAt) (maxL := 2) (by decide) rfl (Nat.le_of_ble_eq_true rfl) ?_
  intro p e s m args below meth c A Q hx hb hml hown hts hK hz hk hA hD hP hS hret ls hl
  have hown : s.vm.findClass RX8 = some m.cls := hown
  have inX8 : ∀ w ∈ u_ws RX8 TX8 39, w ∈ wsX8_byteAt := by decide +kernel
  have k29 := hts (.fieldLink RX8 29 "ThreadMovedModel" "tape" "[I") (by decide +kernel)
  have k69 := hts (.fieldLink RX8 69 "ThreadMovedModel" "taped" "I") (by decide +kernel)
  have hl : lv_has ls 2 [(0, .ref t_q), (1, .int p1)] := hl
  have hret : ∀ (rrz : Int32), rrz = rr → ∀ (H : Heap) (locs : List Loc) (pc : Nat) (ls : Array Slot), va_P g.1 vwCl [oX8 t_q t_state_q t_roomMany t_doorMany t_stringLong t_laws_q t_lawMany t_readPage_q t_readLaws_q t_readRooms t_readDoors t_readString t_readLawMany t_toldOnce t_highRoom t_highDoor t_tape_q t_taped t_fault t_broken t_brokenAt t_spot t_here t_token t_value t_cuts_q t_letters_q t_work_q t_pages_q t_canBe_q t_leadsOn_q t_seen_q t_seenMany t_heard_q t_heardMany t_isKept_q t_lanes_q t_lengths_q t_cells_q t_torn, aI g t_tape_q 320 t_tape] H → va_S A s.heap H locs → decode cX8_byteAt pc = .ok (.ireturn, 1) → W p l e rmX8_byteAt s m args below meth c H locs 0 0 Q (F0 m pc ls [.int rrz]) := by
    intro rrz he H locs pc ls hP hS hd
    cases he
    exact hret H locs pc ls hP hS hd
  unfold f_X8_byteAt at hf
  refine lv_iload_n hx hb dX8_byteAt_0 rfl (lv_at hl 1 rfl) ?_
  refine lv_aload_n hx hb dX8_byteAt_1 rfl (lv_at hl 0 rfl) ?_
  refine va_get (D := g.1) (ci := 8) (v := .int t_taped) (C := RX8) (T := TX8) (N := 39) hx hb hts inX8 hown hK hP 0 rfl rfl 16 (by decide) k69 (fun _ h9 => h9) rfl dX8_byteAt_2 ?_
  refine lv_icmp_ge (tgt := 17) hx hb dX8_byteAt_5 (by decide) (fun c_1 => ?_) (fun c_1 => ?_)
  · have hf := ite_t hf c_1
    refine lv_bipush (v := (-4 : Int32)) hx hb dX8_byteAt_17 (by decide) ?_
    exact hret (-4 : Int32) (Option.some.inj hf) _ _ _ _ hP hS dX8_byteAt_19
  · have hf := ite_f hf c_1
    refine lv_aload_n hx hb dX8_byteAt_8 rfl (lv_at hl 0 rfl) ?_
    refine va_get (D := g.1) (ci := 8) (v := .ref t_tape_q) (C := RX8) (T := TX8) (N := 39) hx hb hts inX8 hown hK hP 0 rfl rfl 15 (by decide) k29 (fun _ h9 => h9) rfl dX8_byteAt_9 ?_
    refine lv_iload_n hx hb dX8_byteAt_12 rfl (lv_at hl 1 rfl) ?_
    obtain ⟨h_2, hf⟩ := gin_e hf
    refine va_iald hx hb hK hP 1 0 rfl rfl h_2 dX8_byteAt_13 ?_
    refine lv_goto (tgt := 19) hx hb dX8_byteAt_14 (by decide) ?_
    exact hret (t_tape p1.toNatClampNeg) (Option.some.inj hf) _ _ _ _ hP hS dX8_byteAt_19

def b_X8_count_4 (t_doorMany : Int32) (t_state : Nat → Int32) (v2_1 : Int32) (v3_2 : Int32) : Option ((Int32 × Int32) ⊕ (Int32 × Int32)) :=
 (if t_doorMany ≤ v3_2 then
 (some (.inr (v2_1, v3_2)))
 else (gin (((3 : Int32) * v3_2) + (2 : Int32)) 196 (bnd (v2_1 + (t_state (((3 : Int32) * v3_2) + (2 : Int32)).toNatClampNeg)) (fun v2_6 =>
 (bnd (v3_2 + (1 : Int32)) (fun v3_7 =>
 (some (.inl (v2_6, v3_7)))))))))
def f_X8_count (t_doorMany : Int32) (t_taped : Int32) (t_seenMany : Int32) (t_heardMany : Int32) (t_isKept : Nat → Int32) (t_lanes : Nat → Int32) (t_lengths : Nat → Int32) (t_state : Nat → Int32) (p1 : Int32) : Option (Int32) :=
 (ob2 (itr (un2 (b_X8_count_4 t_doorMany t_state)) FU ((0 : Int32), (0 : Int32))) (fun x2_8 x3_9 =>
 (if p1 = (0 : Int32) then
 (gin (46 : Int32) 196 (some (t_state (46 : Int32).toNatClampNeg)))
 else (if p1 = (1 : Int32) then
 (some t_seenMany)
 else (if p1 = (2 : Int32) then
 (some t_heardMany)
 else (if p1 = (3 : Int32) then
 (gin (0 : Int32) 2 (jn1 (fun (s_16 : Int32) => (gin (1 : Int32) 2 (if (t_isKept (1 : Int32).toNatClampNeg) = (0 : Int32) then
 (some (s_16 + (0 : Int32)))
 else (some (s_16 + (1 : Int32)))))) (fun j_17 =>
 (if (t_isKept (0 : Int32).toNatClampNeg) = (0 : Int32) then
 (j_17 (0 : Int32))
 else (j_17 (1 : Int32))))))
 else (if p1 = (4 : Int32) then
 (some t_taped)
 else (if p1 = (5 : Int32) then
 (gin (0 : Int32) 4 (if (t_lanes (0 : Int32).toNatClampNeg) = (-4 : Int32) then
 (some (-4 : Int32))
 else (gin (0 : Int32) 4 (some (t_lengths (0 : Int32).toNatClampNeg)))))
 else (if p1 = (6 : Int32) then
 (some x2_8)
 else (some (-1 : Int32)))))))))))
abbrev rmX8_count : Room := { frames := 0, cells := 0, slots := 0, locals := 0 }
set_option maxHeartbeats 4000000 in
set_option maxRecDepth 100000 in
theorem c_X8_count (l : Launch) (g : Gh) (sz : Nat) (t_q t_state_q t_laws_q t_readPage_q t_readLaws_q t_tape_q t_cuts_q t_letters_q t_work_q t_pages_q t_canBe_q t_leadsOn_q t_seen_q t_heard_q t_isKept_q t_lanes_q t_lengths_q t_cells_q : Nat) (t_roomMany : Int32) (t_doorMany : Int32) (t_stringLong : Int32) (t_lawMany : Int32) (t_readRooms : Int32) (t_readDoors : Int32) (t_readString : Int32) (t_readLawMany : Int32) (t_toldOnce : Int32) (t_highRoom : Int32) (t_highDoor : Int32) (t_taped : Int32) (t_fault : Int32) (t_broken : Int32) (t_brokenAt : Int32) (t_spot : Int32) (t_here : Int32) (t_token : Int32) (t_value : Int32) (t_seenMany : Int32) (t_heardMany : Int32) (t_torn : Int32) (t_isKept : Nat → Int32) (t_lanes : Nat → Int32) (t_lengths : Nat → Int32) (t_state : Nat → Int32) (p1 : Int32) (rr : Int32) (hf : f_X8_count t_doorMany t_taped t_seenMany t_heardMany t_isKept t_lanes t_lengths t_state p1 = some rr) : CI l yX8_count wsX8_count rmX8_count [.ref t_q, .int p1] g sz [oX8 t_q t_state_q t_roomMany t_doorMany t_stringLong t_laws_q t_lawMany t_readPage_q t_readLaws_q t_readRooms t_readDoors t_readString t_readLawMany t_toldOnce t_highRoom t_highDoor t_tape_q t_taped t_fault t_broken t_brokenAt t_spot t_here t_token t_value t_cuts_q t_letters_q t_work_q t_pages_q t_canBe_q t_leadsOn_q t_seen_q t_seenMany t_heard_q t_heardMany t_isKept_q t_lanes_q t_lengths_q t_cells_q t_torn, aZ g t_isKept_q 2 t_isKept, aI g t_lanes_q 4 t_lanes, aI g t_lengths_q 4 t_lengths, aI g t_state_q 196 t_state] [oX8 t_q t_state_q t_roomMany t_doorMany t_stringLong t_laws_q t_lawMany t_readPage_q t_readLaws_q t_readRooms t_readDoors t_readString t_readLawMany t_toldOnce t_highRoom t_highDoor t_tape_q t_taped t_fault t_broken t_brokenAt t_spot t_here t_token t_value t_cuts_q t_letters_q t_work_q t_pages_q t_canBe_q t_leadsOn_q t_seen_q t_seenMany t_heard_q t_heardMany t_isKept_q t_lanes_q t_lengths_q t_cells_q t_torn, aZ g t_isKept_q 2 t_isKept, aI g t_lanes_q 4 t_lanes, aI g t_lengths_q 4 t_lengths, aI g t_state_q 196 t_state] rr := by
  refine ent_i (cc := cX8_count) (maxL := 4) (by decide) rfl (Nat.le_of_ble_eq_true rfl) ?_
  intro p e s m args below meth c A Q hx hb hml hown hts hK hz hk hA hD hP hS hret ls hl
  have hown : s.vm.findClass RX8 = some m.cls := hown
  have inX8 : ∀ w ∈ u_ws RX8 TX8 39, w ∈ wsX8_count := by decide +kernel
  have k7 := hts (.fieldLink RX8 7 "ThreadMovedModel" "state" "[I") (by decide +kernel)
  have k56 := hts (.fieldLink RX8 56 "ThreadMovedModel" "isKept" "[Z") (by decide +kernel)
  have k60 := hts (.fieldLink RX8 60 "ThreadMovedModel" "lanes" "[I") (by decide +kernel)
  have k63 := hts (.fieldLink RX8 63 "ThreadMovedModel" "lengths" "[I") (by decide +kernel)
  have k69 := hts (.fieldLink RX8 69 "ThreadMovedModel" "taped" "I") (by decide +kernel)
  have k175 := hts (.fieldLink RX8 175 "ThreadMovedModel" "doorMany" "I") (by decide +kernel)
  have k181 := hts (.fieldLink RX8 181 "ThreadMovedModel" "seenMany" "I") (by decide +kernel)
  have k184 := hts (.fieldLink RX8 184 "ThreadMovedModel" "heardMany" "I") (by decide +kernel)
  have hl : lv_has ls 4 [(0, .ref t_q), (1, .int p1)] := hl
  have hret : ∀ (rrz : Int32), rrz = rr → ∀ (H : Heap) (locs : List Loc) (pc : Nat) (ls : Array Slot), va_P g.1 vwCl [oX8 t_q t_state_q t_roomMany t_doorMany t_stringLong t_laws_q t_lawMany t_readPage_q t_readLaws_q t_readRooms t_readDoors t_readString t_readLawMany t_toldOnce t_highRoom t_highDoor t_tape_q t_taped t_fault t_broken t_brokenAt t_spot t_here t_token t_value t_cuts_q t_letters_q t_work_q t_pages_q t_canBe_q t_leadsOn_q t_seen_q t_seenMany t_heard_q t_heardMany t_isKept_q t_lanes_q t_lengths_q t_cells_q t_torn, aZ g t_isKept_q 2 t_isKept, aI g t_lanes_q 4 t_lanes, aI g t_lengths_q 4 t_lengths, aI g t_state_q 196 t_state] H → va_S A s.heap H locs → decode cX8_count pc = .ok (.ireturn, 1) → W p l e rmX8_count s m args below meth c H locs 0 0 Q (F0 m pc ls [.int rrz]) := by
    intro rrz he H locs pc ls hP hS hd
    cases he
    exact hret H locs pc ls hP hS hd
  unfold f_X8_count at hf
  refine lv_iconst (v := (0 : Int32)) hx hb dX8_count_0 (by decide) ?_
  refine lv_istore_n (lv' := [(2, .int (0 : Int32)), (0, .ref t_q), (1, .int p1)]) hx hb dX8_count_1 rfl hl (by decide) rfl (fun ls hl => ?_)
  refine lv_iconst (v := (0 : Int32)) hx hb dX8_count_2 (by decide) ?_
  refine lv_istore_n (lv' := [(3, .int (0 : Int32)), (2, .int (0 : Int32)), (0, .ref t_q), (1, .int p1)]) hx hb dX8_count_3 rfl hl (by decide) rfl (fun ls hl => ?_)
  obtain ⟨x2_8, x3_9, ho_3, hf⟩ := ob2_e hf
  have K_3 : ∀ (x2_8y : Int32) (x3_9y : Int32), x2_8 = x2_8y → x3_9 = x3_9y → ∀ (H : Heap) (locs : List Loc) (ls : Array Slot), va_P g.1 vwCl [oX8 t_q t_state_q t_roomMany t_doorMany t_stringLong t_laws_q t_lawMany t_readPage_q t_readLaws_q t_readRooms t_readDoors t_readString t_readLawMany t_toldOnce t_highRoom t_highDoor t_tape_q t_taped t_fault t_broken t_brokenAt t_spot t_here t_token t_value t_cuts_q t_letters_q t_work_q t_pages_q t_canBe_q t_leadsOn_q t_seen_q t_seenMany t_heard_q t_heardMany t_isKept_q t_lanes_q t_lengths_q t_cells_q t_torn, aZ g t_isKept_q 2 t_isKept, aI g t_lanes_q 4 t_lanes, aI g t_lengths_q 4 t_lengths, aI g t_state_q 196 t_state] H → va_S A s.heap H locs → lv_has ls 4 [(0, .ref t_q), (1, .int p1), (2, .int x2_8y)] → W p l e rmX8_count s m args below meth c H locs 0 0 Q (F0 m 31 ls []) := by
    intro x2_8y x3_9y ey0 ey1 H locs ls hP hS hl
    subst ey0
    subst ey1
    refine lv_iload_n hx hb dX8_count_31 rfl (lv_at hl 1 rfl) ?_
    by_cases c_10 : p1 = (0 : Int32)
    · have hf := ite_t hf c_10
      refine lv_tableIn (off := 44) (tgt := 76) hx hb dX8_count_32 (by rw [c_10]; decide) (by rw [c_10]; decide) (by rw [c_10]; rfl) (by decide) ?_
      refine lv_aload_n hx hb dX8_count_76 rfl (lv_at hl 0 rfl) ?_
      refine va_get (D := g.1) (ci := 8) (v := .ref t_state_q) (C := RX8) (T := TX8) (N := 39) hx hb hts inX8 hown hK hP 0 rfl rfl 0 (by decide) k7 (fun _ h9 => h9) rfl dX8_count_77 ?_
      refine lv_bipush (v := (46 : Int32)) hx hb dX8_count_80 (by decide) ?_
      obtain ⟨h_11, hf⟩ := gin_e hf
      refine va_iald hx hb hK hP 4 0 rfl rfl h_11 dX8_count_82 ?_
      exact hret (t_state (46 : Int32).toNatClampNeg) (Option.some.inj hf) _ _ _ _ hP hS dX8_count_83
    have hf := ite_f hf c_10
    by_cases c_12 : p1 = (1 : Int32)
    · have hf := ite_t hf c_12
      refine lv_tableIn (off := 52) (tgt := 84) hx hb dX8_count_32 (by rw [c_12]; decide) (by rw [c_12]; decide) (by rw [c_12]; rfl) (by decide) ?_
      refine lv_aload_n hx hb dX8_count_84 rfl (lv_at hl 0 rfl) ?_
      refine va_get (D := g.1) (ci := 8) (v := .int t_seenMany) (C := RX8) (T := TX8) (N := 39) hx hb hts inX8 hown hK hP 0 rfl rfl 31 (by decide) k181 (fun _ h9 => h9) rfl dX8_count_85 ?_
      exact hret t_seenMany (Option.some.inj hf) _ _ _ _ hP hS dX8_count_88
    have hf := ite_f hf c_12
    by_cases c_13 : p1 = (2 : Int32)
    · have hf := ite_t hf c_13
      refine lv_tableIn (off := 57) (tgt := 89) hx hb dX8_count_32 (by rw [c_13]; decide) (by rw [c_13]; decide) (by rw [c_13]; rfl) (by decide) ?_
      refine lv_aload_n hx hb dX8_count_89 rfl (lv_at hl 0 rfl) ?_
      refine va_get (D := g.1) (ci := 8) (v := .int t_heardMany) (C := RX8) (T := TX8) (N := 39) hx hb hts inX8 hown hK hP 0 rfl rfl 33 (by decide) k184 (fun _ h9 => h9) rfl dX8_count_90 ?_
      exact hret t_heardMany (Option.some.inj hf) _ _ _ _ hP hS dX8_count_93
    have hf := ite_f hf c_13
    by_cases c_14 : p1 = (3 : Int32)
    · have hf := ite_t hf c_14
      refine lv_tableIn (off := 62) (tgt := 94) hx hb dX8_count_32 (by rw [c_14]; decide) (by rw [c_14]; decide) (by rw [c_14]; rfl) (by decide) ?_
      refine lv_aload_n hx hb dX8_count_94 rfl (lv_at hl 0 rfl) ?_
      refine va_get (D := g.1) (ci := 8) (v := .ref t_isKept_q) (C := RX8) (T := TX8) (N := 39) hx hb hts inX8 hown hK hP 0 rfl rfl 34 (by decide) k56 (fun _ h9 => h9) rfl dX8_count_95 ?_
      refine lv_iconst (v := (0 : Int32)) hx hb dX8_count_98 (by decide) ?_
      obtain ⟨h_15, hf⟩ := gin_e hf
      refine va_zald hx hb hK hP 1 2 rfl rfl h_15 dX8_count_99 ?_
      obtain ⟨j_17, hj_17, hf⟩ := jn1_e hf
      have J_17 : ∀ (s_16 : Int32), j_17 s_16 = some rr → ∀ (H : Heap) (locs : List Loc) (ls : Array Slot), va_P g.1 vwCl [oX8 t_q t_state_q t_roomMany t_doorMany t_stringLong t_laws_q t_lawMany t_readPage_q t_readLaws_q t_readRooms t_readDoors t_readString t_readLawMany t_toldOnce t_highRoom t_highDoor t_tape_q t_taped t_fault t_broken t_brokenAt t_spot t_here t_token t_value t_cuts_q t_letters_q t_work_q t_pages_q t_canBe_q t_leadsOn_q t_seen_q t_seenMany t_heard_q t_heardMany t_isKept_q t_lanes_q t_lengths_q t_cells_q t_torn, aZ g t_isKept_q 2 t_isKept, aI g t_lanes_q 4 t_lanes, aI g t_lengths_q 4 t_lengths, aI g t_state_q 196 t_state] H → va_S A s.heap H locs → lv_has ls 4 [(0, .ref t_q)] → W p l e rmX8_count s m args below meth c H locs 0 0 Q (F0 m 108 ls [.int s_16]) := by
        intro s_16 hf H locs ls hP hS hl
        rw [hj_17] at hf
        refine lv_aload_n hx hb dX8_count_108 rfl (lv_at hl 0 rfl) ?_
        refine va_get (D := g.1) (ci := 8) (v := .ref t_isKept_q) (C := RX8) (T := TX8) (N := 39) hx hb hts inX8 hown hK hP 0 rfl rfl 34 (by decide) k56 (fun _ h9 => h9) rfl dX8_count_109 ?_
        refine lv_iconst (v := (1 : Int32)) hx hb dX8_count_112 (by decide) ?_
        obtain ⟨h_18, hf⟩ := gin_e hf
        refine va_zald hx hb hK hP 1 2 rfl rfl h_18 dX8_count_113 ?_
        refine lv_if_eq (tgt := 121) hx hb dX8_count_114 (by decide) (fun c_19 => ?_) (fun c_19 => ?_)
        · have hf := ite_t hf c_19
          refine lv_iconst (v := (0 : Int32)) hx hb dX8_count_121 (by decide) ?_
          refine lv_iadd hx hb dX8_count_122 ?_
          exact hret (s_16 + (0 : Int32)) (Option.some.inj hf) _ _ _ _ hP hS dX8_count_123
        · have hf := ite_f hf c_19
          refine lv_iconst (v := (1 : Int32)) hx hb dX8_count_117 (by decide) ?_
          refine lv_goto (tgt := 122) hx hb dX8_count_118 (by decide) ?_
          refine lv_iadd hx hb dX8_count_122 ?_
          exact hret (s_16 + (1 : Int32)) (Option.some.inj hf) _ _ _ _ hP hS dX8_count_123
      refine lv_if_eq (tgt := 107) hx hb dX8_count_100 (by decide) (fun c_20 => ?_) (fun c_20 => ?_)
      · have hf := ite_t hf c_20
        refine lv_iconst (v := (0 : Int32)) hx hb dX8_count_107 (by decide) ?_
        exact J_17 (0 : Int32) hf _ _ _ hP hS (lv_sub hl [0] rfl)
      · have hf := ite_f hf c_20
        refine lv_iconst (v := (1 : Int32)) hx hb dX8_count_103 (by decide) ?_
        refine lv_goto (tgt := 108) hx hb dX8_count_104 (by decide) ?_
        exact J_17 (1 : Int32) hf _ _ _ hP hS (lv_sub hl [0] rfl)
    have hf := ite_f hf c_14
    by_cases c_21 : p1 = (4 : Int32)
    · have hf := ite_t hf c_21
      refine lv_tableIn (off := 92) (tgt := 124) hx hb dX8_count_32 (by rw [c_21]; decide) (by rw [c_21]; decide) (by rw [c_21]; rfl) (by decide) ?_
      refine lv_aload_n hx hb dX8_count_124 rfl (lv_at hl 0 rfl) ?_
      refine va_get (D := g.1) (ci := 8) (v := .int t_taped) (C := RX8) (T := TX8) (N := 39) hx hb hts inX8 hown hK hP 0 rfl rfl 16 (by decide) k69 (fun _ h9 => h9) rfl dX8_count_125 ?_
      exact hret t_taped (Option.some.inj hf) _ _ _ _ hP hS dX8_count_128
    have hf := ite_f hf c_21
    by_cases c_22 : p1 = (5 : Int32)
    · have hf := ite_t hf c_22
      refine lv_tableIn (off := 97) (tgt := 129) hx hb dX8_count_32 (by rw [c_22]; decide) (by rw [c_22]; decide) (by rw [c_22]; rfl) (by decide) ?_
      refine lv_aload_n hx hb dX8_count_129 rfl (lv_at hl 0 rfl) ?_
      refine va_get (D := g.1) (ci := 8) (v := .ref t_lanes_q) (C := RX8) (T := TX8) (N := 39) hx hb hts inX8 hown hK hP 0 rfl rfl 35 (by decide) k60 (fun _ h9 => h9) rfl dX8_count_130 ?_
      refine lv_iconst (v := (0 : Int32)) hx hb dX8_count_133 (by decide) ?_
      obtain ⟨h_23, hf⟩ := gin_e hf
      refine va_iald hx hb hK hP 2 0 rfl rfl h_23 dX8_count_134 ?_
      refine lv_bipush (v := (-4 : Int32)) hx hb dX8_count_135 (by decide) ?_
      refine lv_icmp_ne (tgt := 145) hx hb dX8_count_137 (by decide) (fun c_24 => ?_) (fun c_24 => ?_)
      · have hf := ite_f hf c_24
        refine lv_aload_n hx hb dX8_count_145 rfl (lv_at hl 0 rfl) ?_
        refine va_get (D := g.1) (ci := 8) (v := .ref t_lengths_q) (C := RX8) (T := TX8) (N := 39) hx hb hts inX8 hown hK hP 0 rfl rfl 36 (by decide) k63 (fun _ h9 => h9) rfl dX8_count_146 ?_
        refine lv_iconst (v := (0 : Int32)) hx hb dX8_count_149 (by decide) ?_
        obtain ⟨h_25, hf⟩ := gin_e hf
        refine va_iald hx hb hK hP 3 0 rfl rfl h_25 dX8_count_150 ?_
        exact hret (t_lengths (0 : Int32).toNatClampNeg) (Option.some.inj hf) _ _ _ _ hP hS dX8_count_151
      · have hf := ite_t hf c_24
        refine lv_bipush (v := (-4 : Int32)) hx hb dX8_count_140 (by decide) ?_
        refine lv_goto (tgt := 151) hx hb dX8_count_142 (by decide) ?_
        exact hret (-4 : Int32) (Option.some.inj hf) _ _ _ _ hP hS dX8_count_151
    have hf := ite_f hf c_22
    by_cases c_26 : p1 = (6 : Int32)
    · have hf := ite_t hf c_26
      refine lv_tableIn (off := 120) (tgt := 152) hx hb dX8_count_32 (by rw [c_26]; decide) (by rw [c_26]; decide) (by rw [c_26]; rfl) (by decide) ?_
      refine lv_iload_n hx hb dX8_count_152 rfl (lv_at hl 2 rfl) ?_
      exact hret x2_8 (Option.some.inj hf) _ _ _ _ hP hS dX8_count_153
    have hf := ite_f hf c_26
    refine lv_tableOut (tgt := 154) hx hb dX8_count_32 (tsw_out 6 (by decide) rfl (fun k hk => ?_)) (by decide) ?_
    · match k, hk with
      | 0, _ => exact c_10
      | 1, _ => exact c_12
      | 2, _ => exact c_13
      | 3, _ => exact c_14
      | 4, _ => exact c_21
      | 5, _ => exact c_22
      | 6, _ => exact c_26
      | k + 7, hk => exact absurd hk (by omega)
    refine lv_iconst (v := (-1 : Int32)) hx hb dX8_count_154 (by decide) ?_
    exact hret (-1 : Int32) (Option.some.inj hf) _ _ _ _ hP hS dX8_count_155
  have L_3 : ∀ (n : Nat) (v2_1 : Int32) (v3_2 : Int32), itr (un2 (b_X8_count_4 t_doorMany t_state)) n (v2_1, v3_2) = some (x2_8, x3_9) → ∀ (H : Heap) (locs : List Loc) (ls : Array Slot), va_P g.1 vwCl [oX8 t_q t_state_q t_roomMany t_doorMany t_stringLong t_laws_q t_lawMany t_readPage_q t_readLaws_q t_readRooms t_readDoors t_readString t_readLawMany t_toldOnce t_highRoom t_highDoor t_tape_q t_taped t_fault t_broken t_brokenAt t_spot t_here t_token t_value t_cuts_q t_letters_q t_work_q t_pages_q t_canBe_q t_leadsOn_q t_seen_q t_seenMany t_heard_q t_heardMany t_isKept_q t_lanes_q t_lengths_q t_cells_q t_torn, aZ g t_isKept_q 2 t_isKept, aI g t_lanes_q 4 t_lanes, aI g t_lengths_q 4 t_lengths, aI g t_state_q 196 t_state] H → va_S A s.heap H locs → lv_has ls 4 [(0, .ref t_q), (1, .int p1), (2, .int v2_1), (3, .int v3_2)] → W p l e rmX8_count s m args below meth c H locs 0 0 Q (F0 m 4 ls []) := by
    refine itr_ind2 ?_
    intro v2_1 v3_2 z_3 hf hrec hex H locs ls hP hS hl
    unfold b_X8_count_4 at hf
    refine lv_iload_n hx hb dX8_count_4 rfl (lv_at hl 3 rfl) ?_
    refine lv_aload_n hx hb dX8_count_5 rfl (lv_at hl 0 rfl) ?_
    refine va_get (D := g.1) (ci := 8) (v := .int t_doorMany) (C := RX8) (T := TX8) (N := 39) hx hb hts inX8 hown hK hP 0 rfl rfl 2 (by decide) k175 (fun _ h9 => h9) rfl dX8_count_6 ?_
    refine lv_icmp_ge (tgt := 31) hx hb dX8_count_9 (by decide) (fun c_4 => ?_) (fun c_4 => ?_)
    · have hf := ite_t hf c_4
      exact K_3 v2_1 v3_2 (congrArg (fun t => t.1) (hex _ (Option.some.inj hf).symm).symm) (congrArg (fun t => t.2) (hex _ (Option.some.inj hf).symm).symm) _ _ _ hP hS (lv_sub hl [0, 1, 2] rfl)
    · have hf := ite_f hf c_4
      refine lv_iload_n hx hb dX8_count_12 rfl (lv_at hl 2 rfl) ?_
      refine lv_aload_n hx hb dX8_count_13 rfl (lv_at hl 0 rfl) ?_
      refine va_get (D := g.1) (ci := 8) (v := .ref t_state_q) (C := RX8) (T := TX8) (N := 39) hx hb hts inX8 hown hK hP 0 rfl rfl 0 (by decide) k7 (fun _ h9 => h9) rfl dX8_count_14 ?_
      refine lv_iconst (v := (3 : Int32)) hx hb dX8_count_17 (by decide) ?_
      refine lv_iload_n hx hb dX8_count_18 rfl (lv_at hl 3 rfl) ?_
      refine lv_imul hx hb dX8_count_19 ?_
      refine lv_iconst (v := (2 : Int32)) hx hb dX8_count_20 (by decide) ?_
      refine lv_iadd hx hb dX8_count_21 ?_
      obtain ⟨h_5, hf⟩ := gin_e hf
      refine va_iald hx hb hK hP 4 0 rfl rfl h_5 dX8_count_22 ?_
      refine lv_iadd hx hb dX8_count_23 ?_
      obtain ⟨v2_6, ev2_6, hf⟩ := bnd_e hf
      refine tp_i ev2_6 ?_
      refine lv_istore_n (lv' := [(2, .int v2_6), (0, .ref t_q), (1, .int p1), (3, .int v3_2)]) hx hb dX8_count_24 rfl hl (by decide) rfl (fun ls hl => ?_)
      obtain ⟨v3_7, ev3_7, hf⟩ := bnd_e hf
      refine lv_iinc (v := v3_7) (lv' := [(3, .int v3_7), (2, .int v2_6), (0, .ref t_q), (1, .int p1)]) hx hb dX8_count_25 hl (k := 3) rfl (by rw [ev3_7]; rfl) (by decide) rfl (fun ls hl => ?_)
      refine lv_goto (tgt := 4) hx hb dX8_count_28 (by decide) ?_
      exact hrec v2_6 v3_7 (Option.some.inj hf).symm _ _ _ hP hS (lv_sub hl [2, 3, 1, 0] rfl)
  exact L_3 FU (0 : Int32) (0 : Int32) ho_3 _ _ _ hP hS (lv_sub hl [2, 3, 1, 0] rfl)

def f_X8_door (t_doorMany : Int32) (t_state : Nat → Int32) (p1 : Int32) (p2 : Int32) : Option (Int32) :=
 (ob1 (f_X8_isDoor t_doorMany p1) (fun r_1 =>
 (if r_1 = (0 : Int32) then
 (some (-1 : Int32))
 else (ob1 (f_X8_in (p2.toInt64) (0 : Int64) (2 : Int64)) (fun r_4 =>
 (if r_4 = (0 : Int32) then
 (some (-1 : Int32))
 else (gin (((3 : Int32) * p1) + p2) 196 (some (t_state (((3 : Int32) * p1) + p2).toNatClampNeg)))))))))
abbrev rmX8_door : Room := { frames := 2, cells := 0, slots := 0, locals := 46 }
set_option maxHeartbeats 4000000 in
set_option maxRecDepth 100000 in
theorem c_X8_door (l : Launch) (g : Gh) (sz : Nat) (t_q t_state_q t_laws_q t_readPage_q t_readLaws_q t_tape_q t_cuts_q t_letters_q t_work_q t_pages_q t_canBe_q t_leadsOn_q t_seen_q t_heard_q t_isKept_q t_lanes_q t_lengths_q t_cells_q : Nat) (t_roomMany : Int32) (t_doorMany : Int32) (t_stringLong : Int32) (t_lawMany : Int32) (t_readRooms : Int32) (t_readDoors : Int32) (t_readString : Int32) (t_readLawMany : Int32) (t_toldOnce : Int32) (t_highRoom : Int32) (t_highDoor : Int32) (t_taped : Int32) (t_fault : Int32) (t_broken : Int32) (t_brokenAt : Int32) (t_spot : Int32) (t_here : Int32) (t_token : Int32) (t_value : Int32) (t_seenMany : Int32) (t_heardMany : Int32) (t_torn : Int32) (t_state : Nat → Int32) (p1 : Int32) (p2 : Int32) (rr : Int32) (hf : f_X8_door t_doorMany t_state p1 p2 = some rr) : CI l yX8_door wsX8_door rmX8_door [.ref t_q, .int p1, .int p2] g sz [oX8 t_q t_state_q t_roomMany t_doorMany t_stringLong t_laws_q t_lawMany t_readPage_q t_readLaws_q t_readRooms t_readDoors t_readString t_readLawMany t_toldOnce t_highRoom t_highDoor t_tape_q t_taped t_fault t_broken t_brokenAt t_spot t_here t_token t_value t_cuts_q t_letters_q t_work_q t_pages_q t_canBe_q t_leadsOn_q t_seen_q t_seenMany t_heard_q t_heardMany t_isKept_q t_lanes_q t_lengths_q t_cells_q t_torn, aI g t_state_q 196 t_state] [oX8 t_q t_state_q t_roomMany t_doorMany t_stringLong t_laws_q t_lawMany t_readPage_q t_readLaws_q t_readRooms t_readDoors t_readString t_readLawMany t_toldOnce t_highRoom t_highDoor t_tape_q t_taped t_fault t_broken t_brokenAt t_spot t_here t_token t_value t_cuts_q t_letters_q t_work_q t_pages_q t_canBe_q t_leadsOn_q t_seen_q t_seenMany t_heard_q t_heardMany t_isKept_q t_lanes_q t_lengths_q t_cells_q t_torn, aI g t_state_q 196 t_state] rr := by
  refine ent_i (cc := cX8_door) (maxL := 3) (by decide) rfl (Nat.le_of_ble_eq_true rfl) ?_
  intro p e s m args below meth c A Q hx hb hml hown hts hK hz hk hA hD hP hS hret ls hl
  have hown : s.vm.findClass RX8 = some m.cls := hown
  have inX8 : ∀ w ∈ u_ws RX8 TX8 39, w ∈ wsX8_door := by decide +kernel
  have k7 := hts (.fieldLink RX8 7 "ThreadMovedModel" "state" "[I") (by decide +kernel)
  have q194 := hts (.constantLong RX8 194 (2)) (by decide +kernel)
  have hl : lv_has ls 3 [(0, .ref t_q), (1, .int p1), (2, .int p2)] := hl
  have hret : ∀ (rrz : Int32), rrz = rr → ∀ (H : Heap) (locs : List Loc) (pc : Nat) (ls : Array Slot), va_P g.1 vwCl [oX8 t_q t_state_q t_roomMany t_doorMany t_stringLong t_laws_q t_lawMany t_readPage_q t_readLaws_q t_readRooms t_readDoors t_readString t_readLawMany t_toldOnce t_highRoom t_highDoor t_tape_q t_taped t_fault t_broken t_brokenAt t_spot t_here t_token t_value t_cuts_q t_letters_q t_work_q t_pages_q t_canBe_q t_leadsOn_q t_seen_q t_seenMany t_heard_q t_heardMany t_isKept_q t_lanes_q t_lengths_q t_cells_q t_torn, aI g t_state_q 196 t_state] H → va_S A s.heap H locs → decode cX8_door pc = .ok (.ireturn, 1) → W p l e rmX8_door s m args below meth c H locs 0 0 Q (F0 m pc ls [.int rrz]) := by
    intro rrz he H locs pc ls hP hS hd
    cases he
    exact hret H locs pc ls hP hS hd
  unfold f_X8_door at hf
  refine lv_aload_n hx hb dX8_door_0 rfl (lv_at hl 0 rfl) ?_
  refine lv_iload_n hx hb dX8_door_1 rfl (lv_at hl 1 rfl) ?_
  obtain ⟨r_1, hc_2, hf⟩ := ob1_e hf
  refine kV_i (wn := [oX8 t_q t_state_q t_roomMany t_doorMany t_stringLong t_laws_q t_lawMany t_readPage_q t_readLaws_q t_readRooms t_readDoors t_readString t_readLawMany t_toldOnce t_highRoom t_highDoor t_tape_q t_taped t_fault t_broken t_brokenAt t_spot t_here t_token t_value t_cuts_q t_letters_q t_work_q t_pages_q t_canBe_q t_leadsOn_q t_seen_q t_seenMany t_heard_q t_heardMany t_isKept_q t_lanes_q t_lengths_q t_cells_q t_torn, aI g t_state_q 196 t_state]) (As := [.int p1]) (rest := []) (c_X8_isDoor l g _ t_q t_state_q t_laws_q t_readPage_q t_readLaws_q t_tape_q t_cuts_q t_letters_q t_work_q t_pages_q t_canBe_q t_leadsOn_q t_seen_q t_heard_q t_isKept_q t_lanes_q t_lengths_q t_cells_q t_roomMany t_doorMany t_stringLong t_lawMany t_readRooms t_readDoors t_readString t_readLawMany t_toldOnce t_highRoom t_highDoor t_taped t_fault t_broken t_brokenAt t_spot t_here t_token t_value t_seenMany t_heardMany t_torn p1 r_1 hc_2) ⟨hx, hb, hml, hown, hts⟩ (cwV 1 hts gX8_door_X8_isDoor rfl rfl rfl (by decide +kernel) ⟨by decide, by decide⟩) hK hz hk hP (hD.re rfl) hS hA [0] rfl rfl rfl rfl rfl rfl rfl hl.1 rfl (Nat.le_of_ble_eq_true rfl) dX8_door_2 (fun H locs hP hS => ?_)
  refine lv_if_eq (tgt := 33) hx hb dX8_door_5 (by decide) (fun c_3 => ?_) (fun c_3 => ?_)
  · have hf := ite_t hf c_3
    refine lv_iconst (v := (-1 : Int32)) hx hb dX8_door_33 (by decide) ?_
    exact hret (-1 : Int32) (Option.some.inj hf) _ _ _ _ hP hS dX8_door_34
  · have hf := ite_f hf c_3
    refine lv_iload_n hx hb dX8_door_8 rfl (lv_at hl 2 rfl) ?_
    refine lv_i2l hx hb dX8_door_9 rfl ?_
    refine lv_lconst (v := (0 : Int64)) hx hb dX8_door_10 (by decide) ?_
    refine lv_ldc2 hx hb hown q194 dX8_door_11 ?_
    obtain ⟨r_4, hc_5, hf⟩ := ob1_e hf
    refine kS_i (wn := [oX8 t_q t_state_q t_roomMany t_doorMany t_stringLong t_laws_q t_lawMany t_readPage_q t_readLaws_q t_readRooms t_readDoors t_readString t_readLawMany t_toldOnce t_highRoom t_highDoor t_tape_q t_taped t_fault t_broken t_brokenAt t_spot t_here t_token t_value t_cuts_q t_letters_q t_work_q t_pages_q t_canBe_q t_leadsOn_q t_seen_q t_seenMany t_heard_q t_heardMany t_isKept_q t_lanes_q t_lengths_q t_cells_q t_torn, aI g t_state_q 196 t_state]) (As := [.long (p2.toInt64), .long (0 : Int64), .long (2 : Int64)]) (rest := []) (c_X8_in l g _ (p2.toInt64) (0 : Int64) (2 : Int64) r_4 hc_5) ⟨hx, hb, hml, hown, hts⟩ (va_cwS 3 hts gX8_door_X8_in rfl rfl rfl (by decide +kernel) ⟨by decide, by decide⟩) hK hz hk hP (hD.re rfl) hS hA [] rfl rfl rfl rfl rfl hl.1 rfl (Nat.le_of_ble_eq_true rfl) dX8_door_14 (fun H locs hP hS => ?_)
    refine lv_if_eq (tgt := 33) hx hb dX8_door_17 (by decide) (fun c_6 => ?_) (fun c_6 => ?_)
    · have hf := ite_t hf c_6
      refine lv_iconst (v := (-1 : Int32)) hx hb dX8_door_33 (by decide) ?_
      exact hret (-1 : Int32) (Option.some.inj hf) _ _ _ _ hP hS dX8_door_34
    · have hf := ite_f hf c_6
      refine lv_aload_n hx hb dX8_door_20 rfl (lv_at hl 0 rfl) ?_
      refine va_get (D := g.1) (ci := 8) (v := .ref t_state_q) (C := RX8) (T := TX8) (N := 39) hx hb hts inX8 hown hK hP 0 rfl rfl 0 (by decide) k7 (fun _ h9 => h9) rfl dX8_door_21 ?_
      refine lv_iconst (v := (3 : Int32)) hx hb dX8_door_24 (by decide) ?_
      refine lv_iload_n hx hb dX8_door_25 rfl (lv_at hl 1 rfl) ?_
      refine lv_imul hx hb dX8_door_26 ?_
      refine lv_iload_n hx hb dX8_door_27 rfl (lv_at hl 2 rfl) ?_
      refine lv_iadd hx hb dX8_door_28 ?_
      obtain ⟨h_7, hf⟩ := gin_e hf
      refine va_iald hx hb hK hP 1 0 rfl rfl h_7 dX8_door_29 ?_
      refine lv_goto (tgt := 34) hx hb dX8_door_30 (by decide) ?_
      exact hret (t_state (((3 : Int32) * p1) + p2).toNatClampNeg) (Option.some.inj hf) _ _ _ _ hP hS dX8_door_34
