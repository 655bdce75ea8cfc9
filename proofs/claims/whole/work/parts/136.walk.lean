def f_X8_fails (t_broken : Int32) (t_brokenAt : Int32) (t_here : Int32) (p1 : Int32) : Option (Int32 × Int32) :=
 (if t_broken = (0 : Int32) then
 (some (p1, t_here))
 else (some (t_broken, t_brokenAt)))
abbrev rmX8_fails : Room := { frames := 0, cells := 0, slots := 0, locals := 0 }
set_option maxHeartbeats 4000000 in
set_option maxRecDepth 100000 in
theorem c_X8_fails (l : Launch) (g : Gh) (sz : Nat) (t_q t_state_q t_laws_q t_readPage_q t_readLaws_q t_tape_q t_cuts_q t_letters_q t_work_q t_pages_q t_canBe_q t_leadsOn_q t_seen_q t_heard_q t_isKept_q t_lanes_q t_lengths_q t_cells_q : Nat) (t_roomMany : Int32) (t_doorMany : Int32) (t_stringLong : Int32) (t_lawMany : Int32) (t_readRooms : Int32) (t_readDoors : Int32) (t_readString : Int32) (t_readLawMany : Int32) (t_toldOnce : Int32) (t_highRoom : Int32) (t_highDoor : Int32) (t_taped : Int32) (t_fault : Int32) (t_broken : Int32) (t_brokenAt : Int32) (t_spot : Int32) (t_here : Int32) (t_token : Int32) (t_value : Int32) (t_seenMany : Int32) (t_heardMany : Int32) (t_torn : Int32) (p1 : Int32) (t_broken' : Int32) (t_brokenAt' : Int32) (hf : f_X8_fails t_broken t_brokenAt t_here p1 = some (t_broken', t_brokenAt')) : CV l yX8_fails wsX8_fails rmX8_fails [.ref t_q, .int p1] g sz [oX8 t_q t_state_q t_roomMany t_doorMany t_stringLong t_laws_q t_lawMany t_readPage_q t_readLaws_q t_readRooms t_readDoors t_readString t_readLawMany t_toldOnce t_highRoom t_highDoor t_tape_q t_taped t_fault t_broken t_brokenAt t_spot t_here t_token t_value t_cuts_q t_letters_q t_work_q t_pages_q t_canBe_q t_leadsOn_q t_seen_q t_seenMany t_heard_q t_heardMany t_isKept_q t_lanes_q t_lengths_q t_cells_q t_torn] [oX8 t_q t_state_q t_roomMany t_doorMany t_stringLong t_laws_q t_lawMany t_readPage_q t_readLaws_q t_readRooms t_readDoors t_readString t_readLawMany t_toldOnce t_highRoom t_highDoor t_tape_q t_taped t_fault t_broken' t_brokenAt' t_spot t_here t_token t_value t_cuts_q t_letters_q t_work_q t_pages_q t_canBe_q t_leadsOn_q t_seen_q t_seenMany t_heard_q t_heardMany t_isKept_q t_lanes_q t_lengths_q t_cells_q t_torn] := by
  refine ent_v (cc := cX8_fails) (maxL := 2) (by decide) rfl (Nat.le_of_ble_eq_true rfl) ?_
  intro p e s m args below meth c A Q hx hb hml hown hts hK hz hk hA hD hP hS hret ls hl
  have hown : s.vm.findClass RX8 = some m.cls := hown
  have inX8 : ∀ w ∈ u_ws RX8 TX8 39, w ∈ wsX8_fails := by decide +kernel
  have k76 := hts (.fieldLink RX8 76 "ThreadMovedModel" "broken" "I") (by decide +kernel)
  have k79 := hts (.fieldLink RX8 79 "ThreadMovedModel" "here" "I") (by decide +kernel)
  have k82 := hts (.fieldLink RX8 82 "ThreadMovedModel" "brokenAt" "I") (by decide +kernel)
  have hl : lv_has ls 2 [(0, .ref t_q), (1, .int p1)] := hl
  have hret : ∀ (t_brokenz : Int32) (t_brokenAtz : Int32), (t_brokenz, t_brokenAtz) = (t_broken', t_brokenAt') → ∀ (H : Heap) (locs : List Loc) (pc : Nat) (ls : Array Slot), va_P g.1 vwCl [oX8 t_q t_state_q t_roomMany t_doorMany t_stringLong t_laws_q t_lawMany t_readPage_q t_readLaws_q t_readRooms t_readDoors t_readString t_readLawMany t_toldOnce t_highRoom t_highDoor t_tape_q t_taped t_fault t_brokenz t_brokenAtz t_spot t_here t_token t_value t_cuts_q t_letters_q t_work_q t_pages_q t_canBe_q t_leadsOn_q t_seen_q t_seenMany t_heard_q t_heardMany t_isKept_q t_lanes_q t_lengths_q t_cells_q t_torn] H → va_S A s.heap H locs → decode cX8_fails pc = .ok (.return_, 1) → W p l e rmX8_fails s m args below meth c H locs 0 0 Q (F0 m pc ls []) := by
    intro t_brokenz t_brokenAtz he H locs pc ls hP hS hd
    cases he
    exact hret H locs pc ls hP hS hd
  unfold f_X8_fails at hf
  refine lv_aload_n hx hb dX8_fails_0 rfl (lv_at hl 0 rfl) ?_
  refine va_get (D := g.1) (ci := 8) (v := .int t_broken) (C := RX8) (T := TX8) (N := 39) hx hb hts inX8 hown hK hP 0 rfl rfl 18 (by decide) k76 (fun _ h9 => h9) rfl dX8_fails_1 ?_
  refine lv_if_ne (tgt := 20) hx hb dX8_fails_4 (by decide) (fun c_1 => ?_) (fun c_1 => ?_)
  · have hf := ite_f hf c_1
    exact hret t_broken t_brokenAt (Option.some.inj hf) _ _ _ _ hP hS dX8_fails_20
  · have hf := ite_t hf c_1
    refine lv_aload_n hx hb dX8_fails_7 rfl (lv_at hl 0 rfl) ?_
    refine lv_iload_n hx hb dX8_fails_8 rfl (lv_at hl 1 rfl) ?_
    refine va_put (D := g.1) (ci := 8) (v := .int p1) (ty := .int) (C := RX8) (T := TX8) (N := 39) hx hb hts inX8 tyX8 tyX8_ok nmX8 hown hK hP (hD.re rfl) hS 0 rfl rfl 18 (by decide) k76 (fun _ h9 => h9) rfl (by decide +kernel) rfl rfl (Nat.le_of_ble_eq_true rfl) dX8_fails_9 (fun H locs hP _ hS => ?_)
    have hP : va_P g.1 vwCl [oX8 t_q t_state_q t_roomMany t_doorMany t_stringLong t_laws_q t_lawMany t_readPage_q t_readLaws_q t_readRooms t_readDoors t_readString t_readLawMany t_toldOnce t_highRoom t_highDoor t_tape_q t_taped t_fault p1 t_brokenAt t_spot t_here t_token t_value t_cuts_q t_letters_q t_work_q t_pages_q t_canBe_q t_leadsOn_q t_seen_q t_seenMany t_heard_q t_heardMany t_isKept_q t_lanes_q t_lengths_q t_cells_q t_torn] H := hP
    refine lv_aload_n hx hb dX8_fails_12 rfl (lv_at hl 0 rfl) ?_
    refine lv_aload_n hx hb dX8_fails_13 rfl (lv_at hl 0 rfl) ?_
    refine va_get (D := g.1) (ci := 8) (v := .int t_here) (C := RX8) (T := TX8) (N := 39) hx hb hts inX8 hown hK hP 0 rfl rfl 21 (by decide) k79 (fun _ h9 => h9) rfl dX8_fails_14 ?_
    refine va_put (D := g.1) (ci := 8) (v := .int t_here) (ty := .int) (C := RX8) (T := TX8) (N := 39) hx hb hts inX8 tyX8 tyX8_ok nmX8 hown hK hP (hD.re rfl) hS 0 rfl rfl 19 (by decide) k82 (fun _ h9 => h9) rfl (by decide +kernel) rfl rfl (Nat.le_of_ble_eq_true rfl) dX8_fails_17 (fun H locs hP _ hS => ?_)
    have hP : va_P g.1 vwCl [oX8 t_q t_state_q t_roomMany t_doorMany t_stringLong t_laws_q t_lawMany t_readPage_q t_readLaws_q t_readRooms t_readDoors t_readString t_readLawMany t_toldOnce t_highRoom t_highDoor t_tape_q t_taped t_fault p1 t_here t_spot t_here t_token t_value t_cuts_q t_letters_q t_work_q t_pages_q t_canBe_q t_leadsOn_q t_seen_q t_seenMany t_heard_q t_heardMany t_isKept_q t_lanes_q t_lengths_q t_cells_q t_torn] H := hP
    exact hret p1 t_here (Option.some.inj hf) _ _ _ _ hP hS dX8_fails_20

def b_X8_step_8 (t_taped : Int32) (t_tape : Nat → Int32) (t_spot_2 : Int32) : Option ((Int32) ⊕ (Int32)) :=
 (ob1 (f_X8_byteAt t_taped t_tape t_spot_2) (fun r_4 =>
 (if r_4 = (32 : Int32) then
 (bnd (t_spot_2 + (1 : Int32)) (fun t_spot_7 =>
 (some (.inl t_spot_7))))
 else (some (.inr t_spot_2)))))
def b_X8_step_140 (t_taped : Int32) (t_tape : Nat → Int32) (t_spot_8 : Int32) (t_spot_23 : Int32) (t_value_24 : Int32) : Option ((Int32 × Int32) ⊕ (Int32 × Int32)) :=
 (ob1 (f_X8_byteAt t_taped t_tape t_spot_23) (fun r_26 =>
 (ob1 (f_X8_in (r_26.toInt64) (48 : Int64) (57 : Int64)) (fun r_28 =>
 (if r_28 = (0 : Int32) then
 (some (.inr (t_spot_23, t_value_24)))
 else (jn1 (fun (s_31 : Int32) => (bnd (t_spot_23 + (1 : Int32)) (fun t_spot_33 =>
 (some (.inl (t_spot_33, s_31)))))) (fun j_32 =>
 (if (2 : Int32) ≤ (t_spot_23 - t_spot_8) then
 (j_32 t_value_24)
 else (ob1 (f_X8_byteAt t_taped t_tape t_spot_23) (fun r_35 =>
 (j_32 ((((10 : Int32) * t_value_24) + r_35) - (48 : Int32)))))))))))))
def b_X8_step_84 (t_taped : Int32) (t_tape : Nat → Int32) (t_spot_43 : Int32) : Option ((Int32) ⊕ (Int32)) :=
 (ob1 (f_X8_byteAt t_taped t_tape t_spot_43) (fun r_45 =>
 (ob1 (f_X8_in (r_45.toInt64) (97 : Int64) (122 : Int64)) (fun r_47 =>
 (if r_47 = (0 : Int32) then
 (some (.inr t_spot_43))
 else (bnd (t_spot_43 + (1 : Int32)) (fun t_spot_50 =>
 (some (.inl t_spot_50)))))))))
def f_X8_step (t_taped : Int32) (t_broken : Int32) (t_brokenAt : Int32) (t_spot : Int32) (t_here : Int32) (t_token : Int32) (t_value : Int32) (t_tape : Nat → Int32) : Option (Int32 × Int32 × Int32 × Int32 × Int32 × Int32) :=
 (if t_broken ≤ (0 : Int32) then
 (ob1 (itr (un1 (b_X8_step_8 t_taped t_tape)) FU t_spot) (fun t_spot_8 =>
 (ob1 (f_X8_byteAt t_taped t_tape t_spot_8) (fun r_9 =>
 (if r_9 = (-4 : Int32) then
 (some (t_broken, t_brokenAt, t_spot_8, t_spot_8, (0 : Int32), (0 : Int32)))
 else (ob1 (f_X8_in (r_9.toInt64) (97 : Int64) (122 : Int64)) (fun r_12 =>
 (if r_12 = (0 : Int32) then
 (ob1 (f_X8_in (r_9.toInt64) (48 : Int64) (57 : Int64)) (fun r_15 =>
 (if r_15 = (0 : Int32) then
 (bnd (t_spot_8 + (1 : Int32)) (fun t_spot_18 =>
 (if r_9 = (59 : Int32) then
 (some (t_broken, t_brokenAt, t_spot_8, t_spot_18, (3 : Int32), (0 : Int32)))
 else (ob2 (f_X8_fails t_broken t_brokenAt t_spot_8 (1 : Int32)) (fun t_broken_20 t_brokenAt_21 =>
 (some (t_broken_20, t_brokenAt_21, t_spot_8, t_spot_18, (3 : Int32), (0 : Int32))))))))
 else (ob2 (itr (un2 (b_X8_step_140 t_taped t_tape t_spot_8)) FU (t_spot_8, (0 : Int32))) (fun t_spot_37 t_value_38 =>
 (if (t_spot_37 - t_spot_8) ≤ (2 : Int32) then
 (some (t_broken, t_brokenAt, t_spot_8, t_spot_37, (2 : Int32), t_value_38))
 else (ob2 (f_X8_fails t_broken t_brokenAt t_spot_8 (1 : Int32)) (fun t_broken_40 t_brokenAt_41 =>
 (some (t_broken_40, t_brokenAt_41, t_spot_8, t_spot_37, (2 : Int32), t_value_38))))))))))
 else (ob1 (itr (un1 (b_X8_step_84 t_taped t_tape)) FU t_spot_8) (fun t_spot_51 =>
 (some (t_broken, t_brokenAt, t_spot_8, t_spot_51, (1 : Int32), (0 : Int32)))))))))))))
 else (some (t_broken, t_brokenAt, t_here, t_spot, t_token, t_value)))
abbrev rmX8_step : Room := { frames := 1, cells := 0, slots := 0, locals := 25 }
set_option maxHeartbeats 4000000 in
set_option maxRecDepth 100000 in
theorem c_X8_step (l : Launch) (g : Gh) (sz : Nat) (t_q t_state_q t_laws_q t_readPage_q t_readLaws_q t_tape_q t_cuts_q t_letters_q t_work_q t_pages_q t_canBe_q t_leadsOn_q t_seen_q t_heard_q t_isKept_q t_lanes_q t_lengths_q t_cells_q : Nat) (t_roomMany : Int32) (t_doorMany : Int32) (t_stringLong : Int32) (t_lawMany : Int32) (t_readRooms : Int32) (t_readDoors : Int32) (t_readString : Int32) (t_readLawMany : Int32) (t_toldOnce : Int32) (t_highRoom : Int32) (t_highDoor : Int32) (t_taped : Int32) (t_fault : Int32) (t_broken : Int32) (t_brokenAt : Int32) (t_spot : Int32) (t_here : Int32) (t_token : Int32) (t_value : Int32) (t_seenMany : Int32) (t_heardMany : Int32) (t_torn : Int32) (t_tape : Nat → Int32) (t_broken' : Int32) (t_brokenAt' : Int32) (t_here' : Int32) (t_spot' : Int32) (t_token' : Int32) (t_value' : Int32) (hf : f_X8_step t_taped t_broken t_brokenAt t_spot t_here t_token t_value t_tape = some (t_broken', t_brokenAt', t_here', t_spot', t_token', t_value')) : CV l yX8_step wsX8_step rmX8_step [.ref t_q] g sz [oX8 t_q t_state_q t_roomMany t_doorMany t_stringLong t_laws_q t_lawMany t_readPage_q t_readLaws_q t_readRooms t_readDoors t_readString t_readLawMany t_toldOnce t_highRoom t_highDoor t_tape_q t_taped t_fault t_broken t_brokenAt t_spot t_here t_token t_value t_cuts_q t_letters_q t_work_q t_pages_q t_canBe_q t_leadsOn_q t_seen_q t_seenMany t_heard_q t_heardMany t_isKept_q t_lanes_q t_lengths_q t_cells_q t_torn, aI g t_tape_q 320 t_tape] [oX8 t_q t_state_q t_roomMany t_doorMany t_stringLong t_laws_q t_lawMany t_readPage_q t_readLaws_q t_readRooms t_readDoors t_readString t_readLawMany t_toldOnce t_highRoom t_highDoor t_tape_q t_taped t_fault t_broken' t_brokenAt' t_spot' t_here' t_token' t_value' t_cuts_q t_letters_q t_work_q t_pages_q t_canBe_q t_leadsOn_q t_seen_q t_seenMany t_heard_q t_heardMany t_isKept_q t_lanes_q t_lengths_q t_cells_q t_torn, aI g t_tape_q 320 t_tape] := by
  refine ent_v (cc := cX8_step) (maxL := 2) (by decide) rfl (Nat.le_of_ble_eq_true rfl) ?_
  intro p e s m args below meth c A Q hx hb hml hown hts hK hz hk hA hD hP hS hret ls hl
  have hown : s.vm.findClass RX8 = some m.cls := hown
  have inX8 : ∀ w ∈ u_ws RX8 TX8 39, w ∈ wsX8_step := by decide +kernel
  have k76 := hts (.fieldLink RX8 76 "ThreadMovedModel" "broken" "I") (by decide +kernel)
  have k79 := hts (.fieldLink RX8 79 "ThreadMovedModel" "here" "I") (by decide +kernel)
  have k85 := hts (.fieldLink RX8 85 "ThreadMovedModel" "token" "I") (by decide +kernel)
  have k88 := hts (.fieldLink RX8 88 "ThreadMovedModel" "spot" "I") (by decide +kernel)
  have k95 := hts (.fieldLink RX8 95 "ThreadMovedModel" "value" "I") (by decide +kernel)
  have q98 := hts (.constantLong RX8 98 (97)) (by decide +kernel)
  have q100 := hts (.constantLong RX8 100 (122)) (by decide +kernel)
  have q102 := hts (.constantLong RX8 102 (48)) (by decide +kernel)
  have q104 := hts (.constantLong RX8 104 (57)) (by decide +kernel)
  have hl : lv_has ls 2 [(0, .ref t_q)] := hl
  have hret : ∀ (t_brokenz : Int32) (t_brokenAtz : Int32) (t_herez : Int32) (t_spotz : Int32) (t_tokenz : Int32) (t_valuez : Int32), (t_brokenz, t_brokenAtz, t_herez, t_spotz, t_tokenz, t_valuez) = (t_broken', t_brokenAt', t_here', t_spot', t_token', t_value') → ∀ (H : Heap) (locs : List Loc) (pc : Nat) (ls : Array Slot), va_P g.1 vwCl [oX8 t_q t_state_q t_roomMany t_doorMany t_stringLong t_laws_q t_lawMany t_readPage_q t_readLaws_q t_readRooms t_readDoors t_readString t_readLawMany t_toldOnce t_highRoom t_highDoor t_tape_q t_taped t_fault t_brokenz t_brokenAtz t_spotz t_herez t_tokenz t_valuez t_cuts_q t_letters_q t_work_q t_pages_q t_canBe_q t_leadsOn_q t_seen_q t_seenMany t_heard_q t_heardMany t_isKept_q t_lanes_q t_lengths_q t_cells_q t_torn, aI g t_tape_q 320 t_tape] H → va_S A s.heap H locs → decode cX8_step pc = .ok (.return_, 1) → W p l e rmX8_step s m args below meth c H locs 0 0 Q (F0 m pc ls []) := by
    intro t_brokenz t_brokenAtz t_herez t_spotz t_tokenz t_valuez he H locs pc ls hP hS hd
    cases he
    exact hret H locs pc ls hP hS hd
  unfold f_X8_step at hf
  refine lv_aload_n hx hb dX8_step_0 rfl (lv_at hl 0 rfl) ?_
  refine va_get (D := g.1) (ci := 8) (v := .int t_broken) (C := RX8) (T := TX8) (N := 39) hx hb hts inX8 hown hK hP 0 rfl rfl 18 (by decide) k76 (fun _ h9 => h9) rfl dX8_step_1 ?_
  refine lv_if_le (tgt := 8) hx hb dX8_step_4 (by decide) (fun c_1 => ?_) (fun c_1 => ?_)
  · have hf := ite_t hf c_1
    obtain ⟨t_spot_8, ho_3, hf⟩ := ob1_e hf
    have K_3 : ∀ (t_spot_8y : Int32), t_spot_8 = t_spot_8y → ∀ (H : Heap) (locs : List Loc) (ls : Array Slot), va_P g.1 vwCl [oX8 t_q t_state_q t_roomMany t_doorMany t_stringLong t_laws_q t_lawMany t_readPage_q t_readLaws_q t_readRooms t_readDoors t_readString t_readLawMany t_toldOnce t_highRoom t_highDoor t_tape_q t_taped t_fault t_broken t_brokenAt t_spot_8y t_here t_token t_value t_cuts_q t_letters_q t_work_q t_pages_q t_canBe_q t_leadsOn_q t_seen_q t_seenMany t_heard_q t_heardMany t_isKept_q t_lanes_q t_lengths_q t_cells_q t_torn, aI g t_tape_q 320 t_tape] H → va_S A s.heap H locs → lv_has ls 2 [(0, .ref t_q)] → W p l e rmX8_step s m args below meth c H locs 0 0 Q (F0 m 34 ls []) := by
      intro t_spot_8y ey0 H locs ls hP hS hl
      subst ey0
      refine lv_aload_n hx hb dX8_step_34 rfl (lv_at hl 0 rfl) ?_
      refine lv_aload_n hx hb dX8_step_35 rfl (lv_at hl 0 rfl) ?_
      refine va_get (D := g.1) (ci := 8) (v := .int t_spot_8) (C := RX8) (T := TX8) (N := 39) hx hb hts inX8 hown hK hP 0 rfl rfl 20 (by decide) k88 (fun _ h9 => h9) rfl dX8_step_36 ?_
      refine va_put (D := g.1) (ci := 8) (v := .int t_spot_8) (ty := .int) (C := RX8) (T := TX8) (N := 39) hx hb hts inX8 tyX8 tyX8_ok nmX8 hown hK hP (hD.re rfl) hS 0 rfl rfl 21 (by decide) k79 (fun _ h9 => h9) rfl (by decide +kernel) rfl rfl (Nat.le_of_ble_eq_true rfl) dX8_step_39 (fun H locs hP _ hS => ?_)
      have hP : va_P g.1 vwCl [oX8 t_q t_state_q t_roomMany t_doorMany t_stringLong t_laws_q t_lawMany t_readPage_q t_readLaws_q t_readRooms t_readDoors t_readString t_readLawMany t_toldOnce t_highRoom t_highDoor t_tape_q t_taped t_fault t_broken t_brokenAt t_spot_8 t_spot_8 t_token t_value t_cuts_q t_letters_q t_work_q t_pages_q t_canBe_q t_leadsOn_q t_seen_q t_seenMany t_heard_q t_heardMany t_isKept_q t_lanes_q t_lengths_q t_cells_q t_torn, aI g t_tape_q 320 t_tape] H := hP
      refine lv_aload_n hx hb dX8_step_42 rfl (lv_at hl 0 rfl) ?_
      refine lv_aload_n hx hb dX8_step_43 rfl (lv_at hl 0 rfl) ?_
      refine va_get (D := g.1) (ci := 8) (v := .int t_spot_8) (C := RX8) (T := TX8) (N := 39) hx hb hts inX8 hown hK hP 0 rfl rfl 20 (by decide) k88 (fun _ h9 => h9) rfl dX8_step_44 ?_
      obtain ⟨r_9, hc_10, hf⟩ := ob1_e hf
      refine kV_i (wn := [oX8 t_q t_state_q t_roomMany t_doorMany t_stringLong t_laws_q t_lawMany t_readPage_q t_readLaws_q t_readRooms t_readDoors t_readString t_readLawMany t_toldOnce t_highRoom t_highDoor t_tape_q t_taped t_fault t_broken t_brokenAt t_spot_8 t_spot_8 t_token t_value t_cuts_q t_letters_q t_work_q t_pages_q t_canBe_q t_leadsOn_q t_seen_q t_seenMany t_heard_q t_heardMany t_isKept_q t_lanes_q t_lengths_q t_cells_q t_torn, aI g t_tape_q 320 t_tape]) (As := [.int t_spot_8]) (rest := []) (c_X8_byteAt l g _ t_q t_state_q t_laws_q t_readPage_q t_readLaws_q t_tape_q t_cuts_q t_letters_q t_work_q t_pages_q t_canBe_q t_leadsOn_q t_seen_q t_heard_q t_isKept_q t_lanes_q t_lengths_q t_cells_q t_roomMany t_doorMany t_stringLong t_lawMany t_readRooms t_readDoors t_readString t_readLawMany t_toldOnce t_highRoom t_highDoor t_taped t_fault t_broken t_brokenAt t_spot_8 t_spot_8 t_token t_value t_seenMany t_heardMany t_torn t_tape t_spot_8 r_9 hc_10) ⟨hx, hb, hml, hown, hts⟩ (cwV 1 hts gX8_step_X8_byteAt rfl rfl rfl (by decide +kernel) ⟨by decide, by decide⟩) hK hz hk hP (hD.re rfl) hS hA [0, 1] rfl rfl rfl rfl rfl rfl rfl hl.1 rfl (Nat.le_of_ble_eq_true rfl) dX8_step_47 (fun H locs hP hS => ?_)
      refine lv_istore_n (lv' := [(1, .int r_9), (0, .ref t_q)]) hx hb dX8_step_50 rfl hl (by decide) rfl (fun ls hl => ?_)
      refine lv_aload_n hx hb dX8_step_51 rfl (lv_at hl 1 rfl) ?_
      refine lv_iconst (v := (0 : Int32)) hx hb dX8_step_52 (by decide) ?_
      refine va_put (D := g.1) (ci := 8) (v := .int (0 : Int32)) (ty := .int) (C := RX8) (T := TX8) (N := 39) hx hb hts inX8 tyX8 tyX8_ok nmX8 hown hK hP (hD.re rfl) hS 0 rfl rfl 23 (by decide) k95 (fun _ h9 => h9) rfl (by decide +kernel) rfl rfl (Nat.le_of_ble_eq_true rfl) dX8_step_53 (fun H locs hP _ hS => ?_)
      have hP : va_P g.1 vwCl [oX8 t_q t_state_q t_roomMany t_doorMany t_stringLong t_laws_q t_lawMany t_readPage_q t_readLaws_q t_readRooms t_readDoors t_readString t_readLawMany t_toldOnce t_highRoom t_highDoor t_tape_q t_taped t_fault t_broken t_brokenAt t_spot_8 t_spot_8 t_token (0 : Int32) t_cuts_q t_letters_q t_work_q t_pages_q t_canBe_q t_leadsOn_q t_seen_q t_seenMany t_heard_q t_heardMany t_isKept_q t_lanes_q t_lengths_q t_cells_q t_torn, aI g t_tape_q 320 t_tape] H := hP
      refine lv_iload_n hx hb dX8_step_56 rfl (lv_at hl 0 rfl) ?_
      refine lv_bipush (v := (-4 : Int32)) hx hb dX8_step_57 (by decide) ?_
      refine lv_icmp_ne (tgt := 70) hx hb dX8_step_59 (by decide) (fun c_11 => ?_) (fun c_11 => ?_)
      · have hf := ite_f hf c_11
        refine lv_iload_n hx hb dX8_step_70 rfl (lv_at hl 0 rfl) ?_
        refine lv_i2l hx hb dX8_step_71 rfl ?_
        refine lv_ldc2 hx hb hown q98 dX8_step_72 ?_
        refine lv_ldc2 hx hb hown q100 dX8_step_75 ?_
        obtain ⟨r_12, hc_13, hf⟩ := ob1_e hf
        refine kS_i (wn := [oX8 t_q t_state_q t_roomMany t_doorMany t_stringLong t_laws_q t_lawMany t_readPage_q t_readLaws_q t_readRooms t_readDoors t_readString t_readLawMany t_toldOnce t_highRoom t_highDoor t_tape_q t_taped t_fault t_broken t_brokenAt t_spot_8 t_spot_8 t_token (0 : Int32) t_cuts_q t_letters_q t_work_q t_pages_q t_canBe_q t_leadsOn_q t_seen_q t_seenMany t_heard_q t_heardMany t_isKept_q t_lanes_q t_lengths_q t_cells_q t_torn, aI g t_tape_q 320 t_tape]) (As := [.long (r_9.toInt64), .long (97 : Int64), .long (122 : Int64)]) (rest := []) (c_X8_in l g _ (r_9.toInt64) (97 : Int64) (122 : Int64) r_12 hc_13) ⟨hx, hb, hml, hown, hts⟩ (va_cwS 3 hts gX8_step_X8_in rfl rfl rfl (by decide +kernel) ⟨by decide, by decide⟩) hK hz hk hP (hD.re rfl) hS hA [] rfl rfl rfl rfl rfl hl.1 rfl (Nat.le_of_ble_eq_true rfl) dX8_step_78 (fun H locs hP hS => ?_)
        refine lv_if_eq (tgt := 126) hx hb dX8_step_81 (by decide) (fun c_14 => ?_) (fun c_14 => ?_)
        · have hf := ite_t hf c_14
          refine lv_iload_n hx hb dX8_step_126 rfl (lv_at hl 0 rfl) ?_
          refine lv_i2l hx hb dX8_step_127 rfl ?_
          refine lv_ldc2 hx hb hown q102 dX8_step_128 ?_
          refine lv_ldc2 hx hb hown q104 dX8_step_131 ?_
          obtain ⟨r_15, hc_16, hf⟩ := ob1_e hf
          refine kS_i (wn := [oX8 t_q t_state_q t_roomMany t_doorMany t_stringLong t_laws_q t_lawMany t_readPage_q t_readLaws_q t_readRooms t_readDoors t_readString t_readLawMany t_toldOnce t_highRoom t_highDoor t_tape_q t_taped t_fault t_broken t_brokenAt t_spot_8 t_spot_8 t_token (0 : Int32) t_cuts_q t_letters_q t_work_q t_pages_q t_canBe_q t_leadsOn_q t_seen_q t_seenMany t_heard_q t_heardMany t_isKept_q t_lanes_q t_lengths_q t_cells_q t_torn, aI g t_tape_q 320 t_tape]) (As := [.long (r_9.toInt64), .long (48 : Int64), .long (57 : Int64)]) (rest := []) (c_X8_in l g _ (r_9.toInt64) (48 : Int64) (57 : Int64) r_15 hc_16) ⟨hx, hb, hml, hown, hts⟩ (va_cwS 3 hts gX8_step_X8_in rfl rfl rfl (by decide +kernel) ⟨by decide, by decide⟩) hK hz hk hP (hD.re rfl) hS hA [] rfl rfl rfl rfl rfl hl.1 rfl (Nat.le_of_ble_eq_true rfl) dX8_step_134 (fun H locs hP hS => ?_)
          refine lv_if_eq (tgt := 243) hx hb dX8_step_137 (by decide) (fun c_17 => ?_) (fun c_17 => ?_)
          · have hf := ite_t hf c_17
            refine lv_aload_n hx hb dX8_step_243 rfl (lv_at hl 1 rfl) ?_
            refine lv_iconst (v := (3 : Int32)) hx hb dX8_step_244 (by decide) ?_
            refine va_put (D := g.1) (ci := 8) (v := .int (3 : Int32)) (ty := .int) (C := RX8) (T := TX8) (N := 39) hx hb hts inX8 tyX8 tyX8_ok nmX8 hown hK hP (hD.re rfl) hS 0 rfl rfl 22 (by decide) k85 (fun _ h9 => h9) rfl (by decide +kernel) rfl rfl (Nat.le_of_ble_eq_true rfl) dX8_step_245 (fun H locs hP _ hS => ?_)
            have hP : va_P g.1 vwCl [oX8 t_q t_state_q t_roomMany t_doorMany t_stringLong t_laws_q t_lawMany t_readPage_q t_readLaws_q t_readRooms t_readDoors t_readString t_readLawMany t_toldOnce t_highRoom t_highDoor t_tape_q t_taped t_fault t_broken t_brokenAt t_spot_8 t_spot_8 (3 : Int32) (0 : Int32) t_cuts_q t_letters_q t_work_q t_pages_q t_canBe_q t_leadsOn_q t_seen_q t_seenMany t_heard_q t_heardMany t_isKept_q t_lanes_q t_lengths_q t_cells_q t_torn, aI g t_tape_q 320 t_tape] H := hP
            refine lv_aload_n hx hb dX8_step_248 rfl (lv_at hl 1 rfl) ?_
            refine lv_dup hx hb dX8_step_249 rfl ?_
            refine va_get (D := g.1) (ci := 8) (v := .int t_spot_8) (C := RX8) (T := TX8) (N := 39) hx hb hts inX8 hown hK hP 0 rfl rfl 20 (by decide) k88 (fun _ h9 => h9) rfl dX8_step_250 ?_
            refine lv_iconst (v := (1 : Int32)) hx hb dX8_step_253 (by decide) ?_
            refine lv_iadd hx hb dX8_step_254 ?_
            obtain ⟨t_spot_18, et_spot_18, hf⟩ := bnd_e hf
            refine tp_i et_spot_18 ?_
            refine va_put (D := g.1) (ci := 8) (v := .int t_spot_18) (ty := .int) (C := RX8) (T := TX8) (N := 39) hx hb hts inX8 tyX8 tyX8_ok nmX8 hown hK hP (hD.re rfl) hS 0 rfl rfl 20 (by decide) k88 (fun _ h9 => h9) rfl (by decide +kernel) rfl rfl (Nat.le_of_ble_eq_true rfl) dX8_step_255 (fun H locs hP _ hS => ?_)
            have hP : va_P g.1 vwCl [oX8 t_q t_state_q t_roomMany t_doorMany t_stringLong t_laws_q t_lawMany t_readPage_q t_readLaws_q t_readRooms t_readDoors t_readString t_readLawMany t_toldOnce t_highRoom t_highDoor t_tape_q t_taped t_fault t_broken t_brokenAt t_spot_18 t_spot_8 (3 : Int32) (0 : Int32) t_cuts_q t_letters_q t_work_q t_pages_q t_canBe_q t_leadsOn_q t_seen_q t_seenMany t_heard_q t_heardMany t_isKept_q t_lanes_q t_lengths_q t_cells_q t_torn, aI g t_tape_q 320 t_tape] H := hP
            refine lv_iload_n hx hb dX8_step_258 rfl (lv_at hl 0 rfl) ?_
            refine lv_bipush (v := (59 : Int32)) hx hb dX8_step_259 (by decide) ?_
            refine lv_icmp_eq (tgt := 269) hx hb dX8_step_261 (by decide) (fun c_19 => ?_) (fun c_19 => ?_)
            · have hf := ite_t hf c_19
              exact hret t_broken t_brokenAt t_spot_8 t_spot_18 (3 : Int32) (0 : Int32) (Option.some.inj hf) _ _ _ _ hP hS dX8_step_269
            · have hf := ite_f hf c_19
              refine lv_aload_n hx hb dX8_step_264 rfl (lv_at hl 1 rfl) ?_
              refine lv_iconst (v := (1 : Int32)) hx hb dX8_step_265 (by decide) ?_
              obtain ⟨t_broken_20, t_brokenAt_21, hc_22, hf⟩ := ob2_e hf
              refine kV_v (wn := [oX8 t_q t_state_q t_roomMany t_doorMany t_stringLong t_laws_q t_lawMany t_readPage_q t_readLaws_q t_readRooms t_readDoors t_readString t_readLawMany t_toldOnce t_highRoom t_highDoor t_tape_q t_taped t_fault t_broken_20 t_brokenAt_21 t_spot_18 t_spot_8 (3 : Int32) (0 : Int32) t_cuts_q t_letters_q t_work_q t_pages_q t_canBe_q t_leadsOn_q t_seen_q t_seenMany t_heard_q t_heardMany t_isKept_q t_lanes_q t_lengths_q t_cells_q t_torn, aI g t_tape_q 320 t_tape]) (As := [.int (1 : Int32)]) (rest := []) (c_X8_fails l g _ t_q t_state_q t_laws_q t_readPage_q t_readLaws_q t_tape_q t_cuts_q t_letters_q t_work_q t_pages_q t_canBe_q t_leadsOn_q t_seen_q t_heard_q t_isKept_q t_lanes_q t_lengths_q t_cells_q t_roomMany t_doorMany t_stringLong t_lawMany t_readRooms t_readDoors t_readString t_readLawMany t_toldOnce t_highRoom t_highDoor t_taped t_fault t_broken t_brokenAt t_spot_18 t_spot_8 (3 : Int32) (0 : Int32) t_seenMany t_heardMany t_torn (1 : Int32) t_broken_20 t_brokenAt_21 hc_22) ⟨hx, hb, hml, hown, hts⟩ (cwV 1 hts gX8_step_X8_fails rfl rfl rfl (by decide +kernel) ⟨by decide, by decide⟩) hK hz hk hP (hD.re rfl) hS hA [0] rfl rfl rfl rfl rfl rfl rfl hl.1 rfl (Nat.le_of_ble_eq_true rfl) dX8_step_266 (fun H locs hP hS => ?_)
              exact hret t_broken_20 t_brokenAt_21 t_spot_8 t_spot_18 (3 : Int32) (0 : Int32) (Option.some.inj hf) _ _ _ _ hP hS dX8_step_269
          · have hf := ite_f hf c_17
            obtain ⟨t_spot_37, t_value_38, ho_25, hf⟩ := ob2_e hf
            have K_25 : ∀ (t_spot_37y : Int32) (t_value_38y : Int32), t_spot_37 = t_spot_37y → t_value_38 = t_value_38y → ∀ (H : Heap) (locs : List Loc) (ls : Array Slot), va_P g.1 vwCl [oX8 t_q t_state_q t_roomMany t_doorMany t_stringLong t_laws_q t_lawMany t_readPage_q t_readLaws_q t_readRooms t_readDoors t_readString t_readLawMany t_toldOnce t_highRoom t_highDoor t_tape_q t_taped t_fault t_broken t_brokenAt t_spot_37y t_spot_8 t_token t_value_38y t_cuts_q t_letters_q t_work_q t_pages_q t_canBe_q t_leadsOn_q t_seen_q t_seenMany t_heard_q t_heardMany t_isKept_q t_lanes_q t_lengths_q t_cells_q t_torn, aI g t_tape_q 320 t_tape] H → va_S A s.heap H locs → lv_has ls 2 [(0, .ref t_q)] → W p l e rmX8_step s m args below meth c H locs 0 0 Q (F0 m 217 ls []) := by
              intro t_spot_37y t_value_38y ey0 ey1 H locs ls hP hS hl
              subst ey0
              subst ey1
              refine lv_aload_n hx hb dX8_step_217 rfl (lv_at hl 0 rfl) ?_
              refine lv_iconst (v := (2 : Int32)) hx hb dX8_step_218 (by decide) ?_
              refine va_put (D := g.1) (ci := 8) (v := .int (2 : Int32)) (ty := .int) (C := RX8) (T := TX8) (N := 39) hx hb hts inX8 tyX8 tyX8_ok nmX8 hown hK hP (hD.re rfl) hS 0 rfl rfl 22 (by decide) k85 (fun _ h9 => h9) rfl (by decide +kernel) rfl rfl (Nat.le_of_ble_eq_true rfl) dX8_step_219 (fun H locs hP _ hS => ?_)
              have hP : va_P g.1 vwCl [oX8 t_q t_state_q t_roomMany t_doorMany t_stringLong t_laws_q t_lawMany t_readPage_q t_readLaws_q t_readRooms t_readDoors t_readString t_readLawMany t_toldOnce t_highRoom t_highDoor t_tape_q t_taped t_fault t_broken t_brokenAt t_spot_37 t_spot_8 (2 : Int32) t_value_38 t_cuts_q t_letters_q t_work_q t_pages_q t_canBe_q t_leadsOn_q t_seen_q t_seenMany t_heard_q t_heardMany t_isKept_q t_lanes_q t_lengths_q t_cells_q t_torn, aI g t_tape_q 320 t_tape] H := hP
              refine lv_aload_n hx hb dX8_step_222 rfl (lv_at hl 0 rfl) ?_
              refine va_get (D := g.1) (ci := 8) (v := .int t_spot_37) (C := RX8) (T := TX8) (N := 39) hx hb hts inX8 hown hK hP 0 rfl rfl 20 (by decide) k88 (fun _ h9 => h9) rfl dX8_step_223 ?_
              refine lv_aload_n hx hb dX8_step_226 rfl (lv_at hl 0 rfl) ?_
              refine va_get (D := g.1) (ci := 8) (v := .int t_spot_8) (C := RX8) (T := TX8) (N := 39) hx hb hts inX8 hown hK hP 0 rfl rfl 21 (by decide) k79 (fun _ h9 => h9) rfl dX8_step_227 ?_
              refine lv_isub hx hb dX8_step_230 ?_
              refine lv_iconst (v := (2 : Int32)) hx hb dX8_step_231 (by decide) ?_
              refine lv_icmp_le (tgt := 269) hx hb dX8_step_232 (by decide) (fun c_39 => ?_) (fun c_39 => ?_)
              · have hf := ite_t hf c_39
                exact hret t_broken t_brokenAt t_spot_8 t_spot_37 (2 : Int32) t_value_38 (Option.some.inj hf) _ _ _ _ hP hS dX8_step_269
              · have hf := ite_f hf c_39
                refine lv_aload_n hx hb dX8_step_235 rfl (lv_at hl 0 rfl) ?_
                refine lv_iconst (v := (1 : Int32)) hx hb dX8_step_236 (by decide) ?_
                obtain ⟨t_broken_40, t_brokenAt_41, hc_42, hf⟩ := ob2_e hf
                refine kV_v (wn := [oX8 t_q t_state_q t_roomMany t_doorMany t_stringLong t_laws_q t_lawMany t_readPage_q t_readLaws_q t_readRooms t_readDoors t_readString t_readLawMany t_toldOnce t_highRoom t_highDoor t_tape_q t_taped t_fault t_broken_40 t_brokenAt_41 t_spot_37 t_spot_8 (2 : Int32) t_value_38 t_cuts_q t_letters_q t_work_q t_pages_q t_canBe_q t_leadsOn_q t_seen_q t_seenMany t_heard_q t_heardMany t_isKept_q t_lanes_q t_lengths_q t_cells_q t_torn, aI g t_tape_q 320 t_tape]) (As := [.int (1 : Int32)]) (rest := []) (c_X8_fails l g _ t_q t_state_q t_laws_q t_readPage_q t_readLaws_q t_tape_q t_cuts_q t_letters_q t_work_q t_pages_q t_canBe_q t_leadsOn_q t_seen_q t_heard_q t_isKept_q t_lanes_q t_lengths_q t_cells_q t_roomMany t_doorMany t_stringLong t_lawMany t_readRooms t_readDoors t_readString t_readLawMany t_toldOnce t_highRoom t_highDoor t_taped t_fault t_broken t_brokenAt t_spot_37 t_spot_8 (2 : Int32) t_value_38 t_seenMany t_heardMany t_torn (1 : Int32) t_broken_40 t_brokenAt_41 hc_42) ⟨hx, hb, hml, hown, hts⟩ (cwV 1 hts gX8_step_X8_fails rfl rfl rfl (by decide +kernel) ⟨by decide, by decide⟩) hK hz hk hP (hD.re rfl) hS hA [0] rfl rfl rfl rfl rfl rfl rfl hl.1 rfl (Nat.le_of_ble_eq_true rfl) dX8_step_237 (fun H locs hP hS => ?_)
                refine lv_goto (tgt := 269) hx hb dX8_step_240 (by decide) ?_
                exact hret t_broken_40 t_brokenAt_41 t_spot_8 t_spot_37 (2 : Int32) t_value_38 (Option.some.inj hf) _ _ _ _ hP hS dX8_step_269
            have L_25 : ∀ (n : Nat) (t_spot_23 : Int32) (t_value_24 : Int32), itr (un2 (b_X8_step_140 t_taped t_tape t_spot_8)) n (t_spot_23, t_value_24) = some (t_spot_37, t_value_38) → ∀ (H : Heap) (locs : List Loc) (ls : Array Slot), va_P g.1 vwCl [oX8 t_q t_state_q t_roomMany t_doorMany t_stringLong t_laws_q t_lawMany t_readPage_q t_readLaws_q t_readRooms t_readDoors t_readString t_readLawMany t_toldOnce t_highRoom t_highDoor t_tape_q t_taped t_fault t_broken t_brokenAt t_spot_23 t_spot_8 t_token t_value_24 t_cuts_q t_letters_q t_work_q t_pages_q t_canBe_q t_leadsOn_q t_seen_q t_seenMany t_heard_q t_heardMany t_isKept_q t_lanes_q t_lengths_q t_cells_q t_torn, aI g t_tape_q 320 t_tape] H → va_S A s.heap H locs → lv_has ls 2 [(0, .ref t_q)] → W p l e rmX8_step s m args below meth c H locs 0 0 Q (F0 m 140 ls []) := by
              refine itr_ind2 ?_
              intro t_spot_23 t_value_24 z_25 hf hrec hex H locs ls hP hS hl
              unfold b_X8_step_140 at hf
              refine lv_aload_n hx hb dX8_step_140 rfl (lv_at hl 0 rfl) ?_
              refine lv_aload_n hx hb dX8_step_141 rfl (lv_at hl 0 rfl) ?_
              refine va_get (D := g.1) (ci := 8) (v := .int t_spot_23) (C := RX8) (T := TX8) (N := 39) hx hb hts inX8 hown hK hP 0 rfl rfl 20 (by decide) k88 (fun _ h9 => h9) rfl dX8_step_142 ?_
              obtain ⟨r_26, hc_27, hf⟩ := ob1_e hf
              refine kV_i (wn := [oX8 t_q t_state_q t_roomMany t_doorMany t_stringLong t_laws_q t_lawMany t_readPage_q t_readLaws_q t_readRooms t_readDoors t_readString t_readLawMany t_toldOnce t_highRoom t_highDoor t_tape_q t_taped t_fault t_broken t_brokenAt t_spot_23 t_spot_8 t_token t_value_24 t_cuts_q t_letters_q t_work_q t_pages_q t_canBe_q t_leadsOn_q t_seen_q t_seenMany t_heard_q t_heardMany t_isKept_q t_lanes_q t_lengths_q t_cells_q t_torn, aI g t_tape_q 320 t_tape]) (As := [.int t_spot_23]) (rest := []) (c_X8_byteAt l g _ t_q t_state_q t_laws_q t_readPage_q t_readLaws_q t_tape_q t_cuts_q t_letters_q t_work_q t_pages_q t_canBe_q t_leadsOn_q t_seen_q t_heard_q t_isKept_q t_lanes_q t_lengths_q t_cells_q t_roomMany t_doorMany t_stringLong t_lawMany t_readRooms t_readDoors t_readString t_readLawMany t_toldOnce t_highRoom t_highDoor t_taped t_fault t_broken t_brokenAt t_spot_23 t_spot_8 t_token t_value_24 t_seenMany t_heardMany t_torn t_tape t_spot_23 r_26 hc_27) ⟨hx, hb, hml, hown, hts⟩ (cwV 1 hts gX8_step_X8_byteAt rfl rfl rfl (by decide +kernel) ⟨by decide, by decide⟩) hK hz hk hP (hD.re rfl) hS hA [0, 1] rfl rfl rfl rfl rfl rfl rfl hl.1 rfl (Nat.le_of_ble_eq_true rfl) dX8_step_145 (fun H locs hP hS => ?_)
              refine lv_i2l hx hb dX8_step_148 rfl ?_
              refine lv_ldc2 hx hb hown q102 dX8_step_149 ?_
              refine lv_ldc2 hx hb hown q104 dX8_step_152 ?_
              obtain ⟨r_28, hc_29, hf⟩ := ob1_e hf
              refine kS_i (wn := [oX8 t_q t_state_q t_roomMany t_doorMany t_stringLong t_laws_q t_lawMany t_readPage_q t_readLaws_q t_readRooms t_readDoors t_readString t_readLawMany t_toldOnce t_highRoom t_highDoor t_tape_q t_taped t_fault t_broken t_brokenAt t_spot_23 t_spot_8 t_token t_value_24 t_cuts_q t_letters_q t_work_q t_pages_q t_canBe_q t_leadsOn_q t_seen_q t_seenMany t_heard_q t_heardMany t_isKept_q t_lanes_q t_lengths_q t_cells_q t_torn, aI g t_tape_q 320 t_tape]) (As := [.long (r_26.toInt64), .long (48 : Int64), .long (57 : Int64)]) (rest := []) (c_X8_in l g _ (r_26.toInt64) (48 : Int64) (57 : Int64) r_28 hc_29) ⟨hx, hb, hml, hown, hts⟩ (va_cwS 3 hts gX8_step_X8_in rfl rfl rfl (by decide +kernel) ⟨by decide, by decide⟩) hK hz hk hP (hD.re rfl) hS hA [] rfl rfl rfl rfl rfl hl.1 rfl (Nat.le_of_ble_eq_true rfl) dX8_step_155 (fun H locs hP hS => ?_)
              refine lv_if_eq (tgt := 217) hx hb dX8_step_158 (by decide) (fun c_30 => ?_) (fun c_30 => ?_)
              · have hf := ite_t hf c_30
                exact K_25 t_spot_23 t_value_24 (congrArg (fun t => t.1) (hex _ (Option.some.inj hf).symm).symm) (congrArg (fun t => t.2) (hex _ (Option.some.inj hf).symm).symm) _ _ _ hP hS (lv_sub hl [0] rfl)
              · have hf := ite_f hf c_30
                refine lv_aload_n hx hb dX8_step_161 rfl (lv_at hl 0 rfl) ?_
                refine lv_aload_n hx hb dX8_step_162 rfl (lv_at hl 0 rfl) ?_
                refine va_get (D := g.1) (ci := 8) (v := .int t_spot_23) (C := RX8) (T := TX8) (N := 39) hx hb hts inX8 hown hK hP 0 rfl rfl 20 (by decide) k88 (fun _ h9 => h9) rfl dX8_step_163 ?_
                refine lv_aload_n hx hb dX8_step_166 rfl (lv_at hl 0 rfl) ?_
                refine va_get (D := g.1) (ci := 8) (v := .int t_spot_8) (C := RX8) (T := TX8) (N := 39) hx hb hts inX8 hown hK hP 0 rfl rfl 21 (by decide) k79 (fun _ h9 => h9) rfl dX8_step_167 ?_
                refine lv_isub hx hb dX8_step_170 ?_
                refine lv_iconst (v := (2 : Int32)) hx hb dX8_step_171 (by decide) ?_
                obtain ⟨j_32, hj_32, hf⟩ := jn1_e hf
                have J_32 : ∀ (s_31 : Int32), j_32 s_31 = some z_25 → ∀ (H : Heap) (locs : List Loc) (ls : Array Slot), va_P g.1 vwCl [oX8 t_q t_state_q t_roomMany t_doorMany t_stringLong t_laws_q t_lawMany t_readPage_q t_readLaws_q t_readRooms t_readDoors t_readString t_readLawMany t_toldOnce t_highRoom t_highDoor t_tape_q t_taped t_fault t_broken t_brokenAt t_spot_23 t_spot_8 t_token t_value_24 t_cuts_q t_letters_q t_work_q t_pages_q t_canBe_q t_leadsOn_q t_seen_q t_seenMany t_heard_q t_heardMany t_isKept_q t_lanes_q t_lengths_q t_cells_q t_torn, aI g t_tape_q 320 t_tape] H → va_S A s.heap H locs → lv_has ls 2 [(0, .ref t_q)] → W p l e rmX8_step s m args below meth c H locs 0 0 Q (F0 m 201 ls [.int s_31, .ref t_q]) := by
                  intro s_31 hf H locs ls hP hS hl
                  rw [hj_32] at hf
                  refine va_put (D := g.1) (ci := 8) (v := .int s_31) (ty := .int) (C := RX8) (T := TX8) (N := 39) hx hb hts inX8 tyX8 tyX8_ok nmX8 hown hK hP (hD.re rfl) hS 0 rfl rfl 23 (by decide) k95 (fun _ h9 => h9) rfl (by decide +kernel) rfl rfl (Nat.le_of_ble_eq_true rfl) dX8_step_201 (fun H locs hP _ hS => ?_)
                  have hP : va_P g.1 vwCl [oX8 t_q t_state_q t_roomMany t_doorMany t_stringLong t_laws_q t_lawMany t_readPage_q t_readLaws_q t_readRooms t_readDoors t_readString t_readLawMany t_toldOnce t_highRoom t_highDoor t_tape_q t_taped t_fault t_broken t_brokenAt t_spot_23 t_spot_8 t_token s_31 t_cuts_q t_letters_q t_work_q t_pages_q t_canBe_q t_leadsOn_q t_seen_q t_seenMany t_heard_q t_heardMany t_isKept_q t_lanes_q t_lengths_q t_cells_q t_torn, aI g t_tape_q 320 t_tape] H := hP
                  refine lv_aload_n hx hb dX8_step_204 rfl (lv_at hl 0 rfl) ?_
                  refine lv_dup hx hb dX8_step_205 rfl ?_
                  refine va_get (D := g.1) (ci := 8) (v := .int t_spot_23) (C := RX8) (T := TX8) (N := 39) hx hb hts inX8 hown hK hP 0 rfl rfl 20 (by decide) k88 (fun _ h9 => h9) rfl dX8_step_206 ?_
                  refine lv_iconst (v := (1 : Int32)) hx hb dX8_step_209 (by decide) ?_
                  refine lv_iadd hx hb dX8_step_210 ?_
                  obtain ⟨t_spot_33, et_spot_33, hf⟩ := bnd_e hf
                  refine tp_i et_spot_33 ?_
                  refine va_put (D := g.1) (ci := 8) (v := .int t_spot_33) (ty := .int) (C := RX8) (T := TX8) (N := 39) hx hb hts inX8 tyX8 tyX8_ok nmX8 hown hK hP (hD.re rfl) hS 0 rfl rfl 20 (by decide) k88 (fun _ h9 => h9) rfl (by decide +kernel) rfl rfl (Nat.le_of_ble_eq_true rfl) dX8_step_211 (fun H locs hP _ hS => ?_)
                  have hP : va_P g.1 vwCl [oX8 t_q t_state_q t_roomMany t_doorMany t_stringLong t_laws_q t_lawMany t_readPage_q t_readLaws_q t_readRooms t_readDoors t_readString t_readLawMany t_toldOnce t_highRoom t_highDoor t_tape_q t_taped t_fault t_broken t_brokenAt t_spot_33 t_spot_8 t_token s_31 t_cuts_q t_letters_q t_work_q t_pages_q t_canBe_q t_leadsOn_q t_seen_q t_seenMany t_heard_q t_heardMany t_isKept_q t_lanes_q t_lengths_q t_cells_q t_torn, aI g t_tape_q 320 t_tape] H := hP
                  refine lv_goto (tgt := 140) hx hb dX8_step_214 (by decide) ?_
                  exact hrec t_spot_33 s_31 (Option.some.inj hf).symm _ _ _ hP hS (lv_sub hl [0] rfl)
                refine lv_icmp_ge (tgt := 197) hx hb dX8_step_172 (by decide) (fun c_34 => ?_) (fun c_34 => ?_)
                · have hf := ite_t hf c_34
                  refine lv_aload_n hx hb dX8_step_197 rfl (lv_at hl 0 rfl) ?_
                  refine va_get (D := g.1) (ci := 8) (v := .int t_value_24) (C := RX8) (T := TX8) (N := 39) hx hb hts inX8 hown hK hP 0 rfl rfl 23 (by decide) k95 (fun _ h9 => h9) rfl dX8_step_198 ?_
                  exact J_32 t_value_24 hf _ _ _ hP hS (lv_sub hl [0] rfl)
                · have hf := ite_f hf c_34
                  refine lv_bipush (v := (10 : Int32)) hx hb dX8_step_175 (by decide) ?_
                  refine lv_aload_n hx hb dX8_step_177 rfl (lv_at hl 0 rfl) ?_
                  refine va_get (D := g.1) (ci := 8) (v := .int t_value_24) (C := RX8) (T := TX8) (N := 39) hx hb hts inX8 hown hK hP 0 rfl rfl 23 (by decide) k95 (fun _ h9 => h9) rfl dX8_step_178 ?_
                  refine lv_imul hx hb dX8_step_181 ?_
                  refine lv_aload_n hx hb dX8_step_182 rfl (lv_at hl 0 rfl) ?_
                  refine lv_aload_n hx hb dX8_step_183 rfl (lv_at hl 0 rfl) ?_
                  refine va_get (D := g.1) (ci := 8) (v := .int t_spot_23) (C := RX8) (T := TX8) (N := 39) hx hb hts inX8 hown hK hP 0 rfl rfl 20 (by decide) k88 (fun _ h9 => h9) rfl dX8_step_184 ?_
                  obtain ⟨r_35, hc_36, hf⟩ := ob1_e hf
                  refine kV_i (wn := [oX8 t_q t_state_q t_roomMany t_doorMany t_stringLong t_laws_q t_lawMany t_readPage_q t_readLaws_q t_readRooms t_readDoors t_readString t_readLawMany t_toldOnce t_highRoom t_highDoor t_tape_q t_taped t_fault t_broken t_brokenAt t_spot_23 t_spot_8 t_token t_value_24 t_cuts_q t_letters_q t_work_q t_pages_q t_canBe_q t_leadsOn_q t_seen_q t_seenMany t_heard_q t_heardMany t_isKept_q t_lanes_q t_lengths_q t_cells_q t_torn, aI g t_tape_q 320 t_tape]) (As := [.int t_spot_23]) (rest := [.int ((10 : Int32) * t_value_24), .ref t_q]) (c_X8_byteAt l g _ t_q t_state_q t_laws_q t_readPage_q t_readLaws_q t_tape_q t_cuts_q t_letters_q t_work_q t_pages_q t_canBe_q t_leadsOn_q t_seen_q t_heard_q t_isKept_q t_lanes_q t_lengths_q t_cells_q t_roomMany t_doorMany t_stringLong t_lawMany t_readRooms t_readDoors t_readString t_readLawMany t_toldOnce t_highRoom t_highDoor t_taped t_fault t_broken t_brokenAt t_spot_23 t_spot_8 t_token t_value_24 t_seenMany t_heardMany t_torn t_tape t_spot_23 r_35 hc_36) ⟨hx, hb, hml, hown, hts⟩ (cwV 1 hts gX8_step_X8_byteAt rfl rfl rfl (by decide +kernel) ⟨by decide, by decide⟩) hK hz hk hP (hD.re rfl) hS hA [0, 1] rfl rfl rfl rfl rfl rfl rfl hl.1 rfl (Nat.le_of_ble_eq_true rfl) dX8_step_187 (fun H locs hP hS => ?_)
                  refine lv_iadd hx hb dX8_step_190 ?_
                  refine lv_bipush (v := (48 : Int32)) hx hb dX8_step_191 (by decide) ?_
                  refine lv_isub hx hb dX8_step_193 ?_
                  refine lv_goto (tgt := 201) hx hb dX8_step_194 (by decide) ?_
                  exact J_32 ((((10 : Int32) * t_value_24) + r_35) - (48 : Int32)) hf _ _ _ hP hS (lv_sub hl [0] rfl)
            exact L_25 FU t_spot_8 (0 : Int32) ho_25 _ _ _ hP hS (lv_sub hl [1] rfl)
        · have hf := ite_f hf c_14
          obtain ⟨t_spot_51, ho_44, hf⟩ := ob1_e hf
          have K_44 : ∀ (t_spot_51y : Int32), t_spot_51 = t_spot_51y → ∀ (H : Heap) (locs : List Loc) (ls : Array Slot), va_P g.1 vwCl [oX8 t_q t_state_q t_roomMany t_doorMany t_stringLong t_laws_q t_lawMany t_readPage_q t_readLaws_q t_readRooms t_readDoors t_readString t_readLawMany t_toldOnce t_highRoom t_highDoor t_tape_q t_taped t_fault t_broken t_brokenAt t_spot_51y t_spot_8 t_token (0 : Int32) t_cuts_q t_letters_q t_work_q t_pages_q t_canBe_q t_leadsOn_q t_seen_q t_seenMany t_heard_q t_heardMany t_isKept_q t_lanes_q t_lengths_q t_cells_q t_torn, aI g t_tape_q 320 t_tape] H → va_S A s.heap H locs → lv_has ls 2 [(0, .ref t_q)] → W p l e rmX8_step s m args below meth c H locs 0 0 Q (F0 m 118 ls []) := by
            intro t_spot_51y ey0 H locs ls hP hS hl
            subst ey0
            refine lv_aload_n hx hb dX8_step_118 rfl (lv_at hl 0 rfl) ?_
            refine lv_iconst (v := (1 : Int32)) hx hb dX8_step_119 (by decide) ?_
            refine va_put (D := g.1) (ci := 8) (v := .int (1 : Int32)) (ty := .int) (C := RX8) (T := TX8) (N := 39) hx hb hts inX8 tyX8 tyX8_ok nmX8 hown hK hP (hD.re rfl) hS 0 rfl rfl 22 (by decide) k85 (fun _ h9 => h9) rfl (by decide +kernel) rfl rfl (Nat.le_of_ble_eq_true rfl) dX8_step_120 (fun H locs hP _ hS => ?_)
            have hP : va_P g.1 vwCl [oX8 t_q t_state_q t_roomMany t_doorMany t_stringLong t_laws_q t_lawMany t_readPage_q t_readLaws_q t_readRooms t_readDoors t_readString t_readLawMany t_toldOnce t_highRoom t_highDoor t_tape_q t_taped t_fault t_broken t_brokenAt t_spot_51 t_spot_8 (1 : Int32) (0 : Int32) t_cuts_q t_letters_q t_work_q t_pages_q t_canBe_q t_leadsOn_q t_seen_q t_seenMany t_heard_q t_heardMany t_isKept_q t_lanes_q t_lengths_q t_cells_q t_torn, aI g t_tape_q 320 t_tape] H := hP
            refine lv_goto (tgt := 269) hx hb dX8_step_123 (by decide) ?_
            exact hret t_broken t_brokenAt t_spot_8 t_spot_51 (1 : Int32) (0 : Int32) (Option.some.inj hf) _ _ _ _ hP hS dX8_step_269
          have L_44 : ∀ (n : Nat) (t_spot_43 : Int32), itr (un1 (b_X8_step_84 t_taped t_tape)) n t_spot_43 = some t_spot_51 → ∀ (H : Heap) (locs : List Loc) (ls : Array Slot), va_P g.1 vwCl [oX8 t_q t_state_q t_roomMany t_doorMany t_stringLong t_laws_q t_lawMany t_readPage_q t_readLaws_q t_readRooms t_readDoors t_readString t_readLawMany t_toldOnce t_highRoom t_highDoor t_tape_q t_taped t_fault t_broken t_brokenAt t_spot_43 t_spot_8 t_token (0 : Int32) t_cuts_q t_letters_q t_work_q t_pages_q t_canBe_q t_leadsOn_q t_seen_q t_seenMany t_heard_q t_heardMany t_isKept_q t_lanes_q t_lengths_q t_cells_q t_torn, aI g t_tape_q 320 t_tape] H → va_S A s.heap H locs → lv_has ls 2 [(0, .ref t_q)] → W p l e rmX8_step s m args below meth c H locs 0 0 Q (F0 m 84 ls []) := by
            refine itr_ind1 ?_
            intro t_spot_43 z_44 hf hrec hex H locs ls hP hS hl
            unfold b_X8_step_84 at hf
            refine lv_aload_n hx hb dX8_step_84 rfl (lv_at hl 0 rfl) ?_
            refine lv_aload_n hx hb dX8_step_85 rfl (lv_at hl 0 rfl) ?_
            refine va_get (D := g.1) (ci := 8) (v := .int t_spot_43) (C := RX8) (T := TX8) (N := 39) hx hb hts inX8 hown hK hP 0 rfl rfl 20 (by decide) k88 (fun _ h9 => h9) rfl dX8_step_86 ?_
            obtain ⟨r_45, hc_46, hf⟩ := ob1_e hf
            refine kV_i (wn := [oX8 t_q t_state_q t_roomMany t_doorMany t_stringLong t_laws_q t_lawMany t_readPage_q t_readLaws_q t_readRooms t_readDoors t_readString t_readLawMany t_toldOnce t_highRoom t_highDoor t_tape_q t_taped t_fault t_broken t_brokenAt t_spot_43 t_spot_8 t_token (0 : Int32) t_cuts_q t_letters_q t_work_q t_pages_q t_canBe_q t_leadsOn_q t_seen_q t_seenMany t_heard_q t_heardMany t_isKept_q t_lanes_q t_lengths_q t_cells_q t_torn, aI g t_tape_q 320 t_tape]) (As := [.int t_spot_43]) (rest := []) (c_X8_byteAt l g _ t_q t_state_q t_laws_q t_readPage_q t_readLaws_q t_tape_q t_cuts_q t_letters_q t_work_q t_pages_q t_canBe_q t_leadsOn_q t_seen_q t_heard_q t_isKept_q t_lanes_q t_lengths_q t_cells_q t_roomMany t_doorMany t_stringLong t_lawMany t_readRooms t_readDoors t_readString t_readLawMany t_toldOnce t_highRoom t_highDoor t_taped t_fault t_broken t_brokenAt t_spot_43 t_spot_8 t_token (0 : Int32) t_seenMany t_heardMany t_torn t_tape t_spot_43 r_45 hc_46) ⟨hx, hb, hml, hown, hts⟩ (cwV 1 hts gX8_step_X8_byteAt rfl rfl rfl (by decide +kernel) ⟨by decide, by decide⟩) hK hz hk hP (hD.re rfl) hS hA [0, 1] rfl rfl rfl rfl rfl rfl rfl hl.1 rfl (Nat.le_of_ble_eq_true rfl) dX8_step_89 (fun H locs hP hS => ?_)
            refine lv_i2l hx hb dX8_step_92 rfl ?_
            refine lv_ldc2 hx hb hown q98 dX8_step_93 ?_
            refine lv_ldc2 hx hb hown q100 dX8_step_96 ?_
            obtain ⟨r_47, hc_48, hf⟩ := ob1_e hf
            refine kS_i (wn := [oX8 t_q t_state_q t_roomMany t_doorMany t_stringLong t_laws_q t_lawMany t_readPage_q t_readLaws_q t_readRooms t_readDoors t_readString t_readLawMany t_toldOnce t_highRoom t_highDoor t_tape_q t_taped t_fault t_broken t_brokenAt t_spot_43 t_spot_8 t_token (0 : Int32) t_cuts_q t_letters_q t_work_q t_pages_q t_canBe_q t_leadsOn_q t_seen_q t_seenMany t_heard_q t_heardMany t_isKept_q t_lanes_q t_lengths_q t_cells_q t_torn, aI g t_tape_q 320 t_tape]) (As := [.long (r_45.toInt64), .long (97 : Int64), .long (122 : Int64)]) (rest := []) (c_X8_in l g _ (r_45.toInt64) (97 : Int64) (122 : Int64) r_47 hc_48) ⟨hx, hb, hml, hown, hts⟩ (va_cwS 3 hts gX8_step_X8_in rfl rfl rfl (by decide +kernel) ⟨by decide, by decide⟩) hK hz hk hP (hD.re rfl) hS hA [] rfl rfl rfl rfl rfl hl.1 rfl (Nat.le_of_ble_eq_true rfl) dX8_step_99 (fun H locs hP hS => ?_)
            refine lv_if_eq (tgt := 118) hx hb dX8_step_102 (by decide) (fun c_49 => ?_) (fun c_49 => ?_)
            · have hf := ite_t hf c_49
              exact K_44 t_spot_43 (congrArg (fun t => t) (hex _ (Option.some.inj hf).symm).symm) _ _ _ hP hS (lv_sub hl [0] rfl)
            · have hf := ite_f hf c_49
              refine lv_aload_n hx hb dX8_step_105 rfl (lv_at hl 0 rfl) ?_
              refine lv_dup hx hb dX8_step_106 rfl ?_
              refine va_get (D := g.1) (ci := 8) (v := .int t_spot_43) (C := RX8) (T := TX8) (N := 39) hx hb hts inX8 hown hK hP 0 rfl rfl 20 (by decide) k88 (fun _ h9 => h9) rfl dX8_step_107 ?_
              refine lv_iconst (v := (1 : Int32)) hx hb dX8_step_110 (by decide) ?_
              refine lv_iadd hx hb dX8_step_111 ?_
              obtain ⟨t_spot_50, et_spot_50, hf⟩ := bnd_e hf
              refine tp_i et_spot_50 ?_
              refine va_put (D := g.1) (ci := 8) (v := .int t_spot_50) (ty := .int) (C := RX8) (T := TX8) (N := 39) hx hb hts inX8 tyX8 tyX8_ok nmX8 hown hK hP (hD.re rfl) hS 0 rfl rfl 20 (by decide) k88 (fun _ h9 => h9) rfl (by decide +kernel) rfl rfl (Nat.le_of_ble_eq_true rfl) dX8_step_112 (fun H locs hP _ hS => ?_)
              have hP : va_P g.1 vwCl [oX8 t_q t_state_q t_roomMany t_doorMany t_stringLong t_laws_q t_lawMany t_readPage_q t_readLaws_q t_readRooms t_readDoors t_readString t_readLawMany t_toldOnce t_highRoom t_highDoor t_tape_q t_taped t_fault t_broken t_brokenAt t_spot_50 t_spot_8 t_token (0 : Int32) t_cuts_q t_letters_q t_work_q t_pages_q t_canBe_q t_leadsOn_q t_seen_q t_seenMany t_heard_q t_heardMany t_isKept_q t_lanes_q t_lengths_q t_cells_q t_torn, aI g t_tape_q 320 t_tape] H := hP
              refine lv_goto (tgt := 84) hx hb dX8_step_115 (by decide) ?_
              exact hrec t_spot_50 (Option.some.inj hf).symm _ _ _ hP hS (lv_sub hl [0] rfl)
          exact L_44 FU t_spot_8 ho_44 _ _ _ hP hS (lv_sub hl [1] rfl)
      · have hf := ite_t hf c_11
        refine lv_aload_n hx hb dX8_step_62 rfl (lv_at hl 1 rfl) ?_
        refine lv_iconst (v := (0 : Int32)) hx hb dX8_step_63 (by decide) ?_
        refine va_put (D := g.1) (ci := 8) (v := .int (0 : Int32)) (ty := .int) (C := RX8) (T := TX8) (N := 39) hx hb hts inX8 tyX8 tyX8_ok nmX8 hown hK hP (hD.re rfl) hS 0 rfl rfl 22 (by decide) k85 (fun _ h9 => h9) rfl (by decide +kernel) rfl rfl (Nat.le_of_ble_eq_true rfl) dX8_step_64 (fun H locs hP _ hS => ?_)
        have hP : va_P g.1 vwCl [oX8 t_q t_state_q t_roomMany t_doorMany t_stringLong t_laws_q t_lawMany t_readPage_q t_readLaws_q t_readRooms t_readDoors t_readString t_readLawMany t_toldOnce t_highRoom t_highDoor t_tape_q t_taped t_fault t_broken t_brokenAt t_spot_8 t_spot_8 (0 : Int32) (0 : Int32) t_cuts_q t_letters_q t_work_q t_pages_q t_canBe_q t_leadsOn_q t_seen_q t_seenMany t_heard_q t_heardMany t_isKept_q t_lanes_q t_lengths_q t_cells_q t_torn, aI g t_tape_q 320 t_tape] H := hP
        refine lv_goto (tgt := 269) hx hb dX8_step_67 (by decide) ?_
        exact hret t_broken t_brokenAt t_spot_8 t_spot_8 (0 : Int32) (0 : Int32) (Option.some.inj hf) _ _ _ _ hP hS dX8_step_269
    have L_3 : ∀ (n : Nat) (t_spot_2 : Int32), itr (un1 (b_X8_step_8 t_taped t_tape)) n t_spot_2 = some t_spot_8 → ∀ (H : Heap) (locs : List Loc) (ls : Array Slot), va_P g.1 vwCl [oX8 t_q t_state_q t_roomMany t_doorMany t_stringLong t_laws_q t_lawMany t_readPage_q t_readLaws_q t_readRooms t_readDoors t_readString t_readLawMany t_toldOnce t_highRoom t_highDoor t_tape_q t_taped t_fault t_broken t_brokenAt t_spot_2 t_here t_token t_value t_cuts_q t_letters_q t_work_q t_pages_q t_canBe_q t_leadsOn_q t_seen_q t_seenMany t_heard_q t_heardMany t_isKept_q t_lanes_q t_lengths_q t_cells_q t_torn, aI g t_tape_q 320 t_tape] H → va_S A s.heap H locs → lv_has ls 2 [(0, .ref t_q)] → W p l e rmX8_step s m args below meth c H locs 0 0 Q (F0 m 8 ls []) := by
      refine itr_ind1 ?_
      intro t_spot_2 z_3 hf hrec hex H locs ls hP hS hl
      unfold b_X8_step_8 at hf
      refine lv_aload_n hx hb dX8_step_8 rfl (lv_at hl 0 rfl) ?_
      refine lv_aload_n hx hb dX8_step_9 rfl (lv_at hl 0 rfl) ?_
      refine va_get (D := g.1) (ci := 8) (v := .int t_spot_2) (C := RX8) (T := TX8) (N := 39) hx hb hts inX8 hown hK hP 0 rfl rfl 20 (by decide) k88 (fun _ h9 => h9) rfl dX8_step_10 ?_
      obtain ⟨r_4, hc_5, hf⟩ := ob1_e hf
      refine kV_i (wn := [oX8 t_q t_state_q t_roomMany t_doorMany t_stringLong t_laws_q t_lawMany t_readPage_q t_readLaws_q t_readRooms t_readDoors t_readString t_readLawMany t_toldOnce t_highRoom t_highDoor t_tape_q t_taped t_fault t_broken t_brokenAt t_spot_2 t_here t_token t_value t_cuts_q t_letters_q t_work_q t_pages_q t_canBe_q t_leadsOn_q t_seen_q t_seenMany t_heard_q t_heardMany t_isKept_q t_lanes_q t_lengths_q t_cells_q t_torn, aI g t_tape_q 320 t_tape]) (As := [.int t_spot_2]) (rest := []) (c_X8_byteAt l g _ t_q t_state_q t_laws_q t_readPage_q t_readLaws_q t_tape_q t_cuts_q t_letters_q t_work_q t_pages_q t_canBe_q t_leadsOn_q t_seen_q t_heard_q t_isKept_q t_lanes_q t_lengths_q t_cells_q t_roomMany t_doorMany t_stringLong t_lawMany t_readRooms t_readDoors t_readString t_readLawMany t_toldOnce t_highRoom t_highDoor t_taped t_fault t_broken t_brokenAt t_spot_2 t_here t_token t_value t_seenMany t_heardMany t_torn t_tape t_spot_2 r_4 hc_5) ⟨hx, hb, hml, hown, hts⟩ (cwV 1 hts gX8_step_X8_byteAt rfl rfl rfl (by decide +kernel) ⟨by decide, by decide⟩) hK hz hk hP (hD.re rfl) hS hA [0, 1] rfl rfl rfl rfl rfl rfl rfl hl.1 rfl (Nat.le_of_ble_eq_true rfl) dX8_step_13 (fun H locs hP hS => ?_)
      refine lv_bipush (v := (32 : Int32)) hx hb dX8_step_16 (by decide) ?_
      refine lv_icmp_ne (tgt := 34) hx hb dX8_step_18 (by decide) (fun c_6 => ?_) (fun c_6 => ?_)
      · have hf := ite_f hf c_6
        exact K_3 t_spot_2 (congrArg (fun t => t) (hex _ (Option.some.inj hf).symm).symm) _ _ _ hP hS (lv_sub hl [0] rfl)
      · have hf := ite_t hf c_6
        refine lv_aload_n hx hb dX8_step_21 rfl (lv_at hl 0 rfl) ?_
        refine lv_dup hx hb dX8_step_22 rfl ?_
        refine va_get (D := g.1) (ci := 8) (v := .int t_spot_2) (C := RX8) (T := TX8) (N := 39) hx hb hts inX8 hown hK hP 0 rfl rfl 20 (by decide) k88 (fun _ h9 => h9) rfl dX8_step_23 ?_
        refine lv_iconst (v := (1 : Int32)) hx hb dX8_step_26 (by decide) ?_
        refine lv_iadd hx hb dX8_step_27 ?_
        obtain ⟨t_spot_7, et_spot_7, hf⟩ := bnd_e hf
        refine tp_i et_spot_7 ?_
        refine va_put (D := g.1) (ci := 8) (v := .int t_spot_7) (ty := .int) (C := RX8) (T := TX8) (N := 39) hx hb hts inX8 tyX8 tyX8_ok nmX8 hown hK hP (hD.re rfl) hS 0 rfl rfl 20 (by decide) k88 (fun _ h9 => h9) rfl (by decide +kernel) rfl rfl (Nat.le_of_ble_eq_true rfl) dX8_step_28 (fun H locs hP _ hS => ?_)
        have hP : va_P g.1 vwCl [oX8 t_q t_state_q t_roomMany t_doorMany t_stringLong t_laws_q t_lawMany t_readPage_q t_readLaws_q t_readRooms t_readDoors t_readString t_readLawMany t_toldOnce t_highRoom t_highDoor t_tape_q t_taped t_fault t_broken t_brokenAt t_spot_7 t_here t_token t_value t_cuts_q t_letters_q t_work_q t_pages_q t_canBe_q t_leadsOn_q t_seen_q t_seenMany t_heard_q t_heardMany t_isKept_q t_lanes_q t_lengths_q t_cells_q t_torn, aI g t_tape_q 320 t_tape] H := hP
        refine lv_goto (tgt := 8) hx hb dX8_step_31 (by decide) ?_
        exact hrec t_spot_7 (Option.some.inj hf).symm _ _ _ hP hS (lv_sub hl [0] rfl)
    exact L_3 FU t_spot ho_3 _ _ _ hP hS (lv_sub hl [0] rfl)
  · have hf := ite_f hf c_1
    exact hret t_broken t_brokenAt t_here t_spot t_token t_value (Option.some.inj hf) _ _ _ _ hP hS dX8_step_7
