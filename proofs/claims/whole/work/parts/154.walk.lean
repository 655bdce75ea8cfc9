def f_X8_thread (t_state : Nat → Int32) (p1 : Int32) : Option (Int32) :=
 (if (0 : Int32) ≤ p1 then
 (gin (46 : Int32) 196 (if (t_state (46 : Int32).toNatClampNeg) ≤ p1 then
 (some (-4 : Int32))
 else (gin ((34 : Int32) + p1) 196 (some (t_state ((34 : Int32) + p1).toNatClampNeg)))))
 else (some (-1 : Int32)))
abbrev rmX8_thread : Room := { frames := 0, cells := 0, slots := 0, locals := 0 }
set_option maxHeartbeats 4000000 in
set_option maxRecDepth 100000 in
theorem c_X8_thread (l : Launch) (g : Gh) (sz : Nat) (t_q t_state_q t_laws_q t_readPage_q t_readLaws_q t_tape_q t_cuts_q t_letters_q t_work_q t_pages_q t_canBe_q t_leadsOn_q t_seen_q t_heard_q t_isKept_q t_lanes_q t_lengths_q t_cells_q : Nat) (t_roomMany : Int32) (t_doorMany : Int32) (t_stringLong : Int32) (t_lawMany : Int32) (t_readRooms : Int32) (t_readDoors : Int32) (t_readString : Int32) (t_readLawMany : Int32) (t_toldOnce : Int32) (t_highRoom : Int32) (t_highDoor : Int32) (t_taped : Int32) (t_fault : Int32) (t_broken : Int32) (t_brokenAt : Int32) (t_spot : Int32) (t_here : Int32) (t_token : Int32) (t_value : Int32) (t_seenMany : Int32) (t_heardMany : Int32) (t_torn : Int32) (t_state : Nat → Int32) (p1 : Int32) (rr : Int32) (hf : f_X8_thread t_state p1 = some rr) : CI l yX8_thread wsX8_thread rmX8_thread [.ref t_q, .int p1] g sz [oX8 t_q t_state_q t_roomMany t_doorMany t_stringLong t_laws_q t_lawMany t_readPage_q t_readLaws_q t_readRooms t_readDoors t_readString t_readLawMany t_toldOnce t_highRoom t_highDoor t_tape_q t_taped t_fault t_broken t_brokenAt t_spot t_here t_token t_value t_cuts_q t_letters_q t_work_q t_pages_q t_canBe_q t_leadsOn_q t_seen_q t_seenMany t_heard_q t_heardMany t_isKept_q t_lanes_q t_lengths_q t_cells_q t_torn, aI g t_state_q 196 t_state] [oX8 t_q t_state_q t_roomMany t_doorMany t_stringLong t_laws_q t_lawMany t_readPage_q t_readLaws_q t_readRooms t_readDoors t_readString t_readLawMany t_toldOnce t_highRoom t_highDoor t_tape_q t_taped t_fault t_broken t_brokenAt t_spot t_here t_token t_value t_cuts_q t_letters_q t_work_q t_pages_q t_canBe_q t_leadsOn_q t_seen_q t_seenMany t_heard_q t_heardMany t_isKept_q t_lanes_q t_lengths_q t_cells_q t_torn, aI g t_state_q 196 t_state] rr := by
  refine ent_i (cc := cX8_thread) (maxL := 2) (by decide) rfl (Nat.le_of_ble_eq_true rfl) ?_
  intro p e s m args below meth c A Q hx hb hml hown hts hK hz hk hA hD hP hS hret ls hl
  have hown : s.vm.findClass RX8 = some m.cls := hown
  have inX8 : ∀ w ∈ u_ws RX8 TX8 39, w ∈ wsX8_thread := by decide +kernel
  have k7 := hts (.fieldLink RX8 7 "ThreadMovedModel" "state" "[I") (by decide +kernel)
  have hl : lv_has ls 2 [(0, .ref t_q), (1, .int p1)] := hl
  have hret : ∀ (rrz : Int32), rrz = rr → ∀ (H : Heap) (locs : List Loc) (pc : Nat) (ls : Array Slot), va_P g.1 vwCl [oX8 t_q t_state_q t_roomMany t_doorMany t_stringLong t_laws_q t_lawMany t_readPage_q t_readLaws_q t_readRooms t_readDoors t_readString t_readLawMany t_toldOnce t_highRoom t_highDoor t_tape_q t_taped t_fault t_broken t_brokenAt t_spot t_here t_token t_value t_cuts_q t_letters_q t_work_q t_pages_q t_canBe_q t_leadsOn_q t_seen_q t_seenMany t_heard_q t_heardMany t_isKept_q t_lanes_q t_lengths_q t_cells_q t_torn, aI g t_state_q 196 t_state] H → va_S A s.heap H locs → decode cX8_thread pc = .ok (.ireturn, 1) → W p l e rmX8_thread s m args below meth c H locs 0 0 Q (F0 m pc ls [.int rrz]) := by
    intro rrz he H locs pc ls hP hS hd
    cases he
    exact hret H locs pc ls hP hS hd
  unfold f_X8_thread at hf
  refine lv_iload_n hx hb dX8_thread_0 rfl (lv_at hl 1 rfl) ?_
  refine lv_if_ge (tgt := 8) hx hb dX8_thread_1 (by decide) (fun c_1 => ?_) (fun c_1 => ?_)
  · have hf := ite_t hf c_1
    refine lv_iload_n hx hb dX8_thread_8 rfl (lv_at hl 1 rfl) ?_
    refine lv_aload_n hx hb dX8_thread_9 rfl (lv_at hl 0 rfl) ?_
    refine va_get (D := g.1) (ci := 8) (v := .ref t_state_q) (C := RX8) (T := TX8) (N := 39) hx hb hts inX8 hown hK hP 0 rfl rfl 0 (by decide) k7 (fun _ h9 => h9) rfl dX8_thread_10 ?_
    refine lv_bipush (v := (46 : Int32)) hx hb dX8_thread_13 (by decide) ?_
    obtain ⟨h_2, hf⟩ := gin_e hf
    refine va_iald hx hb hK hP 1 0 rfl rfl h_2 dX8_thread_15 ?_
    refine lv_icmp_ge (tgt := 31) hx hb dX8_thread_16 (by decide) (fun c_3 => ?_) (fun c_3 => ?_)
    · have hf := ite_t hf c_3
      refine lv_bipush (v := (-4 : Int32)) hx hb dX8_thread_31 (by decide) ?_
      exact hret (-4 : Int32) (Option.some.inj hf) _ _ _ _ hP hS dX8_thread_33
    · have hf := ite_f hf c_3
      refine lv_aload_n hx hb dX8_thread_19 rfl (lv_at hl 0 rfl) ?_
      refine va_get (D := g.1) (ci := 8) (v := .ref t_state_q) (C := RX8) (T := TX8) (N := 39) hx hb hts inX8 hown hK hP 0 rfl rfl 0 (by decide) k7 (fun _ h9 => h9) rfl dX8_thread_20 ?_
      refine lv_bipush (v := (34 : Int32)) hx hb dX8_thread_23 (by decide) ?_
      refine lv_iload_n hx hb dX8_thread_25 rfl (lv_at hl 1 rfl) ?_
      refine lv_iadd hx hb dX8_thread_26 ?_
      obtain ⟨h_4, hf⟩ := gin_e hf
      refine va_iald hx hb hK hP 1 0 rfl rfl h_4 dX8_thread_27 ?_
      refine lv_goto (tgt := 33) hx hb dX8_thread_28 (by decide) ?_
      exact hret (t_state ((34 : Int32) + p1).toNatClampNeg) (Option.some.inj hf) _ _ _ _ hP hS dX8_thread_33
  · have hf := ite_f hf c_1
    refine lv_iconst (v := (-1 : Int32)) hx hb dX8_thread_4 (by decide) ?_
    refine lv_goto (tgt := 33) hx hb dX8_thread_5 (by decide) ?_
    exact hret (-1 : Int32) (Option.some.inj hf) _ _ _ _ hP hS dX8_thread_33

def f_X8_torn (t_torn : Int32) : Option (Int32) :=
 (some t_torn)
abbrev rmX8_torn : Room := { frames := 0, cells := 0, slots := 0, locals := 0 }
set_option maxHeartbeats 4000000 in
set_option maxRecDepth 100000 in
theorem c_X8_torn (l : Launch) (g : Gh) (sz : Nat) (t_q t_state_q t_laws_q t_readPage_q t_readLaws_q t_tape_q t_cuts_q t_letters_q t_work_q t_pages_q t_canBe_q t_leadsOn_q t_seen_q t_heard_q t_isKept_q t_lanes_q t_lengths_q t_cells_q : Nat) (t_roomMany : Int32) (t_doorMany : Int32) (t_stringLong : Int32) (t_lawMany : Int32) (t_readRooms : Int32) (t_readDoors : Int32) (t_readString : Int32) (t_readLawMany : Int32) (t_toldOnce : Int32) (t_highRoom : Int32) (t_highDoor : Int32) (t_taped : Int32) (t_fault : Int32) (t_broken : Int32) (t_brokenAt : Int32) (t_spot : Int32) (t_here : Int32) (t_token : Int32) (t_value : Int32) (t_seenMany : Int32) (t_heardMany : Int32) (t_torn : Int32) (rr : Int32) (hf : f_X8_torn t_torn = some rr) : CI l yX8_torn wsX8_torn rmX8_torn [.ref t_q] g sz [oX8 t_q t_state_q t_roomMany t_doorMany t_stringLong t_laws_q t_lawMany t_readPage_q t_readLaws_q t_readRooms t_readDoors t_readString t_readLawMany t_toldOnce t_highRoom t_highDoor t_tape_q t_taped t_fault t_broken t_brokenAt t_spot t_here t_token t_value t_cuts_q t_letters_q t_work_q t_pages_q t_canBe_q t_leadsOn_q t_seen_q t_seenMany t_heard_q t_heardMany t_isKept_q t_lanes_q t_lengths_q t_cells_q t_torn] [oX8 t_q t_state_q t_roomMany t_doorMany t_stringLong t_laws_q t_lawMany t_readPage_q t_readLaws_q t_readRooms t_readDoors t_readString t_readLawMany t_toldOnce t_highRoom t_highDoor t_tape_q t_taped t_fault t_broken t_brokenAt t_spot t_here t_token t_value t_cuts_q t_letters_q t_work_q t_pages_q t_canBe_q t_leadsOn_q t_seen_q t_seenMany t_heard_q t_heardMany t_isKept_q t_lanes_q t_lengths_q t_cells_q t_torn] rr := by
  refine ent_i (cc := cX8_torn) (maxL := 1) (by decide) rfl (Nat.le_of_ble_eq_true rfl) ?_
  intro p e s m args below meth c A Q hx hb hml hown hts hK hz hk hA hD hP hS hret ls hl
  have hown : s.vm.findClass RX8 = some m.cls := hown
  have inX8 : ∀ w ∈ u_ws RX8 TX8 39, w ∈ wsX8_torn := by decide +kernel
  have k292 := hts (.fieldLink RX8 292 "ThreadMovedModel" "torn" "I") (by decide +kernel)
  have hl : lv_has ls 1 [(0, .ref t_q)] := hl
  have hret : ∀ (rrz : Int32), rrz = rr → ∀ (H : Heap) (locs : List Loc) (pc : Nat) (ls : Array Slot), va_P g.1 vwCl [oX8 t_q t_state_q t_roomMany t_doorMany t_stringLong t_laws_q t_lawMany t_readPage_q t_readLaws_q t_readRooms t_readDoors t_readString t_readLawMany t_toldOnce t_highRoom t_highDoor t_tape_q t_taped t_fault t_broken t_brokenAt t_spot t_here t_token t_value t_cuts_q t_letters_q t_work_q t_pages_q t_canBe_q t_leadsOn_q t_seen_q t_seenMany t_heard_q t_heardMany t_isKept_q t_lanes_q t_lengths_q t_cells_q t_torn] H → va_S A s.heap H locs → decode cX8_torn pc = .ok (.ireturn, 1) → W p l e rmX8_torn s m args below meth c H locs 0 0 Q (F0 m pc ls [.int rrz]) := by
    intro rrz he H locs pc ls hP hS hd
    cases he
    exact hret H locs pc ls hP hS hd
  unfold f_X8_torn at hf
  refine lv_aload_n hx hb dX8_torn_0 rfl (lv_at hl 0 rfl) ?_
  refine va_get (D := g.1) (ci := 8) (v := .int t_torn) (C := RX8) (T := TX8) (N := 39) hx hb hts inX8 hown hK hP 0 rfl rfl 38 (by decide) k292 (fun _ h9 => h9) rfl dX8_torn_1 ?_
  exact hret t_torn (Option.some.inj hf) _ _ _ _ hP hS dX8_torn_4

def b_X8_walk_55 (t_roomMany : Int32) (t_doorMany : Int32) (t_stringLong : Int32) (t_lawMany : Int32) (t_laws : Nat → Int32) (p2 : Int32) (v4_11 : Int32) (v5_12 : Int32) (v6_13 : Int32) (t_state_14 : Nat → Int32) (t_work_15 : Nat → Int32) : Option ((Int32 × Int32 × Int32 × (Nat → Int32) × (Nat → Int32)) ⊕ (Int32 × Int32 × Int32 × (Nat → Int32) × (Nat → Int32))) :=
 (if p2 ≤ v6_13 then
 (some (.inr (v4_11, v5_12, v6_13, t_state_14, t_work_15)))
 else (gin (48 : Int32) 196 (if (t_state_14 (48 : Int32).toNatClampNeg) = (0 : Int32) then
 (bnd ((v4_11 * (1103515245 : Int32)) + (12345 : Int32)) (fun v4_20 =>
 (gin (31 : Int32) 196 (ob1 (f_X8_leading t_doorMany 196 t_state_14 (0 : Int32) (t_state_14 (31 : Int32).toNatClampNeg)) (fun r_22 =>
 (ob1 (f_X8_bitsOf r_22) (fun r_24 =>
 (gnz (r_24 + (1 : Int32)) (bnd (((v4_20 >>> ((16 : Int32) &&& 31)) &&& (32767 : Int32)) - ((v4_20 >>> ((16 : Int32) &&& 31)) &&& (32767 : Int32)) / (r_24 + (1 : Int32)) * (r_24 + (1 : Int32))) (fun v8_27 =>
 (ob1 (f_X8_bitsOf r_22) (fun r_28 =>
 (jn1 (fun (s_30 : Int32) => (jn1 (fun (s_32 : Int32) => (ob3 (f_X8_stepsBy t_roomMany t_doorMany t_stringLong t_lawMany t_laws t_state_14 t_work_15 s_30 s_32) (fun r_34 t_state_35 t_work_36 =>
 (gin (48 : Int32) 196 (jn1 (fun (s_39 : Int32) => (bnd (v5_12 + s_39) (fun v5_41 =>
 (bnd (v6_13 + (1 : Int32)) (fun v6_42 =>
 (some (.inl (v4_20, v5_41, v6_42, t_state_35, t_work_36)))))))) (fun j_40 =>
 (if (t_state_35 (48 : Int32).toNatClampNeg) = (0 : Int32) then
 (j_40 (1 : Int32))
 else (j_40 (0 : Int32))))))))) (fun j_33 =>
 (if s_30 = (10 : Int32) then
 (gin (31 : Int32) 196 (j_33 (t_state_14 (31 : Int32).toNatClampNeg)))
 else (gin (31 : Int32) 196 (ob1 (f_X8_leadsTo 196 t_state_14 (0 : Int32) s_30 (t_state_14 (31 : Int32).toNatClampNeg)) (fun r_46 =>
 (j_33 r_46)))))))) (fun j_31 =>
 (if v8_27 = r_28 then
 (j_31 (10 : Int32))
 else (ob1 (f_X8_placeOf r_22 v8_27) (fun r_50 =>
 (j_31 r_50))))))))))))))))))
 else (some (.inr (v4_11, v5_12, v6_13, t_state_14, t_work_15))))))
def f_X8_walk (t_roomMany : Int32) (t_doorMany : Int32) (t_stringLong : Int32) (t_lawMany : Int32) (t_laws : Nat → Int32) (t_state : Nat → Int32) (t_work : Nat → Int32) (p1 : Int32) (p2 : Int32) (p3 : Int32) : Option (Int32 × (Nat → Int32) × (Nat → Int32)) :=
 (ob1 (f_X8_in (p2.toInt64) (1 : Int64) (60 : Int64)) (fun r_1 =>
 (if r_1 = (0 : Int32) then
 (some ((-1 : Int32), t_state, t_work))
 else (ob1 (f_X8_in (p3.toInt64) (0 : Int64) (1 : Int64)) (fun r_4 =>
 (if r_4 = (0 : Int32) then
 (some ((-1 : Int32), t_state, t_work))
 else (gin (48 : Int32) 196 (if (t_state (48 : Int32).toNatClampNeg) = (1 : Int32) then
 (some ((-2 : Int32), t_state, t_work))
 else (ob1 (f_X8_copies t_state (0 : Int32) (147 : Int32)) (fun t_state_9 =>
 (ob5 (itr (un5 (b_X8_walk_55 t_roomMany t_doorMany t_stringLong t_lawMany t_laws p2)) FU (p1, (0 : Int32), (0 : Int32), t_state_9, t_work)) (fun x4_52 x5_53 x6_54 t_state_55 t_work_56 =>
 (gin (31 : Int32) 196 (bnd (t_state_55 (31 : Int32).toNatClampNeg) (fun v6_58 =>
 (ob1 (f_X8_copies t_state_55 (147 : Int32) (0 : Int32)) (fun t_state_59 =>
 (if p3 = (0 : Int32) then
 (some (x5_53, t_state_59, t_work_56))
 else (some (v6_58, t_state_59, t_work_56))))))))))))))))))))
abbrev rmX8_walk : Room := { frames := 4, cells := 0, slots := 0, locals := 104 }
set_option maxHeartbeats 4000000 in
set_option maxRecDepth 100000 in
theorem c_X8_walk (l : Launch) (g : Gh) (sz : Nat) (t_q t_state_q t_laws_q t_readPage_q t_readLaws_q t_tape_q t_cuts_q t_letters_q t_work_q t_pages_q t_canBe_q t_leadsOn_q t_seen_q t_heard_q t_isKept_q t_lanes_q t_lengths_q t_cells_q : Nat) (t_roomMany : Int32) (t_doorMany : Int32) (t_stringLong : Int32) (t_lawMany : Int32) (t_readRooms : Int32) (t_readDoors : Int32) (t_readString : Int32) (t_readLawMany : Int32) (t_toldOnce : Int32) (t_highRoom : Int32) (t_highDoor : Int32) (t_taped : Int32) (t_fault : Int32) (t_broken : Int32) (t_brokenAt : Int32) (t_spot : Int32) (t_here : Int32) (t_token : Int32) (t_value : Int32) (t_seenMany : Int32) (t_heardMany : Int32) (t_torn : Int32) (t_laws : Nat → Int32) (t_state : Nat → Int32) (t_work : Nat → Int32) (p1 : Int32) (p2 : Int32) (p3 : Int32) (rr : Int32) (t_state' : Nat → Int32) (t_work' : Nat → Int32) (hf : f_X8_walk t_roomMany t_doorMany t_stringLong t_lawMany t_laws t_state t_work p1 p2 p3 = some (rr, t_state', t_work')) : CI l yX8_walk wsX8_walk rmX8_walk [.ref t_q, .int p1, .int p2, .int p3] g sz [oX8 t_q t_state_q t_roomMany t_doorMany t_stringLong t_laws_q t_lawMany t_readPage_q t_readLaws_q t_readRooms t_readDoors t_readString t_readLawMany t_toldOnce t_highRoom t_highDoor t_tape_q t_taped t_fault t_broken t_brokenAt t_spot t_here t_token t_value t_cuts_q t_letters_q t_work_q t_pages_q t_canBe_q t_leadsOn_q t_seen_q t_seenMany t_heard_q t_heardMany t_isKept_q t_lanes_q t_lengths_q t_cells_q t_torn, aI g t_laws_q 18 t_laws, aI g t_state_q 196 t_state, aI g t_work_q 30 t_work] [oX8 t_q t_state_q t_roomMany t_doorMany t_stringLong t_laws_q t_lawMany t_readPage_q t_readLaws_q t_readRooms t_readDoors t_readString t_readLawMany t_toldOnce t_highRoom t_highDoor t_tape_q t_taped t_fault t_broken t_brokenAt t_spot t_here t_token t_value t_cuts_q t_letters_q t_work_q t_pages_q t_canBe_q t_leadsOn_q t_seen_q t_seenMany t_heard_q t_heardMany t_isKept_q t_lanes_q t_lengths_q t_cells_q t_torn, aI g t_laws_q 18 t_laws, aI g t_state_q 196 t_state', aI g t_work_q 30 t_work'] rr := by
  refine ent_i (cc := cX8_walk) (maxL := 10) (by decide) rfl (Nat.le_of_ble_eq_true rfl) ?_
  intro p e s m args below meth c A Q hx hb hml hown hts hK hz hk hA hD hP hS hret ls hl
  have hown : s.vm.findClass RX8 = some m.cls := hown
  have inX8 : ∀ w ∈ u_ws RX8 TX8 39, w ∈ wsX8_walk := by decide +kernel
  have k7 := hts (.fieldLink RX8 7 "ThreadMovedModel" "state" "[I") (by decide +kernel)
  have q240 := hts (.constantLong RX8 240 (60)) (by decide +kernel)
  have q289 := hts (.constant RX8 289 (1103515245)) (by decide +kernel)
  have hl : lv_has ls 10 [(0, .ref t_q), (1, .int p1), (2, .int p2), (3, .int p3)] := hl
  have hret : ∀ (rrz : Int32) (t_statez : Nat → Int32) (t_workz : Nat → Int32), (rrz, t_statez, t_workz) = (rr, t_state', t_work') → ∀ (H : Heap) (locs : List Loc) (pc : Nat) (ls : Array Slot), va_P g.1 vwCl [oX8 t_q t_state_q t_roomMany t_doorMany t_stringLong t_laws_q t_lawMany t_readPage_q t_readLaws_q t_readRooms t_readDoors t_readString t_readLawMany t_toldOnce t_highRoom t_highDoor t_tape_q t_taped t_fault t_broken t_brokenAt t_spot t_here t_token t_value t_cuts_q t_letters_q t_work_q t_pages_q t_canBe_q t_leadsOn_q t_seen_q t_seenMany t_heard_q t_heardMany t_isKept_q t_lanes_q t_lengths_q t_cells_q t_torn, aI g t_laws_q 18 t_laws, aI g t_state_q 196 t_statez, aI g t_work_q 30 t_workz] H → va_S A s.heap H locs → decode cX8_walk pc = .ok (.ireturn, 1) → W p l e rmX8_walk s m args below meth c H locs 0 0 Q (F0 m pc ls [.int rrz]) := by
    intro rrz t_statez t_workz he H locs pc ls hP hS hd
    cases he
    exact hret H locs pc ls hP hS hd
  unfold f_X8_walk at hf
  refine lv_iload_n hx hb dX8_walk_0 rfl (lv_at hl 2 rfl) ?_
  refine lv_i2l hx hb dX8_walk_1 rfl ?_
  refine lv_lconst (v := (1 : Int64)) hx hb dX8_walk_2 (by decide) ?_
  refine lv_ldc2 hx hb hown q240 dX8_walk_3 ?_
  obtain ⟨r_1, hc_2, hf⟩ := ob1_e hf
  refine kS_i (wn := [oX8 t_q t_state_q t_roomMany t_doorMany t_stringLong t_laws_q t_lawMany t_readPage_q t_readLaws_q t_readRooms t_readDoors t_readString t_readLawMany t_toldOnce t_highRoom t_highDoor t_tape_q t_taped t_fault t_broken t_brokenAt t_spot t_here t_token t_value t_cuts_q t_letters_q t_work_q t_pages_q t_canBe_q t_leadsOn_q t_seen_q t_seenMany t_heard_q t_heardMany t_isKept_q t_lanes_q t_lengths_q t_cells_q t_torn, aI g t_laws_q 18 t_laws, aI g t_state_q 196 t_state, aI g t_work_q 30 t_work]) (As := [.long (p2.toInt64), .long (1 : Int64), .long (60 : Int64)]) (rest := []) (c_X8_in l g _ (p2.toInt64) (1 : Int64) (60 : Int64) r_1 hc_2) ⟨hx, hb, hml, hown, hts⟩ (va_cwS 3 hts gX8_walk_X8_in rfl rfl rfl (by decide +kernel) ⟨by decide, by decide⟩) hK hz hk hP (hD.re rfl) hS hA [] rfl rfl rfl rfl rfl hl.1 rfl (Nat.le_of_ble_eq_true rfl) dX8_walk_6 (fun H locs hP hS => ?_)
  refine lv_if_eq (tgt := 22) hx hb dX8_walk_9 (by decide) (fun c_3 => ?_) (fun c_3 => ?_)
  · have hf := ite_t hf c_3
    refine lv_iconst (v := (-1 : Int32)) hx hb dX8_walk_22 (by decide) ?_
    exact hret (-1 : Int32) t_state t_work (Option.some.inj hf) _ _ _ _ hP hS dX8_walk_23
  · have hf := ite_f hf c_3
    refine lv_iload_n hx hb dX8_walk_12 rfl (lv_at hl 3 rfl) ?_
    refine lv_i2l hx hb dX8_walk_13 rfl ?_
    refine lv_lconst (v := (0 : Int64)) hx hb dX8_walk_14 (by decide) ?_
    refine lv_lconst (v := (1 : Int64)) hx hb dX8_walk_15 (by decide) ?_
    obtain ⟨r_4, hc_5, hf⟩ := ob1_e hf
    refine kS_i (wn := [oX8 t_q t_state_q t_roomMany t_doorMany t_stringLong t_laws_q t_lawMany t_readPage_q t_readLaws_q t_readRooms t_readDoors t_readString t_readLawMany t_toldOnce t_highRoom t_highDoor t_tape_q t_taped t_fault t_broken t_brokenAt t_spot t_here t_token t_value t_cuts_q t_letters_q t_work_q t_pages_q t_canBe_q t_leadsOn_q t_seen_q t_seenMany t_heard_q t_heardMany t_isKept_q t_lanes_q t_lengths_q t_cells_q t_torn, aI g t_laws_q 18 t_laws, aI g t_state_q 196 t_state, aI g t_work_q 30 t_work]) (As := [.long (p3.toInt64), .long (0 : Int64), .long (1 : Int64)]) (rest := []) (c_X8_in l g _ (p3.toInt64) (0 : Int64) (1 : Int64) r_4 hc_5) ⟨hx, hb, hml, hown, hts⟩ (va_cwS 3 hts gX8_walk_X8_in rfl rfl rfl (by decide +kernel) ⟨by decide, by decide⟩) hK hz hk hP (hD.re rfl) hS hA [] rfl rfl rfl rfl rfl hl.1 rfl (Nat.le_of_ble_eq_true rfl) dX8_walk_16 (fun H locs hP hS => ?_)
    refine lv_if_ne (tgt := 24) hx hb dX8_walk_19 (by decide) (fun c_6 => ?_) (fun c_6 => ?_)
    · have hf := ite_f hf c_6
      refine lv_aload_n hx hb dX8_walk_24 rfl (lv_at hl 0 rfl) ?_
      refine va_get (D := g.1) (ci := 8) (v := .ref t_state_q) (C := RX8) (T := TX8) (N := 39) hx hb hts inX8 hown hK hP 0 rfl rfl 0 (by decide) k7 (fun _ h9 => h9) rfl dX8_walk_25 ?_
      refine lv_bipush (v := (48 : Int32)) hx hb dX8_walk_28 (by decide) ?_
      obtain ⟨h_7, hf⟩ := gin_e hf
      refine va_iald hx hb hK hP 2 0 rfl rfl h_7 dX8_walk_30 ?_
      refine lv_iconst (v := (1 : Int32)) hx hb dX8_walk_31 (by decide) ?_
      refine lv_icmp_ne (tgt := 38) hx hb dX8_walk_32 (by decide) (fun c_8 => ?_) (fun c_8 => ?_)
      · have hf := ite_f hf c_8
        refine lv_aload_n hx hb dX8_walk_38 rfl (lv_at hl 0 rfl) ?_
        refine lv_iconst (v := (0 : Int32)) hx hb dX8_walk_39 (by decide) ?_
        refine lv_sipush (v := (147 : Int32)) hx hb dX8_walk_40 (by decide) ?_
        obtain ⟨t_state_9, hc_10, hf⟩ := ob1_e hf
        refine kV_v (wn := [oX8 t_q t_state_q t_roomMany t_doorMany t_stringLong t_laws_q t_lawMany t_readPage_q t_readLaws_q t_readRooms t_readDoors t_readString t_readLawMany t_toldOnce t_highRoom t_highDoor t_tape_q t_taped t_fault t_broken t_brokenAt t_spot t_here t_token t_value t_cuts_q t_letters_q t_work_q t_pages_q t_canBe_q t_leadsOn_q t_seen_q t_seenMany t_heard_q t_heardMany t_isKept_q t_lanes_q t_lengths_q t_cells_q t_torn, aI g t_laws_q 18 t_laws, aI g t_state_q 196 t_state_9, aI g t_work_q 30 t_work]) (As := [.int (0 : Int32), .int (147 : Int32)]) (rest := []) (c_X8_copies l g _ t_q t_state_q t_laws_q t_readPage_q t_readLaws_q t_tape_q t_cuts_q t_letters_q t_work_q t_pages_q t_canBe_q t_leadsOn_q t_seen_q t_heard_q t_isKept_q t_lanes_q t_lengths_q t_cells_q t_roomMany t_doorMany t_stringLong t_lawMany t_readRooms t_readDoors t_readString t_readLawMany t_toldOnce t_highRoom t_highDoor t_taped t_fault t_broken t_brokenAt t_spot t_here t_token t_value t_seenMany t_heardMany t_torn t_state (0 : Int32) (147 : Int32) t_state_9 hc_10) ⟨hx, hb, hml, hown, hts⟩ (cwV 2 hts gX8_walk_X8_copies rfl rfl rfl (by decide +kernel) ⟨by decide, by decide⟩) hK hz hk hP (hD.re rfl) hS hA [0, 2] rfl rfl rfl rfl rfl rfl rfl hl.1 rfl (Nat.le_of_ble_eq_true rfl) dX8_walk_43 (fun H locs hP hS => ?_)
        refine lv_iload_n hx hb dX8_walk_46 rfl (lv_at hl 1 rfl) ?_
        refine lv_istore (lv' := [(4, .int p1), (0, .ref t_q), (1, .int p1), (2, .int p2), (3, .int p3)]) hx hb dX8_walk_47 hl (by decide) rfl (fun ls hl => ?_)
        refine lv_iconst (v := (0 : Int32)) hx hb dX8_walk_49 (by decide) ?_
        refine lv_istore (lv' := [(5, .int (0 : Int32)), (4, .int p1), (0, .ref t_q), (1, .int p1), (2, .int p2), (3, .int p3)]) hx hb dX8_walk_50 hl (by decide) rfl (fun ls hl => ?_)
        refine lv_iconst (v := (0 : Int32)) hx hb dX8_walk_52 (by decide) ?_
        refine lv_istore (lv' := [(6, .int (0 : Int32)), (5, .int (0 : Int32)), (4, .int p1), (0, .ref t_q), (1, .int p1), (2, .int p2), (3, .int p3)]) hx hb dX8_walk_53 hl (by decide) rfl (fun ls hl => ?_)
        obtain ⟨x4_52, x5_53, x6_54, t_state_55, t_work_56, ho_16, hf⟩ := ob5_e hf
        have K_16 : ∀ (x4_52y : Int32) (x5_53y : Int32) (x6_54y : Int32) (t_state_55y : Nat → Int32) (t_work_56y : Nat → Int32), x4_52 = x4_52y → x5_53 = x5_53y → x6_54 = x6_54y → t_state_55 = t_state_55y → t_work_56 = t_work_56y → ∀ (H : Heap) (locs : List Loc) (ls : Array Slot), va_P g.1 vwCl [oX8 t_q t_state_q t_roomMany t_doorMany t_stringLong t_laws_q t_lawMany t_readPage_q t_readLaws_q t_readRooms t_readDoors t_readString t_readLawMany t_toldOnce t_highRoom t_highDoor t_tape_q t_taped t_fault t_broken t_brokenAt t_spot t_here t_token t_value t_cuts_q t_letters_q t_work_q t_pages_q t_canBe_q t_leadsOn_q t_seen_q t_seenMany t_heard_q t_heardMany t_isKept_q t_lanes_q t_lengths_q t_cells_q t_torn, aI g t_laws_q 18 t_laws, aI g t_state_q 196 t_state_55y, aI g t_work_q 30 t_work_56y] H → va_S A s.heap H locs → lv_has ls 10 [(0, .ref t_q), (3, .int p3), (5, .int x5_53y)] → W p l e rmX8_walk s m args below meth c H locs 0 0 Q (F0 m 212 ls []) := by
          intro x4_52y x5_53y x6_54y t_state_55y t_work_56y ey0 ey1 ey2 ey3 ey4 H locs ls hP hS hl
          subst ey0
          subst ey1
          subst ey2
          subst ey3
          subst ey4
          refine lv_aload_n hx hb dX8_walk_212 rfl (lv_at hl 0 rfl) ?_
          refine va_get (D := g.1) (ci := 8) (v := .ref t_state_q) (C := RX8) (T := TX8) (N := 39) hx hb hts inX8 hown hK hP 0 rfl rfl 0 (by decide) k7 (fun _ h9 => h9) rfl dX8_walk_213 ?_
          refine lv_bipush (v := (31 : Int32)) hx hb dX8_walk_216 (by decide) ?_
          obtain ⟨h_57, hf⟩ := gin_e hf
          refine va_iald hx hb hK hP 2 0 rfl rfl h_57 dX8_walk_218 ?_
          obtain ⟨v6_58, ev6_58, hf⟩ := bnd_e hf
          refine tp_i ev6_58 ?_
          refine lv_istore (lv' := [(6, .int v6_58), (0, .ref t_q), (3, .int p3), (5, .int x5_53)]) hx hb dX8_walk_219 hl (by decide) rfl (fun ls hl => ?_)
          refine lv_aload_n hx hb dX8_walk_221 rfl (lv_at hl 1 rfl) ?_
          refine lv_sipush (v := (147 : Int32)) hx hb dX8_walk_222 (by decide) ?_
          refine lv_iconst (v := (0 : Int32)) hx hb dX8_walk_225 (by decide) ?_
          obtain ⟨t_state_59, hc_60, hf⟩ := ob1_e hf
          refine kV_v (wn := [oX8 t_q t_state_q t_roomMany t_doorMany t_stringLong t_laws_q t_lawMany t_readPage_q t_readLaws_q t_readRooms t_readDoors t_readString t_readLawMany t_toldOnce t_highRoom t_highDoor t_tape_q t_taped t_fault t_broken t_brokenAt t_spot t_here t_token t_value t_cuts_q t_letters_q t_work_q t_pages_q t_canBe_q t_leadsOn_q t_seen_q t_seenMany t_heard_q t_heardMany t_isKept_q t_lanes_q t_lengths_q t_cells_q t_torn, aI g t_laws_q 18 t_laws, aI g t_state_q 196 t_state_59, aI g t_work_q 30 t_work_56]) (As := [.int (147 : Int32), .int (0 : Int32)]) (rest := []) (c_X8_copies l g _ t_q t_state_q t_laws_q t_readPage_q t_readLaws_q t_tape_q t_cuts_q t_letters_q t_work_q t_pages_q t_canBe_q t_leadsOn_q t_seen_q t_heard_q t_isKept_q t_lanes_q t_lengths_q t_cells_q t_roomMany t_doorMany t_stringLong t_lawMany t_readRooms t_readDoors t_readString t_readLawMany t_toldOnce t_highRoom t_highDoor t_taped t_fault t_broken t_brokenAt t_spot t_here t_token t_value t_seenMany t_heardMany t_torn t_state_55 (147 : Int32) (0 : Int32) t_state_59 hc_60) ⟨hx, hb, hml, hown, hts⟩ (cwV 2 hts gX8_walk_X8_copies rfl rfl rfl (by decide +kernel) ⟨by decide, by decide⟩) hK hz hk hP (hD.re rfl) hS hA [0, 2] rfl rfl rfl rfl rfl rfl rfl hl.1 rfl (Nat.le_of_ble_eq_true rfl) dX8_walk_226 (fun H locs hP hS => ?_)
          refine lv_iload_n hx hb dX8_walk_229 rfl (lv_at hl 2 rfl) ?_
          refine lv_if_ne (tgt := 238) hx hb dX8_walk_230 (by decide) (fun c_61 => ?_) (fun c_61 => ?_)
          · have hf := ite_f hf c_61
            refine lv_iload hx hb dX8_walk_238 (lv_at hl 0 rfl) ?_
            exact hret v6_58 t_state_59 t_work_56 (Option.some.inj hf) _ _ _ _ hP hS dX8_walk_240
          · have hf := ite_t hf c_61
            refine lv_iload hx hb dX8_walk_233 (lv_at hl 3 rfl) ?_
            refine lv_goto (tgt := 240) hx hb dX8_walk_235 (by decide) ?_
            exact hret x5_53 t_state_59 t_work_56 (Option.some.inj hf) _ _ _ _ hP hS dX8_walk_240
        have L_16 : ∀ (n : Nat) (v4_11 : Int32) (v5_12 : Int32) (v6_13 : Int32) (t_state_14 : Nat → Int32) (t_work_15 : Nat → Int32), itr (un5 (b_X8_walk_55 t_roomMany t_doorMany t_stringLong t_lawMany t_laws p2)) n (v4_11, v5_12, v6_13, t_state_14, t_work_15) = some (x4_52, x5_53, x6_54, t_state_55, t_work_56) → ∀ (H : Heap) (locs : List Loc) (ls : Array Slot), va_P g.1 vwCl [oX8 t_q t_state_q t_roomMany t_doorMany t_stringLong t_laws_q t_lawMany t_readPage_q t_readLaws_q t_readRooms t_readDoors t_readString t_readLawMany t_toldOnce t_highRoom t_highDoor t_tape_q t_taped t_fault t_broken t_brokenAt t_spot t_here t_token t_value t_cuts_q t_letters_q t_work_q t_pages_q t_canBe_q t_leadsOn_q t_seen_q t_seenMany t_heard_q t_heardMany t_isKept_q t_lanes_q t_lengths_q t_cells_q t_torn, aI g t_laws_q 18 t_laws, aI g t_state_q 196 t_state_14, aI g t_work_q 30 t_work_15] H → va_S A s.heap H locs → lv_has ls 10 [(0, .ref t_q), (2, .int p2), (3, .int p3), (4, .int v4_11), (5, .int v5_12), (6, .int v6_13)] → W p l e rmX8_walk s m args below meth c H locs 0 0 Q (F0 m 55 ls []) := by
          refine itr_ind5 ?_
          intro v4_11 v5_12 v6_13 t_state_14 t_work_15 z_16 hf hrec hex H locs ls hP hS hl
          unfold b_X8_walk_55 at hf
          refine lv_iload hx hb dX8_walk_55 (lv_at hl 5 rfl) ?_
          refine lv_iload_n hx hb dX8_walk_57 rfl (lv_at hl 1 rfl) ?_
          refine lv_icmp_ge (tgt := 212) hx hb dX8_walk_58 (by decide) (fun c_17 => ?_) (fun c_17 => ?_)
          · have hf := ite_t hf c_17
            exact K_16 v4_11 v5_12 v6_13 t_state_14 t_work_15 (congrArg (fun t => t.1) (hex _ (Option.some.inj hf).symm).symm) (congrArg (fun t => t.2.1) (hex _ (Option.some.inj hf).symm).symm) (congrArg (fun t => t.2.2.1) (hex _ (Option.some.inj hf).symm).symm) (congrArg (fun t => t.2.2.2.1) (hex _ (Option.some.inj hf).symm).symm) (congrArg (fun t => t.2.2.2.2) (hex _ (Option.some.inj hf).symm).symm) _ _ _ hP hS (lv_sub hl [0, 2, 4] rfl)
          · have hf := ite_f hf c_17
            refine lv_aload_n hx hb dX8_walk_61 rfl (lv_at hl 0 rfl) ?_
            refine va_get (D := g.1) (ci := 8) (v := .ref t_state_q) (C := RX8) (T := TX8) (N := 39) hx hb hts inX8 hown hK hP 0 rfl rfl 0 (by decide) k7 (fun _ h9 => h9) rfl dX8_walk_62 ?_
            refine lv_bipush (v := (48 : Int32)) hx hb dX8_walk_65 (by decide) ?_
            obtain ⟨h_18, hf⟩ := gin_e hf
            refine va_iald hx hb hK hP 2 0 rfl rfl h_18 dX8_walk_67 ?_
            refine lv_if_ne (tgt := 212) hx hb dX8_walk_68 (by decide) (fun c_19 => ?_) (fun c_19 => ?_)
            · have hf := ite_f hf c_19
              exact K_16 v4_11 v5_12 v6_13 t_state_14 t_work_15 (congrArg (fun t => t.1) (hex _ (Option.some.inj hf).symm).symm) (congrArg (fun t => t.2.1) (hex _ (Option.some.inj hf).symm).symm) (congrArg (fun t => t.2.2.1) (hex _ (Option.some.inj hf).symm).symm) (congrArg (fun t => t.2.2.2.1) (hex _ (Option.some.inj hf).symm).symm) (congrArg (fun t => t.2.2.2.2) (hex _ (Option.some.inj hf).symm).symm) _ _ _ hP hS (lv_sub hl [0, 2, 4] rfl)
            · have hf := ite_t hf c_19
              refine lv_iload hx hb dX8_walk_71 (lv_at hl 3 rfl) ?_
              refine lv_ldcw hx hb hown q289 dX8_walk_73 ?_
              refine lv_imul hx hb dX8_walk_76 ?_
              refine lv_sipush (v := (12345 : Int32)) hx hb dX8_walk_77 (by decide) ?_
              refine lv_iadd hx hb dX8_walk_80 ?_
              obtain ⟨v4_20, ev4_20, hf⟩ := bnd_e hf
              refine tp_i ev4_20 ?_
              refine lv_istore (lv' := [(4, .int v4_20), (0, .ref t_q), (2, .int p2), (3, .int p3), (5, .int v5_12), (6, .int v6_13)]) hx hb dX8_walk_81 hl (by decide) rfl (fun ls hl => ?_)
              refine lv_aload_n hx hb dX8_walk_83 rfl (lv_at hl 1 rfl) ?_
              refine lv_aload_n hx hb dX8_walk_84 rfl (lv_at hl 1 rfl) ?_
              refine va_get (D := g.1) (ci := 8) (v := .ref t_state_q) (C := RX8) (T := TX8) (N := 39) hx hb hts inX8 hown hK hP 0 rfl rfl 0 (by decide) k7 (fun _ h9 => h9) rfl dX8_walk_85 ?_
              refine lv_iconst (v := (0 : Int32)) hx hb dX8_walk_88 (by decide) ?_
              refine lv_aload_n hx hb dX8_walk_89 rfl (lv_at hl 1 rfl) ?_
              refine va_get (D := g.1) (ci := 8) (v := .ref t_state_q) (C := RX8) (T := TX8) (N := 39) hx hb hts inX8 hown hK hP 0 rfl rfl 0 (by decide) k7 (fun _ h9 => h9) rfl dX8_walk_90 ?_
              refine lv_bipush (v := (31 : Int32)) hx hb dX8_walk_93 (by decide) ?_
              obtain ⟨h_21, hf⟩ := gin_e hf
              refine va_iald hx hb hK hP 2 0 rfl rfl h_21 dX8_walk_95 ?_
              obtain ⟨r_22, hc_23, hf⟩ := ob1_e hf
              refine kV_i (wn := [oX8 t_q t_state_q t_roomMany t_doorMany t_stringLong t_laws_q t_lawMany t_readPage_q t_readLaws_q t_readRooms t_readDoors t_readString t_readLawMany t_toldOnce t_highRoom t_highDoor t_tape_q t_taped t_fault t_broken t_brokenAt t_spot t_here t_token t_value t_cuts_q t_letters_q t_work_q t_pages_q t_canBe_q t_leadsOn_q t_seen_q t_seenMany t_heard_q t_heardMany t_isKept_q t_lanes_q t_lengths_q t_cells_q t_torn, aI g t_laws_q 18 t_laws, aI g t_state_q 196 t_state_14, aI g t_work_q 30 t_work_15]) (As := [.ref t_state_q, .int (0 : Int32), .int (t_state_14 (31 : Int32).toNatClampNeg)]) (rest := []) (c_X8_leading l g _ t_q t_state_q t_laws_q t_readPage_q t_readLaws_q t_tape_q t_cuts_q t_letters_q t_work_q t_pages_q t_canBe_q t_leadsOn_q t_seen_q t_heard_q t_isKept_q t_lanes_q t_lengths_q t_cells_q t_state_q t_roomMany t_doorMany t_stringLong t_lawMany t_readRooms t_readDoors t_readString t_readLawMany t_toldOnce t_highRoom t_highDoor t_taped t_fault t_broken t_brokenAt t_spot t_here t_token t_value t_seenMany t_heardMany t_torn 196 t_state_14 (0 : Int32) (t_state_14 (31 : Int32).toNatClampNeg) r_22 hc_23) ⟨hx, hb, hml, hown, hts⟩ (cwV 3 hts gX8_walk_X8_leading rfl rfl rfl (by decide +kernel) ⟨by decide, by decide⟩) hK hz hk hP (hD.re rfl) hS hA [0, 2] rfl rfl rfl rfl rfl rfl rfl hl.1 rfl (Nat.le_of_ble_eq_true rfl) dX8_walk_96 (fun H locs hP hS => ?_)
              refine lv_istore (lv' := [(7, .int r_22), (4, .int v4_20), (0, .ref t_q), (2, .int p2), (3, .int p3), (5, .int v5_12), (6, .int v6_13)]) hx hb dX8_walk_99 hl (by decide) rfl (fun ls hl => ?_)
              refine lv_iload hx hb dX8_walk_101 (lv_at hl 1 rfl) ?_
              refine lv_bipush (v := (16 : Int32)) hx hb dX8_walk_103 (by decide) ?_
              refine lv_ishr hx hb dX8_walk_105 ?_
              refine lv_sipush (v := (32767 : Int32)) hx hb dX8_walk_106 (by decide) ?_
              refine lv_iand hx hb dX8_walk_109 ?_
              refine lv_iload hx hb dX8_walk_110 (lv_at hl 0 rfl) ?_
              obtain ⟨r_24, hc_25, hf⟩ := ob1_e hf
              refine kS_i (wn := [oX8 t_q t_state_q t_roomMany t_doorMany t_stringLong t_laws_q t_lawMany t_readPage_q t_readLaws_q t_readRooms t_readDoors t_readString t_readLawMany t_toldOnce t_highRoom t_highDoor t_tape_q t_taped t_fault t_broken t_brokenAt t_spot t_here t_token t_value t_cuts_q t_letters_q t_work_q t_pages_q t_canBe_q t_leadsOn_q t_seen_q t_seenMany t_heard_q t_heardMany t_isKept_q t_lanes_q t_lengths_q t_cells_q t_torn, aI g t_laws_q 18 t_laws, aI g t_state_q 196 t_state_14, aI g t_work_q 30 t_work_15]) (As := [.int r_22]) (rest := [.int ((v4_20 >>> ((16 : Int32) &&& 31)) &&& (32767 : Int32))]) (c_X8_bitsOf l g _ r_22 r_24 hc_25) ⟨hx, hb, hml, hown, hts⟩ (va_cwS 1 hts gX8_walk_X8_bitsOf rfl rfl rfl (by decide +kernel) ⟨by decide, by decide⟩) hK hz hk hP (hD.re rfl) hS hA [] rfl rfl rfl rfl rfl hl.1 rfl (Nat.le_of_ble_eq_true rfl) dX8_walk_112 (fun H locs hP hS => ?_)
              refine lv_iconst (v := (1 : Int32)) hx hb dX8_walk_115 (by decide) ?_
              refine lv_iadd hx hb dX8_walk_116 ?_
              obtain ⟨z_26, hf⟩ := gnz_e hf
              refine lv_irem hx hb dX8_walk_117 z_26 ?_
              obtain ⟨v8_27, ev8_27, hf⟩ := bnd_e hf
              refine tp_i ev8_27 ?_
              refine lv_istore (lv' := [(8, .int v8_27), (7, .int r_22), (4, .int v4_20), (0, .ref t_q), (2, .int p2), (3, .int p3), (5, .int v5_12), (6, .int v6_13)]) hx hb dX8_walk_118 hl (by decide) rfl (fun ls hl => ?_)
              refine lv_iload hx hb dX8_walk_120 (lv_at hl 0 rfl) ?_
              refine lv_iload hx hb dX8_walk_122 (lv_at hl 1 rfl) ?_
              obtain ⟨r_28, hc_29, hf⟩ := ob1_e hf
              refine kS_i (wn := [oX8 t_q t_state_q t_roomMany t_doorMany t_stringLong t_laws_q t_lawMany t_readPage_q t_readLaws_q t_readRooms t_readDoors t_readString t_readLawMany t_toldOnce t_highRoom t_highDoor t_tape_q t_taped t_fault t_broken t_brokenAt t_spot t_here t_token t_value t_cuts_q t_letters_q t_work_q t_pages_q t_canBe_q t_leadsOn_q t_seen_q t_seenMany t_heard_q t_heardMany t_isKept_q t_lanes_q t_lengths_q t_cells_q t_torn, aI g t_laws_q 18 t_laws, aI g t_state_q 196 t_state_14, aI g t_work_q 30 t_work_15]) (As := [.int r_22]) (rest := [.int v8_27]) (c_X8_bitsOf l g _ r_22 r_28 hc_29) ⟨hx, hb, hml, hown, hts⟩ (va_cwS 1 hts gX8_walk_X8_bitsOf rfl rfl rfl (by decide +kernel) ⟨by decide, by decide⟩) hK hz hk hP (hD.re rfl) hS hA [] rfl rfl rfl rfl rfl hl.1 rfl (Nat.le_of_ble_eq_true rfl) dX8_walk_124 (fun H locs hP hS => ?_)
              obtain ⟨j_31, hj_31, hf⟩ := jn1_e hf
              have J_31 : ∀ (s_30 : Int32), j_31 s_30 = some z_16 → ∀ (H : Heap) (locs : List Loc) (ls : Array Slot), va_P g.1 vwCl [oX8 t_q t_state_q t_roomMany t_doorMany t_stringLong t_laws_q t_lawMany t_readPage_q t_readLaws_q t_readRooms t_readDoors t_readString t_readLawMany t_toldOnce t_highRoom t_highDoor t_tape_q t_taped t_fault t_broken t_brokenAt t_spot t_here t_token t_value t_cuts_q t_letters_q t_work_q t_pages_q t_canBe_q t_leadsOn_q t_seen_q t_seenMany t_heard_q t_heardMany t_isKept_q t_lanes_q t_lengths_q t_cells_q t_torn, aI g t_laws_q 18 t_laws, aI g t_state_q 196 t_state_14, aI g t_work_q 30 t_work_15] H → va_S A s.heap H locs → lv_has ls 10 [(0, .ref t_q), (2, .int p2), (3, .int p3), (4, .int v4_20), (5, .int v5_12), (6, .int v6_13)] → W p l e rmX8_walk s m args below meth c H locs 0 0 Q (F0 m 142 ls [.int s_30]) := by
                intro s_30 hf H locs ls hP hS hl
                rw [hj_31] at hf
                refine lv_istore (lv' := [(9, .int s_30), (0, .ref t_q), (2, .int p2), (3, .int p3), (4, .int v4_20), (5, .int v5_12), (6, .int v6_13)]) hx hb dX8_walk_142 hl (by decide) rfl (fun ls hl => ?_)
                refine lv_aload_n hx hb dX8_walk_144 rfl (lv_at hl 1 rfl) ?_
                refine lv_iload hx hb dX8_walk_145 (lv_at hl 0 rfl) ?_
                refine lv_iload hx hb dX8_walk_147 (lv_at hl 0 rfl) ?_
                refine lv_bipush (v := (10 : Int32)) hx hb dX8_walk_149 (by decide) ?_
                obtain ⟨j_33, hj_33, hf⟩ := jn1_e hf
                have J_33 : ∀ (s_32 : Int32), j_33 s_32 = some z_16 → ∀ (H : Heap) (locs : List Loc) (ls : Array Slot), va_P g.1 vwCl [oX8 t_q t_state_q t_roomMany t_doorMany t_stringLong t_laws_q t_lawMany t_readPage_q t_readLaws_q t_readRooms t_readDoors t_readString t_readLawMany t_toldOnce t_highRoom t_highDoor t_tape_q t_taped t_fault t_broken t_brokenAt t_spot t_here t_token t_value t_cuts_q t_letters_q t_work_q t_pages_q t_canBe_q t_leadsOn_q t_seen_q t_seenMany t_heard_q t_heardMany t_isKept_q t_lanes_q t_lengths_q t_cells_q t_torn, aI g t_laws_q 18 t_laws, aI g t_state_q 196 t_state_14, aI g t_work_q 30 t_work_15] H → va_S A s.heap H locs → lv_has ls 10 [(0, .ref t_q), (2, .int p2), (3, .int p3), (4, .int v4_20), (5, .int v5_12), (6, .int v6_13)] → W p l e rmX8_walk s m args below meth c H locs 0 0 Q (F0 m 182 ls [.int s_32, .int s_30, .ref t_q]) := by
                  intro s_32 hf H locs ls hP hS hl
                  rw [hj_33] at hf
                  obtain ⟨r_34, t_state_35, t_work_36, hc_37, hf⟩ := ob3_e hf
                  refine kV_i (wn := [oX8 t_q t_state_q t_roomMany t_doorMany t_stringLong t_laws_q t_lawMany t_readPage_q t_readLaws_q t_readRooms t_readDoors t_readString t_readLawMany t_toldOnce t_highRoom t_highDoor t_tape_q t_taped t_fault t_broken t_brokenAt t_spot t_here t_token t_value t_cuts_q t_letters_q t_work_q t_pages_q t_canBe_q t_leadsOn_q t_seen_q t_seenMany t_heard_q t_heardMany t_isKept_q t_lanes_q t_lengths_q t_cells_q t_torn, aI g t_laws_q 18 t_laws, aI g t_state_q 196 t_state_35, aI g t_work_q 30 t_work_36]) (As := [.int s_30, .int s_32]) (rest := []) (c_X8_stepsBy l g _ t_q t_state_q t_laws_q t_readPage_q t_readLaws_q t_tape_q t_cuts_q t_letters_q t_work_q t_pages_q t_canBe_q t_leadsOn_q t_seen_q t_heard_q t_isKept_q t_lanes_q t_lengths_q t_cells_q t_roomMany t_doorMany t_stringLong t_lawMany t_readRooms t_readDoors t_readString t_readLawMany t_toldOnce t_highRoom t_highDoor t_taped t_fault t_broken t_brokenAt t_spot t_here t_token t_value t_seenMany t_heardMany t_torn t_laws t_state_14 t_work_15 s_30 s_32 r_34 t_state_35 t_work_36 hc_37) ⟨hx, hb, hml, hown, hts⟩ (cwV 2 hts gX8_walk_X8_stepsBy rfl rfl rfl (by decide +kernel) ⟨by decide, by decide⟩) hK hz hk hP (hD.re rfl) hS hA [0, 1, 2, 3] rfl rfl rfl rfl rfl rfl rfl hl.1 rfl (Nat.le_of_ble_eq_true rfl) dX8_walk_182 (fun H locs hP hS => ?_)
                  refine lv_pop hx hb dX8_walk_185 rfl ?_
                  refine lv_iload hx hb dX8_walk_186 (lv_at hl 4 rfl) ?_
                  refine lv_aload_n hx hb dX8_walk_188 rfl (lv_at hl 0 rfl) ?_
                  refine va_get (D := g.1) (ci := 8) (v := .ref t_state_q) (C := RX8) (T := TX8) (N := 39) hx hb hts inX8 hown hK hP 0 rfl rfl 0 (by decide) k7 (fun _ h9 => h9) rfl dX8_walk_189 ?_
                  refine lv_bipush (v := (48 : Int32)) hx hb dX8_walk_192 (by decide) ?_
                  obtain ⟨h_38, hf⟩ := gin_e hf
                  refine va_iald hx hb hK hP 2 0 rfl rfl h_38 dX8_walk_194 ?_
                  obtain ⟨j_40, hj_40, hf⟩ := jn1_e hf
                  have J_40 : ∀ (s_39 : Int32), j_40 s_39 = some z_16 → ∀ (H : Heap) (locs : List Loc) (ls : Array Slot), va_P g.1 vwCl [oX8 t_q t_state_q t_roomMany t_doorMany t_stringLong t_laws_q t_lawMany t_readPage_q t_readLaws_q t_readRooms t_readDoors t_readString t_readLawMany t_toldOnce t_highRoom t_highDoor t_tape_q t_taped t_fault t_broken t_brokenAt t_spot t_here t_token t_value t_cuts_q t_letters_q t_work_q t_pages_q t_canBe_q t_leadsOn_q t_seen_q t_seenMany t_heard_q t_heardMany t_isKept_q t_lanes_q t_lengths_q t_cells_q t_torn, aI g t_laws_q 18 t_laws, aI g t_state_q 196 t_state_35, aI g t_work_q 30 t_work_36] H → va_S A s.heap H locs → lv_has ls 10 [(0, .ref t_q), (2, .int p2), (3, .int p3), (4, .int v4_20), (6, .int v6_13)] → W p l e rmX8_walk s m args below meth c H locs 0 0 Q (F0 m 203 ls [.int s_39, .int v5_12]) := by
                    intro s_39 hf H locs ls hP hS hl
                    rw [hj_40] at hf
                    refine lv_iadd hx hb dX8_walk_203 ?_
                    obtain ⟨v5_41, ev5_41, hf⟩ := bnd_e hf
                    refine tp_i ev5_41 ?_
                    refine lv_istore (lv' := [(5, .int v5_41), (0, .ref t_q), (2, .int p2), (3, .int p3), (4, .int v4_20), (6, .int v6_13)]) hx hb dX8_walk_204 hl (by decide) rfl (fun ls hl => ?_)
                    obtain ⟨v6_42, ev6_42, hf⟩ := bnd_e hf
                    refine lv_iinc (v := v6_42) (lv' := [(6, .int v6_42), (5, .int v5_41), (0, .ref t_q), (2, .int p2), (3, .int p3), (4, .int v4_20)]) hx hb dX8_walk_206 hl (k := 5) rfl (by rw [ev6_42]; rfl) (by decide) rfl (fun ls hl => ?_)
                    refine lv_goto (tgt := 55) hx hb dX8_walk_209 (by decide) ?_
                    exact hrec v4_20 v5_41 v6_42 t_state_35 t_work_36 (Option.some.inj hf).symm _ _ _ hP hS (lv_sub hl [2, 3, 4, 5, 1, 0] rfl)
                  refine lv_if_ne (tgt := 202) hx hb dX8_walk_195 (by decide) (fun c_43 => ?_) (fun c_43 => ?_)
                  · have hf := ite_f hf c_43
                    refine lv_iconst (v := (0 : Int32)) hx hb dX8_walk_202 (by decide) ?_
                    exact J_40 (0 : Int32) hf _ _ _ hP hS (lv_sub hl [0, 1, 2, 3, 5] rfl)
                  · have hf := ite_t hf c_43
                    refine lv_iconst (v := (1 : Int32)) hx hb dX8_walk_198 (by decide) ?_
                    refine lv_goto (tgt := 203) hx hb dX8_walk_199 (by decide) ?_
                    exact J_40 (1 : Int32) hf _ _ _ hP hS (lv_sub hl [0, 1, 2, 3, 5] rfl)
                refine lv_icmp_ne (tgt := 164) hx hb dX8_walk_151 (by decide) (fun c_44 => ?_) (fun c_44 => ?_)
                · have hf := ite_f hf c_44
                  refine lv_aload_n hx hb dX8_walk_164 rfl (lv_at hl 1 rfl) ?_
                  refine lv_aload_n hx hb dX8_walk_165 rfl (lv_at hl 1 rfl) ?_
                  refine va_get (D := g.1) (ci := 8) (v := .ref t_state_q) (C := RX8) (T := TX8) (N := 39) hx hb hts inX8 hown hK hP 0 rfl rfl 0 (by decide) k7 (fun _ h9 => h9) rfl dX8_walk_166 ?_
                  refine lv_iconst (v := (0 : Int32)) hx hb dX8_walk_169 (by decide) ?_
                  refine lv_iload hx hb dX8_walk_170 (lv_at hl 0 rfl) ?_
                  refine lv_aload_n hx hb dX8_walk_172 rfl (lv_at hl 1 rfl) ?_
                  refine va_get (D := g.1) (ci := 8) (v := .ref t_state_q) (C := RX8) (T := TX8) (N := 39) hx hb hts inX8 hown hK hP 0 rfl rfl 0 (by decide) k7 (fun _ h9 => h9) rfl dX8_walk_173 ?_
                  refine lv_bipush (v := (31 : Int32)) hx hb dX8_walk_176 (by decide) ?_
                  obtain ⟨h_45, hf⟩ := gin_e hf
                  refine va_iald hx hb hK hP 2 0 rfl rfl h_45 dX8_walk_178 ?_
                  obtain ⟨r_46, hc_47, hf⟩ := ob1_e hf
                  refine kV_i (wn := [oX8 t_q t_state_q t_roomMany t_doorMany t_stringLong t_laws_q t_lawMany t_readPage_q t_readLaws_q t_readRooms t_readDoors t_readString t_readLawMany t_toldOnce t_highRoom t_highDoor t_tape_q t_taped t_fault t_broken t_brokenAt t_spot t_here t_token t_value t_cuts_q t_letters_q t_work_q t_pages_q t_canBe_q t_leadsOn_q t_seen_q t_seenMany t_heard_q t_heardMany t_isKept_q t_lanes_q t_lengths_q t_cells_q t_torn, aI g t_laws_q 18 t_laws, aI g t_state_q 196 t_state_14, aI g t_work_q 30 t_work_15]) (As := [.ref t_state_q, .int (0 : Int32), .int s_30, .int (t_state_14 (31 : Int32).toNatClampNeg)]) (rest := [.int s_30, .ref t_q]) (c_X8_leadsTo l g _ t_q t_state_q t_laws_q t_readPage_q t_readLaws_q t_tape_q t_cuts_q t_letters_q t_work_q t_pages_q t_canBe_q t_leadsOn_q t_seen_q t_heard_q t_isKept_q t_lanes_q t_lengths_q t_cells_q t_state_q t_roomMany t_doorMany t_stringLong t_lawMany t_readRooms t_readDoors t_readString t_readLawMany t_toldOnce t_highRoom t_highDoor t_taped t_fault t_broken t_brokenAt t_spot t_here t_token t_value t_seenMany t_heardMany t_torn 196 t_state_14 (0 : Int32) s_30 (t_state_14 (31 : Int32).toNatClampNeg) r_46 hc_47) ⟨hx, hb, hml, hown, hts⟩ (cwV 4 hts gX8_walk_X8_leadsTo rfl rfl rfl (by decide +kernel) ⟨by decide, by decide⟩) hK hz hk hP (hD.re rfl) hS hA [0, 2] rfl rfl rfl rfl rfl rfl rfl hl.1 rfl (Nat.le_of_ble_eq_true rfl) dX8_walk_179 (fun H locs hP hS => ?_)
                  exact J_33 r_46 hf _ _ _ hP hS (lv_sub hl [1, 2, 3, 4, 5, 6] rfl)
                · have hf := ite_t hf c_44
                  refine lv_aload_n hx hb dX8_walk_154 rfl (lv_at hl 1 rfl) ?_
                  refine va_get (D := g.1) (ci := 8) (v := .ref t_state_q) (C := RX8) (T := TX8) (N := 39) hx hb hts inX8 hown hK hP 0 rfl rfl 0 (by decide) k7 (fun _ h9 => h9) rfl dX8_walk_155 ?_
                  refine lv_bipush (v := (31 : Int32)) hx hb dX8_walk_158 (by decide) ?_
                  obtain ⟨h_48, hf⟩ := gin_e hf
                  refine va_iald hx hb hK hP 2 0 rfl rfl h_48 dX8_walk_160 ?_
                  refine lv_goto (tgt := 182) hx hb dX8_walk_161 (by decide) ?_
                  exact J_33 (t_state_14 (31 : Int32).toNatClampNeg) hf _ _ _ hP hS (lv_sub hl [1, 2, 3, 4, 5, 6] rfl)
              refine lv_icmp_ne (tgt := 135) hx hb dX8_walk_127 (by decide) (fun c_49 => ?_) (fun c_49 => ?_)
              · have hf := ite_f hf c_49
                refine lv_iload hx hb dX8_walk_135 (lv_at hl 1 rfl) ?_
                refine lv_iload hx hb dX8_walk_137 (lv_at hl 0 rfl) ?_
                obtain ⟨r_50, hc_51, hf⟩ := ob1_e hf
                refine kS_i (wn := [oX8 t_q t_state_q t_roomMany t_doorMany t_stringLong t_laws_q t_lawMany t_readPage_q t_readLaws_q t_readRooms t_readDoors t_readString t_readLawMany t_toldOnce t_highRoom t_highDoor t_tape_q t_taped t_fault t_broken t_brokenAt t_spot t_here t_token t_value t_cuts_q t_letters_q t_work_q t_pages_q t_canBe_q t_leadsOn_q t_seen_q t_seenMany t_heard_q t_heardMany t_isKept_q t_lanes_q t_lengths_q t_cells_q t_torn, aI g t_laws_q 18 t_laws, aI g t_state_q 196 t_state_14, aI g t_work_q 30 t_work_15]) (As := [.int r_22, .int v8_27]) (rest := []) (c_X8_placeOf l g _ r_22 v8_27 r_50 hc_51) ⟨hx, hb, hml, hown, hts⟩ (va_cwS 2 hts gX8_walk_X8_placeOf rfl rfl rfl (by decide +kernel) ⟨by decide, by decide⟩) hK hz hk hP (hD.re rfl) hS hA [] rfl rfl rfl rfl rfl hl.1 rfl (Nat.le_of_ble_eq_true rfl) dX8_walk_139 (fun H locs hP hS => ?_)
                exact J_31 r_50 hf _ _ _ hP hS (lv_sub hl [3, 4, 5, 2, 6, 7] rfl)
              · have hf := ite_t hf c_49
                refine lv_bipush (v := (10 : Int32)) hx hb dX8_walk_130 (by decide) ?_
                refine lv_goto (tgt := 142) hx hb dX8_walk_132 (by decide) ?_
                exact J_31 (10 : Int32) hf _ _ _ hP hS (lv_sub hl [3, 4, 5, 2, 6, 7] rfl)
        exact L_16 FU p1 (0 : Int32) (0 : Int32) t_state_9 t_work ho_16 _ _ _ hP hS (lv_sub hl [3, 5, 6, 2, 1, 0] rfl)
      · have hf := ite_t hf c_8
        refine lv_bipush (v := (-2 : Int32)) hx hb dX8_walk_35 (by decide) ?_
        exact hret (-2 : Int32) t_state t_work (Option.some.inj hf) _ _ _ _ hP hS dX8_walk_37
    · have hf := ite_t hf c_6
      refine lv_iconst (v := (-1 : Int32)) hx hb dX8_walk_22 (by decide) ?_
      exact hret (-1 : Int32) t_state t_work (Option.some.inj hf) _ _ _ _ hP hS dX8_walk_23
