def b_X8_read_53 (t_roomMany : Int32) (t_doorMany : Int32) (t_stringLong : Int32) (t_lawMany : Int32) (t_torn : Int32) (t_cells : Nat → Int32) (t_lanes : Nat → Int32) (t_laws : Nat → Int32) (t_lengths : Nat → Int32) (p1 : Int32) (p2 : Int32) (p3 : Int32) (p4 : Int32) (v5_12 : Int32) (v6_13 : Int32) (t_state_14 : Nat → Int32) (t_work_15 : Nat → Int32) : Option ((Int32 × Int32 × (Nat → Int32) × (Nat → Int32)) ⊕ ((Int32 × Int32 × (Nat → Int32) × (Nat → Int32)) ⊕ (Int32 × Int32 × (Nat → Int32) × (Nat → Int32)))) :=
 (if p4 ≤ v6_13 then
 (some (.inr (.inr (v5_12, v6_13, t_state_14, t_work_15))))
 else (if v5_12 = (0 : Int32) then
 (gin p1 4 (jn1 (fun (s_20 : Int32) => (if s_20 = (0 : Int32) then
 (gin ((((40 : Int32) * p1) + p3) + v6_13) 160 (ob3 (f_X8_goes t_roomMany t_doorMany t_stringLong t_lawMany t_laws t_state_14 t_work_15 (t_cells ((((40 : Int32) * p1) + p3) + v6_13).toNatClampNeg)) (fun r_24 t_state_25 t_work_26 =>
 (if (0 : Int32) ≤ r_24 then
 (bnd (v6_13 + (1 : Int32)) (fun v6_29 =>
 (some (.inl (s_20, v6_29, t_state_25, t_work_26)))))
 else (ob1 (f_X8_copies t_state_25 (147 : Int32) (0 : Int32)) (fun t_state_30 =>
 (some (.inr (.inl (((-20 : Int32) - v6_13), t_torn, t_state_30, t_work_26))))))))))
 else (some (.inl (s_20, v6_13, t_state_14, t_work_15))))) (fun j_21 =>
 (if (t_lanes p1.toNatClampNeg) = (-4 : Int32) then
 (j_21 (1 : Int32))
 else (gin p1 4 (if (t_lanes p1.toNatClampNeg) = p2 then
 (gin p1 4 (ob1 (f_X8_in ((p3.toInt64) + (v6_13.toInt64)) (0 : Int64) (((t_lengths p1.toNatClampNeg) - (1 : Int32)).toInt64)) (fun r_36 =>
 (if r_36 = (0 : Int32) then
 (j_21 (2 : Int32))
 else (j_21 (0 : Int32))))))
 else (j_21 (3 : Int32))))))))
 else (some (.inr (.inr (v5_12, v6_13, t_state_14, t_work_15))))))
def f_X8_read (t_roomMany : Int32) (t_doorMany : Int32) (t_stringLong : Int32) (t_lawMany : Int32) (t_torn : Int32) (t_cells : Nat → Int32) (t_lanes : Nat → Int32) (t_laws : Nat → Int32) (t_lengths : Nat → Int32) (t_state : Nat → Int32) (t_work : Nat → Int32) (p1 : Int32) (p2 : Int32) (p3 : Int32) (p4 : Int32) : Option (Int32 × Int32 × (Nat → Int32) × (Nat → Int32)) :=
 (ob1 (f_X8_in (p1.toInt64) (0 : Int64) (3 : Int64)) (fun r_1 =>
 (if r_1 = (0 : Int32) then
 (some ((-1 : Int32), t_torn, t_state, t_work))
 else (ob1 (f_X8_in (p2.toInt64) (0 : Int64) (2 : Int64)) (fun r_4 =>
 (if r_4 = (0 : Int32) then
 (some ((-1 : Int32), t_torn, t_state, t_work))
 else (ob1 (f_X8_in (p4.toInt64) (0 : Int64) (20 : Int64)) (fun r_7 =>
 (if r_7 = (0 : Int32) then
 (some ((-1 : Int32), t_torn, t_state, t_work))
 else (ob1 (f_X8_copies t_state (0 : Int32) (147 : Int32)) (fun t_state_10 =>
 (obm4 (itr (un4 (b_X8_read_53 t_roomMany t_doorMany t_stringLong t_lawMany t_torn t_cells t_lanes t_laws t_lengths p1 p2 p3 p4)) FU ((0 : Int32), (0 : Int32), t_state_10, t_work)) (fun x5_39 x6_40 t_state_41 t_work_42 =>
 (some (x6_40, x5_39, t_state_41, t_work_42)))))))))))))))
abbrev rmX8_read : Room := { frames := 5, cells := 0, slots := 0, locals := 127 }
set_option maxHeartbeats 4000000 in
set_option maxRecDepth 100000 in
theorem c_X8_read (l : Launch) (g : Gh) (sz : Nat) (t_q t_state_q t_laws_q t_readPage_q t_readLaws_q t_tape_q t_cuts_q t_letters_q t_work_q t_pages_q t_canBe_q t_leadsOn_q t_seen_q t_heard_q t_isKept_q t_lanes_q t_lengths_q t_cells_q : Nat) (t_roomMany : Int32) (t_doorMany : Int32) (t_stringLong : Int32) (t_lawMany : Int32) (t_readRooms : Int32) (t_readDoors : Int32) (t_readString : Int32) (t_readLawMany : Int32) (t_toldOnce : Int32) (t_highRoom : Int32) (t_highDoor : Int32) (t_taped : Int32) (t_fault : Int32) (t_broken : Int32) (t_brokenAt : Int32) (t_spot : Int32) (t_here : Int32) (t_token : Int32) (t_value : Int32) (t_seenMany : Int32) (t_heardMany : Int32) (t_torn : Int32) (t_cells : Nat → Int32) (t_lanes : Nat → Int32) (t_laws : Nat → Int32) (t_lengths : Nat → Int32) (t_state : Nat → Int32) (t_work : Nat → Int32) (p1 : Int32) (p2 : Int32) (p3 : Int32) (p4 : Int32) (rr : Int32) (t_torn' : Int32) (t_state' : Nat → Int32) (t_work' : Nat → Int32) (hf : f_X8_read t_roomMany t_doorMany t_stringLong t_lawMany t_torn t_cells t_lanes t_laws t_lengths t_state t_work p1 p2 p3 p4 = some (rr, t_torn', t_state', t_work')) : CI l yX8_read wsX8_read rmX8_read [.ref t_q, .int p1, .int p2, .int p3, .int p4] g sz [oX8 t_q t_state_q t_roomMany t_doorMany t_stringLong t_laws_q t_lawMany t_readPage_q t_readLaws_q t_readRooms t_readDoors t_readString t_readLawMany t_toldOnce t_highRoom t_highDoor t_tape_q t_taped t_fault t_broken t_brokenAt t_spot t_here t_token t_value t_cuts_q t_letters_q t_work_q t_pages_q t_canBe_q t_leadsOn_q t_seen_q t_seenMany t_heard_q t_heardMany t_isKept_q t_lanes_q t_lengths_q t_cells_q t_torn, aI g t_cells_q 160 t_cells, aI g t_lanes_q 4 t_lanes, aI g t_laws_q 18 t_laws, aI g t_lengths_q 4 t_lengths, aI g t_state_q 196 t_state, aI g t_work_q 30 t_work] [oX8 t_q t_state_q t_roomMany t_doorMany t_stringLong t_laws_q t_lawMany t_readPage_q t_readLaws_q t_readRooms t_readDoors t_readString t_readLawMany t_toldOnce t_highRoom t_highDoor t_tape_q t_taped t_fault t_broken t_brokenAt t_spot t_here t_token t_value t_cuts_q t_letters_q t_work_q t_pages_q t_canBe_q t_leadsOn_q t_seen_q t_seenMany t_heard_q t_heardMany t_isKept_q t_lanes_q t_lengths_q t_cells_q t_torn', aI g t_cells_q 160 t_cells, aI g t_lanes_q 4 t_lanes, aI g t_laws_q 18 t_laws, aI g t_lengths_q 4 t_lengths, aI g t_state_q 196 t_state', aI g t_work_q 30 t_work'] rr := by
  refine ent_i (cc := cX8_read) (maxL := 7) (by decide) rfl (Nat.le_of_ble_eq_true rfl) ?_
  intro p e s m args below meth c A Q hx hb hml hown hts hK hz hk hA hD hP hS hret ls hl
  have hown : s.vm.findClass RX8 = some m.cls := hown
  have inX8 : ∀ w ∈ u_ws RX8 TX8 39, w ∈ wsX8_read := by decide +kernel
  have k60 := hts (.fieldLink RX8 60 "ThreadMovedModel" "lanes" "[I") (by decide +kernel)
  have k63 := hts (.fieldLink RX8 63 "ThreadMovedModel" "lengths" "[I") (by decide +kernel)
  have k66 := hts (.fieldLink RX8 66 "ThreadMovedModel" "cells" "[I") (by decide +kernel)
  have k292 := hts (.fieldLink RX8 292 "ThreadMovedModel" "torn" "I") (by decide +kernel)
  have q150 := hts (.constantLong RX8 150 (3)) (by decide +kernel)
  have q194 := hts (.constantLong RX8 194 (2)) (by decide +kernel)
  have q290 := hts (.constantLong RX8 290 (20)) (by decide +kernel)
  have hl : lv_has ls 7 [(0, .ref t_q), (1, .int p1), (2, .int p2), (3, .int p3), (4, .int p4)] := hl
  have hret : ∀ (rrz : Int32) (t_tornz : Int32) (t_statez : Nat → Int32) (t_workz : Nat → Int32), (rrz, t_tornz, t_statez, t_workz) = (rr, t_torn', t_state', t_work') → ∀ (H : Heap) (locs : List Loc) (pc : Nat) (ls : Array Slot), va_P g.1 vwCl [oX8 t_q t_state_q t_roomMany t_doorMany t_stringLong t_laws_q t_lawMany t_readPage_q t_readLaws_q t_readRooms t_readDoors t_readString t_readLawMany t_toldOnce t_highRoom t_highDoor t_tape_q t_taped t_fault t_broken t_brokenAt t_spot t_here t_token t_value t_cuts_q t_letters_q t_work_q t_pages_q t_canBe_q t_leadsOn_q t_seen_q t_seenMany t_heard_q t_heardMany t_isKept_q t_lanes_q t_lengths_q t_cells_q t_tornz, aI g t_cells_q 160 t_cells, aI g t_lanes_q 4 t_lanes, aI g t_laws_q 18 t_laws, aI g t_lengths_q 4 t_lengths, aI g t_state_q 196 t_statez, aI g t_work_q 30 t_workz] H → va_S A s.heap H locs → decode cX8_read pc = .ok (.ireturn, 1) → W p l e rmX8_read s m args below meth c H locs 0 0 Q (F0 m pc ls [.int rrz]) := by
    intro rrz t_tornz t_statez t_workz he H locs pc ls hP hS hd
    cases he
    exact hret H locs pc ls hP hS hd
  unfold f_X8_read at hf
  refine lv_iload_n hx hb dX8_read_0 rfl (lv_at hl 1 rfl) ?_
  refine lv_i2l hx hb dX8_read_1 rfl ?_
  refine lv_lconst (v := (0 : Int64)) hx hb dX8_read_2 (by decide) ?_
  refine lv_ldc2 hx hb hown q150 dX8_read_3 ?_
  obtain ⟨r_1, hc_2, hf⟩ := ob1_e hf
  refine kS_i (wn := [oX8 t_q t_state_q t_roomMany t_doorMany t_stringLong t_laws_q t_lawMany t_readPage_q t_readLaws_q t_readRooms t_readDoors t_readString t_readLawMany t_toldOnce t_highRoom t_highDoor t_tape_q t_taped t_fault t_broken t_brokenAt t_spot t_here t_token t_value t_cuts_q t_letters_q t_work_q t_pages_q t_canBe_q t_leadsOn_q t_seen_q t_seenMany t_heard_q t_heardMany t_isKept_q t_lanes_q t_lengths_q t_cells_q t_torn, aI g t_cells_q 160 t_cells, aI g t_lanes_q 4 t_lanes, aI g t_laws_q 18 t_laws, aI g t_lengths_q 4 t_lengths, aI g t_state_q 196 t_state, aI g t_work_q 30 t_work]) (As := [.long (p1.toInt64), .long (0 : Int64), .long (3 : Int64)]) (rest := []) (c_X8_in l g _ (p1.toInt64) (0 : Int64) (3 : Int64) r_1 hc_2) ⟨hx, hb, hml, hown, hts⟩ (va_cwS 3 hts gX8_read_X8_in rfl rfl rfl (by decide +kernel) ⟨by decide, by decide⟩) hK hz hk hP (hD.re rfl) hS hA [] rfl rfl rfl rfl rfl hl.1 rfl (Nat.le_of_ble_eq_true rfl) dX8_read_6 (fun H locs hP hS => ?_)
  refine lv_if_eq (tgt := 37) hx hb dX8_read_9 (by decide) (fun c_3 => ?_) (fun c_3 => ?_)
  · have hf := ite_t hf c_3
    refine lv_iconst (v := (-1 : Int32)) hx hb dX8_read_37 (by decide) ?_
    exact hret (-1 : Int32) t_torn t_state t_work (Option.some.inj hf) _ _ _ _ hP hS dX8_read_38
  · have hf := ite_f hf c_3
    refine lv_iload_n hx hb dX8_read_12 rfl (lv_at hl 2 rfl) ?_
    refine lv_i2l hx hb dX8_read_13 rfl ?_
    refine lv_lconst (v := (0 : Int64)) hx hb dX8_read_14 (by decide) ?_
    refine lv_ldc2 hx hb hown q194 dX8_read_15 ?_
    obtain ⟨r_4, hc_5, hf⟩ := ob1_e hf
    refine kS_i (wn := [oX8 t_q t_state_q t_roomMany t_doorMany t_stringLong t_laws_q t_lawMany t_readPage_q t_readLaws_q t_readRooms t_readDoors t_readString t_readLawMany t_toldOnce t_highRoom t_highDoor t_tape_q t_taped t_fault t_broken t_brokenAt t_spot t_here t_token t_value t_cuts_q t_letters_q t_work_q t_pages_q t_canBe_q t_leadsOn_q t_seen_q t_seenMany t_heard_q t_heardMany t_isKept_q t_lanes_q t_lengths_q t_cells_q t_torn, aI g t_cells_q 160 t_cells, aI g t_lanes_q 4 t_lanes, aI g t_laws_q 18 t_laws, aI g t_lengths_q 4 t_lengths, aI g t_state_q 196 t_state, aI g t_work_q 30 t_work]) (As := [.long (p2.toInt64), .long (0 : Int64), .long (2 : Int64)]) (rest := []) (c_X8_in l g _ (p2.toInt64) (0 : Int64) (2 : Int64) r_4 hc_5) ⟨hx, hb, hml, hown, hts⟩ (va_cwS 3 hts gX8_read_X8_in rfl rfl rfl (by decide +kernel) ⟨by decide, by decide⟩) hK hz hk hP (hD.re rfl) hS hA [] rfl rfl rfl rfl rfl hl.1 rfl (Nat.le_of_ble_eq_true rfl) dX8_read_18 (fun H locs hP hS => ?_)
    refine lv_if_eq (tgt := 37) hx hb dX8_read_21 (by decide) (fun c_6 => ?_) (fun c_6 => ?_)
    · have hf := ite_t hf c_6
      refine lv_iconst (v := (-1 : Int32)) hx hb dX8_read_37 (by decide) ?_
      exact hret (-1 : Int32) t_torn t_state t_work (Option.some.inj hf) _ _ _ _ hP hS dX8_read_38
    · have hf := ite_f hf c_6
      refine lv_iload hx hb dX8_read_24 (lv_at hl 4 rfl) ?_
      refine lv_i2l hx hb dX8_read_26 rfl ?_
      refine lv_lconst (v := (0 : Int64)) hx hb dX8_read_27 (by decide) ?_
      refine lv_ldc2 hx hb hown q290 dX8_read_28 ?_
      obtain ⟨r_7, hc_8, hf⟩ := ob1_e hf
      refine kS_i (wn := [oX8 t_q t_state_q t_roomMany t_doorMany t_stringLong t_laws_q t_lawMany t_readPage_q t_readLaws_q t_readRooms t_readDoors t_readString t_readLawMany t_toldOnce t_highRoom t_highDoor t_tape_q t_taped t_fault t_broken t_brokenAt t_spot t_here t_token t_value t_cuts_q t_letters_q t_work_q t_pages_q t_canBe_q t_leadsOn_q t_seen_q t_seenMany t_heard_q t_heardMany t_isKept_q t_lanes_q t_lengths_q t_cells_q t_torn, aI g t_cells_q 160 t_cells, aI g t_lanes_q 4 t_lanes, aI g t_laws_q 18 t_laws, aI g t_lengths_q 4 t_lengths, aI g t_state_q 196 t_state, aI g t_work_q 30 t_work]) (As := [.long (p4.toInt64), .long (0 : Int64), .long (20 : Int64)]) (rest := []) (c_X8_in l g _ (p4.toInt64) (0 : Int64) (20 : Int64) r_7 hc_8) ⟨hx, hb, hml, hown, hts⟩ (va_cwS 3 hts gX8_read_X8_in rfl rfl rfl (by decide +kernel) ⟨by decide, by decide⟩) hK hz hk hP (hD.re rfl) hS hA [] rfl rfl rfl rfl rfl hl.1 rfl (Nat.le_of_ble_eq_true rfl) dX8_read_31 (fun H locs hP hS => ?_)
      refine lv_if_ne (tgt := 39) hx hb dX8_read_34 (by decide) (fun c_9 => ?_) (fun c_9 => ?_)
      · have hf := ite_f hf c_9
        refine lv_aload_n hx hb dX8_read_39 rfl (lv_at hl 0 rfl) ?_
        refine lv_iconst (v := (0 : Int32)) hx hb dX8_read_40 (by decide) ?_
        refine lv_sipush (v := (147 : Int32)) hx hb dX8_read_41 (by decide) ?_
        obtain ⟨t_state_10, hc_11, hf⟩ := ob1_e hf
        refine kV_v (wn := [oX8 t_q t_state_q t_roomMany t_doorMany t_stringLong t_laws_q t_lawMany t_readPage_q t_readLaws_q t_readRooms t_readDoors t_readString t_readLawMany t_toldOnce t_highRoom t_highDoor t_tape_q t_taped t_fault t_broken t_brokenAt t_spot t_here t_token t_value t_cuts_q t_letters_q t_work_q t_pages_q t_canBe_q t_leadsOn_q t_seen_q t_seenMany t_heard_q t_heardMany t_isKept_q t_lanes_q t_lengths_q t_cells_q t_torn, aI g t_cells_q 160 t_cells, aI g t_lanes_q 4 t_lanes, aI g t_laws_q 18 t_laws, aI g t_lengths_q 4 t_lengths, aI g t_state_q 196 t_state_10, aI g t_work_q 30 t_work]) (As := [.int (0 : Int32), .int (147 : Int32)]) (rest := []) (c_X8_copies l g _ t_q t_state_q t_laws_q t_readPage_q t_readLaws_q t_tape_q t_cuts_q t_letters_q t_work_q t_pages_q t_canBe_q t_leadsOn_q t_seen_q t_heard_q t_isKept_q t_lanes_q t_lengths_q t_cells_q t_roomMany t_doorMany t_stringLong t_lawMany t_readRooms t_readDoors t_readString t_readLawMany t_toldOnce t_highRoom t_highDoor t_taped t_fault t_broken t_brokenAt t_spot t_here t_token t_value t_seenMany t_heardMany t_torn t_state (0 : Int32) (147 : Int32) t_state_10 hc_11) ⟨hx, hb, hml, hown, hts⟩ (cwV 2 hts gX8_read_X8_copies rfl rfl rfl (by decide +kernel) ⟨by decide, by decide⟩) hK hz hk hP (hD.re rfl) hS hA [0, 5] rfl rfl rfl rfl rfl rfl rfl hl.1 rfl (Nat.le_of_ble_eq_true rfl) dX8_read_44 (fun H locs hP hS => ?_)
        refine lv_iconst (v := (0 : Int32)) hx hb dX8_read_47 (by decide) ?_
        refine lv_istore (lv' := [(5, .int (0 : Int32)), (0, .ref t_q), (1, .int p1), (2, .int p2), (3, .int p3), (4, .int p4)]) hx hb dX8_read_48 hl (by decide) rfl (fun ls hl => ?_)
        refine lv_iconst (v := (0 : Int32)) hx hb dX8_read_50 (by decide) ?_
        refine lv_istore (lv' := [(6, .int (0 : Int32)), (5, .int (0 : Int32)), (0, .ref t_q), (1, .int p1), (2, .int p2), (3, .int p3), (4, .int p4)]) hx hb dX8_read_51 hl (by decide) rfl (fun ls hl => ?_)
        obtain ⟨z0_16, ho_16, hkr_16, hke_16⟩ := obm4_e hf
        have K_16 : ∀ (x5_39 : Int32) (x6_40 : Int32) (t_state_41 : Nat → Int32) (t_work_42 : Nat → Int32), z0_16 = .inr (x5_39, x6_40, t_state_41, t_work_42) → ∀ (H : Heap) (locs : List Loc) (ls : Array Slot), va_P g.1 vwCl [oX8 t_q t_state_q t_roomMany t_doorMany t_stringLong t_laws_q t_lawMany t_readPage_q t_readLaws_q t_readRooms t_readDoors t_readString t_readLawMany t_toldOnce t_highRoom t_highDoor t_tape_q t_taped t_fault t_broken t_brokenAt t_spot t_here t_token t_value t_cuts_q t_letters_q t_work_q t_pages_q t_canBe_q t_leadsOn_q t_seen_q t_seenMany t_heard_q t_heardMany t_isKept_q t_lanes_q t_lengths_q t_cells_q t_torn, aI g t_cells_q 160 t_cells, aI g t_lanes_q 4 t_lanes, aI g t_laws_q 18 t_laws, aI g t_lengths_q 4 t_lengths, aI g t_state_q 196 t_state_41, aI g t_work_q 30 t_work_42] H → va_S A s.heap H locs → lv_has ls 7 [(0, .ref t_q), (5, .int x5_39), (6, .int x6_40)] → W p l e rmX8_read s m args below meth c H locs 0 0 Q (F0 m 169 ls []) := by
          intro x5_39 x6_40 t_state_41 t_work_42 hz9 H locs ls hP hS hl
          have hf := hke_16 x5_39 x6_40 t_state_41 t_work_42 hz9
          refine lv_aload_n hx hb dX8_read_169 rfl (lv_at hl 0 rfl) ?_
          refine lv_iload hx hb dX8_read_170 (lv_at hl 1 rfl) ?_
          refine va_put (D := g.1) (ci := 8) (v := .int x5_39) (ty := .int) (C := RX8) (T := TX8) (N := 39) hx hb hts inX8 tyX8 tyX8_ok nmX8 hown hK hP (hD.re rfl) hS 0 rfl rfl 38 (by decide) k292 (fun _ h9 => h9) rfl (by decide +kernel) rfl rfl (Nat.le_of_ble_eq_true rfl) dX8_read_172 (fun H locs hP _ hS => ?_)
          have hP : va_P g.1 vwCl [oX8 t_q t_state_q t_roomMany t_doorMany t_stringLong t_laws_q t_lawMany t_readPage_q t_readLaws_q t_readRooms t_readDoors t_readString t_readLawMany t_toldOnce t_highRoom t_highDoor t_tape_q t_taped t_fault t_broken t_brokenAt t_spot t_here t_token t_value t_cuts_q t_letters_q t_work_q t_pages_q t_canBe_q t_leadsOn_q t_seen_q t_seenMany t_heard_q t_heardMany t_isKept_q t_lanes_q t_lengths_q t_cells_q x5_39, aI g t_cells_q 160 t_cells, aI g t_lanes_q 4 t_lanes, aI g t_laws_q 18 t_laws, aI g t_lengths_q 4 t_lengths, aI g t_state_q 196 t_state_41, aI g t_work_q 30 t_work_42] H := hP
          refine lv_iload hx hb dX8_read_175 (lv_at hl 2 rfl) ?_
          exact hret x6_40 x5_39 t_state_41 t_work_42 (Option.some.inj hf) _ _ _ _ hP hS dX8_read_177
        have L_16 : ∀ (n : Nat) (v5_12 : Int32) (v6_13 : Int32) (t_state_14 : Nat → Int32) (t_work_15 : Nat → Int32), itr (un4 (b_X8_read_53 t_roomMany t_doorMany t_stringLong t_lawMany t_torn t_cells t_lanes t_laws t_lengths p1 p2 p3 p4)) n (v5_12, v6_13, t_state_14, t_work_15) = some z0_16 → ∀ (H : Heap) (locs : List Loc) (ls : Array Slot), va_P g.1 vwCl [oX8 t_q t_state_q t_roomMany t_doorMany t_stringLong t_laws_q t_lawMany t_readPage_q t_readLaws_q t_readRooms t_readDoors t_readString t_readLawMany t_toldOnce t_highRoom t_highDoor t_tape_q t_taped t_fault t_broken t_brokenAt t_spot t_here t_token t_value t_cuts_q t_letters_q t_work_q t_pages_q t_canBe_q t_leadsOn_q t_seen_q t_seenMany t_heard_q t_heardMany t_isKept_q t_lanes_q t_lengths_q t_cells_q t_torn, aI g t_cells_q 160 t_cells, aI g t_lanes_q 4 t_lanes, aI g t_laws_q 18 t_laws, aI g t_lengths_q 4 t_lengths, aI g t_state_q 196 t_state_14, aI g t_work_q 30 t_work_15] H → va_S A s.heap H locs → lv_has ls 7 [(0, .ref t_q), (1, .int p1), (2, .int p2), (3, .int p3), (4, .int p4), (5, .int v5_12), (6, .int v6_13)] → W p l e rmX8_read s m args below meth c H locs 0 0 Q (F0 m 53 ls []) := by
          refine itr_ind4 ?_
          intro v5_12 v6_13 t_state_14 t_work_15 z_16 hf hrec hex H locs ls hP hS hl
          unfold b_X8_read_53 at hf
          refine lv_iload hx hb dX8_read_53 (lv_at hl 6 rfl) ?_
          refine lv_iload hx hb dX8_read_55 (lv_at hl 4 rfl) ?_
          refine lv_icmp_ge (tgt := 169) hx hb dX8_read_57 (by decide) (fun c_17 => ?_) (fun c_17 => ?_)
          · have hf := ite_t hf c_17
            exact K_16 v5_12 v6_13 t_state_14 t_work_15 (hex _ (Option.some.inj hf).symm).symm _ _ _ hP hS (lv_sub hl [0, 5, 6] rfl)
          · have hf := ite_f hf c_17
            refine lv_iload hx hb dX8_read_60 (lv_at hl 5 rfl) ?_
            refine lv_if_ne (tgt := 169) hx hb dX8_read_62 (by decide) (fun c_18 => ?_) (fun c_18 => ?_)
            · have hf := ite_f hf c_18
              exact K_16 v5_12 v6_13 t_state_14 t_work_15 (hex _ (Option.some.inj hf).symm).symm _ _ _ hP hS (lv_sub hl [0, 5, 6] rfl)
            · have hf := ite_t hf c_18
              refine lv_aload_n hx hb dX8_read_65 rfl (lv_at hl 0 rfl) ?_
              refine va_get (D := g.1) (ci := 8) (v := .ref t_lanes_q) (C := RX8) (T := TX8) (N := 39) hx hb hts inX8 hown hK hP 0 rfl rfl 35 (by decide) k60 (fun _ h9 => h9) rfl dX8_read_66 ?_
              refine lv_iload_n hx hb dX8_read_69 rfl (lv_at hl 1 rfl) ?_
              obtain ⟨h_19, hf⟩ := gin_e hf
              refine va_iald hx hb hK hP 2 0 rfl rfl h_19 dX8_read_70 ?_
              refine lv_bipush (v := (-4 : Int32)) hx hb dX8_read_71 (by decide) ?_
              obtain ⟨j_21, hj_21, hf⟩ := jn1_e hf
              have J_21 : ∀ (s_20 : Int32), j_21 s_20 = some z_16 → ∀ (H : Heap) (locs : List Loc) (ls : Array Slot), va_P g.1 vwCl [oX8 t_q t_state_q t_roomMany t_doorMany t_stringLong t_laws_q t_lawMany t_readPage_q t_readLaws_q t_readRooms t_readDoors t_readString t_readLawMany t_toldOnce t_highRoom t_highDoor t_tape_q t_taped t_fault t_broken t_brokenAt t_spot t_here t_token t_value t_cuts_q t_letters_q t_work_q t_pages_q t_canBe_q t_leadsOn_q t_seen_q t_seenMany t_heard_q t_heardMany t_isKept_q t_lanes_q t_lengths_q t_cells_q t_torn, aI g t_cells_q 160 t_cells, aI g t_lanes_q 4 t_lanes, aI g t_laws_q 18 t_laws, aI g t_lengths_q 4 t_lengths, aI g t_state_q 196 t_state_14, aI g t_work_q 30 t_work_15] H → va_S A s.heap H locs → lv_has ls 7 [(0, .ref t_q), (1, .int p1), (2, .int p2), (3, .int p3), (4, .int p4), (6, .int v6_13)] → W p l e rmX8_read s m args below meth c H locs 0 0 Q (F0 m 121 ls [.int s_20]) := by
                intro s_20 hf H locs ls hP hS hl
                rw [hj_21] at hf
                refine lv_istore (lv' := [(5, .int s_20), (0, .ref t_q), (1, .int p1), (2, .int p2), (3, .int p3), (4, .int p4), (6, .int v6_13)]) hx hb dX8_read_121 hl (by decide) rfl (fun ls hl => ?_)
                refine lv_iload hx hb dX8_read_123 (lv_at hl 0 rfl) ?_
                refine lv_if_ne (tgt := 53) hx hb dX8_read_125 (by decide) (fun c_22 => ?_) (fun c_22 => ?_)
                · have hf := ite_f hf c_22
                  exact hrec s_20 v6_13 t_state_14 t_work_15 (Option.some.inj hf).symm _ _ _ hP hS (lv_sub hl [1, 2, 3, 4, 5, 0, 6] rfl)
                · have hf := ite_t hf c_22
                  refine lv_aload_n hx hb dX8_read_128 rfl (lv_at hl 1 rfl) ?_
                  refine lv_aload_n hx hb dX8_read_129 rfl (lv_at hl 1 rfl) ?_
                  refine va_get (D := g.1) (ci := 8) (v := .ref t_cells_q) (C := RX8) (T := TX8) (N := 39) hx hb hts inX8 hown hK hP 0 rfl rfl 37 (by decide) k66 (fun _ h9 => h9) rfl dX8_read_130 ?_
                  refine lv_bipush (v := (40 : Int32)) hx hb dX8_read_133 (by decide) ?_
                  refine lv_iload_n hx hb dX8_read_135 rfl (lv_at hl 2 rfl) ?_
                  refine lv_imul hx hb dX8_read_136 ?_
                  refine lv_iload_n hx hb dX8_read_137 rfl (lv_at hl 4 rfl) ?_
                  refine lv_iadd hx hb dX8_read_138 ?_
                  refine lv_iload hx hb dX8_read_139 (lv_at hl 6 rfl) ?_
                  refine lv_iadd hx hb dX8_read_141 ?_
                  obtain ⟨h_23, hf⟩ := gin_e hf
                  refine va_iald hx hb hK hP 1 0 rfl rfl h_23 dX8_read_142 ?_
                  obtain ⟨r_24, t_state_25, t_work_26, hc_27, hf⟩ := ob3_e hf
                  refine kV_i (wn := [oX8 t_q t_state_q t_roomMany t_doorMany t_stringLong t_laws_q t_lawMany t_readPage_q t_readLaws_q t_readRooms t_readDoors t_readString t_readLawMany t_toldOnce t_highRoom t_highDoor t_tape_q t_taped t_fault t_broken t_brokenAt t_spot t_here t_token t_value t_cuts_q t_letters_q t_work_q t_pages_q t_canBe_q t_leadsOn_q t_seen_q t_seenMany t_heard_q t_heardMany t_isKept_q t_lanes_q t_lengths_q t_cells_q t_torn, aI g t_cells_q 160 t_cells, aI g t_lanes_q 4 t_lanes, aI g t_laws_q 18 t_laws, aI g t_lengths_q 4 t_lengths, aI g t_state_q 196 t_state_25, aI g t_work_q 30 t_work_26]) (As := [.int (t_cells ((((40 : Int32) * p1) + p3) + v6_13).toNatClampNeg)]) (rest := []) (c_X8_goes l g _ t_q t_state_q t_laws_q t_readPage_q t_readLaws_q t_tape_q t_cuts_q t_letters_q t_work_q t_pages_q t_canBe_q t_leadsOn_q t_seen_q t_heard_q t_isKept_q t_lanes_q t_lengths_q t_cells_q t_roomMany t_doorMany t_stringLong t_lawMany t_readRooms t_readDoors t_readString t_readLawMany t_toldOnce t_highRoom t_highDoor t_taped t_fault t_broken t_brokenAt t_spot t_here t_token t_value t_seenMany t_heardMany t_torn t_laws t_state_14 t_work_15 (t_cells ((((40 : Int32) * p1) + p3) + v6_13).toNatClampNeg) r_24 t_state_25 t_work_26 hc_27) ⟨hx, hb, hml, hown, hts⟩ (cwV 1 hts gX8_read_X8_goes rfl rfl rfl (by decide +kernel) ⟨by decide, by decide⟩) hK hz hk hP (hD.re rfl) hS hA [0, 3, 5, 6] rfl rfl rfl rfl rfl rfl rfl hl.1 rfl (Nat.le_of_ble_eq_true rfl) dX8_read_143 (fun H locs hP hS => ?_)
                  refine lv_if_ge (tgt := 163) hx hb dX8_read_146 (by decide) (fun c_28 => ?_) (fun c_28 => ?_)
                  · have hf := ite_t hf c_28
                    obtain ⟨v6_29, ev6_29, hf⟩ := bnd_e hf
                    refine lv_iinc (v := v6_29) (lv' := [(6, .int v6_29), (5, .int s_20), (0, .ref t_q), (1, .int p1), (2, .int p2), (3, .int p3), (4, .int p4)]) hx hb dX8_read_163 hl (k := 6) rfl (by rw [ev6_29]; rfl) (by decide) rfl (fun ls hl => ?_)
                    refine lv_goto (tgt := 53) hx hb dX8_read_166 (by decide) ?_
                    exact hrec s_20 v6_29 t_state_25 t_work_26 (Option.some.inj hf).symm _ _ _ hP hS (lv_sub hl [2, 3, 4, 5, 6, 1, 0] rfl)
                  · have hf := ite_f hf c_28
                    refine lv_aload_n hx hb dX8_read_149 rfl (lv_at hl 1 rfl) ?_
                    refine lv_sipush (v := (147 : Int32)) hx hb dX8_read_150 (by decide) ?_
                    refine lv_iconst (v := (0 : Int32)) hx hb dX8_read_153 (by decide) ?_
                    obtain ⟨t_state_30, hc_31, hf⟩ := ob1_e hf
                    refine kV_v (wn := [oX8 t_q t_state_q t_roomMany t_doorMany t_stringLong t_laws_q t_lawMany t_readPage_q t_readLaws_q t_readRooms t_readDoors t_readString t_readLawMany t_toldOnce t_highRoom t_highDoor t_tape_q t_taped t_fault t_broken t_brokenAt t_spot t_here t_token t_value t_cuts_q t_letters_q t_work_q t_pages_q t_canBe_q t_leadsOn_q t_seen_q t_seenMany t_heard_q t_heardMany t_isKept_q t_lanes_q t_lengths_q t_cells_q t_torn, aI g t_cells_q 160 t_cells, aI g t_lanes_q 4 t_lanes, aI g t_laws_q 18 t_laws, aI g t_lengths_q 4 t_lengths, aI g t_state_q 196 t_state_30, aI g t_work_q 30 t_work_26]) (As := [.int (147 : Int32), .int (0 : Int32)]) (rest := []) (c_X8_copies l g _ t_q t_state_q t_laws_q t_readPage_q t_readLaws_q t_tape_q t_cuts_q t_letters_q t_work_q t_pages_q t_canBe_q t_leadsOn_q t_seen_q t_heard_q t_isKept_q t_lanes_q t_lengths_q t_cells_q t_roomMany t_doorMany t_stringLong t_lawMany t_readRooms t_readDoors t_readString t_readLawMany t_toldOnce t_highRoom t_highDoor t_taped t_fault t_broken t_brokenAt t_spot t_here t_token t_value t_seenMany t_heardMany t_torn t_state_25 (147 : Int32) (0 : Int32) t_state_30 hc_31) ⟨hx, hb, hml, hown, hts⟩ (cwV 2 hts gX8_read_X8_copies rfl rfl rfl (by decide +kernel) ⟨by decide, by decide⟩) hK hz hk hP (hD.re rfl) hS hA [0, 5] rfl rfl rfl rfl rfl rfl rfl hl.1 rfl (Nat.le_of_ble_eq_true rfl) dX8_read_154 (fun H locs hP hS => ?_)
                    refine lv_bipush (v := (-20 : Int32)) hx hb dX8_read_157 (by decide) ?_
                    refine lv_iload hx hb dX8_read_159 (lv_at hl 6 rfl) ?_
                    refine lv_isub hx hb dX8_read_161 ?_
                    exact hret ((-20 : Int32) - v6_13) t_torn t_state_30 t_work_26 (hkr_16 _ (hex _ (Option.some.inj hf).symm).symm) _ _ _ _ hP hS dX8_read_162
              refine lv_icmp_ne (tgt := 80) hx hb dX8_read_73 (by decide) (fun c_32 => ?_) (fun c_32 => ?_)
              · have hf := ite_f hf c_32
                refine lv_aload_n hx hb dX8_read_80 rfl (lv_at hl 0 rfl) ?_
                refine va_get (D := g.1) (ci := 8) (v := .ref t_lanes_q) (C := RX8) (T := TX8) (N := 39) hx hb hts inX8 hown hK hP 0 rfl rfl 35 (by decide) k60 (fun _ h9 => h9) rfl dX8_read_81 ?_
                refine lv_iload_n hx hb dX8_read_84 rfl (lv_at hl 1 rfl) ?_
                obtain ⟨h_33, hf⟩ := gin_e hf
                refine va_iald hx hb hK hP 2 0 rfl rfl h_33 dX8_read_85 ?_
                refine lv_iload_n hx hb dX8_read_86 rfl (lv_at hl 2 rfl) ?_
                refine lv_icmp_eq (tgt := 94) hx hb dX8_read_87 (by decide) (fun c_34 => ?_) (fun c_34 => ?_)
                · have hf := ite_t hf c_34
                  refine lv_iload_n hx hb dX8_read_94 rfl (lv_at hl 3 rfl) ?_
                  refine lv_i2l hx hb dX8_read_95 rfl ?_
                  refine lv_iload hx hb dX8_read_96 (lv_at hl 6 rfl) ?_
                  refine lv_i2l hx hb dX8_read_98 rfl ?_
                  refine lv_ladd hx hb dX8_read_99 ?_
                  refine lv_lconst (v := (0 : Int64)) hx hb dX8_read_100 (by decide) ?_
                  refine lv_aload_n hx hb dX8_read_101 rfl (lv_at hl 0 rfl) ?_
                  refine va_get (D := g.1) (ci := 8) (v := .ref t_lengths_q) (C := RX8) (T := TX8) (N := 39) hx hb hts inX8 hown hK hP 0 rfl rfl 36 (by decide) k63 (fun _ h9 => h9) rfl dX8_read_102 ?_
                  refine lv_iload_n hx hb dX8_read_105 rfl (lv_at hl 1 rfl) ?_
                  obtain ⟨h_35, hf⟩ := gin_e hf
                  refine va_iald hx hb hK hP 4 0 rfl rfl h_35 dX8_read_106 ?_
                  refine lv_iconst (v := (1 : Int32)) hx hb dX8_read_107 (by decide) ?_
                  refine lv_isub hx hb dX8_read_108 ?_
                  refine lv_i2l hx hb dX8_read_109 rfl ?_
                  obtain ⟨r_36, hc_37, hf⟩ := ob1_e hf
                  refine kS_i (wn := [oX8 t_q t_state_q t_roomMany t_doorMany t_stringLong t_laws_q t_lawMany t_readPage_q t_readLaws_q t_readRooms t_readDoors t_readString t_readLawMany t_toldOnce t_highRoom t_highDoor t_tape_q t_taped t_fault t_broken t_brokenAt t_spot t_here t_token t_value t_cuts_q t_letters_q t_work_q t_pages_q t_canBe_q t_leadsOn_q t_seen_q t_seenMany t_heard_q t_heardMany t_isKept_q t_lanes_q t_lengths_q t_cells_q t_torn, aI g t_cells_q 160 t_cells, aI g t_lanes_q 4 t_lanes, aI g t_laws_q 18 t_laws, aI g t_lengths_q 4 t_lengths, aI g t_state_q 196 t_state_14, aI g t_work_q 30 t_work_15]) (As := [.long ((p3.toInt64) + (v6_13.toInt64)), .long (0 : Int64), .long (((t_lengths p1.toNatClampNeg) - (1 : Int32)).toInt64)]) (rest := []) (c_X8_in l g _ ((p3.toInt64) + (v6_13.toInt64)) (0 : Int64) (((t_lengths p1.toNatClampNeg) - (1 : Int32)).toInt64) r_36 hc_37) ⟨hx, hb, hml, hown, hts⟩ (va_cwS 3 hts gX8_read_X8_in rfl rfl rfl (by decide +kernel) ⟨by decide, by decide⟩) hK hz hk hP (hD.re rfl) hS hA [] rfl rfl rfl rfl rfl hl.1 rfl (Nat.le_of_ble_eq_true rfl) dX8_read_110 (fun H locs hP hS => ?_)
                  refine lv_if_ne (tgt := 120) hx hb dX8_read_113 (by decide) (fun c_38 => ?_) (fun c_38 => ?_)
                  · have hf := ite_f hf c_38
                    refine lv_iconst (v := (0 : Int32)) hx hb dX8_read_120 (by decide) ?_
                    exact J_21 (0 : Int32) hf _ _ _ hP hS (lv_sub hl [0, 1, 2, 3, 4, 6] rfl)
                  · have hf := ite_t hf c_38
                    refine lv_iconst (v := (2 : Int32)) hx hb dX8_read_116 (by decide) ?_
                    refine lv_goto (tgt := 121) hx hb dX8_read_117 (by decide) ?_
                    exact J_21 (2 : Int32) hf _ _ _ hP hS (lv_sub hl [0, 1, 2, 3, 4, 6] rfl)
                · have hf := ite_f hf c_34
                  refine lv_iconst (v := (3 : Int32)) hx hb dX8_read_90 (by decide) ?_
                  refine lv_goto (tgt := 121) hx hb dX8_read_91 (by decide) ?_
                  exact J_21 (3 : Int32) hf _ _ _ hP hS (lv_sub hl [0, 1, 2, 3, 4, 6] rfl)
              · have hf := ite_t hf c_32
                refine lv_iconst (v := (1 : Int32)) hx hb dX8_read_76 (by decide) ?_
                refine lv_goto (tgt := 121) hx hb dX8_read_77 (by decide) ?_
                exact J_21 (1 : Int32) hf _ _ _ hP hS (lv_sub hl [0, 1, 2, 3, 4, 6] rfl)
        exact L_16 FU (0 : Int32) (0 : Int32) t_state_10 t_work ho_16 _ _ _ hP hS (lv_sub hl [2, 3, 4, 5, 6, 1, 0] rfl)
      · have hf := ite_t hf c_9
        refine lv_iconst (v := (-1 : Int32)) hx hb dX8_read_37 (by decide) ?_
        exact hret (-1 : Int32) t_torn t_state t_work (Option.some.inj hf) _ _ _ _ hP hS dX8_read_38

def f_X8_room (t_highRoom : Int32) (t_taped : Int32) (t_broken : Int32) (t_brokenAt : Int32) (t_spot : Int32) (t_here : Int32) (t_token : Int32) (t_value : Int32) (t_tape : Nat → Int32) : Option (Int32 × Int32 × Int32 × Int32 × Int32 × Int32 × Int32 × Int32) :=
 (ob7 (f_X8_other t_taped t_broken t_brokenAt t_spot t_here t_token t_value t_tape (0 : Int32) (6 : Int32) (0 : Int32)) (fun r_1 t_broken_2 t_brokenAt_3 t_here_4 t_spot_5 t_token_6 t_value_7 =>
 (jn1 (fun (s_9 : Int32) => (some (r_1, t_broken_2, t_brokenAt_3, t_here_4, s_9, t_spot_5, t_token_6, t_value_7))) (fun j_10 =>
 (if r_1 ≤ t_highRoom then
 (j_10 t_highRoom)
 else (j_10 r_1))))))
abbrev rmX8_room : Room := { frames := 3, cells := 0, slots := 0, locals := 70 }
set_option maxHeartbeats 4000000 in
set_option maxRecDepth 100000 in
theorem c_X8_room (l : Launch) (g : Gh) (sz : Nat) (t_q t_state_q t_laws_q t_readPage_q t_readLaws_q t_tape_q t_cuts_q t_letters_q t_work_q t_pages_q t_canBe_q t_leadsOn_q t_seen_q t_heard_q t_isKept_q t_lanes_q t_lengths_q t_cells_q : Nat) (t_roomMany : Int32) (t_doorMany : Int32) (t_stringLong : Int32) (t_lawMany : Int32) (t_readRooms : Int32) (t_readDoors : Int32) (t_readString : Int32) (t_readLawMany : Int32) (t_toldOnce : Int32) (t_highRoom : Int32) (t_highDoor : Int32) (t_taped : Int32) (t_fault : Int32) (t_broken : Int32) (t_brokenAt : Int32) (t_spot : Int32) (t_here : Int32) (t_token : Int32) (t_value : Int32) (t_seenMany : Int32) (t_heardMany : Int32) (t_torn : Int32) (t_tape : Nat → Int32) (rr : Int32) (t_broken' : Int32) (t_brokenAt' : Int32) (t_here' : Int32) (t_highRoom' : Int32) (t_spot' : Int32) (t_token' : Int32) (t_value' : Int32) (hf : f_X8_room t_highRoom t_taped t_broken t_brokenAt t_spot t_here t_token t_value t_tape = some (rr, t_broken', t_brokenAt', t_here', t_highRoom', t_spot', t_token', t_value')) : CI l yX8_room wsX8_room rmX8_room [.ref t_q] g sz [oX8 t_q t_state_q t_roomMany t_doorMany t_stringLong t_laws_q t_lawMany t_readPage_q t_readLaws_q t_readRooms t_readDoors t_readString t_readLawMany t_toldOnce t_highRoom t_highDoor t_tape_q t_taped t_fault t_broken t_brokenAt t_spot t_here t_token t_value t_cuts_q t_letters_q t_work_q t_pages_q t_canBe_q t_leadsOn_q t_seen_q t_seenMany t_heard_q t_heardMany t_isKept_q t_lanes_q t_lengths_q t_cells_q t_torn, aI g t_tape_q 320 t_tape] [oX8 t_q t_state_q t_roomMany t_doorMany t_stringLong t_laws_q t_lawMany t_readPage_q t_readLaws_q t_readRooms t_readDoors t_readString t_readLawMany t_toldOnce t_highRoom' t_highDoor t_tape_q t_taped t_fault t_broken' t_brokenAt' t_spot' t_here' t_token' t_value' t_cuts_q t_letters_q t_work_q t_pages_q t_canBe_q t_leadsOn_q t_seen_q t_seenMany t_heard_q t_heardMany t_isKept_q t_lanes_q t_lengths_q t_cells_q t_torn, aI g t_tape_q 320 t_tape] rr := by
  refine ent_i (cc := cX8_room) (maxL := 2) (by decide) rfl (Nat.le_of_ble_eq_true rfl) ?_
  intro p e s m args below meth c A Q hx hb hml hown hts hK hz hk hA hD hP hS hret ls hl
  have hown : s.vm.findClass RX8 = some m.cls := hown
  have inX8 : ∀ w ∈ u_ws RX8 TX8 39, w ∈ wsX8_room := by decide +kernel
  have k117 := hts (.fieldLink RX8 117 "ThreadMovedModel" "highRoom" "I") (by decide +kernel)
  have hl : lv_has ls 2 [(0, .ref t_q)] := hl
  have hret : ∀ (rrz : Int32) (t_brokenz : Int32) (t_brokenAtz : Int32) (t_herez : Int32) (t_highRoomz : Int32) (t_spotz : Int32) (t_tokenz : Int32) (t_valuez : Int32), (rrz, t_brokenz, t_brokenAtz, t_herez, t_highRoomz, t_spotz, t_tokenz, t_valuez) = (rr, t_broken', t_brokenAt', t_here', t_highRoom', t_spot', t_token', t_value') → ∀ (H : Heap) (locs : List Loc) (pc : Nat) (ls : Array Slot), va_P g.1 vwCl [oX8 t_q t_state_q t_roomMany t_doorMany t_stringLong t_laws_q t_lawMany t_readPage_q t_readLaws_q t_readRooms t_readDoors t_readString t_readLawMany t_toldOnce t_highRoomz t_highDoor t_tape_q t_taped t_fault t_brokenz t_brokenAtz t_spotz t_herez t_tokenz t_valuez t_cuts_q t_letters_q t_work_q t_pages_q t_canBe_q t_leadsOn_q t_seen_q t_seenMany t_heard_q t_heardMany t_isKept_q t_lanes_q t_lengths_q t_cells_q t_torn, aI g t_tape_q 320 t_tape] H → va_S A s.heap H locs → decode cX8_room pc = .ok (.ireturn, 1) → W p l e rmX8_room s m args below meth c H locs 0 0 Q (F0 m pc ls [.int rrz]) := by
    intro rrz t_brokenz t_brokenAtz t_herez t_highRoomz t_spotz t_tokenz t_valuez he H locs pc ls hP hS hd
    cases he
    exact hret H locs pc ls hP hS hd
  unfold f_X8_room at hf
  refine lv_aload_n hx hb dX8_room_0 rfl (lv_at hl 0 rfl) ?_
  refine lv_iconst (v := (0 : Int32)) hx hb dX8_room_1 (by decide) ?_
  refine lv_bipush (v := (6 : Int32)) hx hb dX8_room_2 (by decide) ?_
  refine lv_iconst (v := (0 : Int32)) hx hb dX8_room_4 (by decide) ?_
  obtain ⟨r_1, t_broken_2, t_brokenAt_3, t_here_4, t_spot_5, t_token_6, t_value_7, hc_8, hf⟩ := ob7_e hf
  refine kV_i (wn := [oX8 t_q t_state_q t_roomMany t_doorMany t_stringLong t_laws_q t_lawMany t_readPage_q t_readLaws_q t_readRooms t_readDoors t_readString t_readLawMany t_toldOnce t_highRoom t_highDoor t_tape_q t_taped t_fault t_broken_2 t_brokenAt_3 t_spot_5 t_here_4 t_token_6 t_value_7 t_cuts_q t_letters_q t_work_q t_pages_q t_canBe_q t_leadsOn_q t_seen_q t_seenMany t_heard_q t_heardMany t_isKept_q t_lanes_q t_lengths_q t_cells_q t_torn, aI g t_tape_q 320 t_tape]) (As := [.int (0 : Int32), .int (6 : Int32), .int (0 : Int32)]) (rest := []) (c_X8_other l g _ t_q t_state_q t_laws_q t_readPage_q t_readLaws_q t_tape_q t_cuts_q t_letters_q t_work_q t_pages_q t_canBe_q t_leadsOn_q t_seen_q t_heard_q t_isKept_q t_lanes_q t_lengths_q t_cells_q t_roomMany t_doorMany t_stringLong t_lawMany t_readRooms t_readDoors t_readString t_readLawMany t_toldOnce t_highRoom t_highDoor t_taped t_fault t_broken t_brokenAt t_spot t_here t_token t_value t_seenMany t_heardMany t_torn t_tape (0 : Int32) (6 : Int32) (0 : Int32) r_1 t_broken_2 t_brokenAt_3 t_here_4 t_spot_5 t_token_6 t_value_7 hc_8) ⟨hx, hb, hml, hown, hts⟩ (cwV 3 hts gX8_room_X8_other rfl rfl rfl (by decide +kernel) ⟨by decide, by decide⟩) hK hz hk hP (hD.re rfl) hS hA [0, 1] rfl rfl rfl rfl rfl rfl rfl hl.1 rfl (Nat.le_of_ble_eq_true rfl) dX8_room_5 (fun H locs hP hS => ?_)
  refine lv_istore_n (lv' := [(1, .int r_1), (0, .ref t_q)]) hx hb dX8_room_8 rfl hl (by decide) rfl (fun ls hl => ?_)
  refine lv_aload_n hx hb dX8_room_9 rfl (lv_at hl 1 rfl) ?_
  refine lv_iload_n hx hb dX8_room_10 rfl (lv_at hl 0 rfl) ?_
  refine lv_aload_n hx hb dX8_room_11 rfl (lv_at hl 1 rfl) ?_
  refine va_get (D := g.1) (ci := 8) (v := .int t_highRoom) (C := RX8) (T := TX8) (N := 39) hx hb hts inX8 hown hK hP 0 rfl rfl 13 (by decide) k117 (fun _ h9 => h9) rfl dX8_room_12 ?_
  obtain ⟨j_10, hj_10, hf⟩ := jn1_e hf
  have J_10 : ∀ (s_9 : Int32), j_10 s_9 = some (rr, t_broken', t_brokenAt', t_here', t_highRoom', t_spot', t_token', t_value') → ∀ (H : Heap) (locs : List Loc) (ls : Array Slot), va_P g.1 vwCl [oX8 t_q t_state_q t_roomMany t_doorMany t_stringLong t_laws_q t_lawMany t_readPage_q t_readLaws_q t_readRooms t_readDoors t_readString t_readLawMany t_toldOnce t_highRoom t_highDoor t_tape_q t_taped t_fault t_broken_2 t_brokenAt_3 t_spot_5 t_here_4 t_token_6 t_value_7 t_cuts_q t_letters_q t_work_q t_pages_q t_canBe_q t_leadsOn_q t_seen_q t_seenMany t_heard_q t_heardMany t_isKept_q t_lanes_q t_lengths_q t_cells_q t_torn, aI g t_tape_q 320 t_tape] H → va_S A s.heap H locs → lv_has ls 2 [(1, .int r_1)] → W p l e rmX8_room s m args below meth c H locs 0 0 Q (F0 m 26 ls [.int s_9, .ref t_q]) := by
    intro s_9 hf H locs ls hP hS hl
    rw [hj_10] at hf
    refine va_put (D := g.1) (ci := 8) (v := .int s_9) (ty := .int) (C := RX8) (T := TX8) (N := 39) hx hb hts inX8 tyX8 tyX8_ok nmX8 hown hK hP (hD.re rfl) hS 0 rfl rfl 13 (by decide) k117 (fun _ h9 => h9) rfl (by decide +kernel) rfl rfl (Nat.le_of_ble_eq_true rfl) dX8_room_26 (fun H locs hP _ hS => ?_)
    have hP : va_P g.1 vwCl [oX8 t_q t_state_q t_roomMany t_doorMany t_stringLong t_laws_q t_lawMany t_readPage_q t_readLaws_q t_readRooms t_readDoors t_readString t_readLawMany t_toldOnce s_9 t_highDoor t_tape_q t_taped t_fault t_broken_2 t_brokenAt_3 t_spot_5 t_here_4 t_token_6 t_value_7 t_cuts_q t_letters_q t_work_q t_pages_q t_canBe_q t_leadsOn_q t_seen_q t_seenMany t_heard_q t_heardMany t_isKept_q t_lanes_q t_lengths_q t_cells_q t_torn, aI g t_tape_q 320 t_tape] H := hP
    refine lv_iload_n hx hb dX8_room_29 rfl (lv_at hl 0 rfl) ?_
    exact hret r_1 t_broken_2 t_brokenAt_3 t_here_4 s_9 t_spot_5 t_token_6 t_value_7 (Option.some.inj hf) _ _ _ _ hP hS dX8_room_30
  refine lv_icmp_le (tgt := 22) hx hb dX8_room_15 (by decide) (fun c_11 => ?_) (fun c_11 => ?_)
  · have hf := ite_t hf c_11
    refine lv_aload_n hx hb dX8_room_22 rfl (lv_at hl 1 rfl) ?_
    refine va_get (D := g.1) (ci := 8) (v := .int t_highRoom) (C := RX8) (T := TX8) (N := 39) hx hb hts inX8 hown hK hP 0 rfl rfl 13 (by decide) k117 (fun _ h9 => h9) rfl dX8_room_23 ?_
    exact J_10 t_highRoom hf _ _ _ hP hS (lv_sub hl [0] rfl)
  · have hf := ite_f hf c_11
    refine lv_iload_n hx hb dX8_room_18 rfl (lv_at hl 0 rfl) ?_
    refine lv_goto (tgt := 26) hx hb dX8_room_19 (by decide) ?_
    exact J_10 r_1 hf _ _ _ hP hS (lv_sub hl [0] rfl)

def f_X8_readBeast (t_highRoom : Int32) (t_taped : Int32) (t_broken : Int32) (t_brokenAt : Int32) (t_spot : Int32) (t_here : Int32) (t_token : Int32) (t_value : Int32) (t_cuts : Nat → Int32) (t_letters : Nat → Int32) (t_readPage : Nat → Int32) (t_tape : Nat → Int32) : Option (Int32 × Int32 × Int32 × Int32 × Int32 × Int32 × Int32 × (Nat → Int32)) :=
 (ob8 (f_X8_room t_highRoom t_taped t_broken t_brokenAt t_spot t_here t_token t_value t_tape) (fun r_1 t_broken_2 t_brokenAt_3 t_here_4 t_highRoom_5 t_spot_6 t_token_7 t_value_8 =>
 (gin (32 : Int32) 49 (bnd (upd t_readPage (32 : Int32).toNatClampNeg (r_1 + (1 : Int32))) (fun t_readPage_11 =>
 (ob1 (f_X8_nameHere t_taped t_spot_6 t_here_4 t_token_7 t_cuts t_letters t_tape) (fun r_12 =>
 (bnd (r_12 - (10 : Int32)) (fun v1_14 =>
 (jn2 (fun (t_broken_15 : Int32) (t_brokenAt_16 : Int32) => (gin (33 : Int32) 49 (bnd (upd t_readPage_11 (33 : Int32).toNatClampNeg v1_14) (fun t_readPage_19 =>
 (ob6 (f_X8_step t_taped t_broken_15 t_brokenAt_16 t_spot_6 t_here_4 t_token_7 t_value_8 t_tape) (fun t_broken_20 t_brokenAt_21 t_here_22 t_spot_23 t_token_24 t_value_25 =>
 (some (t_broken_20, t_brokenAt_21, t_here_22, t_highRoom_5, t_spot_23, t_token_24, t_value_25, t_readPage_19)))))))) (fun j_17 =>
 (if t_broken_2 = (0 : Int32) then
 (if (0 : Int32) ≤ v1_14 then
 (j_17 t_broken_2 t_brokenAt_3)
 else (ob2 (f_X8_fails t_broken_2 t_brokenAt_3 t_here_4 (2 : Int32)) (fun t_broken_29 t_brokenAt_30 =>
 (j_17 t_broken_29 t_brokenAt_30))))
 else (j_17 t_broken_2 t_brokenAt_3)))))))))))))
abbrev rmX8_readBeast : Room := { frames := 4, cells := 0, slots := 0, locals := 91 }
set_option maxHeartbeats 4000000 in
set_option maxRecDepth 100000 in
theorem c_X8_readBeast (l : Launch) (g : Gh) (sz : Nat) (t_q t_state_q t_laws_q t_readPage_q t_readLaws_q t_tape_q t_cuts_q t_letters_q t_work_q t_pages_q t_canBe_q t_leadsOn_q t_seen_q t_heard_q t_isKept_q t_lanes_q t_lengths_q t_cells_q : Nat) (t_roomMany : Int32) (t_doorMany : Int32) (t_stringLong : Int32) (t_lawMany : Int32) (t_readRooms : Int32) (t_readDoors : Int32) (t_readString : Int32) (t_readLawMany : Int32) (t_toldOnce : Int32) (t_highRoom : Int32) (t_highDoor : Int32) (t_taped : Int32) (t_fault : Int32) (t_broken : Int32) (t_brokenAt : Int32) (t_spot : Int32) (t_here : Int32) (t_token : Int32) (t_value : Int32) (t_seenMany : Int32) (t_heardMany : Int32) (t_torn : Int32) (t_cuts : Nat → Int32) (t_letters : Nat → Int32) (t_readPage : Nat → Int32) (t_tape : Nat → Int32) (t_broken' : Int32) (t_brokenAt' : Int32) (t_here' : Int32) (t_highRoom' : Int32) (t_spot' : Int32) (t_token' : Int32) (t_value' : Int32) (t_readPage' : Nat → Int32) (hf : f_X8_readBeast t_highRoom t_taped t_broken t_brokenAt t_spot t_here t_token t_value t_cuts t_letters t_readPage t_tape = some (t_broken', t_brokenAt', t_here', t_highRoom', t_spot', t_token', t_value', t_readPage')) : CV l yX8_readBeast wsX8_readBeast rmX8_readBeast [.ref t_q] g sz [oX8 t_q t_state_q t_roomMany t_doorMany t_stringLong t_laws_q t_lawMany t_readPage_q t_readLaws_q t_readRooms t_readDoors t_readString t_readLawMany t_toldOnce t_highRoom t_highDoor t_tape_q t_taped t_fault t_broken t_brokenAt t_spot t_here t_token t_value t_cuts_q t_letters_q t_work_q t_pages_q t_canBe_q t_leadsOn_q t_seen_q t_seenMany t_heard_q t_heardMany t_isKept_q t_lanes_q t_lengths_q t_cells_q t_torn, aI g t_cuts_q 15 t_cuts, aI g t_letters_q 66 t_letters, aI g t_readPage_q 49 t_readPage, aI g t_tape_q 320 t_tape] [oX8 t_q t_state_q t_roomMany t_doorMany t_stringLong t_laws_q t_lawMany t_readPage_q t_readLaws_q t_readRooms t_readDoors t_readString t_readLawMany t_toldOnce t_highRoom' t_highDoor t_tape_q t_taped t_fault t_broken' t_brokenAt' t_spot' t_here' t_token' t_value' t_cuts_q t_letters_q t_work_q t_pages_q t_canBe_q t_leadsOn_q t_seen_q t_seenMany t_heard_q t_heardMany t_isKept_q t_lanes_q t_lengths_q t_cells_q t_torn, aI g t_cuts_q 15 t_cuts, aI g t_letters_q 66 t_letters, aI g t_readPage_q 49 t_readPage', aI g t_tape_q 320 t_tape] := by
  refine ent_v (cc := cX8_readBeast) (maxL := 2) (by decide) rfl (Nat.le_of_ble_eq_true rfl) ?_
  intro p e s m args below meth c A Q hx hb hml hown hts hK hz hk hA hD hP hS hret ls hl
  have hown : s.vm.findClass RX8 = some m.cls := hown
  have inX8 : ∀ w ∈ u_ws RX8 TX8 39, w ∈ wsX8_readBeast := by decide +kernel
  have k23 := hts (.fieldLink RX8 23 "ThreadMovedModel" "readPage" "[I") (by decide +kernel)
  have k76 := hts (.fieldLink RX8 76 "ThreadMovedModel" "broken" "I") (by decide +kernel)
  have hl : lv_has ls 2 [(0, .ref t_q)] := hl
  have hret : ∀ (t_brokenz : Int32) (t_brokenAtz : Int32) (t_herez : Int32) (t_highRoomz : Int32) (t_spotz : Int32) (t_tokenz : Int32) (t_valuez : Int32) (t_readPagez : Nat → Int32), (t_brokenz, t_brokenAtz, t_herez, t_highRoomz, t_spotz, t_tokenz, t_valuez, t_readPagez) = (t_broken', t_brokenAt', t_here', t_highRoom', t_spot', t_token', t_value', t_readPage') → ∀ (H : Heap) (locs : List Loc) (pc : Nat) (ls : Array Slot), va_P g.1 vwCl [oX8 t_q t_state_q t_roomMany t_doorMany t_stringLong t_laws_q t_lawMany t_readPage_q t_readLaws_q t_readRooms t_readDoors t_readString t_readLawMany t_toldOnce t_highRoomz t_highDoor t_tape_q t_taped t_fault t_brokenz t_brokenAtz t_spotz t_herez t_tokenz t_valuez t_cuts_q t_letters_q t_work_q t_pages_q t_canBe_q t_leadsOn_q t_seen_q t_seenMany t_heard_q t_heardMany t_isKept_q t_lanes_q t_lengths_q t_cells_q t_torn, aI g t_cuts_q 15 t_cuts, aI g t_letters_q 66 t_letters, aI g t_readPage_q 49 t_readPagez, aI g t_tape_q 320 t_tape] H → va_S A s.heap H locs → decode cX8_readBeast pc = .ok (.return_, 1) → W p l e rmX8_readBeast s m args below meth c H locs 0 0 Q (F0 m pc ls []) := by
    intro t_brokenz t_brokenAtz t_herez t_highRoomz t_spotz t_tokenz t_valuez t_readPagez he H locs pc ls hP hS hd
    cases he
    exact hret H locs pc ls hP hS hd
  unfold f_X8_readBeast at hf
  refine lv_aload_n hx hb dX8_readBeast_0 rfl (lv_at hl 0 rfl) ?_
  refine va_get (D := g.1) (ci := 8) (v := .ref t_readPage_q) (C := RX8) (T := TX8) (N := 39) hx hb hts inX8 hown hK hP 0 rfl rfl 6 (by decide) k23 (fun _ h9 => h9) rfl dX8_readBeast_1 ?_
  refine lv_bipush (v := (32 : Int32)) hx hb dX8_readBeast_4 (by decide) ?_
  refine lv_aload_n hx hb dX8_readBeast_6 rfl (lv_at hl 0 rfl) ?_
  obtain ⟨r_1, t_broken_2, t_brokenAt_3, t_here_4, t_highRoom_5, t_spot_6, t_token_7, t_value_8, hc_9, hf⟩ := ob8_e hf
  refine kV_i (wn := [oX8 t_q t_state_q t_roomMany t_doorMany t_stringLong t_laws_q t_lawMany t_readPage_q t_readLaws_q t_readRooms t_readDoors t_readString t_readLawMany t_toldOnce t_highRoom_5 t_highDoor t_tape_q t_taped t_fault t_broken_2 t_brokenAt_3 t_spot_6 t_here_4 t_token_7 t_value_8 t_cuts_q t_letters_q t_work_q t_pages_q t_canBe_q t_leadsOn_q t_seen_q t_seenMany t_heard_q t_heardMany t_isKept_q t_lanes_q t_lengths_q t_cells_q t_torn, aI g t_cuts_q 15 t_cuts, aI g t_letters_q 66 t_letters, aI g t_readPage_q 49 t_readPage, aI g t_tape_q 320 t_tape]) (As := []) (rest := [.int (32 : Int32), .ref t_readPage_q]) (c_X8_room l g _ t_q t_state_q t_laws_q t_readPage_q t_readLaws_q t_tape_q t_cuts_q t_letters_q t_work_q t_pages_q t_canBe_q t_leadsOn_q t_seen_q t_heard_q t_isKept_q t_lanes_q t_lengths_q t_cells_q t_roomMany t_doorMany t_stringLong t_lawMany t_readRooms t_readDoors t_readString t_readLawMany t_toldOnce t_highRoom t_highDoor t_taped t_fault t_broken t_brokenAt t_spot t_here t_token t_value t_seenMany t_heardMany t_torn t_tape r_1 t_broken_2 t_brokenAt_3 t_here_4 t_highRoom_5 t_spot_6 t_token_7 t_value_8 hc_9) ⟨hx, hb, hml, hown, hts⟩ (cwV 0 hts gX8_readBeast_X8_room rfl rfl rfl (by decide +kernel) ⟨by decide, by decide⟩) hK hz hk hP (hD.re rfl) hS hA [0, 4] rfl rfl rfl rfl rfl rfl rfl hl.1 rfl (Nat.le_of_ble_eq_true rfl) dX8_readBeast_7 (fun H locs hP hS => ?_)
  refine lv_iconst (v := (1 : Int32)) hx hb dX8_readBeast_10 (by decide) ?_
  refine lv_iadd hx hb dX8_readBeast_11 ?_
  obtain ⟨h_10, hf⟩ := gin_e hf
  obtain ⟨t_readPage_11, et_readPage_11, hf⟩ := bnd_e hf
  refine va_iast hx hb hK hP (hD.re rfl) hS 3 0 rfl rfl h_10 dX8_readBeast_12 (fun H locs hP _ hS => ?_)
  have hP : va_P g.1 vwCl [oX8 t_q t_state_q t_roomMany t_doorMany t_stringLong t_laws_q t_lawMany t_readPage_q t_readLaws_q t_readRooms t_readDoors t_readString t_readLawMany t_toldOnce t_highRoom_5 t_highDoor t_tape_q t_taped t_fault t_broken_2 t_brokenAt_3 t_spot_6 t_here_4 t_token_7 t_value_8 t_cuts_q t_letters_q t_work_q t_pages_q t_canBe_q t_leadsOn_q t_seen_q t_seenMany t_heard_q t_heardMany t_isKept_q t_lanes_q t_lengths_q t_cells_q t_torn, aI g t_cuts_q 15 t_cuts, aI g t_letters_q 66 t_letters, aI g t_readPage_q 49 t_readPage_11, aI g t_tape_q 320 t_tape] H := by rw [et_readPage_11]; exact hP
  refine lv_aload_n hx hb dX8_readBeast_13 rfl (lv_at hl 0 rfl) ?_
  obtain ⟨r_12, hc_13, hf⟩ := ob1_e hf
  refine kV_i (wn := [oX8 t_q t_state_q t_roomMany t_doorMany t_stringLong t_laws_q t_lawMany t_readPage_q t_readLaws_q t_readRooms t_readDoors t_readString t_readLawMany t_toldOnce t_highRoom_5 t_highDoor t_tape_q t_taped t_fault t_broken_2 t_brokenAt_3 t_spot_6 t_here_4 t_token_7 t_value_8 t_cuts_q t_letters_q t_work_q t_pages_q t_canBe_q t_leadsOn_q t_seen_q t_seenMany t_heard_q t_heardMany t_isKept_q t_lanes_q t_lengths_q t_cells_q t_torn, aI g t_cuts_q 15 t_cuts, aI g t_letters_q 66 t_letters, aI g t_readPage_q 49 t_readPage_11, aI g t_tape_q 320 t_tape]) (As := []) (rest := []) (c_X8_nameHere l g _ t_q t_state_q t_laws_q t_readPage_q t_readLaws_q t_tape_q t_cuts_q t_letters_q t_work_q t_pages_q t_canBe_q t_leadsOn_q t_seen_q t_heard_q t_isKept_q t_lanes_q t_lengths_q t_cells_q t_roomMany t_doorMany t_stringLong t_lawMany t_readRooms t_readDoors t_readString t_readLawMany t_toldOnce t_highRoom_5 t_highDoor t_taped t_fault t_broken_2 t_brokenAt_3 t_spot_6 t_here_4 t_token_7 t_value_8 t_seenMany t_heardMany t_torn t_cuts t_letters t_tape r_12 hc_13) ⟨hx, hb, hml, hown, hts⟩ (cwV 0 hts gX8_readBeast_X8_nameHere rfl rfl rfl (by decide +kernel) ⟨by decide, by decide⟩) hK hz hk hP (hD.re rfl) hS hA [0, 1, 2, 4] rfl rfl rfl rfl rfl rfl rfl hl.1 rfl (Nat.le_of_ble_eq_true rfl) dX8_readBeast_14 (fun H locs hP hS => ?_)
  refine lv_bipush (v := (10 : Int32)) hx hb dX8_readBeast_17 (by decide) ?_
  refine lv_isub hx hb dX8_readBeast_19 ?_
  obtain ⟨v1_14, ev1_14, hf⟩ := bnd_e hf
  refine tp_i ev1_14 ?_
  refine lv_istore_n (lv' := [(1, .int v1_14), (0, .ref t_q)]) hx hb dX8_readBeast_20 rfl hl (by decide) rfl (fun ls hl => ?_)
  refine lv_aload_n hx hb dX8_readBeast_21 rfl (lv_at hl 1 rfl) ?_
  refine va_get (D := g.1) (ci := 8) (v := .int t_broken_2) (C := RX8) (T := TX8) (N := 39) hx hb hts inX8 hown hK hP 0 rfl rfl 18 (by decide) k76 (fun _ h9 => h9) rfl dX8_readBeast_22 ?_
  obtain ⟨j_17, hj_17, hf⟩ := jn2_e hf
  have J_17 : ∀ (t_broken_15 : Int32) (t_brokenAt_16 : Int32), j_17 t_broken_15 t_brokenAt_16 = some (t_broken', t_brokenAt', t_here', t_highRoom', t_spot', t_token', t_value', t_readPage') → ∀ (H : Heap) (locs : List Loc) (ls : Array Slot), va_P g.1 vwCl [oX8 t_q t_state_q t_roomMany t_doorMany t_stringLong t_laws_q t_lawMany t_readPage_q t_readLaws_q t_readRooms t_readDoors t_readString t_readLawMany t_toldOnce t_highRoom_5 t_highDoor t_tape_q t_taped t_fault t_broken_15 t_brokenAt_16 t_spot_6 t_here_4 t_token_7 t_value_8 t_cuts_q t_letters_q t_work_q t_pages_q t_canBe_q t_leadsOn_q t_seen_q t_seenMany t_heard_q t_heardMany t_isKept_q t_lanes_q t_lengths_q t_cells_q t_torn, aI g t_cuts_q 15 t_cuts, aI g t_letters_q 66 t_letters, aI g t_readPage_q 49 t_readPage_11, aI g t_tape_q 320 t_tape] H → va_S A s.heap H locs → lv_has ls 2 [(0, .ref t_q), (1, .int v1_14)] → W p l e rmX8_readBeast s m args below meth c H locs 0 0 Q (F0 m 37 ls []) := by
    intro t_broken_15 t_brokenAt_16 hf H locs ls hP hS hl
    rw [hj_17] at hf
    refine lv_aload_n hx hb dX8_readBeast_37 rfl (lv_at hl 0 rfl) ?_
    refine va_get (D := g.1) (ci := 8) (v := .ref t_readPage_q) (C := RX8) (T := TX8) (N := 39) hx hb hts inX8 hown hK hP 0 rfl rfl 6 (by decide) k23 (fun _ h9 => h9) rfl dX8_readBeast_38 ?_
    refine lv_bipush (v := (33 : Int32)) hx hb dX8_readBeast_41 (by decide) ?_
    refine lv_iload_n hx hb dX8_readBeast_43 rfl (lv_at hl 1 rfl) ?_
    obtain ⟨h_18, hf⟩ := gin_e hf
    obtain ⟨t_readPage_19, et_readPage_19, hf⟩ := bnd_e hf
    refine va_iast hx hb hK hP (hD.re rfl) hS 3 0 rfl rfl h_18 dX8_readBeast_44 (fun H locs hP _ hS => ?_)
    have hP : va_P g.1 vwCl [oX8 t_q t_state_q t_roomMany t_doorMany t_stringLong t_laws_q t_lawMany t_readPage_q t_readLaws_q t_readRooms t_readDoors t_readString t_readLawMany t_toldOnce t_highRoom_5 t_highDoor t_tape_q t_taped t_fault t_broken_15 t_brokenAt_16 t_spot_6 t_here_4 t_token_7 t_value_8 t_cuts_q t_letters_q t_work_q t_pages_q t_canBe_q t_leadsOn_q t_seen_q t_seenMany t_heard_q t_heardMany t_isKept_q t_lanes_q t_lengths_q t_cells_q t_torn, aI g t_cuts_q 15 t_cuts, aI g t_letters_q 66 t_letters, aI g t_readPage_q 49 t_readPage_19, aI g t_tape_q 320 t_tape] H := by rw [et_readPage_19]; exact hP
    refine lv_aload_n hx hb dX8_readBeast_45 rfl (lv_at hl 0 rfl) ?_
    obtain ⟨t_broken_20, t_brokenAt_21, t_here_22, t_spot_23, t_token_24, t_value_25, hc_26, hf⟩ := ob6_e hf
    refine kV_v (wn := [oX8 t_q t_state_q t_roomMany t_doorMany t_stringLong t_laws_q t_lawMany t_readPage_q t_readLaws_q t_readRooms t_readDoors t_readString t_readLawMany t_toldOnce t_highRoom_5 t_highDoor t_tape_q t_taped t_fault t_broken_20 t_brokenAt_21 t_spot_23 t_here_22 t_token_24 t_value_25 t_cuts_q t_letters_q t_work_q t_pages_q t_canBe_q t_leadsOn_q t_seen_q t_seenMany t_heard_q t_heardMany t_isKept_q t_lanes_q t_lengths_q t_cells_q t_torn, aI g t_cuts_q 15 t_cuts, aI g t_letters_q 66 t_letters, aI g t_readPage_q 49 t_readPage_19, aI g t_tape_q 320 t_tape]) (As := []) (rest := []) (c_X8_step l g _ t_q t_state_q t_laws_q t_readPage_q t_readLaws_q t_tape_q t_cuts_q t_letters_q t_work_q t_pages_q t_canBe_q t_leadsOn_q t_seen_q t_heard_q t_isKept_q t_lanes_q t_lengths_q t_cells_q t_roomMany t_doorMany t_stringLong t_lawMany t_readRooms t_readDoors t_readString t_readLawMany t_toldOnce t_highRoom_5 t_highDoor t_taped t_fault t_broken_15 t_brokenAt_16 t_spot_6 t_here_4 t_token_7 t_value_8 t_seenMany t_heardMany t_torn t_tape t_broken_20 t_brokenAt_21 t_here_22 t_spot_23 t_token_24 t_value_25 hc_26) ⟨hx, hb, hml, hown, hts⟩ (cwV 0 hts gX8_readBeast_X8_step rfl rfl rfl (by decide +kernel) ⟨by decide, by decide⟩) hK hz hk hP (hD.re rfl) hS hA [0, 4] rfl rfl rfl rfl rfl rfl rfl hl.1 rfl (Nat.le_of_ble_eq_true rfl) dX8_readBeast_46 (fun H locs hP hS => ?_)
    exact hret t_broken_20 t_brokenAt_21 t_here_22 t_highRoom_5 t_spot_23 t_token_24 t_value_25 t_readPage_19 (Option.some.inj hf) _ _ _ _ hP hS dX8_readBeast_49
  refine lv_if_ne (tgt := 37) hx hb dX8_readBeast_25 (by decide) (fun c_27 => ?_) (fun c_27 => ?_)
  · have hf := ite_f hf c_27
    exact J_17 t_broken_2 t_brokenAt_3 hf _ _ _ hP hS (lv_sub hl [1, 0] rfl)
  · have hf := ite_t hf c_27
    refine lv_iload_n hx hb dX8_readBeast_28 rfl (lv_at hl 0 rfl) ?_
    refine lv_if_ge (tgt := 37) hx hb dX8_readBeast_29 (by decide) (fun c_28 => ?_) (fun c_28 => ?_)
    · have hf := ite_t hf c_28
      exact J_17 t_broken_2 t_brokenAt_3 hf _ _ _ hP hS (lv_sub hl [1, 0] rfl)
    · have hf := ite_f hf c_28
      refine lv_aload_n hx hb dX8_readBeast_32 rfl (lv_at hl 1 rfl) ?_
      refine lv_iconst (v := (2 : Int32)) hx hb dX8_readBeast_33 (by decide) ?_
      obtain ⟨t_broken_29, t_brokenAt_30, hc_31, hf⟩ := ob2_e hf
      refine kV_v (wn := [oX8 t_q t_state_q t_roomMany t_doorMany t_stringLong t_laws_q t_lawMany t_readPage_q t_readLaws_q t_readRooms t_readDoors t_readString t_readLawMany t_toldOnce t_highRoom_5 t_highDoor t_tape_q t_taped t_fault t_broken_29 t_brokenAt_30 t_spot_6 t_here_4 t_token_7 t_value_8 t_cuts_q t_letters_q t_work_q t_pages_q t_canBe_q t_leadsOn_q t_seen_q t_seenMany t_heard_q t_heardMany t_isKept_q t_lanes_q t_lengths_q t_cells_q t_torn, aI g t_cuts_q 15 t_cuts, aI g t_letters_q 66 t_letters, aI g t_readPage_q 49 t_readPage_11, aI g t_tape_q 320 t_tape]) (As := [.int (2 : Int32)]) (rest := []) (c_X8_fails l g _ t_q t_state_q t_laws_q t_readPage_q t_readLaws_q t_tape_q t_cuts_q t_letters_q t_work_q t_pages_q t_canBe_q t_leadsOn_q t_seen_q t_heard_q t_isKept_q t_lanes_q t_lengths_q t_cells_q t_roomMany t_doorMany t_stringLong t_lawMany t_readRooms t_readDoors t_readString t_readLawMany t_toldOnce t_highRoom_5 t_highDoor t_taped t_fault t_broken_2 t_brokenAt_3 t_spot_6 t_here_4 t_token_7 t_value_8 t_seenMany t_heardMany t_torn (2 : Int32) t_broken_29 t_brokenAt_30 hc_31) ⟨hx, hb, hml, hown, hts⟩ (cwV 1 hts gX8_readBeast_X8_fails rfl rfl rfl (by decide +kernel) ⟨by decide, by decide⟩) hK hz hk hP (hD.re rfl) hS hA [0] rfl rfl rfl rfl rfl rfl rfl hl.1 rfl (Nat.le_of_ble_eq_true rfl) dX8_readBeast_34 (fun H locs hP hS => ?_)
      exact J_17 t_broken_29 t_brokenAt_30 hf _ _ _ hP hS (lv_sub hl [1, 0] rfl)
