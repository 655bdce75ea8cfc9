def b_X8_sure_27 (t_roomMany : Int32) (t_doorMany : Int32) (t_seenMany : Int32) (t_seen : Nat → Int32) (t_state : Nat → Int32) (p1 : Int32) (p2 : Int32) (v3_7 : Int32) (v4_8 : Int32) (t_work_9 : Nat → Int32) : Option ((Int32 × Int32 × (Nat → Int32)) ⊕ (Int32 × Int32 × (Nat → Int32))) :=
 (if (210 : Int32) ≤ v4_8 then
 (some (.inr (v3_7, v4_8, t_work_9)))
 else (ob2 (f_X8_isLawSo t_roomMany t_doorMany t_seenMany t_seen t_state t_work_9 v4_8) (fun r_12 t_work_13 =>
 (jn2 (fun (v3_15 : Int32) (t_work_16 : Nat → Int32) => (bnd (v4_8 + (1 : Int32)) (fun v4_18 =>
 (some (.inl (v3_15, v4_18, t_work_16)))))) (fun j_17 =>
 (if r_12 = (0 : Int32) then
 (j_17 v3_7 t_work_13)
 else (ob1 (f_X8_dusksBy t_roomMany t_state t_work_13 v4_8 p1) (fun t_work_20 =>
 (gin (((3 : Int32) * p2) + (1 : Int32)) 30 (bnd (v3_7 ||| ((1 : Int32) <<< ((t_work_20 (((3 : Int32) * p2) + (1 : Int32)).toNatClampNeg) &&& 31))) (fun v3_23 =>
 (j_17 v3_23 t_work_20))))))))))))
def f_X8_sure (t_roomMany : Int32) (t_doorMany : Int32) (t_seenMany : Int32) (t_seen : Nat → Int32) (t_state : Nat → Int32) (t_work : Nat → Int32) (p1 : Int32) (p2 : Int32) : Option (Int32 × (Nat → Int32)) :=
 (ob1 (f_X8_in (p1.toInt64) (1 : Int64) (6 : Int64)) (fun r_1 =>
 (if r_1 = (0 : Int32) then
 (some ((-1 : Int32), t_work))
 else (ob1 (f_X8_isDoor t_doorMany p2) (fun r_4 =>
 (if r_4 = (0 : Int32) then
 (some ((-1 : Int32), t_work))
 else (ob3 (itr (un3 (b_X8_sure_27 t_roomMany t_doorMany t_seenMany t_seen t_state p1 p2)) FU ((0 : Int32), (0 : Int32), t_work)) (fun x3_24 x4_25 t_work_26 =>
 (ob1 (f_X8_bitsOf x3_24) (fun r_27 =>
 (if r_27 = (1 : Int32) then
 (ob1 (f_X8_placeOf x3_24 (0 : Int32)) (fun r_30 =>
 (some (r_30, t_work_26))))
 else (some ((-4 : Int32), t_work_26)))))))))))))
abbrev rmX8_sure : Room := { frames := 4, cells := 0, slots := 0, locals := 92 }
set_option maxHeartbeats 4000000 in
set_option maxRecDepth 100000 in
theorem c_X8_sure (l : Launch) (g : Gh) (sz : Nat) (t_q t_state_q t_laws_q t_readPage_q t_readLaws_q t_tape_q t_cuts_q t_letters_q t_work_q t_pages_q t_canBe_q t_leadsOn_q t_seen_q t_heard_q t_isKept_q t_lanes_q t_lengths_q t_cells_q : Nat) (t_roomMany : Int32) (t_doorMany : Int32) (t_stringLong : Int32) (t_lawMany : Int32) (t_readRooms : Int32) (t_readDoors : Int32) (t_readString : Int32) (t_readLawMany : Int32) (t_toldOnce : Int32) (t_highRoom : Int32) (t_highDoor : Int32) (t_taped : Int32) (t_fault : Int32) (t_broken : Int32) (t_brokenAt : Int32) (t_spot : Int32) (t_here : Int32) (t_token : Int32) (t_value : Int32) (t_seenMany : Int32) (t_heardMany : Int32) (t_torn : Int32) (t_seen : Nat → Int32) (t_state : Nat → Int32) (t_work : Nat → Int32) (p1 : Int32) (p2 : Int32) (rr : Int32) (t_work' : Nat → Int32) (hf : f_X8_sure t_roomMany t_doorMany t_seenMany t_seen t_state t_work p1 p2 = some (rr, t_work')) : CI l yX8_sure wsX8_sure rmX8_sure [.ref t_q, .int p1, .int p2] g sz [oX8 t_q t_state_q t_roomMany t_doorMany t_stringLong t_laws_q t_lawMany t_readPage_q t_readLaws_q t_readRooms t_readDoors t_readString t_readLawMany t_toldOnce t_highRoom t_highDoor t_tape_q t_taped t_fault t_broken t_brokenAt t_spot t_here t_token t_value t_cuts_q t_letters_q t_work_q t_pages_q t_canBe_q t_leadsOn_q t_seen_q t_seenMany t_heard_q t_heardMany t_isKept_q t_lanes_q t_lengths_q t_cells_q t_torn, aI g t_seen_q 18 t_seen, aI g t_state_q 196 t_state, aI g t_work_q 30 t_work] [oX8 t_q t_state_q t_roomMany t_doorMany t_stringLong t_laws_q t_lawMany t_readPage_q t_readLaws_q t_readRooms t_readDoors t_readString t_readLawMany t_toldOnce t_highRoom t_highDoor t_tape_q t_taped t_fault t_broken t_brokenAt t_spot t_here t_token t_value t_cuts_q t_letters_q t_work_q t_pages_q t_canBe_q t_leadsOn_q t_seen_q t_seenMany t_heard_q t_heardMany t_isKept_q t_lanes_q t_lengths_q t_cells_q t_torn, aI g t_seen_q 18 t_seen, aI g t_state_q 196 t_state, aI g t_work_q 30 t_work'] rr := by
  refine ent_i (cc := cX8_sure) (maxL := 5) (by decide) rfl (Nat.le_of_ble_eq_true rfl) ?_
  intro p e s m args below meth c A Q hx hb hml hown hts hK hz hk hA hD hP hS hret ls hl
  have hown : s.vm.findClass RX8 = some m.cls := hown
  have inX8 : ∀ w ∈ u_ws RX8 TX8 39, w ∈ wsX8_sure := by decide +kernel
  have k38 := hts (.fieldLink RX8 38 "ThreadMovedModel" "work" "[I") (by decide +kernel)
  have q222 := hts (.constantLong RX8 222 (6)) (by decide +kernel)
  have hl : lv_has ls 5 [(0, .ref t_q), (1, .int p1), (2, .int p2)] := hl
  have hret : ∀ (rrz : Int32) (t_workz : Nat → Int32), (rrz, t_workz) = (rr, t_work') → ∀ (H : Heap) (locs : List Loc) (pc : Nat) (ls : Array Slot), va_P g.1 vwCl [oX8 t_q t_state_q t_roomMany t_doorMany t_stringLong t_laws_q t_lawMany t_readPage_q t_readLaws_q t_readRooms t_readDoors t_readString t_readLawMany t_toldOnce t_highRoom t_highDoor t_tape_q t_taped t_fault t_broken t_brokenAt t_spot t_here t_token t_value t_cuts_q t_letters_q t_work_q t_pages_q t_canBe_q t_leadsOn_q t_seen_q t_seenMany t_heard_q t_heardMany t_isKept_q t_lanes_q t_lengths_q t_cells_q t_torn, aI g t_seen_q 18 t_seen, aI g t_state_q 196 t_state, aI g t_work_q 30 t_workz] H → va_S A s.heap H locs → decode cX8_sure pc = .ok (.ireturn, 1) → W p l e rmX8_sure s m args below meth c H locs 0 0 Q (F0 m pc ls [.int rrz]) := by
    intro rrz t_workz he H locs pc ls hP hS hd
    cases he
    exact hret H locs pc ls hP hS hd
  unfold f_X8_sure at hf
  refine lv_iload_n hx hb dX8_sure_0 rfl (lv_at hl 1 rfl) ?_
  refine lv_i2l hx hb dX8_sure_1 rfl ?_
  refine lv_lconst (v := (1 : Int64)) hx hb dX8_sure_2 (by decide) ?_
  refine lv_ldc2 hx hb hown q222 dX8_sure_3 ?_
  obtain ⟨r_1, hc_2, hf⟩ := ob1_e hf
  refine kS_i (wn := [oX8 t_q t_state_q t_roomMany t_doorMany t_stringLong t_laws_q t_lawMany t_readPage_q t_readLaws_q t_readRooms t_readDoors t_readString t_readLawMany t_toldOnce t_highRoom t_highDoor t_tape_q t_taped t_fault t_broken t_brokenAt t_spot t_here t_token t_value t_cuts_q t_letters_q t_work_q t_pages_q t_canBe_q t_leadsOn_q t_seen_q t_seenMany t_heard_q t_heardMany t_isKept_q t_lanes_q t_lengths_q t_cells_q t_torn, aI g t_seen_q 18 t_seen, aI g t_state_q 196 t_state, aI g t_work_q 30 t_work]) (As := [.long (p1.toInt64), .long (1 : Int64), .long (6 : Int64)]) (rest := []) (c_X8_in l g _ (p1.toInt64) (1 : Int64) (6 : Int64) r_1 hc_2) ⟨hx, hb, hml, hown, hts⟩ (va_cwS 3 hts gX8_sure_X8_in rfl rfl rfl (by decide +kernel) ⟨by decide, by decide⟩) hK hz hk hP (hD.re rfl) hS hA [] rfl rfl rfl rfl rfl hl.1 rfl (Nat.le_of_ble_eq_true rfl) dX8_sure_6 (fun H locs hP hS => ?_)
  refine lv_if_eq (tgt := 20) hx hb dX8_sure_9 (by decide) (fun c_3 => ?_) (fun c_3 => ?_)
  · have hf := ite_t hf c_3
    refine lv_iconst (v := (-1 : Int32)) hx hb dX8_sure_20 (by decide) ?_
    exact hret (-1 : Int32) t_work (Option.some.inj hf) _ _ _ _ hP hS dX8_sure_21
  · have hf := ite_f hf c_3
    refine lv_aload_n hx hb dX8_sure_12 rfl (lv_at hl 0 rfl) ?_
    refine lv_iload_n hx hb dX8_sure_13 rfl (lv_at hl 2 rfl) ?_
    obtain ⟨r_4, hc_5, hf⟩ := ob1_e hf
    refine kV_i (wn := [oX8 t_q t_state_q t_roomMany t_doorMany t_stringLong t_laws_q t_lawMany t_readPage_q t_readLaws_q t_readRooms t_readDoors t_readString t_readLawMany t_toldOnce t_highRoom t_highDoor t_tape_q t_taped t_fault t_broken t_brokenAt t_spot t_here t_token t_value t_cuts_q t_letters_q t_work_q t_pages_q t_canBe_q t_leadsOn_q t_seen_q t_seenMany t_heard_q t_heardMany t_isKept_q t_lanes_q t_lengths_q t_cells_q t_torn, aI g t_seen_q 18 t_seen, aI g t_state_q 196 t_state, aI g t_work_q 30 t_work]) (As := [.int p2]) (rest := []) (c_X8_isDoor l g _ t_q t_state_q t_laws_q t_readPage_q t_readLaws_q t_tape_q t_cuts_q t_letters_q t_work_q t_pages_q t_canBe_q t_leadsOn_q t_seen_q t_heard_q t_isKept_q t_lanes_q t_lengths_q t_cells_q t_roomMany t_doorMany t_stringLong t_lawMany t_readRooms t_readDoors t_readString t_readLawMany t_toldOnce t_highRoom t_highDoor t_taped t_fault t_broken t_brokenAt t_spot t_here t_token t_value t_seenMany t_heardMany t_torn p2 r_4 hc_5) ⟨hx, hb, hml, hown, hts⟩ (cwV 1 hts gX8_sure_X8_isDoor rfl rfl rfl (by decide +kernel) ⟨by decide, by decide⟩) hK hz hk hP (hD.re rfl) hS hA [0] rfl rfl rfl rfl rfl rfl rfl hl.1 rfl (Nat.le_of_ble_eq_true rfl) dX8_sure_14 (fun H locs hP hS => ?_)
    refine lv_if_ne (tgt := 22) hx hb dX8_sure_17 (by decide) (fun c_6 => ?_) (fun c_6 => ?_)
    · have hf := ite_f hf c_6
      refine lv_iconst (v := (0 : Int32)) hx hb dX8_sure_22 (by decide) ?_
      refine lv_istore_n (lv' := [(3, .int (0 : Int32)), (0, .ref t_q), (1, .int p1), (2, .int p2)]) hx hb dX8_sure_23 rfl hl (by decide) rfl (fun ls hl => ?_)
      refine lv_iconst (v := (0 : Int32)) hx hb dX8_sure_24 (by decide) ?_
      refine lv_istore (lv' := [(4, .int (0 : Int32)), (3, .int (0 : Int32)), (0, .ref t_q), (1, .int p1), (2, .int p2)]) hx hb dX8_sure_25 hl (by decide) rfl (fun ls hl => ?_)
      obtain ⟨x3_24, x4_25, t_work_26, ho_10, hf⟩ := ob3_e hf
      have K_10 : ∀ (x3_24y : Int32) (x4_25y : Int32) (t_work_26y : Nat → Int32), x3_24 = x3_24y → x4_25 = x4_25y → t_work_26 = t_work_26y → ∀ (H : Heap) (locs : List Loc) (ls : Array Slot), va_P g.1 vwCl [oX8 t_q t_state_q t_roomMany t_doorMany t_stringLong t_laws_q t_lawMany t_readPage_q t_readLaws_q t_readRooms t_readDoors t_readString t_readLawMany t_toldOnce t_highRoom t_highDoor t_tape_q t_taped t_fault t_broken t_brokenAt t_spot t_here t_token t_value t_cuts_q t_letters_q t_work_q t_pages_q t_canBe_q t_leadsOn_q t_seen_q t_seenMany t_heard_q t_heardMany t_isKept_q t_lanes_q t_lengths_q t_cells_q t_torn, aI g t_seen_q 18 t_seen, aI g t_state_q 196 t_state, aI g t_work_q 30 t_work_26y] H → va_S A s.heap H locs → lv_has ls 5 [(3, .int x3_24y)] → W p l e rmX8_sure s m args below meth c H locs 0 0 Q (F0 m 72 ls []) := by
        intro x3_24y x4_25y t_work_26y ey0 ey1 ey2 H locs ls hP hS hl
        subst ey0
        subst ey1
        subst ey2
        refine lv_iload_n hx hb dX8_sure_72 rfl (lv_at hl 0 rfl) ?_
        obtain ⟨r_27, hc_28, hf⟩ := ob1_e hf
        refine kS_i (wn := [oX8 t_q t_state_q t_roomMany t_doorMany t_stringLong t_laws_q t_lawMany t_readPage_q t_readLaws_q t_readRooms t_readDoors t_readString t_readLawMany t_toldOnce t_highRoom t_highDoor t_tape_q t_taped t_fault t_broken t_brokenAt t_spot t_here t_token t_value t_cuts_q t_letters_q t_work_q t_pages_q t_canBe_q t_leadsOn_q t_seen_q t_seenMany t_heard_q t_heardMany t_isKept_q t_lanes_q t_lengths_q t_cells_q t_torn, aI g t_seen_q 18 t_seen, aI g t_state_q 196 t_state, aI g t_work_q 30 t_work_26]) (As := [.int x3_24]) (rest := []) (c_X8_bitsOf l g _ x3_24 r_27 hc_28) ⟨hx, hb, hml, hown, hts⟩ (va_cwS 1 hts gX8_sure_X8_bitsOf rfl rfl rfl (by decide +kernel) ⟨by decide, by decide⟩) hK hz hk hP (hD.re rfl) hS hA [] rfl rfl rfl rfl rfl hl.1 rfl (Nat.le_of_ble_eq_true rfl) dX8_sure_73 (fun H locs hP hS => ?_)
        refine lv_iconst (v := (1 : Int32)) hx hb dX8_sure_76 (by decide) ?_
        refine lv_icmp_ne (tgt := 88) hx hb dX8_sure_77 (by decide) (fun c_29 => ?_) (fun c_29 => ?_)
        · have hf := ite_f hf c_29
          refine lv_bipush (v := (-4 : Int32)) hx hb dX8_sure_88 (by decide) ?_
          exact hret (-4 : Int32) t_work_26 (Option.some.inj hf) _ _ _ _ hP hS dX8_sure_90
        · have hf := ite_t hf c_29
          refine lv_iload_n hx hb dX8_sure_80 rfl (lv_at hl 0 rfl) ?_
          refine lv_iconst (v := (0 : Int32)) hx hb dX8_sure_81 (by decide) ?_
          obtain ⟨r_30, hc_31, hf⟩ := ob1_e hf
          refine kS_i (wn := [oX8 t_q t_state_q t_roomMany t_doorMany t_stringLong t_laws_q t_lawMany t_readPage_q t_readLaws_q t_readRooms t_readDoors t_readString t_readLawMany t_toldOnce t_highRoom t_highDoor t_tape_q t_taped t_fault t_broken t_brokenAt t_spot t_here t_token t_value t_cuts_q t_letters_q t_work_q t_pages_q t_canBe_q t_leadsOn_q t_seen_q t_seenMany t_heard_q t_heardMany t_isKept_q t_lanes_q t_lengths_q t_cells_q t_torn, aI g t_seen_q 18 t_seen, aI g t_state_q 196 t_state, aI g t_work_q 30 t_work_26]) (As := [.int x3_24, .int (0 : Int32)]) (rest := []) (c_X8_placeOf l g _ x3_24 (0 : Int32) r_30 hc_31) ⟨hx, hb, hml, hown, hts⟩ (va_cwS 2 hts gX8_sure_X8_placeOf rfl rfl rfl (by decide +kernel) ⟨by decide, by decide⟩) hK hz hk hP (hD.re rfl) hS hA [] rfl rfl rfl rfl rfl hl.1 rfl (Nat.le_of_ble_eq_true rfl) dX8_sure_82 (fun H locs hP hS => ?_)
          refine lv_goto (tgt := 90) hx hb dX8_sure_85 (by decide) ?_
          exact hret r_30 t_work_26 (Option.some.inj hf) _ _ _ _ hP hS dX8_sure_90
      have L_10 : ∀ (n : Nat) (v3_7 : Int32) (v4_8 : Int32) (t_work_9 : Nat → Int32), itr (un3 (b_X8_sure_27 t_roomMany t_doorMany t_seenMany t_seen t_state p1 p2)) n (v3_7, v4_8, t_work_9) = some (x3_24, x4_25, t_work_26) → ∀ (H : Heap) (locs : List Loc) (ls : Array Slot), va_P g.1 vwCl [oX8 t_q t_state_q t_roomMany t_doorMany t_stringLong t_laws_q t_lawMany t_readPage_q t_readLaws_q t_readRooms t_readDoors t_readString t_readLawMany t_toldOnce t_highRoom t_highDoor t_tape_q t_taped t_fault t_broken t_brokenAt t_spot t_here t_token t_value t_cuts_q t_letters_q t_work_q t_pages_q t_canBe_q t_leadsOn_q t_seen_q t_seenMany t_heard_q t_heardMany t_isKept_q t_lanes_q t_lengths_q t_cells_q t_torn, aI g t_seen_q 18 t_seen, aI g t_state_q 196 t_state, aI g t_work_q 30 t_work_9] H → va_S A s.heap H locs → lv_has ls 5 [(0, .ref t_q), (1, .int p1), (2, .int p2), (3, .int v3_7), (4, .int v4_8)] → W p l e rmX8_sure s m args below meth c H locs 0 0 Q (F0 m 27 ls []) := by
        refine itr_ind3 ?_
        intro v3_7 v4_8 t_work_9 z_10 hf hrec hex H locs ls hP hS hl
        unfold b_X8_sure_27 at hf
        refine lv_iload hx hb dX8_sure_27 (lv_at hl 4 rfl) ?_
        refine lv_sipush (v := (210 : Int32)) hx hb dX8_sure_29 (by decide) ?_
        refine lv_icmp_ge (tgt := 72) hx hb dX8_sure_32 (by decide) (fun c_11 => ?_) (fun c_11 => ?_)
        · have hf := ite_t hf c_11
          exact K_10 v3_7 v4_8 t_work_9 (congrArg (fun t => t.1) (hex _ (Option.some.inj hf).symm).symm) (congrArg (fun t => t.2.1) (hex _ (Option.some.inj hf).symm).symm) (congrArg (fun t => t.2.2) (hex _ (Option.some.inj hf).symm).symm) _ _ _ hP hS (lv_sub hl [3] rfl)
        · have hf := ite_f hf c_11
          refine lv_aload_n hx hb dX8_sure_35 rfl (lv_at hl 0 rfl) ?_
          refine lv_iload hx hb dX8_sure_36 (lv_at hl 4 rfl) ?_
          obtain ⟨r_12, t_work_13, hc_14, hf⟩ := ob2_e hf
          refine kV_i (wn := [oX8 t_q t_state_q t_roomMany t_doorMany t_stringLong t_laws_q t_lawMany t_readPage_q t_readLaws_q t_readRooms t_readDoors t_readString t_readLawMany t_toldOnce t_highRoom t_highDoor t_tape_q t_taped t_fault t_broken t_brokenAt t_spot t_here t_token t_value t_cuts_q t_letters_q t_work_q t_pages_q t_canBe_q t_leadsOn_q t_seen_q t_seenMany t_heard_q t_heardMany t_isKept_q t_lanes_q t_lengths_q t_cells_q t_torn, aI g t_seen_q 18 t_seen, aI g t_state_q 196 t_state, aI g t_work_q 30 t_work_13]) (As := [.int v4_8]) (rest := []) (c_X8_isLawSo l g _ t_q t_state_q t_laws_q t_readPage_q t_readLaws_q t_tape_q t_cuts_q t_letters_q t_work_q t_pages_q t_canBe_q t_leadsOn_q t_seen_q t_heard_q t_isKept_q t_lanes_q t_lengths_q t_cells_q t_roomMany t_doorMany t_stringLong t_lawMany t_readRooms t_readDoors t_readString t_readLawMany t_toldOnce t_highRoom t_highDoor t_taped t_fault t_broken t_brokenAt t_spot t_here t_token t_value t_seenMany t_heardMany t_torn t_seen t_state t_work_9 v4_8 r_12 t_work_13 hc_14) ⟨hx, hb, hml, hown, hts⟩ (cwV 1 hts gX8_sure_X8_isLawSo rfl rfl rfl (by decide +kernel) ⟨by decide, by decide⟩) hK hz hk hP (hD.re rfl) hS hA [0, 1, 2, 3] rfl rfl rfl rfl rfl rfl rfl hl.1 rfl (Nat.le_of_ble_eq_true rfl) dX8_sure_38 (fun H locs hP hS => ?_)
          obtain ⟨j_17, hj_17, hf⟩ := jn2_e hf
          have J_17 : ∀ (v3_15 : Int32) (t_work_16 : Nat → Int32), j_17 v3_15 t_work_16 = some z_10 → ∀ (H : Heap) (locs : List Loc) (ls : Array Slot), va_P g.1 vwCl [oX8 t_q t_state_q t_roomMany t_doorMany t_stringLong t_laws_q t_lawMany t_readPage_q t_readLaws_q t_readRooms t_readDoors t_readString t_readLawMany t_toldOnce t_highRoom t_highDoor t_tape_q t_taped t_fault t_broken t_brokenAt t_spot t_here t_token t_value t_cuts_q t_letters_q t_work_q t_pages_q t_canBe_q t_leadsOn_q t_seen_q t_seenMany t_heard_q t_heardMany t_isKept_q t_lanes_q t_lengths_q t_cells_q t_torn, aI g t_seen_q 18 t_seen, aI g t_state_q 196 t_state, aI g t_work_q 30 t_work_16] H → va_S A s.heap H locs → lv_has ls 5 [(0, .ref t_q), (1, .int p1), (2, .int p2), (3, .int v3_15), (4, .int v4_8)] → W p l e rmX8_sure s m args below meth c H locs 0 0 Q (F0 m 66 ls []) := by
            intro v3_15 t_work_16 hf H locs ls hP hS hl
            rw [hj_17] at hf
            obtain ⟨v4_18, ev4_18, hf⟩ := bnd_e hf
            refine lv_iinc (v := v4_18) (lv' := [(4, .int v4_18), (0, .ref t_q), (1, .int p1), (2, .int p2), (3, .int v3_15)]) hx hb dX8_sure_66 hl (k := 4) rfl (by rw [ev4_18]; rfl) (by decide) rfl (fun ls hl => ?_)
            refine lv_goto (tgt := 27) hx hb dX8_sure_69 (by decide) ?_
            exact hrec v3_15 v4_18 t_work_16 (Option.some.inj hf).symm _ _ _ hP hS (lv_sub hl [1, 2, 3, 4, 0] rfl)
          refine lv_if_eq (tgt := 66) hx hb dX8_sure_41 (by decide) (fun c_19 => ?_) (fun c_19 => ?_)
          · have hf := ite_t hf c_19
            exact J_17 v3_7 t_work_13 hf _ _ _ hP hS (lv_sub hl [0, 1, 2, 3, 4] rfl)
          · have hf := ite_f hf c_19
            refine lv_aload_n hx hb dX8_sure_44 rfl (lv_at hl 0 rfl) ?_
            refine lv_iload hx hb dX8_sure_45 (lv_at hl 4 rfl) ?_
            refine lv_iload_n hx hb dX8_sure_47 rfl (lv_at hl 1 rfl) ?_
            obtain ⟨t_work_20, hc_21, hf⟩ := ob1_e hf
            refine kV_v (wn := [oX8 t_q t_state_q t_roomMany t_doorMany t_stringLong t_laws_q t_lawMany t_readPage_q t_readLaws_q t_readRooms t_readDoors t_readString t_readLawMany t_toldOnce t_highRoom t_highDoor t_tape_q t_taped t_fault t_broken t_brokenAt t_spot t_here t_token t_value t_cuts_q t_letters_q t_work_q t_pages_q t_canBe_q t_leadsOn_q t_seen_q t_seenMany t_heard_q t_heardMany t_isKept_q t_lanes_q t_lengths_q t_cells_q t_torn, aI g t_seen_q 18 t_seen, aI g t_state_q 196 t_state, aI g t_work_q 30 t_work_20]) (As := [.int v4_8, .int p1]) (rest := []) (c_X8_dusksBy l g _ t_q t_state_q t_laws_q t_readPage_q t_readLaws_q t_tape_q t_cuts_q t_letters_q t_work_q t_pages_q t_canBe_q t_leadsOn_q t_seen_q t_heard_q t_isKept_q t_lanes_q t_lengths_q t_cells_q t_roomMany t_doorMany t_stringLong t_lawMany t_readRooms t_readDoors t_readString t_readLawMany t_toldOnce t_highRoom t_highDoor t_taped t_fault t_broken t_brokenAt t_spot t_here t_token t_value t_seenMany t_heardMany t_torn t_state t_work_13 v4_8 p1 t_work_20 hc_21) ⟨hx, hb, hml, hown, hts⟩ (cwV 2 hts gX8_sure_X8_dusksBy rfl rfl rfl (by decide +kernel) ⟨by decide, by decide⟩) hK hz hk hP (hD.re rfl) hS hA [0, 2, 3] rfl rfl rfl rfl rfl rfl rfl hl.1 rfl (Nat.le_of_ble_eq_true rfl) dX8_sure_48 (fun H locs hP hS => ?_)
            refine lv_iload_n hx hb dX8_sure_51 rfl (lv_at hl 3 rfl) ?_
            refine lv_iconst (v := (1 : Int32)) hx hb dX8_sure_52 (by decide) ?_
            refine lv_aload_n hx hb dX8_sure_53 rfl (lv_at hl 0 rfl) ?_
            refine va_get (D := g.1) (ci := 8) (v := .ref t_work_q) (C := RX8) (T := TX8) (N := 39) hx hb hts inX8 hown hK hP 0 rfl rfl 26 (by decide) k38 (fun _ h9 => h9) rfl dX8_sure_54 ?_
            refine lv_iconst (v := (3 : Int32)) hx hb dX8_sure_57 (by decide) ?_
            refine lv_iload_n hx hb dX8_sure_58 rfl (lv_at hl 2 rfl) ?_
            refine lv_imul hx hb dX8_sure_59 ?_
            refine lv_iconst (v := (1 : Int32)) hx hb dX8_sure_60 (by decide) ?_
            refine lv_iadd hx hb dX8_sure_61 ?_
            obtain ⟨h_22, hf⟩ := gin_e hf
            refine va_iald hx hb hK hP 3 0 rfl rfl h_22 dX8_sure_62 ?_
            refine lv_ishl hx hb dX8_sure_63 ?_
            refine lv_ior hx hb dX8_sure_64 ?_
            obtain ⟨v3_23, ev3_23, hf⟩ := bnd_e hf
            refine tp_i ev3_23 ?_
            refine lv_istore_n (lv' := [(3, .int v3_23), (0, .ref t_q), (1, .int p1), (2, .int p2), (4, .int v4_8)]) hx hb dX8_sure_65 rfl hl (by decide) rfl (fun ls hl => ?_)
            exact J_17 v3_23 t_work_20 hf _ _ _ hP hS (lv_sub hl [1, 2, 3, 0, 4] rfl)
      exact L_10 FU (0 : Int32) (0 : Int32) t_work ho_10 _ _ _ hP hS (lv_sub hl [2, 3, 4, 1, 0] rfl)
    · have hf := ite_t hf c_6
      refine lv_iconst (v := (-1 : Int32)) hx hb dX8_sure_20 (by decide) ?_
      exact hret (-1 : Int32) t_work (Option.some.inj hf) _ _ _ _ hP hS dX8_sure_21
