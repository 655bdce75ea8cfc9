def f_X8_isLaw (t_roomMany : Int32) (t_doorMany : Int32) (p1 : Int32) : Option (Int32) :=
 (bnd ((p1 / (10 : Int32)) - (p1 / (10 : Int32)) / (10 : Int32) * (10 : Int32)) (fun v2_1 =>
 (bnd (p1 - p1 / (10 : Int32) * (10 : Int32)) (fun v3_2 =>
 (if (100 : Int32) ≤ p1 then
 (if (200 : Int32) ≤ p1 then
 (ob1 (f_X8_isDoor t_doorMany v3_2) (fun r_5 =>
 (gbl r_5 (some r_5))))
 else (ob1 (f_X8_isDoor t_doorMany v2_1) (fun r_8 =>
 (if r_8 = (0 : Int32) then
 (some (0 : Int32))
 else (ob1 (f_X8_in (v3_2.toInt64) (1 : Int64) ((t_roomMany - (1 : Int32)).toInt64)) (fun r_11 =>
 (if r_11 = (0 : Int32) then
 (some (0 : Int32))
 else (some (1 : Int32)))))))))
 else (ob1 (f_X8_isDoor t_doorMany v2_1) (fun r_14 =>
 (if r_14 = (0 : Int32) then
 (some (0 : Int32))
 else (ob1 (f_X8_isDoor t_doorMany v3_2) (fun r_17 =>
 (if r_17 = (0 : Int32) then
 (some (0 : Int32))
 else (if v3_2 ≤ v2_1 then
 (some (0 : Int32))
 else (some (1 : Int32))))))))))))))
abbrev rmX8_isLaw : Room := { frames := 2, cells := 0, slots := 0, locals := 46 }
set_option maxHeartbeats 4000000 in
set_option maxRecDepth 100000 in
theorem c_X8_isLaw (l : Launch) (g : Gh) (sz : Nat) (t_q t_state_q t_laws_q t_readPage_q t_readLaws_q t_tape_q t_cuts_q t_letters_q t_work_q t_pages_q t_canBe_q t_leadsOn_q t_seen_q t_heard_q t_isKept_q t_lanes_q t_lengths_q t_cells_q : Nat) (t_roomMany : Int32) (t_doorMany : Int32) (t_stringLong : Int32) (t_lawMany : Int32) (t_readRooms : Int32) (t_readDoors : Int32) (t_readString : Int32) (t_readLawMany : Int32) (t_toldOnce : Int32) (t_highRoom : Int32) (t_highDoor : Int32) (t_taped : Int32) (t_fault : Int32) (t_broken : Int32) (t_brokenAt : Int32) (t_spot : Int32) (t_here : Int32) (t_token : Int32) (t_value : Int32) (t_seenMany : Int32) (t_heardMany : Int32) (t_torn : Int32) (p1 : Int32) (rr : Int32) (hf : f_X8_isLaw t_roomMany t_doorMany p1 = some rr) : CI l yX8_isLaw wsX8_isLaw rmX8_isLaw [.ref t_q, .int p1] g sz [oX8 t_q t_state_q t_roomMany t_doorMany t_stringLong t_laws_q t_lawMany t_readPage_q t_readLaws_q t_readRooms t_readDoors t_readString t_readLawMany t_toldOnce t_highRoom t_highDoor t_tape_q t_taped t_fault t_broken t_brokenAt t_spot t_here t_token t_value t_cuts_q t_letters_q t_work_q t_pages_q t_canBe_q t_leadsOn_q t_seen_q t_seenMany t_heard_q t_heardMany t_isKept_q t_lanes_q t_lengths_q t_cells_q t_torn] [oX8 t_q t_state_q t_roomMany t_doorMany t_stringLong t_laws_q t_lawMany t_readPage_q t_readLaws_q t_readRooms t_readDoors t_readString t_readLawMany t_toldOnce t_highRoom t_highDoor t_tape_q t_taped t_fault t_broken t_brokenAt t_spot t_here t_token t_value t_cuts_q t_letters_q t_work_q t_pages_q t_canBe_q t_leadsOn_q t_seen_q t_seenMany t_heard_q t_heardMany t_isKept_q t_lanes_q t_lengths_q t_cells_q t_torn] rr := by
  refine ent_z (cc := cX8_isLaw) (maxL := 4) (by decide) rfl (Nat.le_of_ble_eq_true rfl) ?_
  intro p e s m args below meth c A Q hx hb hml hown hts hK hz hk hA hD hP hS hret ls hl
  have hown : s.vm.findClass RX8 = some m.cls := hown
  have inX8 : ∀ w ∈ u_ws RX8 TX8 39, w ∈ wsX8_isLaw := by decide +kernel
  have k13 := hts (.fieldLink RX8 13 "ThreadMovedModel" "roomMany" "I") (by decide +kernel)
  have hl : lv_has ls 4 [(0, .ref t_q), (1, .int p1)] := hl
  have hret : ∀ (rrz : Int32), rrz = rr → narrow .boolean (.int rrz) = .int rrz → ∀ (H : Heap) (locs : List Loc) (pc : Nat) (ls : Array Slot), va_P g.1 vwCl [oX8 t_q t_state_q t_roomMany t_doorMany t_stringLong t_laws_q t_lawMany t_readPage_q t_readLaws_q t_readRooms t_readDoors t_readString t_readLawMany t_toldOnce t_highRoom t_highDoor t_tape_q t_taped t_fault t_broken t_brokenAt t_spot t_here t_token t_value t_cuts_q t_letters_q t_work_q t_pages_q t_canBe_q t_leadsOn_q t_seen_q t_seenMany t_heard_q t_heardMany t_isKept_q t_lanes_q t_lengths_q t_cells_q t_torn] H → va_S A s.heap H locs → decode cX8_isLaw pc = .ok (.ireturn, 1) → W p l e rmX8_isLaw s m args below meth c H locs 0 0 Q (F0 m pc ls [.int rrz]) := by
    intro rrz he hzz H locs pc ls hP hS hd
    cases he
    exact hret H locs pc ls hzz hP hS hd
  unfold f_X8_isLaw at hf
  refine lv_iload_n hx hb dX8_isLaw_0 rfl (lv_at hl 1 rfl) ?_
  refine lv_bipush (v := (10 : Int32)) hx hb dX8_isLaw_1 (by decide) ?_
  refine lv_idiv hx hb dX8_isLaw_3 (by decide) ?_
  refine lv_bipush (v := (10 : Int32)) hx hb dX8_isLaw_4 (by decide) ?_
  refine lv_irem hx hb dX8_isLaw_6 (by decide) ?_
  obtain ⟨v2_1, ev2_1, hf⟩ := bnd_e hf
  refine tp_i ev2_1 ?_
  refine lv_istore_n (lv' := [(2, .int v2_1), (0, .ref t_q), (1, .int p1)]) hx hb dX8_isLaw_7 rfl hl (by decide) rfl (fun ls hl => ?_)
  refine lv_iload_n hx hb dX8_isLaw_8 rfl (lv_at hl 2 rfl) ?_
  refine lv_bipush (v := (10 : Int32)) hx hb dX8_isLaw_9 (by decide) ?_
  refine lv_irem hx hb dX8_isLaw_11 (by decide) ?_
  obtain ⟨v3_2, ev3_2, hf⟩ := bnd_e hf
  refine tp_i ev3_2 ?_
  refine lv_istore_n (lv' := [(3, .int v3_2), (2, .int v2_1), (0, .ref t_q), (1, .int p1)]) hx hb dX8_isLaw_12 rfl hl (by decide) rfl (fun ls hl => ?_)
  refine lv_iload_n hx hb dX8_isLaw_13 rfl (lv_at hl 3 rfl) ?_
  refine lv_bipush (v := (100 : Int32)) hx hb dX8_isLaw_14 (by decide) ?_
  refine lv_icmp_ge (tgt := 48) hx hb dX8_isLaw_16 (by decide) (fun c_3 => ?_) (fun c_3 => ?_)
  · have hf := ite_t hf c_3
    refine lv_iload_n hx hb dX8_isLaw_48 rfl (lv_at hl 3 rfl) ?_
    refine lv_sipush (v := (200 : Int32)) hx hb dX8_isLaw_49 (by decide) ?_
    refine lv_icmp_ge (tgt := 87) hx hb dX8_isLaw_52 (by decide) (fun c_4 => ?_) (fun c_4 => ?_)
    · have hf := ite_t hf c_4
      refine lv_aload_n hx hb dX8_isLaw_87 rfl (lv_at hl 2 rfl) ?_
      refine lv_iload_n hx hb dX8_isLaw_88 rfl (lv_at hl 0 rfl) ?_
      obtain ⟨r_5, hc_6, hf⟩ := ob1_e hf
      refine kV_i (wn := [oX8 t_q t_state_q t_roomMany t_doorMany t_stringLong t_laws_q t_lawMany t_readPage_q t_readLaws_q t_readRooms t_readDoors t_readString t_readLawMany t_toldOnce t_highRoom t_highDoor t_tape_q t_taped t_fault t_broken t_brokenAt t_spot t_here t_token t_value t_cuts_q t_letters_q t_work_q t_pages_q t_canBe_q t_leadsOn_q t_seen_q t_seenMany t_heard_q t_heardMany t_isKept_q t_lanes_q t_lengths_q t_cells_q t_torn]) (As := [.int v3_2]) (rest := []) (c_X8_isDoor l g _ t_q t_state_q t_laws_q t_readPage_q t_readLaws_q t_tape_q t_cuts_q t_letters_q t_work_q t_pages_q t_canBe_q t_leadsOn_q t_seen_q t_heard_q t_isKept_q t_lanes_q t_lengths_q t_cells_q t_roomMany t_doorMany t_stringLong t_lawMany t_readRooms t_readDoors t_readString t_readLawMany t_toldOnce t_highRoom t_highDoor t_taped t_fault t_broken t_brokenAt t_spot t_here t_token t_value t_seenMany t_heardMany t_torn v3_2 r_5 hc_6) ⟨hx, hb, hml, hown, hts⟩ (cwV 1 hts gX8_isLaw_X8_isDoor rfl rfl rfl (by decide +kernel) ⟨by decide, by decide⟩) hK hz hk hP (hD.re rfl) hS hA [0] rfl rfl rfl rfl rfl rfl rfl hl.1 rfl (Nat.le_of_ble_eq_true rfl) dX8_isLaw_89 (fun H locs hP hS => ?_)
      obtain ⟨b_7, hf⟩ := gbl_e hf
      exact hret r_5 (Option.some.inj hf) (bl_n b_7) _ _ _ _ hP hS dX8_isLaw_92
    · have hf := ite_f hf c_4
      refine lv_aload_n hx hb dX8_isLaw_55 rfl (lv_at hl 2 rfl) ?_
      refine lv_iload_n hx hb dX8_isLaw_56 rfl (lv_at hl 1 rfl) ?_
      obtain ⟨r_8, hc_9, hf⟩ := ob1_e hf
      refine kV_i (wn := [oX8 t_q t_state_q t_roomMany t_doorMany t_stringLong t_laws_q t_lawMany t_readPage_q t_readLaws_q t_readRooms t_readDoors t_readString t_readLawMany t_toldOnce t_highRoom t_highDoor t_tape_q t_taped t_fault t_broken t_brokenAt t_spot t_here t_token t_value t_cuts_q t_letters_q t_work_q t_pages_q t_canBe_q t_leadsOn_q t_seen_q t_seenMany t_heard_q t_heardMany t_isKept_q t_lanes_q t_lengths_q t_cells_q t_torn]) (As := [.int v2_1]) (rest := []) (c_X8_isDoor l g _ t_q t_state_q t_laws_q t_readPage_q t_readLaws_q t_tape_q t_cuts_q t_letters_q t_work_q t_pages_q t_canBe_q t_leadsOn_q t_seen_q t_heard_q t_isKept_q t_lanes_q t_lengths_q t_cells_q t_roomMany t_doorMany t_stringLong t_lawMany t_readRooms t_readDoors t_readString t_readLawMany t_toldOnce t_highRoom t_highDoor t_taped t_fault t_broken t_brokenAt t_spot t_here t_token t_value t_seenMany t_heardMany t_torn v2_1 r_8 hc_9) ⟨hx, hb, hml, hown, hts⟩ (cwV 1 hts gX8_isLaw_X8_isDoor rfl rfl rfl (by decide +kernel) ⟨by decide, by decide⟩) hK hz hk hP (hD.re rfl) hS hA [0] rfl rfl rfl rfl rfl rfl rfl hl.1 rfl (Nat.le_of_ble_eq_true rfl) dX8_isLaw_57 (fun H locs hP hS => ?_)
      refine lv_if_eq (tgt := 83) hx hb dX8_isLaw_60 (by decide) (fun c_10 => ?_) (fun c_10 => ?_)
      · have hf := ite_t hf c_10
        refine lv_iconst (v := (0 : Int32)) hx hb dX8_isLaw_83 (by decide) ?_
        refine lv_goto (tgt := 92) hx hb dX8_isLaw_84 (by decide) ?_
        exact hret (0 : Int32) (Option.some.inj hf) rfl _ _ _ _ hP hS dX8_isLaw_92
      · have hf := ite_f hf c_10
        refine lv_iload_n hx hb dX8_isLaw_63 rfl (lv_at hl 0 rfl) ?_
        refine lv_i2l hx hb dX8_isLaw_64 rfl ?_
        refine lv_lconst (v := (1 : Int64)) hx hb dX8_isLaw_65 (by decide) ?_
        refine lv_aload_n hx hb dX8_isLaw_66 rfl (lv_at hl 2 rfl) ?_
        refine va_get (D := g.1) (ci := 8) (v := .int t_roomMany) (C := RX8) (T := TX8) (N := 39) hx hb hts inX8 hown hK hP 0 rfl rfl 1 (by decide) k13 (fun _ h9 => h9) rfl dX8_isLaw_67 ?_
        refine lv_iconst (v := (1 : Int32)) hx hb dX8_isLaw_70 (by decide) ?_
        refine lv_isub hx hb dX8_isLaw_71 ?_
        refine lv_i2l hx hb dX8_isLaw_72 rfl ?_
        obtain ⟨r_11, hc_12, hf⟩ := ob1_e hf
        refine kS_i (wn := [oX8 t_q t_state_q t_roomMany t_doorMany t_stringLong t_laws_q t_lawMany t_readPage_q t_readLaws_q t_readRooms t_readDoors t_readString t_readLawMany t_toldOnce t_highRoom t_highDoor t_tape_q t_taped t_fault t_broken t_brokenAt t_spot t_here t_token t_value t_cuts_q t_letters_q t_work_q t_pages_q t_canBe_q t_leadsOn_q t_seen_q t_seenMany t_heard_q t_heardMany t_isKept_q t_lanes_q t_lengths_q t_cells_q t_torn]) (As := [.long (v3_2.toInt64), .long (1 : Int64), .long ((t_roomMany - (1 : Int32)).toInt64)]) (rest := []) (c_X8_in l g _ (v3_2.toInt64) (1 : Int64) ((t_roomMany - (1 : Int32)).toInt64) r_11 hc_12) ⟨hx, hb, hml, hown, hts⟩ (va_cwS 3 hts gX8_isLaw_X8_in rfl rfl rfl (by decide +kernel) ⟨by decide, by decide⟩) hK hz hk hP (hD.re rfl) hS hA [] rfl rfl rfl rfl rfl hl.1 rfl (Nat.le_of_ble_eq_true rfl) dX8_isLaw_73 (fun H locs hP hS => ?_)
        refine lv_if_eq (tgt := 83) hx hb dX8_isLaw_76 (by decide) (fun c_13 => ?_) (fun c_13 => ?_)
        · have hf := ite_t hf c_13
          refine lv_iconst (v := (0 : Int32)) hx hb dX8_isLaw_83 (by decide) ?_
          refine lv_goto (tgt := 92) hx hb dX8_isLaw_84 (by decide) ?_
          exact hret (0 : Int32) (Option.some.inj hf) rfl _ _ _ _ hP hS dX8_isLaw_92
        · have hf := ite_f hf c_13
          refine lv_iconst (v := (1 : Int32)) hx hb dX8_isLaw_79 (by decide) ?_
          refine lv_goto (tgt := 92) hx hb dX8_isLaw_80 (by decide) ?_
          exact hret (1 : Int32) (Option.some.inj hf) rfl _ _ _ _ hP hS dX8_isLaw_92
  · have hf := ite_f hf c_3
    refine lv_aload_n hx hb dX8_isLaw_19 rfl (lv_at hl 2 rfl) ?_
    refine lv_iload_n hx hb dX8_isLaw_20 rfl (lv_at hl 1 rfl) ?_
    obtain ⟨r_14, hc_15, hf⟩ := ob1_e hf
    refine kV_i (wn := [oX8 t_q t_state_q t_roomMany t_doorMany t_stringLong t_laws_q t_lawMany t_readPage_q t_readLaws_q t_readRooms t_readDoors t_readString t_readLawMany t_toldOnce t_highRoom t_highDoor t_tape_q t_taped t_fault t_broken t_brokenAt t_spot t_here t_token t_value t_cuts_q t_letters_q t_work_q t_pages_q t_canBe_q t_leadsOn_q t_seen_q t_seenMany t_heard_q t_heardMany t_isKept_q t_lanes_q t_lengths_q t_cells_q t_torn]) (As := [.int v2_1]) (rest := []) (c_X8_isDoor l g _ t_q t_state_q t_laws_q t_readPage_q t_readLaws_q t_tape_q t_cuts_q t_letters_q t_work_q t_pages_q t_canBe_q t_leadsOn_q t_seen_q t_heard_q t_isKept_q t_lanes_q t_lengths_q t_cells_q t_roomMany t_doorMany t_stringLong t_lawMany t_readRooms t_readDoors t_readString t_readLawMany t_toldOnce t_highRoom t_highDoor t_taped t_fault t_broken t_brokenAt t_spot t_here t_token t_value t_seenMany t_heardMany t_torn v2_1 r_14 hc_15) ⟨hx, hb, hml, hown, hts⟩ (cwV 1 hts gX8_isLaw_X8_isDoor rfl rfl rfl (by decide +kernel) ⟨by decide, by decide⟩) hK hz hk hP (hD.re rfl) hS hA [0] rfl rfl rfl rfl rfl rfl rfl hl.1 rfl (Nat.le_of_ble_eq_true rfl) dX8_isLaw_21 (fun H locs hP hS => ?_)
    refine lv_if_eq (tgt := 44) hx hb dX8_isLaw_24 (by decide) (fun c_16 => ?_) (fun c_16 => ?_)
    · have hf := ite_t hf c_16
      refine lv_iconst (v := (0 : Int32)) hx hb dX8_isLaw_44 (by decide) ?_
      refine lv_goto (tgt := 92) hx hb dX8_isLaw_45 (by decide) ?_
      exact hret (0 : Int32) (Option.some.inj hf) rfl _ _ _ _ hP hS dX8_isLaw_92
    · have hf := ite_f hf c_16
      refine lv_aload_n hx hb dX8_isLaw_27 rfl (lv_at hl 2 rfl) ?_
      refine lv_iload_n hx hb dX8_isLaw_28 rfl (lv_at hl 0 rfl) ?_
      obtain ⟨r_17, hc_18, hf⟩ := ob1_e hf
      refine kV_i (wn := [oX8 t_q t_state_q t_roomMany t_doorMany t_stringLong t_laws_q t_lawMany t_readPage_q t_readLaws_q t_readRooms t_readDoors t_readString t_readLawMany t_toldOnce t_highRoom t_highDoor t_tape_q t_taped t_fault t_broken t_brokenAt t_spot t_here t_token t_value t_cuts_q t_letters_q t_work_q t_pages_q t_canBe_q t_leadsOn_q t_seen_q t_seenMany t_heard_q t_heardMany t_isKept_q t_lanes_q t_lengths_q t_cells_q t_torn]) (As := [.int v3_2]) (rest := []) (c_X8_isDoor l g _ t_q t_state_q t_laws_q t_readPage_q t_readLaws_q t_tape_q t_cuts_q t_letters_q t_work_q t_pages_q t_canBe_q t_leadsOn_q t_seen_q t_heard_q t_isKept_q t_lanes_q t_lengths_q t_cells_q t_roomMany t_doorMany t_stringLong t_lawMany t_readRooms t_readDoors t_readString t_readLawMany t_toldOnce t_highRoom t_highDoor t_taped t_fault t_broken t_brokenAt t_spot t_here t_token t_value t_seenMany t_heardMany t_torn v3_2 r_17 hc_18) ⟨hx, hb, hml, hown, hts⟩ (cwV 1 hts gX8_isLaw_X8_isDoor rfl rfl rfl (by decide +kernel) ⟨by decide, by decide⟩) hK hz hk hP (hD.re rfl) hS hA [0] rfl rfl rfl rfl rfl rfl rfl hl.1 rfl (Nat.le_of_ble_eq_true rfl) dX8_isLaw_29 (fun H locs hP hS => ?_)
      refine lv_if_eq (tgt := 44) hx hb dX8_isLaw_32 (by decide) (fun c_19 => ?_) (fun c_19 => ?_)
      · have hf := ite_t hf c_19
        refine lv_iconst (v := (0 : Int32)) hx hb dX8_isLaw_44 (by decide) ?_
        refine lv_goto (tgt := 92) hx hb dX8_isLaw_45 (by decide) ?_
        exact hret (0 : Int32) (Option.some.inj hf) rfl _ _ _ _ hP hS dX8_isLaw_92
      · have hf := ite_f hf c_19
        refine lv_iload_n hx hb dX8_isLaw_35 rfl (lv_at hl 1 rfl) ?_
        refine lv_iload_n hx hb dX8_isLaw_36 rfl (lv_at hl 0 rfl) ?_
        refine lv_icmp_ge (tgt := 44) hx hb dX8_isLaw_37 (by decide) (fun c_20 => ?_) (fun c_20 => ?_)
        · have hf := ite_t hf c_20
          refine lv_iconst (v := (0 : Int32)) hx hb dX8_isLaw_44 (by decide) ?_
          refine lv_goto (tgt := 92) hx hb dX8_isLaw_45 (by decide) ?_
          exact hret (0 : Int32) (Option.some.inj hf) rfl _ _ _ _ hP hS dX8_isLaw_92
        · have hf := ite_f hf c_20
          refine lv_iconst (v := (1 : Int32)) hx hb dX8_isLaw_40 (by decide) ?_
          refine lv_goto (tgt := 92) hx hb dX8_isLaw_41 (by decide) ?_
          exact hret (1 : Int32) (Option.some.inj hf) rfl _ _ _ _ hP hS dX8_isLaw_92

def b_X8_isLawSo_8 (t_roomMany : Int32) (t_seenMany : Int32) (t_seen : Nat → Int32) (t_state : Nat → Int32) (p1 : Int32) (v2_3 : Int32) (v3_4 : Int32) (t_work_5 : Nat → Int32) : Option ((Int32 × Int32 × (Nat → Int32)) ⊕ (Int32 × Int32 × (Nat → Int32))) :=
 (if t_seenMany ≤ v3_4 then
 (some (.inr (v2_3, v3_4, t_work_5)))
 else (if v2_3 = (0 : Int32) then
 (some (.inr (v2_3, v3_4, t_work_5)))
 else (gin ((3 : Int32) * v3_4) 18 (ob1 (f_X8_dusksBy t_roomMany t_state t_work_5 p1 (t_seen ((3 : Int32) * v3_4).toNatClampNeg)) (fun t_work_10 =>
 (gin (((3 : Int32) * v3_4) + (1 : Int32)) 18 (gin (((3 : Int32) * (t_seen (((3 : Int32) * v3_4) + (1 : Int32)).toNatClampNeg)) + (1 : Int32)) 30 (gin (((3 : Int32) * v3_4) + (2 : Int32)) 18 (jn1 (fun (s_15 : Int32) => (bnd (v3_4 + (1 : Int32)) (fun v3_17 =>
 (some (.inl (s_15, v3_17, t_work_10)))))) (fun j_16 =>
 (if (t_work_10 (((3 : Int32) * (t_seen (((3 : Int32) * v3_4) + (1 : Int32)).toNatClampNeg)) + (1 : Int32)).toNatClampNeg) = (t_seen (((3 : Int32) * v3_4) + (2 : Int32)).toNatClampNeg) then
 (j_16 (1 : Int32))
 else (j_16 (0 : Int32)))))))))))))
def f_X8_isLawSo (t_roomMany : Int32) (t_doorMany : Int32) (t_seenMany : Int32) (t_seen : Nat → Int32) (t_state : Nat → Int32) (t_work : Nat → Int32) (p1 : Int32) : Option (Int32 × (Nat → Int32)) :=
 (ob1 (f_X8_isLaw t_roomMany t_doorMany p1) (fun r_1 =>
 (ob3 (itr (un3 (b_X8_isLawSo_8 t_roomMany t_seenMany t_seen t_state p1)) FU (r_1, (0 : Int32), t_work)) (fun x2_19 x3_20 t_work_21 =>
 (gbl x2_19 (some (x2_19, t_work_21)))))))
abbrev rmX8_isLawSo : Room := { frames := 3, cells := 0, slots := 0, locals := 69 }
set_option maxHeartbeats 4000000 in
set_option maxRecDepth 100000 in
theorem c_X8_isLawSo (l : Launch) (g : Gh) (sz : Nat) (t_q t_state_q t_laws_q t_readPage_q t_readLaws_q t_tape_q t_cuts_q t_letters_q t_work_q t_pages_q t_canBe_q t_leadsOn_q t_seen_q t_heard_q t_isKept_q t_lanes_q t_lengths_q t_cells_q : Nat) (t_roomMany : Int32) (t_doorMany : Int32) (t_stringLong : Int32) (t_lawMany : Int32) (t_readRooms : Int32) (t_readDoors : Int32) (t_readString : Int32) (t_readLawMany : Int32) (t_toldOnce : Int32) (t_highRoom : Int32) (t_highDoor : Int32) (t_taped : Int32) (t_fault : Int32) (t_broken : Int32) (t_brokenAt : Int32) (t_spot : Int32) (t_here : Int32) (t_token : Int32) (t_value : Int32) (t_seenMany : Int32) (t_heardMany : Int32) (t_torn : Int32) (t_seen : Nat → Int32) (t_state : Nat → Int32) (t_work : Nat → Int32) (p1 : Int32) (rr : Int32) (t_work' : Nat → Int32) (hf : f_X8_isLawSo t_roomMany t_doorMany t_seenMany t_seen t_state t_work p1 = some (rr, t_work')) : CI l yX8_isLawSo wsX8_isLawSo rmX8_isLawSo [.ref t_q, .int p1] g sz [oX8 t_q t_state_q t_roomMany t_doorMany t_stringLong t_laws_q t_lawMany t_readPage_q t_readLaws_q t_readRooms t_readDoors t_readString t_readLawMany t_toldOnce t_highRoom t_highDoor t_tape_q t_taped t_fault t_broken t_brokenAt t_spot t_here t_token t_value t_cuts_q t_letters_q t_work_q t_pages_q t_canBe_q t_leadsOn_q t_seen_q t_seenMany t_heard_q t_heardMany t_isKept_q t_lanes_q t_lengths_q t_cells_q t_torn, aI g t_seen_q 18 t_seen, aI g t_state_q 196 t_state, aI g t_work_q 30 t_work] [oX8 t_q t_state_q t_roomMany t_doorMany t_stringLong t_laws_q t_lawMany t_readPage_q t_readLaws_q t_readRooms t_readDoors t_readString t_readLawMany t_toldOnce t_highRoom t_highDoor t_tape_q t_taped t_fault t_broken t_brokenAt t_spot t_here t_token t_value t_cuts_q t_letters_q t_work_q t_pages_q t_canBe_q t_leadsOn_q t_seen_q t_seenMany t_heard_q t_heardMany t_isKept_q t_lanes_q t_lengths_q t_cells_q t_torn, aI g t_seen_q 18 t_seen, aI g t_state_q 196 t_state, aI g t_work_q 30 t_work'] rr := by
  refine ent_z (cc := cX8_isLawSo) (maxL := 4) (by decide) rfl (Nat.le_of_ble_eq_true rfl) ?_
  intro p e s m args below meth c A Q hx hb hml hown hts hK hz hk hA hD hP hS hret ls hl
  have hown : s.vm.findClass RX8 = some m.cls := hown
  have inX8 : ∀ w ∈ u_ws RX8 TX8 39, w ∈ wsX8_isLawSo := by decide +kernel
  have k38 := hts (.fieldLink RX8 38 "ThreadMovedModel" "work" "[I") (by decide +kernel)
  have k50 := hts (.fieldLink RX8 50 "ThreadMovedModel" "seen" "[I") (by decide +kernel)
  have k181 := hts (.fieldLink RX8 181 "ThreadMovedModel" "seenMany" "I") (by decide +kernel)
  have hl : lv_has ls 4 [(0, .ref t_q), (1, .int p1)] := hl
  have hret : ∀ (rrz : Int32) (t_workz : Nat → Int32), (rrz, t_workz) = (rr, t_work') → narrow .boolean (.int rrz) = .int rrz → ∀ (H : Heap) (locs : List Loc) (pc : Nat) (ls : Array Slot), va_P g.1 vwCl [oX8 t_q t_state_q t_roomMany t_doorMany t_stringLong t_laws_q t_lawMany t_readPage_q t_readLaws_q t_readRooms t_readDoors t_readString t_readLawMany t_toldOnce t_highRoom t_highDoor t_tape_q t_taped t_fault t_broken t_brokenAt t_spot t_here t_token t_value t_cuts_q t_letters_q t_work_q t_pages_q t_canBe_q t_leadsOn_q t_seen_q t_seenMany t_heard_q t_heardMany t_isKept_q t_lanes_q t_lengths_q t_cells_q t_torn, aI g t_seen_q 18 t_seen, aI g t_state_q 196 t_state, aI g t_work_q 30 t_workz] H → va_S A s.heap H locs → decode cX8_isLawSo pc = .ok (.ireturn, 1) → W p l e rmX8_isLawSo s m args below meth c H locs 0 0 Q (F0 m pc ls [.int rrz]) := by
    intro rrz t_workz he hzz H locs pc ls hP hS hd
    cases he
    exact hret H locs pc ls hzz hP hS hd
  unfold f_X8_isLawSo at hf
  refine lv_aload_n hx hb dX8_isLawSo_0 rfl (lv_at hl 0 rfl) ?_
  refine lv_iload_n hx hb dX8_isLawSo_1 rfl (lv_at hl 1 rfl) ?_
  obtain ⟨r_1, hc_2, hf⟩ := ob1_e hf
  refine kV_i (wn := [oX8 t_q t_state_q t_roomMany t_doorMany t_stringLong t_laws_q t_lawMany t_readPage_q t_readLaws_q t_readRooms t_readDoors t_readString t_readLawMany t_toldOnce t_highRoom t_highDoor t_tape_q t_taped t_fault t_broken t_brokenAt t_spot t_here t_token t_value t_cuts_q t_letters_q t_work_q t_pages_q t_canBe_q t_leadsOn_q t_seen_q t_seenMany t_heard_q t_heardMany t_isKept_q t_lanes_q t_lengths_q t_cells_q t_torn, aI g t_seen_q 18 t_seen, aI g t_state_q 196 t_state, aI g t_work_q 30 t_work]) (As := [.int p1]) (rest := []) (c_X8_isLaw l g _ t_q t_state_q t_laws_q t_readPage_q t_readLaws_q t_tape_q t_cuts_q t_letters_q t_work_q t_pages_q t_canBe_q t_leadsOn_q t_seen_q t_heard_q t_isKept_q t_lanes_q t_lengths_q t_cells_q t_roomMany t_doorMany t_stringLong t_lawMany t_readRooms t_readDoors t_readString t_readLawMany t_toldOnce t_highRoom t_highDoor t_taped t_fault t_broken t_brokenAt t_spot t_here t_token t_value t_seenMany t_heardMany t_torn p1 r_1 hc_2) ⟨hx, hb, hml, hown, hts⟩ (cwV 1 hts gX8_isLawSo_X8_isLaw rfl rfl rfl (by decide +kernel) ⟨by decide, by decide⟩) hK hz hk hP (hD.re rfl) hS hA [0] rfl rfl rfl rfl rfl rfl rfl hl.1 rfl (Nat.le_of_ble_eq_true rfl) dX8_isLawSo_2 (fun H locs hP hS => ?_)
  refine lv_istore_n (lv' := [(2, .int r_1), (0, .ref t_q), (1, .int p1)]) hx hb dX8_isLawSo_5 rfl hl (by decide) rfl (fun ls hl => ?_)
  refine lv_iconst (v := (0 : Int32)) hx hb dX8_isLawSo_6 (by decide) ?_
  refine lv_istore_n (lv' := [(3, .int (0 : Int32)), (2, .int r_1), (0, .ref t_q), (1, .int p1)]) hx hb dX8_isLawSo_7 rfl hl (by decide) rfl (fun ls hl => ?_)
  obtain ⟨x2_19, x3_20, t_work_21, ho_6, hf⟩ := ob3_e hf
  have K_6 : ∀ (x2_19y : Int32) (x3_20y : Int32) (t_work_21y : Nat → Int32), x2_19 = x2_19y → x3_20 = x3_20y → t_work_21 = t_work_21y → ∀ (H : Heap) (locs : List Loc) (ls : Array Slot), va_P g.1 vwCl [oX8 t_q t_state_q t_roomMany t_doorMany t_stringLong t_laws_q t_lawMany t_readPage_q t_readLaws_q t_readRooms t_readDoors t_readString t_readLawMany t_toldOnce t_highRoom t_highDoor t_tape_q t_taped t_fault t_broken t_brokenAt t_spot t_here t_token t_value t_cuts_q t_letters_q t_work_q t_pages_q t_canBe_q t_leadsOn_q t_seen_q t_seenMany t_heard_q t_heardMany t_isKept_q t_lanes_q t_lengths_q t_cells_q t_torn, aI g t_seen_q 18 t_seen, aI g t_state_q 196 t_state, aI g t_work_q 30 t_work_21y] H → va_S A s.heap H locs → lv_has ls 4 [(2, .int x2_19y)] → W p l e rmX8_isLawSo s m args below meth c H locs 0 0 Q (F0 m 77 ls []) := by
    intro x2_19y x3_20y t_work_21y ey0 ey1 ey2 H locs ls hP hS hl
    subst ey0
    subst ey1
    subst ey2
    refine lv_iload_n hx hb dX8_isLawSo_77 rfl (lv_at hl 0 rfl) ?_
    obtain ⟨b_22, hf⟩ := gbl_e hf
    exact hret x2_19 t_work_21 (Option.some.inj hf) (bl_n b_22) _ _ _ _ hP hS dX8_isLawSo_78
  have L_6 : ∀ (n : Nat) (v2_3 : Int32) (v3_4 : Int32) (t_work_5 : Nat → Int32), itr (un3 (b_X8_isLawSo_8 t_roomMany t_seenMany t_seen t_state p1)) n (v2_3, v3_4, t_work_5) = some (x2_19, x3_20, t_work_21) → ∀ (H : Heap) (locs : List Loc) (ls : Array Slot), va_P g.1 vwCl [oX8 t_q t_state_q t_roomMany t_doorMany t_stringLong t_laws_q t_lawMany t_readPage_q t_readLaws_q t_readRooms t_readDoors t_readString t_readLawMany t_toldOnce t_highRoom t_highDoor t_tape_q t_taped t_fault t_broken t_brokenAt t_spot t_here t_token t_value t_cuts_q t_letters_q t_work_q t_pages_q t_canBe_q t_leadsOn_q t_seen_q t_seenMany t_heard_q t_heardMany t_isKept_q t_lanes_q t_lengths_q t_cells_q t_torn, aI g t_seen_q 18 t_seen, aI g t_state_q 196 t_state, aI g t_work_q 30 t_work_5] H → va_S A s.heap H locs → lv_has ls 4 [(0, .ref t_q), (1, .int p1), (2, .int v2_3), (3, .int v3_4)] → W p l e rmX8_isLawSo s m args below meth c H locs 0 0 Q (F0 m 8 ls []) := by
    refine itr_ind3 ?_
    intro v2_3 v3_4 t_work_5 z_6 hf hrec hex H locs ls hP hS hl
    unfold b_X8_isLawSo_8 at hf
    refine lv_iload_n hx hb dX8_isLawSo_8 rfl (lv_at hl 3 rfl) ?_
    refine lv_aload_n hx hb dX8_isLawSo_9 rfl (lv_at hl 0 rfl) ?_
    refine va_get (D := g.1) (ci := 8) (v := .int t_seenMany) (C := RX8) (T := TX8) (N := 39) hx hb hts inX8 hown hK hP 0 rfl rfl 31 (by decide) k181 (fun _ h9 => h9) rfl dX8_isLawSo_10 ?_
    refine lv_icmp_ge (tgt := 77) hx hb dX8_isLawSo_13 (by decide) (fun c_7 => ?_) (fun c_7 => ?_)
    · have hf := ite_t hf c_7
      exact K_6 v2_3 v3_4 t_work_5 (congrArg (fun t => t.1) (hex _ (Option.some.inj hf).symm).symm) (congrArg (fun t => t.2.1) (hex _ (Option.some.inj hf).symm).symm) (congrArg (fun t => t.2.2) (hex _ (Option.some.inj hf).symm).symm) _ _ _ hP hS (lv_sub hl [2] rfl)
    · have hf := ite_f hf c_7
      refine lv_iload_n hx hb dX8_isLawSo_16 rfl (lv_at hl 2 rfl) ?_
      refine lv_if_eq (tgt := 77) hx hb dX8_isLawSo_17 (by decide) (fun c_8 => ?_) (fun c_8 => ?_)
      · have hf := ite_t hf c_8
        exact K_6 v2_3 v3_4 t_work_5 (congrArg (fun t => t.1) (hex _ (Option.some.inj hf).symm).symm) (congrArg (fun t => t.2.1) (hex _ (Option.some.inj hf).symm).symm) (congrArg (fun t => t.2.2) (hex _ (Option.some.inj hf).symm).symm) _ _ _ hP hS (lv_sub hl [2] rfl)
      · have hf := ite_f hf c_8
        refine lv_aload_n hx hb dX8_isLawSo_20 rfl (lv_at hl 0 rfl) ?_
        refine lv_iload_n hx hb dX8_isLawSo_21 rfl (lv_at hl 1 rfl) ?_
        refine lv_aload_n hx hb dX8_isLawSo_22 rfl (lv_at hl 0 rfl) ?_
        refine va_get (D := g.1) (ci := 8) (v := .ref t_seen_q) (C := RX8) (T := TX8) (N := 39) hx hb hts inX8 hown hK hP 0 rfl rfl 30 (by decide) k50 (fun _ h9 => h9) rfl dX8_isLawSo_23 ?_
        refine lv_iconst (v := (3 : Int32)) hx hb dX8_isLawSo_26 (by decide) ?_
        refine lv_iload_n hx hb dX8_isLawSo_27 rfl (lv_at hl 3 rfl) ?_
        refine lv_imul hx hb dX8_isLawSo_28 ?_
        obtain ⟨h_9, hf⟩ := gin_e hf
        refine va_iald hx hb hK hP 1 0 rfl rfl h_9 dX8_isLawSo_29 ?_
        obtain ⟨t_work_10, hc_11, hf⟩ := ob1_e hf
        refine kV_v (wn := [oX8 t_q t_state_q t_roomMany t_doorMany t_stringLong t_laws_q t_lawMany t_readPage_q t_readLaws_q t_readRooms t_readDoors t_readString t_readLawMany t_toldOnce t_highRoom t_highDoor t_tape_q t_taped t_fault t_broken t_brokenAt t_spot t_here t_token t_value t_cuts_q t_letters_q t_work_q t_pages_q t_canBe_q t_leadsOn_q t_seen_q t_seenMany t_heard_q t_heardMany t_isKept_q t_lanes_q t_lengths_q t_cells_q t_torn, aI g t_seen_q 18 t_seen, aI g t_state_q 196 t_state, aI g t_work_q 30 t_work_10]) (As := [.int p1, .int (t_seen ((3 : Int32) * v3_4).toNatClampNeg)]) (rest := []) (c_X8_dusksBy l g _ t_q t_state_q t_laws_q t_readPage_q t_readLaws_q t_tape_q t_cuts_q t_letters_q t_work_q t_pages_q t_canBe_q t_leadsOn_q t_seen_q t_heard_q t_isKept_q t_lanes_q t_lengths_q t_cells_q t_roomMany t_doorMany t_stringLong t_lawMany t_readRooms t_readDoors t_readString t_readLawMany t_toldOnce t_highRoom t_highDoor t_taped t_fault t_broken t_brokenAt t_spot t_here t_token t_value t_seenMany t_heardMany t_torn t_state t_work_5 p1 (t_seen ((3 : Int32) * v3_4).toNatClampNeg) t_work_10 hc_11) ⟨hx, hb, hml, hown, hts⟩ (cwV 2 hts gX8_isLawSo_X8_dusksBy rfl rfl rfl (by decide +kernel) ⟨by decide, by decide⟩) hK hz hk hP (hD.re rfl) hS hA [0, 2, 3] rfl rfl rfl rfl rfl rfl rfl hl.1 rfl (Nat.le_of_ble_eq_true rfl) dX8_isLawSo_30 (fun H locs hP hS => ?_)
        refine lv_aload_n hx hb dX8_isLawSo_33 rfl (lv_at hl 0 rfl) ?_
        refine va_get (D := g.1) (ci := 8) (v := .ref t_work_q) (C := RX8) (T := TX8) (N := 39) hx hb hts inX8 hown hK hP 0 rfl rfl 26 (by decide) k38 (fun _ h9 => h9) rfl dX8_isLawSo_34 ?_
        refine lv_iconst (v := (3 : Int32)) hx hb dX8_isLawSo_37 (by decide) ?_
        refine lv_aload_n hx hb dX8_isLawSo_38 rfl (lv_at hl 0 rfl) ?_
        refine va_get (D := g.1) (ci := 8) (v := .ref t_seen_q) (C := RX8) (T := TX8) (N := 39) hx hb hts inX8 hown hK hP 0 rfl rfl 30 (by decide) k50 (fun _ h9 => h9) rfl dX8_isLawSo_39 ?_
        refine lv_iconst (v := (3 : Int32)) hx hb dX8_isLawSo_42 (by decide) ?_
        refine lv_iload_n hx hb dX8_isLawSo_43 rfl (lv_at hl 3 rfl) ?_
        refine lv_imul hx hb dX8_isLawSo_44 ?_
        refine lv_iconst (v := (1 : Int32)) hx hb dX8_isLawSo_45 (by decide) ?_
        refine lv_iadd hx hb dX8_isLawSo_46 ?_
        obtain ⟨h_12, hf⟩ := gin_e hf
        refine va_iald hx hb hK hP 1 0 rfl rfl h_12 dX8_isLawSo_47 ?_
        refine lv_imul hx hb dX8_isLawSo_48 ?_
        refine lv_iconst (v := (1 : Int32)) hx hb dX8_isLawSo_49 (by decide) ?_
        refine lv_iadd hx hb dX8_isLawSo_50 ?_
        obtain ⟨h_13, hf⟩ := gin_e hf
        refine va_iald hx hb hK hP 3 0 rfl rfl h_13 dX8_isLawSo_51 ?_
        refine lv_aload_n hx hb dX8_isLawSo_52 rfl (lv_at hl 0 rfl) ?_
        refine va_get (D := g.1) (ci := 8) (v := .ref t_seen_q) (C := RX8) (T := TX8) (N := 39) hx hb hts inX8 hown hK hP 0 rfl rfl 30 (by decide) k50 (fun _ h9 => h9) rfl dX8_isLawSo_53 ?_
        refine lv_iconst (v := (3 : Int32)) hx hb dX8_isLawSo_56 (by decide) ?_
        refine lv_iload_n hx hb dX8_isLawSo_57 rfl (lv_at hl 3 rfl) ?_
        refine lv_imul hx hb dX8_isLawSo_58 ?_
        refine lv_iconst (v := (2 : Int32)) hx hb dX8_isLawSo_59 (by decide) ?_
        refine lv_iadd hx hb dX8_isLawSo_60 ?_
        obtain ⟨h_14, hf⟩ := gin_e hf
        refine va_iald hx hb hK hP 1 0 rfl rfl h_14 dX8_isLawSo_61 ?_
        obtain ⟨j_16, hj_16, hf⟩ := jn1_e hf
        have J_16 : ∀ (s_15 : Int32), j_16 s_15 = some z_6 → ∀ (H : Heap) (locs : List Loc) (ls : Array Slot), va_P g.1 vwCl [oX8 t_q t_state_q t_roomMany t_doorMany t_stringLong t_laws_q t_lawMany t_readPage_q t_readLaws_q t_readRooms t_readDoors t_readString t_readLawMany t_toldOnce t_highRoom t_highDoor t_tape_q t_taped t_fault t_broken t_brokenAt t_spot t_here t_token t_value t_cuts_q t_letters_q t_work_q t_pages_q t_canBe_q t_leadsOn_q t_seen_q t_seenMany t_heard_q t_heardMany t_isKept_q t_lanes_q t_lengths_q t_cells_q t_torn, aI g t_seen_q 18 t_seen, aI g t_state_q 196 t_state, aI g t_work_q 30 t_work_10] H → va_S A s.heap H locs → lv_has ls 4 [(0, .ref t_q), (1, .int p1), (3, .int v3_4)] → W p l e rmX8_isLawSo s m args below meth c H locs 0 0 Q (F0 m 70 ls [.int s_15]) := by
          intro s_15 hf H locs ls hP hS hl
          rw [hj_16] at hf
          refine lv_istore_n (lv' := [(2, .int s_15), (0, .ref t_q), (1, .int p1), (3, .int v3_4)]) hx hb dX8_isLawSo_70 rfl hl (by decide) rfl (fun ls hl => ?_)
          obtain ⟨v3_17, ev3_17, hf⟩ := bnd_e hf
          refine lv_iinc (v := v3_17) (lv' := [(3, .int v3_17), (2, .int s_15), (0, .ref t_q), (1, .int p1)]) hx hb dX8_isLawSo_71 hl (k := 3) rfl (by rw [ev3_17]; rfl) (by decide) rfl (fun ls hl => ?_)
          refine lv_goto (tgt := 8) hx hb dX8_isLawSo_74 (by decide) ?_
          exact hrec s_15 v3_17 t_work_10 (Option.some.inj hf).symm _ _ _ hP hS (lv_sub hl [2, 3, 1, 0] rfl)
        refine lv_icmp_ne (tgt := 69) hx hb dX8_isLawSo_62 (by decide) (fun c_18 => ?_) (fun c_18 => ?_)
        · have hf := ite_f hf c_18
          refine lv_iconst (v := (0 : Int32)) hx hb dX8_isLawSo_69 (by decide) ?_
          exact J_16 (0 : Int32) hf _ _ _ hP hS (lv_sub hl [0, 1, 3] rfl)
        · have hf := ite_t hf c_18
          refine lv_iconst (v := (1 : Int32)) hx hb dX8_isLawSo_65 (by decide) ?_
          refine lv_goto (tgt := 70) hx hb dX8_isLawSo_66 (by decide) ?_
          exact J_16 (1 : Int32) hf _ _ _ hP hS (lv_sub hl [0, 1, 3] rfl)
  exact L_6 FU r_1 (0 : Int32) t_work ho_6 _ _ _ hP hS (lv_sub hl [2, 3, 1, 0] rfl)

def f_X8_keep (t_isKept : Nat → Int32) (t_state : Nat → Int32) (p1 : Int32) : Option (Int32 × (Nat → Int32) × (Nat → Int32)) :=
 (ob1 (f_X8_in (p1.toInt64) (0 : Int64) (1 : Int64)) (fun r_1 =>
 (if r_1 = (0 : Int32) then
 (some ((-1 : Int32), t_isKept, t_state))
 else (ob1 (f_X8_copies t_state (0 : Int32) ((49 : Int32) * (p1 + (1 : Int32)))) (fun t_state_4 =>
 (gin p1 2 (jn1 (fun (s_7 : Int32) => (gin p1 2 (bnd (upd t_isKept p1.toNatClampNeg (vp_nar .boolean (1 : Int32))) (fun t_isKept_10 =>
 (some (s_7, t_isKept_10, t_state_4)))))) (fun j_8 =>
 (if (t_isKept p1.toNatClampNeg) = (0 : Int32) then
 (j_8 (0 : Int32))
 else (j_8 (1 : Int32)))))))))))
abbrev rmX8_keep : Room := { frames := 1, cells := 0, slots := 0, locals := 25 }
set_option maxHeartbeats 4000000 in
set_option maxRecDepth 100000 in
theorem c_X8_keep (l : Launch) (g : Gh) (sz : Nat) (t_q t_state_q t_laws_q t_readPage_q t_readLaws_q t_tape_q t_cuts_q t_letters_q t_work_q t_pages_q t_canBe_q t_leadsOn_q t_seen_q t_heard_q t_isKept_q t_lanes_q t_lengths_q t_cells_q : Nat) (t_roomMany : Int32) (t_doorMany : Int32) (t_stringLong : Int32) (t_lawMany : Int32) (t_readRooms : Int32) (t_readDoors : Int32) (t_readString : Int32) (t_readLawMany : Int32) (t_toldOnce : Int32) (t_highRoom : Int32) (t_highDoor : Int32) (t_taped : Int32) (t_fault : Int32) (t_broken : Int32) (t_brokenAt : Int32) (t_spot : Int32) (t_here : Int32) (t_token : Int32) (t_value : Int32) (t_seenMany : Int32) (t_heardMany : Int32) (t_torn : Int32) (t_isKept : Nat → Int32) (t_state : Nat → Int32) (p1 : Int32) (rr : Int32) (t_isKept' : Nat → Int32) (t_state' : Nat → Int32) (hf : f_X8_keep t_isKept t_state p1 = some (rr, t_isKept', t_state')) : CI l yX8_keep wsX8_keep rmX8_keep [.ref t_q, .int p1] g sz [oX8 t_q t_state_q t_roomMany t_doorMany t_stringLong t_laws_q t_lawMany t_readPage_q t_readLaws_q t_readRooms t_readDoors t_readString t_readLawMany t_toldOnce t_highRoom t_highDoor t_tape_q t_taped t_fault t_broken t_brokenAt t_spot t_here t_token t_value t_cuts_q t_letters_q t_work_q t_pages_q t_canBe_q t_leadsOn_q t_seen_q t_seenMany t_heard_q t_heardMany t_isKept_q t_lanes_q t_lengths_q t_cells_q t_torn, aZ g t_isKept_q 2 t_isKept, aI g t_state_q 196 t_state] [oX8 t_q t_state_q t_roomMany t_doorMany t_stringLong t_laws_q t_lawMany t_readPage_q t_readLaws_q t_readRooms t_readDoors t_readString t_readLawMany t_toldOnce t_highRoom t_highDoor t_tape_q t_taped t_fault t_broken t_brokenAt t_spot t_here t_token t_value t_cuts_q t_letters_q t_work_q t_pages_q t_canBe_q t_leadsOn_q t_seen_q t_seenMany t_heard_q t_heardMany t_isKept_q t_lanes_q t_lengths_q t_cells_q t_torn, aZ g t_isKept_q 2 t_isKept', aI g t_state_q 196 t_state'] rr := by
  refine ent_i (cc := cX8_keep) (maxL := 3) (by decide) rfl (Nat.le_of_ble_eq_true rfl) ?_
  intro p e s m args below meth c A Q hx hb hml hown hts hK hz hk hA hD hP hS hret ls hl
  have hown : s.vm.findClass RX8 = some m.cls := hown
  have inX8 : ∀ w ∈ u_ws RX8 TX8 39, w ∈ wsX8_keep := by decide +kernel
  have k56 := hts (.fieldLink RX8 56 "ThreadMovedModel" "isKept" "[Z") (by decide +kernel)
  have hl : lv_has ls 3 [(0, .ref t_q), (1, .int p1)] := hl
  have hret : ∀ (rrz : Int32) (t_isKeptz : Nat → Int32) (t_statez : Nat → Int32), (rrz, t_isKeptz, t_statez) = (rr, t_isKept', t_state') → ∀ (H : Heap) (locs : List Loc) (pc : Nat) (ls : Array Slot), va_P g.1 vwCl [oX8 t_q t_state_q t_roomMany t_doorMany t_stringLong t_laws_q t_lawMany t_readPage_q t_readLaws_q t_readRooms t_readDoors t_readString t_readLawMany t_toldOnce t_highRoom t_highDoor t_tape_q t_taped t_fault t_broken t_brokenAt t_spot t_here t_token t_value t_cuts_q t_letters_q t_work_q t_pages_q t_canBe_q t_leadsOn_q t_seen_q t_seenMany t_heard_q t_heardMany t_isKept_q t_lanes_q t_lengths_q t_cells_q t_torn, aZ g t_isKept_q 2 t_isKeptz, aI g t_state_q 196 t_statez] H → va_S A s.heap H locs → decode cX8_keep pc = .ok (.ireturn, 1) → W p l e rmX8_keep s m args below meth c H locs 0 0 Q (F0 m pc ls [.int rrz]) := by
    intro rrz t_isKeptz t_statez he H locs pc ls hP hS hd
    cases he
    exact hret H locs pc ls hP hS hd
  unfold f_X8_keep at hf
  refine lv_iload_n hx hb dX8_keep_0 rfl (lv_at hl 1 rfl) ?_
  refine lv_i2l hx hb dX8_keep_1 rfl ?_
  refine lv_lconst (v := (0 : Int64)) hx hb dX8_keep_2 (by decide) ?_
  refine lv_lconst (v := (1 : Int64)) hx hb dX8_keep_3 (by decide) ?_
  obtain ⟨r_1, hc_2, hf⟩ := ob1_e hf
  refine kS_i (wn := [oX8 t_q t_state_q t_roomMany t_doorMany t_stringLong t_laws_q t_lawMany t_readPage_q t_readLaws_q t_readRooms t_readDoors t_readString t_readLawMany t_toldOnce t_highRoom t_highDoor t_tape_q t_taped t_fault t_broken t_brokenAt t_spot t_here t_token t_value t_cuts_q t_letters_q t_work_q t_pages_q t_canBe_q t_leadsOn_q t_seen_q t_seenMany t_heard_q t_heardMany t_isKept_q t_lanes_q t_lengths_q t_cells_q t_torn, aZ g t_isKept_q 2 t_isKept, aI g t_state_q 196 t_state]) (As := [.long (p1.toInt64), .long (0 : Int64), .long (1 : Int64)]) (rest := []) (c_X8_in l g _ (p1.toInt64) (0 : Int64) (1 : Int64) r_1 hc_2) ⟨hx, hb, hml, hown, hts⟩ (va_cwS 3 hts gX8_keep_X8_in rfl rfl rfl (by decide +kernel) ⟨by decide, by decide⟩) hK hz hk hP (hD.re rfl) hS hA [] rfl rfl rfl rfl rfl hl.1 rfl (Nat.le_of_ble_eq_true rfl) dX8_keep_4 (fun H locs hP hS => ?_)
  refine lv_if_ne (tgt := 12) hx hb dX8_keep_7 (by decide) (fun c_3 => ?_) (fun c_3 => ?_)
  · have hf := ite_f hf c_3
    refine lv_aload_n hx hb dX8_keep_12 rfl (lv_at hl 0 rfl) ?_
    refine lv_iconst (v := (0 : Int32)) hx hb dX8_keep_13 (by decide) ?_
    refine lv_bipush (v := (49 : Int32)) hx hb dX8_keep_14 (by decide) ?_
    refine lv_iload_n hx hb dX8_keep_16 rfl (lv_at hl 1 rfl) ?_
    refine lv_iconst (v := (1 : Int32)) hx hb dX8_keep_17 (by decide) ?_
    refine lv_iadd hx hb dX8_keep_18 ?_
    refine lv_imul hx hb dX8_keep_19 ?_
    obtain ⟨t_state_4, hc_5, hf⟩ := ob1_e hf
    refine kV_v (wn := [oX8 t_q t_state_q t_roomMany t_doorMany t_stringLong t_laws_q t_lawMany t_readPage_q t_readLaws_q t_readRooms t_readDoors t_readString t_readLawMany t_toldOnce t_highRoom t_highDoor t_tape_q t_taped t_fault t_broken t_brokenAt t_spot t_here t_token t_value t_cuts_q t_letters_q t_work_q t_pages_q t_canBe_q t_leadsOn_q t_seen_q t_seenMany t_heard_q t_heardMany t_isKept_q t_lanes_q t_lengths_q t_cells_q t_torn, aZ g t_isKept_q 2 t_isKept, aI g t_state_q 196 t_state_4]) (As := [.int (0 : Int32), .int ((49 : Int32) * (p1 + (1 : Int32)))]) (rest := []) (c_X8_copies l g _ t_q t_state_q t_laws_q t_readPage_q t_readLaws_q t_tape_q t_cuts_q t_letters_q t_work_q t_pages_q t_canBe_q t_leadsOn_q t_seen_q t_heard_q t_isKept_q t_lanes_q t_lengths_q t_cells_q t_roomMany t_doorMany t_stringLong t_lawMany t_readRooms t_readDoors t_readString t_readLawMany t_toldOnce t_highRoom t_highDoor t_taped t_fault t_broken t_brokenAt t_spot t_here t_token t_value t_seenMany t_heardMany t_torn t_state (0 : Int32) ((49 : Int32) * (p1 + (1 : Int32))) t_state_4 hc_5) ⟨hx, hb, hml, hown, hts⟩ (cwV 2 hts gX8_keep_X8_copies rfl rfl rfl (by decide +kernel) ⟨by decide, by decide⟩) hK hz hk hP (hD.re rfl) hS hA [0, 2] rfl rfl rfl rfl rfl rfl rfl hl.1 rfl (Nat.le_of_ble_eq_true rfl) dX8_keep_20 (fun H locs hP hS => ?_)
    refine lv_aload_n hx hb dX8_keep_23 rfl (lv_at hl 0 rfl) ?_
    refine va_get (D := g.1) (ci := 8) (v := .ref t_isKept_q) (C := RX8) (T := TX8) (N := 39) hx hb hts inX8 hown hK hP 0 rfl rfl 34 (by decide) k56 (fun _ h9 => h9) rfl dX8_keep_24 ?_
    refine lv_iload_n hx hb dX8_keep_27 rfl (lv_at hl 1 rfl) ?_
    obtain ⟨h_6, hf⟩ := gin_e hf
    refine va_zald hx hb hK hP 1 2 rfl rfl h_6 dX8_keep_28 ?_
    obtain ⟨j_8, hj_8, hf⟩ := jn1_e hf
    have J_8 : ∀ (s_7 : Int32), j_8 s_7 = some (rr, t_isKept', t_state') → ∀ (H : Heap) (locs : List Loc) (ls : Array Slot), va_P g.1 vwCl [oX8 t_q t_state_q t_roomMany t_doorMany t_stringLong t_laws_q t_lawMany t_readPage_q t_readLaws_q t_readRooms t_readDoors t_readString t_readLawMany t_toldOnce t_highRoom t_highDoor t_tape_q t_taped t_fault t_broken t_brokenAt t_spot t_here t_token t_value t_cuts_q t_letters_q t_work_q t_pages_q t_canBe_q t_leadsOn_q t_seen_q t_seenMany t_heard_q t_heardMany t_isKept_q t_lanes_q t_lengths_q t_cells_q t_torn, aZ g t_isKept_q 2 t_isKept, aI g t_state_q 196 t_state_4] H → va_S A s.heap H locs → lv_has ls 3 [(0, .ref t_q), (1, .int p1)] → W p l e rmX8_keep s m args below meth c H locs 0 0 Q (F0 m 37 ls [.int s_7]) := by
      intro s_7 hf H locs ls hP hS hl
      rw [hj_8] at hf
      refine lv_istore_n (lv' := [(2, .int s_7), (0, .ref t_q), (1, .int p1)]) hx hb dX8_keep_37 rfl hl (by decide) rfl (fun ls hl => ?_)
      refine lv_aload_n hx hb dX8_keep_38 rfl (lv_at hl 1 rfl) ?_
      refine va_get (D := g.1) (ci := 8) (v := .ref t_isKept_q) (C := RX8) (T := TX8) (N := 39) hx hb hts inX8 hown hK hP 0 rfl rfl 34 (by decide) k56 (fun _ h9 => h9) rfl dX8_keep_39 ?_
      refine lv_iload_n hx hb dX8_keep_42 rfl (lv_at hl 2 rfl) ?_
      refine lv_iconst (v := (1 : Int32)) hx hb dX8_keep_43 (by decide) ?_
      obtain ⟨h_9, hf⟩ := gin_e hf
      obtain ⟨t_isKept_10, et_isKept_10, hf⟩ := bnd_e hf
      refine va_zast hx hb hK hP (hD.re rfl) hS 1 2 rfl rfl h_9 dX8_keep_44 (fun H locs hP _ hS => ?_)
      have hP : va_P g.1 vwCl [oX8 t_q t_state_q t_roomMany t_doorMany t_stringLong t_laws_q t_lawMany t_readPage_q t_readLaws_q t_readRooms t_readDoors t_readString t_readLawMany t_toldOnce t_highRoom t_highDoor t_tape_q t_taped t_fault t_broken t_brokenAt t_spot t_here t_token t_value t_cuts_q t_letters_q t_work_q t_pages_q t_canBe_q t_leadsOn_q t_seen_q t_seenMany t_heard_q t_heardMany t_isKept_q t_lanes_q t_lengths_q t_cells_q t_torn, aZ g t_isKept_q 2 t_isKept_10, aI g t_state_q 196 t_state_4] H := by rw [et_isKept_10]; exact hP
      refine lv_iload_n hx hb dX8_keep_45 rfl (lv_at hl 0 rfl) ?_
      exact hret s_7 t_isKept_10 t_state_4 (Option.some.inj hf) _ _ _ _ hP hS dX8_keep_46
    refine lv_if_eq (tgt := 36) hx hb dX8_keep_29 (by decide) (fun c_11 => ?_) (fun c_11 => ?_)
    · have hf := ite_t hf c_11
      refine lv_iconst (v := (0 : Int32)) hx hb dX8_keep_36 (by decide) ?_
      exact J_8 (0 : Int32) hf _ _ _ hP hS (lv_sub hl [0, 1] rfl)
    · have hf := ite_f hf c_11
      refine lv_iconst (v := (1 : Int32)) hx hb dX8_keep_32 (by decide) ?_
      refine lv_goto (tgt := 37) hx hb dX8_keep_33 (by decide) ?_
      exact J_8 (1 : Int32) hf _ _ _ hP hS (lv_sub hl [0, 1] rfl)
  · have hf := ite_t hf c_3
    refine lv_iconst (v := (-1 : Int32)) hx hb dX8_keep_10 (by decide) ?_
    exact hret (-1 : Int32) t_isKept t_state (Option.some.inj hf) _ _ _ _ hP hS dX8_keep_11
