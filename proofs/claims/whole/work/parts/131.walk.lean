def f_X8_after (t_doorMany : Int32) (t_pages : Nat → Int32) (t_state : Nat → Int32) (p1 : Int32) (p2 : Int32) (p3 : Int32) (p4 : Int32) : Option (Int32) :=
 (jn1 (fun (s_1 : Int32) => (if s_1 = (-4 : Int32) then
 (some (-4 : Int32))
 else (if p3 = s_1 then
 (some (-4 : Int32))
 else (jn1 (fun (s_5 : Int32) => (if s_5 = s_1 then
 (some (-4 : Int32))
 else (if s_5 = (-4 : Int32) then
 (some (s_1 + ((10 : Int32) * (0 : Int32))))
 else (some (s_1 + ((10 : Int32) * (s_5 + (1 : Int32)))))))) (fun j_6 =>
 (if p3 = (-4 : Int32) then
 (j_6 (-4 : Int32))
 else (gin (33 : Int32) 196 (gin (47 : Int32) 196 (ob1 (f_X8_goesTo t_doorMany 750 t_pages ((30 : Int32) * p1) p3 s_1 (t_state (33 : Int32).toNatClampNeg) ((t_state (47 : Int32).toNatClampNeg) + p1)) (fun r_12 =>
 (j_6 r_12))))))))))) (fun j_2 =>
 (if p4 = (10 : Int32) then
 (j_2 p2)
 else (ob1 (f_X8_isDoor t_doorMany p4) (fun r_15 =>
 (if r_15 = (0 : Int32) then
 (j_2 (-4 : Int32))
 else (ob1 (f_X8_leadsTo 750 t_pages ((30 : Int32) * p1) p4 p2) (fun r_18 =>
 (j_2 r_18)))))))))
abbrev rmX8_after : Room := { frames := 3, cells := 0, slots := 0, locals := 80 }
set_option maxHeartbeats 4000000 in
set_option maxRecDepth 100000 in
theorem c_X8_after (l : Launch) (g : Gh) (sz : Nat) (t_q t_state_q t_laws_q t_readPage_q t_readLaws_q t_tape_q t_cuts_q t_letters_q t_work_q t_pages_q t_canBe_q t_leadsOn_q t_seen_q t_heard_q t_isKept_q t_lanes_q t_lengths_q t_cells_q : Nat) (t_roomMany : Int32) (t_doorMany : Int32) (t_stringLong : Int32) (t_lawMany : Int32) (t_readRooms : Int32) (t_readDoors : Int32) (t_readString : Int32) (t_readLawMany : Int32) (t_toldOnce : Int32) (t_highRoom : Int32) (t_highDoor : Int32) (t_taped : Int32) (t_fault : Int32) (t_broken : Int32) (t_brokenAt : Int32) (t_spot : Int32) (t_here : Int32) (t_token : Int32) (t_value : Int32) (t_seenMany : Int32) (t_heardMany : Int32) (t_torn : Int32) (t_pages : Nat → Int32) (t_state : Nat → Int32) (p1 : Int32) (p2 : Int32) (p3 : Int32) (p4 : Int32) (rr : Int32) (hf : f_X8_after t_doorMany t_pages t_state p1 p2 p3 p4 = some rr) : CI l yX8_after wsX8_after rmX8_after [.ref t_q, .int p1, .int p2, .int p3, .int p4] g sz [oX8 t_q t_state_q t_roomMany t_doorMany t_stringLong t_laws_q t_lawMany t_readPage_q t_readLaws_q t_readRooms t_readDoors t_readString t_readLawMany t_toldOnce t_highRoom t_highDoor t_tape_q t_taped t_fault t_broken t_brokenAt t_spot t_here t_token t_value t_cuts_q t_letters_q t_work_q t_pages_q t_canBe_q t_leadsOn_q t_seen_q t_seenMany t_heard_q t_heardMany t_isKept_q t_lanes_q t_lengths_q t_cells_q t_torn, aI g t_pages_q 750 t_pages, aI g t_state_q 196 t_state] [oX8 t_q t_state_q t_roomMany t_doorMany t_stringLong t_laws_q t_lawMany t_readPage_q t_readLaws_q t_readRooms t_readDoors t_readString t_readLawMany t_toldOnce t_highRoom t_highDoor t_tape_q t_taped t_fault t_broken t_brokenAt t_spot t_here t_token t_value t_cuts_q t_letters_q t_work_q t_pages_q t_canBe_q t_leadsOn_q t_seen_q t_seenMany t_heard_q t_heardMany t_isKept_q t_lanes_q t_lengths_q t_cells_q t_torn, aI g t_pages_q 750 t_pages, aI g t_state_q 196 t_state] rr := by
  refine ent_i (cc := cX8_after) (maxL := 7) (by decide) rfl (Nat.le_of_ble_eq_true rfl) ?_
  intro p e s m args below meth c A Q hx hb hml hown hts hK hz hk hA hD hP hS hret ls hl
  have hown : s.vm.findClass RX8 = some m.cls := hown
  have inX8 : ∀ w ∈ u_ws RX8 TX8 39, w ∈ wsX8_after := by decide +kernel
  have k7 := hts (.fieldLink RX8 7 "ThreadMovedModel" "state" "[I") (by decide +kernel)
  have k41 := hts (.fieldLink RX8 41 "ThreadMovedModel" "pages" "[I") (by decide +kernel)
  have hl : lv_has ls 7 [(0, .ref t_q), (1, .int p1), (2, .int p2), (3, .int p3), (4, .int p4)] := hl
  have hret : ∀ (rrz : Int32), rrz = rr → ∀ (H : Heap) (locs : List Loc) (pc : Nat) (ls : Array Slot), va_P g.1 vwCl [oX8 t_q t_state_q t_roomMany t_doorMany t_stringLong t_laws_q t_lawMany t_readPage_q t_readLaws_q t_readRooms t_readDoors t_readString t_readLawMany t_toldOnce t_highRoom t_highDoor t_tape_q t_taped t_fault t_broken t_brokenAt t_spot t_here t_token t_value t_cuts_q t_letters_q t_work_q t_pages_q t_canBe_q t_leadsOn_q t_seen_q t_seenMany t_heard_q t_heardMany t_isKept_q t_lanes_q t_lengths_q t_cells_q t_torn, aI g t_pages_q 750 t_pages, aI g t_state_q 196 t_state] H → va_S A s.heap H locs → decode cX8_after pc = .ok (.ireturn, 1) → W p l e rmX8_after s m args below meth c H locs 0 0 Q (F0 m pc ls [.int rrz]) := by
    intro rrz he H locs pc ls hP hS hd
    cases he
    exact hret H locs pc ls hP hS hd
  unfold f_X8_after at hf
  refine lv_iload hx hb dX8_after_0 (lv_at hl 4 rfl) ?_
  refine lv_bipush (v := (10 : Int32)) hx hb dX8_after_2 (by decide) ?_
  obtain ⟨j_2, hj_2, hf⟩ := jn1_e hf
  have J_2 : ∀ (s_1 : Int32), j_2 s_1 = some rr → ∀ (H : Heap) (locs : List Loc) (ls : Array Slot), va_P g.1 vwCl [oX8 t_q t_state_q t_roomMany t_doorMany t_stringLong t_laws_q t_lawMany t_readPage_q t_readLaws_q t_readRooms t_readDoors t_readString t_readLawMany t_toldOnce t_highRoom t_highDoor t_tape_q t_taped t_fault t_broken t_brokenAt t_spot t_here t_token t_value t_cuts_q t_letters_q t_work_q t_pages_q t_canBe_q t_leadsOn_q t_seen_q t_seenMany t_heard_q t_heardMany t_isKept_q t_lanes_q t_lengths_q t_cells_q t_torn, aI g t_pages_q 750 t_pages, aI g t_state_q 196 t_state] H → va_S A s.heap H locs → lv_has ls 7 [(0, .ref t_q), (1, .int p1), (3, .int p3)] → W p l e rmX8_after s m args below meth c H locs 0 0 Q (F0 m 40 ls [.int s_1]) := by
    intro s_1 hf H locs ls hP hS hl
    rw [hj_2] at hf
    refine lv_istore (lv' := [(5, .int s_1), (0, .ref t_q), (1, .int p1), (3, .int p3)]) hx hb dX8_after_40 hl (by decide) rfl (fun ls hl => ?_)
    refine lv_iload hx hb dX8_after_42 (lv_at hl 0 rfl) ?_
    refine lv_bipush (v := (-4 : Int32)) hx hb dX8_after_44 (by decide) ?_
    refine lv_icmp_eq (tgt := 55) hx hb dX8_after_46 (by decide) (fun c_3 => ?_) (fun c_3 => ?_)
    · have hf := ite_t hf c_3
      refine lv_bipush (v := (-4 : Int32)) hx hb dX8_after_55 (by decide) ?_
      exact hret (-4 : Int32) (Option.some.inj hf) _ _ _ _ hP hS dX8_after_57
    · have hf := ite_f hf c_3
      refine lv_iload_n hx hb dX8_after_49 rfl (lv_at hl 3 rfl) ?_
      refine lv_iload hx hb dX8_after_50 (lv_at hl 0 rfl) ?_
      refine lv_icmp_ne (tgt := 58) hx hb dX8_after_52 (by decide) (fun c_4 => ?_) (fun c_4 => ?_)
      · have hf := ite_f hf c_4
        refine lv_iload_n hx hb dX8_after_58 rfl (lv_at hl 3 rfl) ?_
        refine lv_bipush (v := (-4 : Int32)) hx hb dX8_after_59 (by decide) ?_
        obtain ⟨j_6, hj_6, hf⟩ := jn1_e hf
        have J_6 : ∀ (s_5 : Int32), j_6 s_5 = some rr → ∀ (H : Heap) (locs : List Loc) (ls : Array Slot), va_P g.1 vwCl [oX8 t_q t_state_q t_roomMany t_doorMany t_stringLong t_laws_q t_lawMany t_readPage_q t_readLaws_q t_readRooms t_readDoors t_readString t_readLawMany t_toldOnce t_highRoom t_highDoor t_tape_q t_taped t_fault t_broken t_brokenAt t_spot t_here t_token t_value t_cuts_q t_letters_q t_work_q t_pages_q t_canBe_q t_leadsOn_q t_seen_q t_seenMany t_heard_q t_heardMany t_isKept_q t_lanes_q t_lengths_q t_cells_q t_torn, aI g t_pages_q 750 t_pages, aI g t_state_q 196 t_state] H → va_S A s.heap H locs → lv_has ls 7 [(5, .int s_1)] → W p l e rmX8_after s m args below meth c H locs 0 0 Q (F0 m 100 ls [.int s_5]) := by
          intro s_5 hf H locs ls hP hS hl
          rw [hj_6] at hf
          refine lv_istore (lv' := [(6, .int s_5), (5, .int s_1)]) hx hb dX8_after_100 hl (by decide) rfl (fun ls hl => ?_)
          refine lv_iload hx hb dX8_after_102 (lv_at hl 0 rfl) ?_
          refine lv_iload hx hb dX8_after_104 (lv_at hl 1 rfl) ?_
          refine lv_icmp_ne (tgt := 114) hx hb dX8_after_106 (by decide) (fun c_7 => ?_) (fun c_7 => ?_)
          · have hf := ite_f hf c_7
            refine lv_iload hx hb dX8_after_114 (lv_at hl 1 rfl) ?_
            refine lv_bipush (v := (10 : Int32)) hx hb dX8_after_116 (by decide) ?_
            refine lv_iload hx hb dX8_after_118 (lv_at hl 0 rfl) ?_
            refine lv_bipush (v := (-4 : Int32)) hx hb dX8_after_120 (by decide) ?_
            refine lv_icmp_ne (tgt := 129) hx hb dX8_after_122 (by decide) (fun c_8 => ?_) (fun c_8 => ?_)
            · have hf := ite_f hf c_8
              refine lv_iload hx hb dX8_after_129 (lv_at hl 0 rfl) ?_
              refine lv_iconst (v := (1 : Int32)) hx hb dX8_after_131 (by decide) ?_
              refine lv_iadd hx hb dX8_after_132 ?_
              refine lv_imul hx hb dX8_after_133 ?_
              refine lv_iadd hx hb dX8_after_134 ?_
              exact hret (s_1 + ((10 : Int32) * (s_5 + (1 : Int32)))) (Option.some.inj hf) _ _ _ _ hP hS dX8_after_135
            · have hf := ite_t hf c_8
              refine lv_iconst (v := (0 : Int32)) hx hb dX8_after_125 (by decide) ?_
              refine lv_goto (tgt := 133) hx hb dX8_after_126 (by decide) ?_
              refine lv_imul hx hb dX8_after_133 ?_
              refine lv_iadd hx hb dX8_after_134 ?_
              exact hret (s_1 + ((10 : Int32) * (0 : Int32))) (Option.some.inj hf) _ _ _ _ hP hS dX8_after_135
          · have hf := ite_t hf c_7
            refine lv_bipush (v := (-4 : Int32)) hx hb dX8_after_109 (by decide) ?_
            refine lv_goto (tgt := 135) hx hb dX8_after_111 (by decide) ?_
            exact hret (-4 : Int32) (Option.some.inj hf) _ _ _ _ hP hS dX8_after_135
        refine lv_icmp_ne (tgt := 69) hx hb dX8_after_61 (by decide) (fun c_9 => ?_) (fun c_9 => ?_)
        · have hf := ite_f hf c_9
          refine lv_aload_n hx hb dX8_after_69 rfl (lv_at hl 1 rfl) ?_
          refine lv_aload_n hx hb dX8_after_70 rfl (lv_at hl 1 rfl) ?_
          refine va_get (D := g.1) (ci := 8) (v := .ref t_pages_q) (C := RX8) (T := TX8) (N := 39) hx hb hts inX8 hown hK hP 0 rfl rfl 27 (by decide) k41 (fun _ h9 => h9) rfl dX8_after_71 ?_
          refine lv_bipush (v := (30 : Int32)) hx hb dX8_after_74 (by decide) ?_
          refine lv_iload_n hx hb dX8_after_76 rfl (lv_at hl 2 rfl) ?_
          refine lv_imul hx hb dX8_after_77 ?_
          refine lv_iload_n hx hb dX8_after_78 rfl (lv_at hl 3 rfl) ?_
          refine lv_iload hx hb dX8_after_79 (lv_at hl 0 rfl) ?_
          refine lv_aload_n hx hb dX8_after_81 rfl (lv_at hl 1 rfl) ?_
          refine va_get (D := g.1) (ci := 8) (v := .ref t_state_q) (C := RX8) (T := TX8) (N := 39) hx hb hts inX8 hown hK hP 0 rfl rfl 0 (by decide) k7 (fun _ h9 => h9) rfl dX8_after_82 ?_
          refine lv_bipush (v := (33 : Int32)) hx hb dX8_after_85 (by decide) ?_
          obtain ⟨h_10, hf⟩ := gin_e hf
          refine va_iald hx hb hK hP 2 0 rfl rfl h_10 dX8_after_87 ?_
          refine lv_aload_n hx hb dX8_after_88 rfl (lv_at hl 1 rfl) ?_
          refine va_get (D := g.1) (ci := 8) (v := .ref t_state_q) (C := RX8) (T := TX8) (N := 39) hx hb hts inX8 hown hK hP 0 rfl rfl 0 (by decide) k7 (fun _ h9 => h9) rfl dX8_after_89 ?_
          refine lv_bipush (v := (47 : Int32)) hx hb dX8_after_92 (by decide) ?_
          obtain ⟨h_11, hf⟩ := gin_e hf
          refine va_iald hx hb hK hP 2 0 rfl rfl h_11 dX8_after_94 ?_
          refine lv_iload_n hx hb dX8_after_95 rfl (lv_at hl 2 rfl) ?_
          refine lv_iadd hx hb dX8_after_96 ?_
          obtain ⟨r_12, hc_13, hf⟩ := ob1_e hf
          refine kV_i (wn := [oX8 t_q t_state_q t_roomMany t_doorMany t_stringLong t_laws_q t_lawMany t_readPage_q t_readLaws_q t_readRooms t_readDoors t_readString t_readLawMany t_toldOnce t_highRoom t_highDoor t_tape_q t_taped t_fault t_broken t_brokenAt t_spot t_here t_token t_value t_cuts_q t_letters_q t_work_q t_pages_q t_canBe_q t_leadsOn_q t_seen_q t_seenMany t_heard_q t_heardMany t_isKept_q t_lanes_q t_lengths_q t_cells_q t_torn, aI g t_pages_q 750 t_pages, aI g t_state_q 196 t_state]) (As := [.ref t_pages_q, .int ((30 : Int32) * p1), .int p3, .int s_1, .int (t_state (33 : Int32).toNatClampNeg), .int ((t_state (47 : Int32).toNatClampNeg) + p1)]) (rest := []) (c_X8_goesTo l g _ t_q t_state_q t_laws_q t_readPage_q t_readLaws_q t_tape_q t_cuts_q t_letters_q t_work_q t_pages_q t_canBe_q t_leadsOn_q t_seen_q t_heard_q t_isKept_q t_lanes_q t_lengths_q t_cells_q t_pages_q t_roomMany t_doorMany t_stringLong t_lawMany t_readRooms t_readDoors t_readString t_readLawMany t_toldOnce t_highRoom t_highDoor t_taped t_fault t_broken t_brokenAt t_spot t_here t_token t_value t_seenMany t_heardMany t_torn 750 t_pages ((30 : Int32) * p1) p3 s_1 (t_state (33 : Int32).toNatClampNeg) ((t_state (47 : Int32).toNatClampNeg) + p1) r_12 hc_13) ⟨hx, hb, hml, hown, hts⟩ (cwV 6 hts gX8_after_X8_goesTo rfl rfl rfl (by decide +kernel) ⟨by decide, by decide⟩) hK hz hk hP (hD.re rfl) hS hA [0, 1] rfl rfl rfl rfl rfl rfl rfl hl.1 rfl (Nat.le_of_ble_eq_true rfl) dX8_after_97 (fun H locs hP hS => ?_)
          exact J_6 r_12 hf _ _ _ hP hS (lv_sub hl [0] rfl)
        · have hf := ite_t hf c_9
          refine lv_bipush (v := (-4 : Int32)) hx hb dX8_after_64 (by decide) ?_
          refine lv_goto (tgt := 100) hx hb dX8_after_66 (by decide) ?_
          exact J_6 (-4 : Int32) hf _ _ _ hP hS (lv_sub hl [0] rfl)
      · have hf := ite_t hf c_4
        refine lv_bipush (v := (-4 : Int32)) hx hb dX8_after_55 (by decide) ?_
        exact hret (-4 : Int32) (Option.some.inj hf) _ _ _ _ hP hS dX8_after_57
  refine lv_icmp_ne (tgt := 11) hx hb dX8_after_4 (by decide) (fun c_14 => ?_) (fun c_14 => ?_)
  · have hf := ite_f hf c_14
    refine lv_aload_n hx hb dX8_after_11 rfl (lv_at hl 0 rfl) ?_
    refine lv_iload hx hb dX8_after_12 (lv_at hl 4 rfl) ?_
    obtain ⟨r_15, hc_16, hf⟩ := ob1_e hf
    refine kV_i (wn := [oX8 t_q t_state_q t_roomMany t_doorMany t_stringLong t_laws_q t_lawMany t_readPage_q t_readLaws_q t_readRooms t_readDoors t_readString t_readLawMany t_toldOnce t_highRoom t_highDoor t_tape_q t_taped t_fault t_broken t_brokenAt t_spot t_here t_token t_value t_cuts_q t_letters_q t_work_q t_pages_q t_canBe_q t_leadsOn_q t_seen_q t_seenMany t_heard_q t_heardMany t_isKept_q t_lanes_q t_lengths_q t_cells_q t_torn, aI g t_pages_q 750 t_pages, aI g t_state_q 196 t_state]) (As := [.int p4]) (rest := []) (c_X8_isDoor l g _ t_q t_state_q t_laws_q t_readPage_q t_readLaws_q t_tape_q t_cuts_q t_letters_q t_work_q t_pages_q t_canBe_q t_leadsOn_q t_seen_q t_heard_q t_isKept_q t_lanes_q t_lengths_q t_cells_q t_roomMany t_doorMany t_stringLong t_lawMany t_readRooms t_readDoors t_readString t_readLawMany t_toldOnce t_highRoom t_highDoor t_taped t_fault t_broken t_brokenAt t_spot t_here t_token t_value t_seenMany t_heardMany t_torn p4 r_15 hc_16) ⟨hx, hb, hml, hown, hts⟩ (cwV 1 hts gX8_after_X8_isDoor rfl rfl rfl (by decide +kernel) ⟨by decide, by decide⟩) hK hz hk hP (hD.re rfl) hS hA [0] rfl rfl rfl rfl rfl rfl rfl hl.1 rfl (Nat.le_of_ble_eq_true rfl) dX8_after_14 (fun H locs hP hS => ?_)
    refine lv_if_eq (tgt := 38) hx hb dX8_after_17 (by decide) (fun c_17 => ?_) (fun c_17 => ?_)
    · have hf := ite_t hf c_17
      refine lv_bipush (v := (-4 : Int32)) hx hb dX8_after_38 (by decide) ?_
      exact J_2 (-4 : Int32) hf _ _ _ hP hS (lv_sub hl [0, 1, 3] rfl)
    · have hf := ite_f hf c_17
      refine lv_aload_n hx hb dX8_after_20 rfl (lv_at hl 0 rfl) ?_
      refine lv_aload_n hx hb dX8_after_21 rfl (lv_at hl 0 rfl) ?_
      refine va_get (D := g.1) (ci := 8) (v := .ref t_pages_q) (C := RX8) (T := TX8) (N := 39) hx hb hts inX8 hown hK hP 0 rfl rfl 27 (by decide) k41 (fun _ h9 => h9) rfl dX8_after_22 ?_
      refine lv_bipush (v := (30 : Int32)) hx hb dX8_after_25 (by decide) ?_
      refine lv_iload_n hx hb dX8_after_27 rfl (lv_at hl 1 rfl) ?_
      refine lv_imul hx hb dX8_after_28 ?_
      refine lv_iload hx hb dX8_after_29 (lv_at hl 4 rfl) ?_
      refine lv_iload_n hx hb dX8_after_31 rfl (lv_at hl 2 rfl) ?_
      obtain ⟨r_18, hc_19, hf⟩ := ob1_e hf
      refine kV_i (wn := [oX8 t_q t_state_q t_roomMany t_doorMany t_stringLong t_laws_q t_lawMany t_readPage_q t_readLaws_q t_readRooms t_readDoors t_readString t_readLawMany t_toldOnce t_highRoom t_highDoor t_tape_q t_taped t_fault t_broken t_brokenAt t_spot t_here t_token t_value t_cuts_q t_letters_q t_work_q t_pages_q t_canBe_q t_leadsOn_q t_seen_q t_seenMany t_heard_q t_heardMany t_isKept_q t_lanes_q t_lengths_q t_cells_q t_torn, aI g t_pages_q 750 t_pages, aI g t_state_q 196 t_state]) (As := [.ref t_pages_q, .int ((30 : Int32) * p1), .int p4, .int p2]) (rest := []) (c_X8_leadsTo l g _ t_q t_state_q t_laws_q t_readPage_q t_readLaws_q t_tape_q t_cuts_q t_letters_q t_work_q t_pages_q t_canBe_q t_leadsOn_q t_seen_q t_heard_q t_isKept_q t_lanes_q t_lengths_q t_cells_q t_pages_q t_roomMany t_doorMany t_stringLong t_lawMany t_readRooms t_readDoors t_readString t_readLawMany t_toldOnce t_highRoom t_highDoor t_taped t_fault t_broken t_brokenAt t_spot t_here t_token t_value t_seenMany t_heardMany t_torn 750 t_pages ((30 : Int32) * p1) p4 p2 r_18 hc_19) ⟨hx, hb, hml, hown, hts⟩ (cwV 4 hts gX8_after_X8_leadsTo rfl rfl rfl (by decide +kernel) ⟨by decide, by decide⟩) hK hz hk hP (hD.re rfl) hS hA [0, 1] rfl rfl rfl rfl rfl rfl rfl hl.1 rfl (Nat.le_of_ble_eq_true rfl) dX8_after_32 (fun H locs hP hS => ?_)
      refine lv_goto (tgt := 40) hx hb dX8_after_35 (by decide) ?_
      exact J_2 r_18 hf _ _ _ hP hS (lv_sub hl [0, 1, 3] rfl)
  · have hf := ite_t hf c_14
    refine lv_iload_n hx hb dX8_after_7 rfl (lv_at hl 2 rfl) ?_
    refine lv_goto (tgt := 40) hx hb dX8_after_8 (by decide) ?_
    exact J_2 p2 hf _ _ _ hP hS (lv_sub hl [0, 1, 3] rfl)

def b_X8_worksNow_2 (t_state : Nat → Int32) (v1_1 : Int32) (t_work_2 : Nat → Int32) : Option ((Int32 × (Nat → Int32)) ⊕ (Int32 × (Nat → Int32))) :=
 (if (30 : Int32) ≤ v1_1 then
 (some (.inr (v1_1, t_work_2)))
 else (gin v1_1 196 (gin v1_1 30 (bnd (upd t_work_2 v1_1.toNatClampNeg (t_state v1_1.toNatClampNeg)) (fun t_work_7 =>
 (bnd (v1_1 + (1 : Int32)) (fun v1_8 =>
 (some (.inl (v1_8, t_work_7))))))))))
def f_X8_worksNow (t_state : Nat → Int32) (t_work : Nat → Int32) : Option ((Nat → Int32)) :=
 (ob2 (itr (un2 (b_X8_worksNow_2 t_state)) FU ((0 : Int32), t_work)) (fun x1_9 t_work_10 =>
 (some t_work_10)))
abbrev rmX8_worksNow : Room := { frames := 0, cells := 0, slots := 0, locals := 0 }
set_option maxHeartbeats 4000000 in
set_option maxRecDepth 100000 in
theorem c_X8_worksNow (l : Launch) (g : Gh) (sz : Nat) (t_q t_state_q t_laws_q t_readPage_q t_readLaws_q t_tape_q t_cuts_q t_letters_q t_work_q t_pages_q t_canBe_q t_leadsOn_q t_seen_q t_heard_q t_isKept_q t_lanes_q t_lengths_q t_cells_q : Nat) (t_roomMany : Int32) (t_doorMany : Int32) (t_stringLong : Int32) (t_lawMany : Int32) (t_readRooms : Int32) (t_readDoors : Int32) (t_readString : Int32) (t_readLawMany : Int32) (t_toldOnce : Int32) (t_highRoom : Int32) (t_highDoor : Int32) (t_taped : Int32) (t_fault : Int32) (t_broken : Int32) (t_brokenAt : Int32) (t_spot : Int32) (t_here : Int32) (t_token : Int32) (t_value : Int32) (t_seenMany : Int32) (t_heardMany : Int32) (t_torn : Int32) (t_state : Nat → Int32) (t_work : Nat → Int32) (t_work' : Nat → Int32) (hf : f_X8_worksNow t_state t_work = some t_work') : CV l yX8_worksNow wsX8_worksNow rmX8_worksNow [.ref t_q] g sz [oX8 t_q t_state_q t_roomMany t_doorMany t_stringLong t_laws_q t_lawMany t_readPage_q t_readLaws_q t_readRooms t_readDoors t_readString t_readLawMany t_toldOnce t_highRoom t_highDoor t_tape_q t_taped t_fault t_broken t_brokenAt t_spot t_here t_token t_value t_cuts_q t_letters_q t_work_q t_pages_q t_canBe_q t_leadsOn_q t_seen_q t_seenMany t_heard_q t_heardMany t_isKept_q t_lanes_q t_lengths_q t_cells_q t_torn, aI g t_state_q 196 t_state, aI g t_work_q 30 t_work] [oX8 t_q t_state_q t_roomMany t_doorMany t_stringLong t_laws_q t_lawMany t_readPage_q t_readLaws_q t_readRooms t_readDoors t_readString t_readLawMany t_toldOnce t_highRoom t_highDoor t_tape_q t_taped t_fault t_broken t_brokenAt t_spot t_here t_token t_value t_cuts_q t_letters_q t_work_q t_pages_q t_canBe_q t_leadsOn_q t_seen_q t_seenMany t_heard_q t_heardMany t_isKept_q t_lanes_q t_lengths_q t_cells_q t_torn, aI g t_state_q 196 t_state, aI g t_work_q 30 t_work'] := by
  refine ent_v (cc := cX8_worksNow) (maxL := 2) (by decide) rfl (Nat.le_of_ble_eq_true rfl) ?_
  intro p e s m args below meth c A Q hx hb hml hown hts hK hz hk hA hD hP hS hret ls hl
  have hown : s.vm.findClass RX8 = some m.cls := hown
  have inX8 : ∀ w ∈ u_ws RX8 TX8 39, w ∈ wsX8_worksNow := by decide +kernel
  have k7 := hts (.fieldLink RX8 7 "ThreadMovedModel" "state" "[I") (by decide +kernel)
  have k38 := hts (.fieldLink RX8 38 "ThreadMovedModel" "work" "[I") (by decide +kernel)
  have hl : lv_has ls 2 [(0, .ref t_q)] := hl
  have hret : ∀ (t_workz : Nat → Int32), t_workz = t_work' → ∀ (H : Heap) (locs : List Loc) (pc : Nat) (ls : Array Slot), va_P g.1 vwCl [oX8 t_q t_state_q t_roomMany t_doorMany t_stringLong t_laws_q t_lawMany t_readPage_q t_readLaws_q t_readRooms t_readDoors t_readString t_readLawMany t_toldOnce t_highRoom t_highDoor t_tape_q t_taped t_fault t_broken t_brokenAt t_spot t_here t_token t_value t_cuts_q t_letters_q t_work_q t_pages_q t_canBe_q t_leadsOn_q t_seen_q t_seenMany t_heard_q t_heardMany t_isKept_q t_lanes_q t_lengths_q t_cells_q t_torn, aI g t_state_q 196 t_state, aI g t_work_q 30 t_workz] H → va_S A s.heap H locs → decode cX8_worksNow pc = .ok (.return_, 1) → W p l e rmX8_worksNow s m args below meth c H locs 0 0 Q (F0 m pc ls []) := by
    intro t_workz he H locs pc ls hP hS hd
    cases he
    exact hret H locs pc ls hP hS hd
  unfold f_X8_worksNow at hf
  refine lv_iconst (v := (0 : Int32)) hx hb dX8_worksNow_0 (by decide) ?_
  refine lv_istore_n (lv' := [(1, .int (0 : Int32)), (0, .ref t_q)]) hx hb dX8_worksNow_1 rfl hl (by decide) rfl (fun ls hl => ?_)
  obtain ⟨x1_9, t_work_10, ho_3, hf⟩ := ob2_e hf
  have K_3 : ∀ (x1_9y : Int32) (t_work_10y : Nat → Int32), x1_9 = x1_9y → t_work_10 = t_work_10y → ∀ (H : Heap) (locs : List Loc) (ls : Array Slot), va_P g.1 vwCl [oX8 t_q t_state_q t_roomMany t_doorMany t_stringLong t_laws_q t_lawMany t_readPage_q t_readLaws_q t_readRooms t_readDoors t_readString t_readLawMany t_toldOnce t_highRoom t_highDoor t_tape_q t_taped t_fault t_broken t_brokenAt t_spot t_here t_token t_value t_cuts_q t_letters_q t_work_q t_pages_q t_canBe_q t_leadsOn_q t_seen_q t_seenMany t_heard_q t_heardMany t_isKept_q t_lanes_q t_lengths_q t_cells_q t_torn, aI g t_state_q 196 t_state, aI g t_work_q 30 t_work_10y] H → va_S A s.heap H locs → lv_has ls 2 [] → W p l e rmX8_worksNow s m args below meth c H locs 0 0 Q (F0 m 26 ls []) := by
    intro x1_9y t_work_10y ey0 ey1 H locs ls hP hS hl
    subst ey0
    subst ey1
    exact hret t_work_10 (Option.some.inj hf) _ _ _ _ hP hS dX8_worksNow_26
  have L_3 : ∀ (n : Nat) (v1_1 : Int32) (t_work_2 : Nat → Int32), itr (un2 (b_X8_worksNow_2 t_state)) n (v1_1, t_work_2) = some (x1_9, t_work_10) → ∀ (H : Heap) (locs : List Loc) (ls : Array Slot), va_P g.1 vwCl [oX8 t_q t_state_q t_roomMany t_doorMany t_stringLong t_laws_q t_lawMany t_readPage_q t_readLaws_q t_readRooms t_readDoors t_readString t_readLawMany t_toldOnce t_highRoom t_highDoor t_tape_q t_taped t_fault t_broken t_brokenAt t_spot t_here t_token t_value t_cuts_q t_letters_q t_work_q t_pages_q t_canBe_q t_leadsOn_q t_seen_q t_seenMany t_heard_q t_heardMany t_isKept_q t_lanes_q t_lengths_q t_cells_q t_torn, aI g t_state_q 196 t_state, aI g t_work_q 30 t_work_2] H → va_S A s.heap H locs → lv_has ls 2 [(0, .ref t_q), (1, .int v1_1)] → W p l e rmX8_worksNow s m args below meth c H locs 0 0 Q (F0 m 2 ls []) := by
    refine itr_ind2 ?_
    intro v1_1 t_work_2 z_3 hf hrec hex H locs ls hP hS hl
    unfold b_X8_worksNow_2 at hf
    refine lv_iload_n hx hb dX8_worksNow_2 rfl (lv_at hl 1 rfl) ?_
    refine lv_bipush (v := (30 : Int32)) hx hb dX8_worksNow_3 (by decide) ?_
    refine lv_icmp_ge (tgt := 26) hx hb dX8_worksNow_5 (by decide) (fun c_4 => ?_) (fun c_4 => ?_)
    · have hf := ite_t hf c_4
      exact K_3 v1_1 t_work_2 (congrArg (fun t => t.1) (hex _ (Option.some.inj hf).symm).symm) (congrArg (fun t => t.2) (hex _ (Option.some.inj hf).symm).symm) _ _ _ hP hS (lv_sub hl [] rfl)
    · have hf := ite_f hf c_4
      refine lv_aload_n hx hb dX8_worksNow_8 rfl (lv_at hl 0 rfl) ?_
      refine va_get (D := g.1) (ci := 8) (v := .ref t_work_q) (C := RX8) (T := TX8) (N := 39) hx hb hts inX8 hown hK hP 0 rfl rfl 26 (by decide) k38 (fun _ h9 => h9) rfl dX8_worksNow_9 ?_
      refine lv_iload_n hx hb dX8_worksNow_12 rfl (lv_at hl 1 rfl) ?_
      refine lv_aload_n hx hb dX8_worksNow_13 rfl (lv_at hl 0 rfl) ?_
      refine va_get (D := g.1) (ci := 8) (v := .ref t_state_q) (C := RX8) (T := TX8) (N := 39) hx hb hts inX8 hown hK hP 0 rfl rfl 0 (by decide) k7 (fun _ h9 => h9) rfl dX8_worksNow_14 ?_
      refine lv_iload_n hx hb dX8_worksNow_17 rfl (lv_at hl 1 rfl) ?_
      obtain ⟨h_5, hf⟩ := gin_e hf
      refine va_iald hx hb hK hP 1 0 rfl rfl h_5 dX8_worksNow_18 ?_
      obtain ⟨h_6, hf⟩ := gin_e hf
      obtain ⟨t_work_7, et_work_7, hf⟩ := bnd_e hf
      refine va_iast hx hb hK hP (hD.re rfl) hS 2 0 rfl rfl h_6 dX8_worksNow_19 (fun H locs hP _ hS => ?_)
      have hP : va_P g.1 vwCl [oX8 t_q t_state_q t_roomMany t_doorMany t_stringLong t_laws_q t_lawMany t_readPage_q t_readLaws_q t_readRooms t_readDoors t_readString t_readLawMany t_toldOnce t_highRoom t_highDoor t_tape_q t_taped t_fault t_broken t_brokenAt t_spot t_here t_token t_value t_cuts_q t_letters_q t_work_q t_pages_q t_canBe_q t_leadsOn_q t_seen_q t_seenMany t_heard_q t_heardMany t_isKept_q t_lanes_q t_lengths_q t_cells_q t_torn, aI g t_state_q 196 t_state, aI g t_work_q 30 t_work_7] H := by rw [et_work_7]; exact hP
      obtain ⟨v1_8, ev1_8, hf⟩ := bnd_e hf
      refine lv_iinc (v := v1_8) (lv' := [(1, .int v1_8), (0, .ref t_q)]) hx hb dX8_worksNow_20 hl (k := 1) rfl (by rw [ev1_8]; rfl) (by decide) rfl (fun ls hl => ?_)
      refine lv_goto (tgt := 2) hx hb dX8_worksNow_23 (by decide) ?_
      exact hrec v1_8 t_work_7 (Option.some.inj hf).symm _ _ _ hP hS (lv_sub hl [1, 0] rfl)
  exact L_3 FU (0 : Int32) t_work ho_3 _ _ _ hP hS (lv_sub hl [1, 0] rfl)

def f_X8_doesRule (t_roomMany : Int32) (t_work : Nat → Int32) (p1 : Int32) (p2 : Int32) (p3 : Int32) : Option ((Nat → Int32)) :=
 (if p1 = (0 : Int32) then
 (gin (((3 : Int32) * p2) + (1 : Int32)) 30 (bnd (t_work (((3 : Int32) * p2) + (1 : Int32)).toNatClampNeg) (fun v4_11 =>
 (gin (((3 : Int32) * p3) + (1 : Int32)) 30 (gin (((3 : Int32) * p2) + (1 : Int32)) 30 (bnd (upd t_work (((3 : Int32) * p2) + (1 : Int32)).toNatClampNeg (t_work (((3 : Int32) * p3) + (1 : Int32)).toNatClampNeg)) (fun t_work_14 =>
 (gin (((3 : Int32) * p3) + (1 : Int32)) 30 (bnd (upd t_work_14 (((3 : Int32) * p3) + (1 : Int32)).toNatClampNeg v4_11) (fun t_work_16 =>
 (some t_work_16)))))))))))
 else (if p1 = (1 : Int32) then
 (gin (((3 : Int32) * p2) + (1 : Int32)) 30 (gnz t_roomMany (gin (((3 : Int32) * p2) + (1 : Int32)) 30 (bnd (upd t_work (((3 : Int32) * p2) + (1 : Int32)).toNatClampNeg (((t_work (((3 : Int32) * p2) + (1 : Int32)).toNatClampNeg) + p3) - ((t_work (((3 : Int32) * p2) + (1 : Int32)).toNatClampNeg) + p3) / t_roomMany * t_roomMany)) (fun t_work_9 =>
 (some t_work_9))))))
 else (gin (((3 : Int32) * p2) + (2 : Int32)) 30 (gin (((3 : Int32) * p2) + (2 : Int32)) 30 (bnd (upd t_work (((3 : Int32) * p2) + (2 : Int32)).toNatClampNeg ((1 : Int32) - (t_work (((3 : Int32) * p2) + (2 : Int32)).toNatClampNeg))) (fun t_work_5 =>
 (some t_work_5)))))))
abbrev rmX8_doesRule : Room := { frames := 0, cells := 0, slots := 0, locals := 0 }
set_option maxHeartbeats 4000000 in
set_option maxRecDepth 100000 in
theorem c_X8_doesRule (l : Launch) (g : Gh) (sz : Nat) (t_q t_state_q t_laws_q t_readPage_q t_readLaws_q t_tape_q t_cuts_q t_letters_q t_work_q t_pages_q t_canBe_q t_leadsOn_q t_seen_q t_heard_q t_isKept_q t_lanes_q t_lengths_q t_cells_q : Nat) (t_roomMany : Int32) (t_doorMany : Int32) (t_stringLong : Int32) (t_lawMany : Int32) (t_readRooms : Int32) (t_readDoors : Int32) (t_readString : Int32) (t_readLawMany : Int32) (t_toldOnce : Int32) (t_highRoom : Int32) (t_highDoor : Int32) (t_taped : Int32) (t_fault : Int32) (t_broken : Int32) (t_brokenAt : Int32) (t_spot : Int32) (t_here : Int32) (t_token : Int32) (t_value : Int32) (t_seenMany : Int32) (t_heardMany : Int32) (t_torn : Int32) (t_work : Nat → Int32) (p1 : Int32) (p2 : Int32) (p3 : Int32) (t_work' : Nat → Int32) (hf : f_X8_doesRule t_roomMany t_work p1 p2 p3 = some t_work') : CV l yX8_doesRule wsX8_doesRule rmX8_doesRule [.ref t_q, .int p1, .int p2, .int p3] g sz [oX8 t_q t_state_q t_roomMany t_doorMany t_stringLong t_laws_q t_lawMany t_readPage_q t_readLaws_q t_readRooms t_readDoors t_readString t_readLawMany t_toldOnce t_highRoom t_highDoor t_tape_q t_taped t_fault t_broken t_brokenAt t_spot t_here t_token t_value t_cuts_q t_letters_q t_work_q t_pages_q t_canBe_q t_leadsOn_q t_seen_q t_seenMany t_heard_q t_heardMany t_isKept_q t_lanes_q t_lengths_q t_cells_q t_torn, aI g t_work_q 30 t_work] [oX8 t_q t_state_q t_roomMany t_doorMany t_stringLong t_laws_q t_lawMany t_readPage_q t_readLaws_q t_readRooms t_readDoors t_readString t_readLawMany t_toldOnce t_highRoom t_highDoor t_tape_q t_taped t_fault t_broken t_brokenAt t_spot t_here t_token t_value t_cuts_q t_letters_q t_work_q t_pages_q t_canBe_q t_leadsOn_q t_seen_q t_seenMany t_heard_q t_heardMany t_isKept_q t_lanes_q t_lengths_q t_cells_q t_torn, aI g t_work_q 30 t_work'] := by
  refine ent_v (cc := cX8_doesRule) (maxL := 5) (by decide) rfl (Nat.le_of_ble_eq_true rfl) ?_
  intro p e s m args below meth c A Q hx hb hml hown hts hK hz hk hA hD hP hS hret ls hl
  have hown : s.vm.findClass RX8 = some m.cls := hown
  have inX8 : ∀ w ∈ u_ws RX8 TX8 39, w ∈ wsX8_doesRule := by decide +kernel
  have k13 := hts (.fieldLink RX8 13 "ThreadMovedModel" "roomMany" "I") (by decide +kernel)
  have k38 := hts (.fieldLink RX8 38 "ThreadMovedModel" "work" "[I") (by decide +kernel)
  have hl : lv_has ls 5 [(0, .ref t_q), (1, .int p1), (2, .int p2), (3, .int p3)] := hl
  have hret : ∀ (t_workz : Nat → Int32), t_workz = t_work' → ∀ (H : Heap) (locs : List Loc) (pc : Nat) (ls : Array Slot), va_P g.1 vwCl [oX8 t_q t_state_q t_roomMany t_doorMany t_stringLong t_laws_q t_lawMany t_readPage_q t_readLaws_q t_readRooms t_readDoors t_readString t_readLawMany t_toldOnce t_highRoom t_highDoor t_tape_q t_taped t_fault t_broken t_brokenAt t_spot t_here t_token t_value t_cuts_q t_letters_q t_work_q t_pages_q t_canBe_q t_leadsOn_q t_seen_q t_seenMany t_heard_q t_heardMany t_isKept_q t_lanes_q t_lengths_q t_cells_q t_torn, aI g t_work_q 30 t_workz] H → va_S A s.heap H locs → decode cX8_doesRule pc = .ok (.return_, 1) → W p l e rmX8_doesRule s m args below meth c H locs 0 0 Q (F0 m pc ls []) := by
    intro t_workz he H locs pc ls hP hS hd
    cases he
    exact hret H locs pc ls hP hS hd
  unfold f_X8_doesRule at hf
  refine lv_iload_n hx hb dX8_doesRule_0 rfl (lv_at hl 1 rfl) ?_
  refine lv_if_ne (tgt := 51) hx hb dX8_doesRule_1 (by decide) (fun c_1 => ?_) (fun c_1 => ?_)
  · have hf := ite_f hf c_1
    refine lv_iload_n hx hb dX8_doesRule_51 rfl (lv_at hl 1 rfl) ?_
    refine lv_iconst (v := (1 : Int32)) hx hb dX8_doesRule_52 (by decide) ?_
    refine lv_icmp_ne (tgt := 86) hx hb dX8_doesRule_53 (by decide) (fun c_2 => ?_) (fun c_2 => ?_)
    · have hf := ite_f hf c_2
      refine lv_aload_n hx hb dX8_doesRule_86 rfl (lv_at hl 0 rfl) ?_
      refine va_get (D := g.1) (ci := 8) (v := .ref t_work_q) (C := RX8) (T := TX8) (N := 39) hx hb hts inX8 hown hK hP 0 rfl rfl 26 (by decide) k38 (fun _ h9 => h9) rfl dX8_doesRule_87 ?_
      refine lv_iconst (v := (3 : Int32)) hx hb dX8_doesRule_90 (by decide) ?_
      refine lv_iload_n hx hb dX8_doesRule_91 rfl (lv_at hl 2 rfl) ?_
      refine lv_imul hx hb dX8_doesRule_92 ?_
      refine lv_iconst (v := (2 : Int32)) hx hb dX8_doesRule_93 (by decide) ?_
      refine lv_iadd hx hb dX8_doesRule_94 ?_
      refine lv_iconst (v := (1 : Int32)) hx hb dX8_doesRule_95 (by decide) ?_
      refine lv_aload_n hx hb dX8_doesRule_96 rfl (lv_at hl 0 rfl) ?_
      refine va_get (D := g.1) (ci := 8) (v := .ref t_work_q) (C := RX8) (T := TX8) (N := 39) hx hb hts inX8 hown hK hP 0 rfl rfl 26 (by decide) k38 (fun _ h9 => h9) rfl dX8_doesRule_97 ?_
      refine lv_iconst (v := (3 : Int32)) hx hb dX8_doesRule_100 (by decide) ?_
      refine lv_iload_n hx hb dX8_doesRule_101 rfl (lv_at hl 2 rfl) ?_
      refine lv_imul hx hb dX8_doesRule_102 ?_
      refine lv_iconst (v := (2 : Int32)) hx hb dX8_doesRule_103 (by decide) ?_
      refine lv_iadd hx hb dX8_doesRule_104 ?_
      obtain ⟨h_3, hf⟩ := gin_e hf
      refine va_iald hx hb hK hP 1 0 rfl rfl h_3 dX8_doesRule_105 ?_
      refine lv_isub hx hb dX8_doesRule_106 ?_
      obtain ⟨h_4, hf⟩ := gin_e hf
      obtain ⟨t_work_5, et_work_5, hf⟩ := bnd_e hf
      refine va_iast hx hb hK hP (hD.re rfl) hS 1 0 rfl rfl h_4 dX8_doesRule_107 (fun H locs hP _ hS => ?_)
      have hP : va_P g.1 vwCl [oX8 t_q t_state_q t_roomMany t_doorMany t_stringLong t_laws_q t_lawMany t_readPage_q t_readLaws_q t_readRooms t_readDoors t_readString t_readLawMany t_toldOnce t_highRoom t_highDoor t_tape_q t_taped t_fault t_broken t_brokenAt t_spot t_here t_token t_value t_cuts_q t_letters_q t_work_q t_pages_q t_canBe_q t_leadsOn_q t_seen_q t_seenMany t_heard_q t_heardMany t_isKept_q t_lanes_q t_lengths_q t_cells_q t_torn, aI g t_work_q 30 t_work_5] H := by rw [et_work_5]; exact hP
      exact hret t_work_5 (Option.some.inj hf) _ _ _ _ hP hS dX8_doesRule_108
    · have hf := ite_t hf c_2
      refine lv_aload_n hx hb dX8_doesRule_56 rfl (lv_at hl 0 rfl) ?_
      refine va_get (D := g.1) (ci := 8) (v := .ref t_work_q) (C := RX8) (T := TX8) (N := 39) hx hb hts inX8 hown hK hP 0 rfl rfl 26 (by decide) k38 (fun _ h9 => h9) rfl dX8_doesRule_57 ?_
      refine lv_iconst (v := (3 : Int32)) hx hb dX8_doesRule_60 (by decide) ?_
      refine lv_iload_n hx hb dX8_doesRule_61 rfl (lv_at hl 2 rfl) ?_
      refine lv_imul hx hb dX8_doesRule_62 ?_
      refine lv_iconst (v := (1 : Int32)) hx hb dX8_doesRule_63 (by decide) ?_
      refine lv_iadd hx hb dX8_doesRule_64 ?_
      refine lv_aload_n hx hb dX8_doesRule_65 rfl (lv_at hl 0 rfl) ?_
      refine va_get (D := g.1) (ci := 8) (v := .ref t_work_q) (C := RX8) (T := TX8) (N := 39) hx hb hts inX8 hown hK hP 0 rfl rfl 26 (by decide) k38 (fun _ h9 => h9) rfl dX8_doesRule_66 ?_
      refine lv_iconst (v := (3 : Int32)) hx hb dX8_doesRule_69 (by decide) ?_
      refine lv_iload_n hx hb dX8_doesRule_70 rfl (lv_at hl 2 rfl) ?_
      refine lv_imul hx hb dX8_doesRule_71 ?_
      refine lv_iconst (v := (1 : Int32)) hx hb dX8_doesRule_72 (by decide) ?_
      refine lv_iadd hx hb dX8_doesRule_73 ?_
      obtain ⟨h_6, hf⟩ := gin_e hf
      refine va_iald hx hb hK hP 1 0 rfl rfl h_6 dX8_doesRule_74 ?_
      refine lv_iload_n hx hb dX8_doesRule_75 rfl (lv_at hl 3 rfl) ?_
      refine lv_iadd hx hb dX8_doesRule_76 ?_
      refine lv_aload_n hx hb dX8_doesRule_77 rfl (lv_at hl 0 rfl) ?_
      refine va_get (D := g.1) (ci := 8) (v := .int t_roomMany) (C := RX8) (T := TX8) (N := 39) hx hb hts inX8 hown hK hP 0 rfl rfl 1 (by decide) k13 (fun _ h9 => h9) rfl dX8_doesRule_78 ?_
      obtain ⟨z_7, hf⟩ := gnz_e hf
      refine lv_irem hx hb dX8_doesRule_81 z_7 ?_
      obtain ⟨h_8, hf⟩ := gin_e hf
      obtain ⟨t_work_9, et_work_9, hf⟩ := bnd_e hf
      refine va_iast hx hb hK hP (hD.re rfl) hS 1 0 rfl rfl h_8 dX8_doesRule_82 (fun H locs hP _ hS => ?_)
      have hP : va_P g.1 vwCl [oX8 t_q t_state_q t_roomMany t_doorMany t_stringLong t_laws_q t_lawMany t_readPage_q t_readLaws_q t_readRooms t_readDoors t_readString t_readLawMany t_toldOnce t_highRoom t_highDoor t_tape_q t_taped t_fault t_broken t_brokenAt t_spot t_here t_token t_value t_cuts_q t_letters_q t_work_q t_pages_q t_canBe_q t_leadsOn_q t_seen_q t_seenMany t_heard_q t_heardMany t_isKept_q t_lanes_q t_lengths_q t_cells_q t_torn, aI g t_work_q 30 t_work_9] H := by rw [et_work_9]; exact hP
      refine lv_goto (tgt := 108) hx hb dX8_doesRule_83 (by decide) ?_
      exact hret t_work_9 (Option.some.inj hf) _ _ _ _ hP hS dX8_doesRule_108
  · have hf := ite_t hf c_1
    refine lv_aload_n hx hb dX8_doesRule_4 rfl (lv_at hl 0 rfl) ?_
    refine va_get (D := g.1) (ci := 8) (v := .ref t_work_q) (C := RX8) (T := TX8) (N := 39) hx hb hts inX8 hown hK hP 0 rfl rfl 26 (by decide) k38 (fun _ h9 => h9) rfl dX8_doesRule_5 ?_
    refine lv_iconst (v := (3 : Int32)) hx hb dX8_doesRule_8 (by decide) ?_
    refine lv_iload_n hx hb dX8_doesRule_9 rfl (lv_at hl 2 rfl) ?_
    refine lv_imul hx hb dX8_doesRule_10 ?_
    refine lv_iconst (v := (1 : Int32)) hx hb dX8_doesRule_11 (by decide) ?_
    refine lv_iadd hx hb dX8_doesRule_12 ?_
    obtain ⟨h_10, hf⟩ := gin_e hf
    refine va_iald hx hb hK hP 1 0 rfl rfl h_10 dX8_doesRule_13 ?_
    obtain ⟨v4_11, ev4_11, hf⟩ := bnd_e hf
    refine tp_i ev4_11 ?_
    refine lv_istore (lv' := [(4, .int v4_11), (0, .ref t_q), (1, .int p1), (2, .int p2), (3, .int p3)]) hx hb dX8_doesRule_14 hl (by decide) rfl (fun ls hl => ?_)
    refine lv_aload_n hx hb dX8_doesRule_16 rfl (lv_at hl 1 rfl) ?_
    refine va_get (D := g.1) (ci := 8) (v := .ref t_work_q) (C := RX8) (T := TX8) (N := 39) hx hb hts inX8 hown hK hP 0 rfl rfl 26 (by decide) k38 (fun _ h9 => h9) rfl dX8_doesRule_17 ?_
    refine lv_iconst (v := (3 : Int32)) hx hb dX8_doesRule_20 (by decide) ?_
    refine lv_iload_n hx hb dX8_doesRule_21 rfl (lv_at hl 3 rfl) ?_
    refine lv_imul hx hb dX8_doesRule_22 ?_
    refine lv_iconst (v := (1 : Int32)) hx hb dX8_doesRule_23 (by decide) ?_
    refine lv_iadd hx hb dX8_doesRule_24 ?_
    refine lv_aload_n hx hb dX8_doesRule_25 rfl (lv_at hl 1 rfl) ?_
    refine va_get (D := g.1) (ci := 8) (v := .ref t_work_q) (C := RX8) (T := TX8) (N := 39) hx hb hts inX8 hown hK hP 0 rfl rfl 26 (by decide) k38 (fun _ h9 => h9) rfl dX8_doesRule_26 ?_
    refine lv_iconst (v := (3 : Int32)) hx hb dX8_doesRule_29 (by decide) ?_
    refine lv_iload_n hx hb dX8_doesRule_30 rfl (lv_at hl 4 rfl) ?_
    refine lv_imul hx hb dX8_doesRule_31 ?_
    refine lv_iconst (v := (1 : Int32)) hx hb dX8_doesRule_32 (by decide) ?_
    refine lv_iadd hx hb dX8_doesRule_33 ?_
    obtain ⟨h_12, hf⟩ := gin_e hf
    refine va_iald hx hb hK hP 1 0 rfl rfl h_12 dX8_doesRule_34 ?_
    obtain ⟨h_13, hf⟩ := gin_e hf
    obtain ⟨t_work_14, et_work_14, hf⟩ := bnd_e hf
    refine va_iast hx hb hK hP (hD.re rfl) hS 1 0 rfl rfl h_13 dX8_doesRule_35 (fun H locs hP _ hS => ?_)
    have hP : va_P g.1 vwCl [oX8 t_q t_state_q t_roomMany t_doorMany t_stringLong t_laws_q t_lawMany t_readPage_q t_readLaws_q t_readRooms t_readDoors t_readString t_readLawMany t_toldOnce t_highRoom t_highDoor t_tape_q t_taped t_fault t_broken t_brokenAt t_spot t_here t_token t_value t_cuts_q t_letters_q t_work_q t_pages_q t_canBe_q t_leadsOn_q t_seen_q t_seenMany t_heard_q t_heardMany t_isKept_q t_lanes_q t_lengths_q t_cells_q t_torn, aI g t_work_q 30 t_work_14] H := by rw [et_work_14]; exact hP
    refine lv_aload_n hx hb dX8_doesRule_36 rfl (lv_at hl 1 rfl) ?_
    refine va_get (D := g.1) (ci := 8) (v := .ref t_work_q) (C := RX8) (T := TX8) (N := 39) hx hb hts inX8 hown hK hP 0 rfl rfl 26 (by decide) k38 (fun _ h9 => h9) rfl dX8_doesRule_37 ?_
    refine lv_iconst (v := (3 : Int32)) hx hb dX8_doesRule_40 (by decide) ?_
    refine lv_iload_n hx hb dX8_doesRule_41 rfl (lv_at hl 4 rfl) ?_
    refine lv_imul hx hb dX8_doesRule_42 ?_
    refine lv_iconst (v := (1 : Int32)) hx hb dX8_doesRule_43 (by decide) ?_
    refine lv_iadd hx hb dX8_doesRule_44 ?_
    refine lv_iload hx hb dX8_doesRule_45 (lv_at hl 0 rfl) ?_
    obtain ⟨h_15, hf⟩ := gin_e hf
    obtain ⟨t_work_16, et_work_16, hf⟩ := bnd_e hf
    refine va_iast hx hb hK hP (hD.re rfl) hS 1 0 rfl rfl h_15 dX8_doesRule_47 (fun H locs hP _ hS => ?_)
    have hP : va_P g.1 vwCl [oX8 t_q t_state_q t_roomMany t_doorMany t_stringLong t_laws_q t_lawMany t_readPage_q t_readLaws_q t_readRooms t_readDoors t_readString t_readLawMany t_toldOnce t_highRoom t_highDoor t_tape_q t_taped t_fault t_broken t_brokenAt t_spot t_here t_token t_value t_cuts_q t_letters_q t_work_q t_pages_q t_canBe_q t_leadsOn_q t_seen_q t_seenMany t_heard_q t_heardMany t_isKept_q t_lanes_q t_lengths_q t_cells_q t_torn, aI g t_work_q 30 t_work_16] H := by rw [et_work_16]; exact hP
    refine lv_goto (tgt := 108) hx hb dX8_doesRule_48 (by decide) ?_
    exact hret t_work_16 (Option.some.inj hf) _ _ _ _ hP hS dX8_doesRule_108

def b_X8_dusks_2 (t_roomMany : Int32) (t_lawMany : Int32) (t_laws : Nat → Int32) (v1_1 : Int32) (t_work_2 : Nat → Int32) : Option ((Int32 × (Nat → Int32)) ⊕ (Int32 × (Nat → Int32))) :=
 (if t_lawMany ≤ v1_1 then
 (some (.inr (v1_1, t_work_2)))
 else (gin ((3 : Int32) * v1_1) 18 (gin (((3 : Int32) * v1_1) + (1 : Int32)) 18 (gin (((3 : Int32) * v1_1) + (2 : Int32)) 18 (ob1 (f_X8_doesRule t_roomMany t_work_2 (t_laws ((3 : Int32) * v1_1).toNatClampNeg) (t_laws (((3 : Int32) * v1_1) + (1 : Int32)).toNatClampNeg) (t_laws (((3 : Int32) * v1_1) + (2 : Int32)).toNatClampNeg)) (fun t_work_8 =>
 (bnd (v1_1 + (1 : Int32)) (fun v1_10 =>
 (some (.inl (v1_10, t_work_8)))))))))))
def f_X8_dusks (t_roomMany : Int32) (t_lawMany : Int32) (t_laws : Nat → Int32) (t_work : Nat → Int32) : Option ((Nat → Int32)) :=
 (ob2 (itr (un2 (b_X8_dusks_2 t_roomMany t_lawMany t_laws)) FU ((0 : Int32), t_work)) (fun x1_11 t_work_12 =>
 (some t_work_12)))
abbrev rmX8_dusks : Room := { frames := 1, cells := 0, slots := 0, locals := 24 }
set_option maxHeartbeats 4000000 in
set_option maxRecDepth 100000 in
theorem c_X8_dusks (l : Launch) (g : Gh) (sz : Nat) (t_q t_state_q t_laws_q t_readPage_q t_readLaws_q t_tape_q t_cuts_q t_letters_q t_work_q t_pages_q t_canBe_q t_leadsOn_q t_seen_q t_heard_q t_isKept_q t_lanes_q t_lengths_q t_cells_q : Nat) (t_roomMany : Int32) (t_doorMany : Int32) (t_stringLong : Int32) (t_lawMany : Int32) (t_readRooms : Int32) (t_readDoors : Int32) (t_readString : Int32) (t_readLawMany : Int32) (t_toldOnce : Int32) (t_highRoom : Int32) (t_highDoor : Int32) (t_taped : Int32) (t_fault : Int32) (t_broken : Int32) (t_brokenAt : Int32) (t_spot : Int32) (t_here : Int32) (t_token : Int32) (t_value : Int32) (t_seenMany : Int32) (t_heardMany : Int32) (t_torn : Int32) (t_laws : Nat → Int32) (t_work : Nat → Int32) (t_work' : Nat → Int32) (hf : f_X8_dusks t_roomMany t_lawMany t_laws t_work = some t_work') : CV l yX8_dusks wsX8_dusks rmX8_dusks [.ref t_q] g sz [oX8 t_q t_state_q t_roomMany t_doorMany t_stringLong t_laws_q t_lawMany t_readPage_q t_readLaws_q t_readRooms t_readDoors t_readString t_readLawMany t_toldOnce t_highRoom t_highDoor t_tape_q t_taped t_fault t_broken t_brokenAt t_spot t_here t_token t_value t_cuts_q t_letters_q t_work_q t_pages_q t_canBe_q t_leadsOn_q t_seen_q t_seenMany t_heard_q t_heardMany t_isKept_q t_lanes_q t_lengths_q t_cells_q t_torn, aI g t_laws_q 18 t_laws, aI g t_work_q 30 t_work] [oX8 t_q t_state_q t_roomMany t_doorMany t_stringLong t_laws_q t_lawMany t_readPage_q t_readLaws_q t_readRooms t_readDoors t_readString t_readLawMany t_toldOnce t_highRoom t_highDoor t_tape_q t_taped t_fault t_broken t_brokenAt t_spot t_here t_token t_value t_cuts_q t_letters_q t_work_q t_pages_q t_canBe_q t_leadsOn_q t_seen_q t_seenMany t_heard_q t_heardMany t_isKept_q t_lanes_q t_lengths_q t_cells_q t_torn, aI g t_laws_q 18 t_laws, aI g t_work_q 30 t_work'] := by
  refine ent_v (cc := cX8_dusks) (maxL := 2) (by decide) rfl (Nat.le_of_ble_eq_true rfl) ?_
  intro p e s m args below meth c A Q hx hb hml hown hts hK hz hk hA hD hP hS hret ls hl
  have hown : s.vm.findClass RX8 = some m.cls := hown
  have inX8 : ∀ w ∈ u_ws RX8 TX8 39, w ∈ wsX8_dusks := by decide +kernel
  have k20 := hts (.fieldLink RX8 20 "ThreadMovedModel" "laws" "[I") (by decide +kernel)
  have k178 := hts (.fieldLink RX8 178 "ThreadMovedModel" "lawMany" "I") (by decide +kernel)
  have hl : lv_has ls 2 [(0, .ref t_q)] := hl
  have hret : ∀ (t_workz : Nat → Int32), t_workz = t_work' → ∀ (H : Heap) (locs : List Loc) (pc : Nat) (ls : Array Slot), va_P g.1 vwCl [oX8 t_q t_state_q t_roomMany t_doorMany t_stringLong t_laws_q t_lawMany t_readPage_q t_readLaws_q t_readRooms t_readDoors t_readString t_readLawMany t_toldOnce t_highRoom t_highDoor t_tape_q t_taped t_fault t_broken t_brokenAt t_spot t_here t_token t_value t_cuts_q t_letters_q t_work_q t_pages_q t_canBe_q t_leadsOn_q t_seen_q t_seenMany t_heard_q t_heardMany t_isKept_q t_lanes_q t_lengths_q t_cells_q t_torn, aI g t_laws_q 18 t_laws, aI g t_work_q 30 t_workz] H → va_S A s.heap H locs → decode cX8_dusks pc = .ok (.return_, 1) → W p l e rmX8_dusks s m args below meth c H locs 0 0 Q (F0 m pc ls []) := by
    intro t_workz he H locs pc ls hP hS hd
    cases he
    exact hret H locs pc ls hP hS hd
  unfold f_X8_dusks at hf
  refine lv_iconst (v := (0 : Int32)) hx hb dX8_dusks_0 (by decide) ?_
  refine lv_istore_n (lv' := [(1, .int (0 : Int32)), (0, .ref t_q)]) hx hb dX8_dusks_1 rfl hl (by decide) rfl (fun ls hl => ?_)
  obtain ⟨x1_11, t_work_12, ho_3, hf⟩ := ob2_e hf
  have K_3 : ∀ (x1_11y : Int32) (t_work_12y : Nat → Int32), x1_11 = x1_11y → t_work_12 = t_work_12y → ∀ (H : Heap) (locs : List Loc) (ls : Array Slot), va_P g.1 vwCl [oX8 t_q t_state_q t_roomMany t_doorMany t_stringLong t_laws_q t_lawMany t_readPage_q t_readLaws_q t_readRooms t_readDoors t_readString t_readLawMany t_toldOnce t_highRoom t_highDoor t_tape_q t_taped t_fault t_broken t_brokenAt t_spot t_here t_token t_value t_cuts_q t_letters_q t_work_q t_pages_q t_canBe_q t_leadsOn_q t_seen_q t_seenMany t_heard_q t_heardMany t_isKept_q t_lanes_q t_lengths_q t_cells_q t_torn, aI g t_laws_q 18 t_laws, aI g t_work_q 30 t_work_12y] H → va_S A s.heap H locs → lv_has ls 2 [] → W p l e rmX8_dusks s m args below meth c H locs 0 0 Q (F0 m 48 ls []) := by
    intro x1_11y t_work_12y ey0 ey1 H locs ls hP hS hl
    subst ey0
    subst ey1
    exact hret t_work_12 (Option.some.inj hf) _ _ _ _ hP hS dX8_dusks_48
  have L_3 : ∀ (n : Nat) (v1_1 : Int32) (t_work_2 : Nat → Int32), itr (un2 (b_X8_dusks_2 t_roomMany t_lawMany t_laws)) n (v1_1, t_work_2) = some (x1_11, t_work_12) → ∀ (H : Heap) (locs : List Loc) (ls : Array Slot), va_P g.1 vwCl [oX8 t_q t_state_q t_roomMany t_doorMany t_stringLong t_laws_q t_lawMany t_readPage_q t_readLaws_q t_readRooms t_readDoors t_readString t_readLawMany t_toldOnce t_highRoom t_highDoor t_tape_q t_taped t_fault t_broken t_brokenAt t_spot t_here t_token t_value t_cuts_q t_letters_q t_work_q t_pages_q t_canBe_q t_leadsOn_q t_seen_q t_seenMany t_heard_q t_heardMany t_isKept_q t_lanes_q t_lengths_q t_cells_q t_torn, aI g t_laws_q 18 t_laws, aI g t_work_q 30 t_work_2] H → va_S A s.heap H locs → lv_has ls 2 [(0, .ref t_q), (1, .int v1_1)] → W p l e rmX8_dusks s m args below meth c H locs 0 0 Q (F0 m 2 ls []) := by
    refine itr_ind2 ?_
    intro v1_1 t_work_2 z_3 hf hrec hex H locs ls hP hS hl
    unfold b_X8_dusks_2 at hf
    refine lv_iload_n hx hb dX8_dusks_2 rfl (lv_at hl 1 rfl) ?_
    refine lv_aload_n hx hb dX8_dusks_3 rfl (lv_at hl 0 rfl) ?_
    refine va_get (D := g.1) (ci := 8) (v := .int t_lawMany) (C := RX8) (T := TX8) (N := 39) hx hb hts inX8 hown hK hP 0 rfl rfl 5 (by decide) k178 (fun _ h9 => h9) rfl dX8_dusks_4 ?_
    refine lv_icmp_ge (tgt := 48) hx hb dX8_dusks_7 (by decide) (fun c_4 => ?_) (fun c_4 => ?_)
    · have hf := ite_t hf c_4
      exact K_3 v1_1 t_work_2 (congrArg (fun t => t.1) (hex _ (Option.some.inj hf).symm).symm) (congrArg (fun t => t.2) (hex _ (Option.some.inj hf).symm).symm) _ _ _ hP hS (lv_sub hl [] rfl)
    · have hf := ite_f hf c_4
      refine lv_aload_n hx hb dX8_dusks_10 rfl (lv_at hl 0 rfl) ?_
      refine lv_aload_n hx hb dX8_dusks_11 rfl (lv_at hl 0 rfl) ?_
      refine va_get (D := g.1) (ci := 8) (v := .ref t_laws_q) (C := RX8) (T := TX8) (N := 39) hx hb hts inX8 hown hK hP 0 rfl rfl 4 (by decide) k20 (fun _ h9 => h9) rfl dX8_dusks_12 ?_
      refine lv_iconst (v := (3 : Int32)) hx hb dX8_dusks_15 (by decide) ?_
      refine lv_iload_n hx hb dX8_dusks_16 rfl (lv_at hl 1 rfl) ?_
      refine lv_imul hx hb dX8_dusks_17 ?_
      obtain ⟨h_5, hf⟩ := gin_e hf
      refine va_iald hx hb hK hP 1 0 rfl rfl h_5 dX8_dusks_18 ?_
      refine lv_aload_n hx hb dX8_dusks_19 rfl (lv_at hl 0 rfl) ?_
      refine va_get (D := g.1) (ci := 8) (v := .ref t_laws_q) (C := RX8) (T := TX8) (N := 39) hx hb hts inX8 hown hK hP 0 rfl rfl 4 (by decide) k20 (fun _ h9 => h9) rfl dX8_dusks_20 ?_
      refine lv_iconst (v := (3 : Int32)) hx hb dX8_dusks_23 (by decide) ?_
      refine lv_iload_n hx hb dX8_dusks_24 rfl (lv_at hl 1 rfl) ?_
      refine lv_imul hx hb dX8_dusks_25 ?_
      refine lv_iconst (v := (1 : Int32)) hx hb dX8_dusks_26 (by decide) ?_
      refine lv_iadd hx hb dX8_dusks_27 ?_
      obtain ⟨h_6, hf⟩ := gin_e hf
      refine va_iald hx hb hK hP 1 0 rfl rfl h_6 dX8_dusks_28 ?_
      refine lv_aload_n hx hb dX8_dusks_29 rfl (lv_at hl 0 rfl) ?_
      refine va_get (D := g.1) (ci := 8) (v := .ref t_laws_q) (C := RX8) (T := TX8) (N := 39) hx hb hts inX8 hown hK hP 0 rfl rfl 4 (by decide) k20 (fun _ h9 => h9) rfl dX8_dusks_30 ?_
      refine lv_iconst (v := (3 : Int32)) hx hb dX8_dusks_33 (by decide) ?_
      refine lv_iload_n hx hb dX8_dusks_34 rfl (lv_at hl 1 rfl) ?_
      refine lv_imul hx hb dX8_dusks_35 ?_
      refine lv_iconst (v := (2 : Int32)) hx hb dX8_dusks_36 (by decide) ?_
      refine lv_iadd hx hb dX8_dusks_37 ?_
      obtain ⟨h_7, hf⟩ := gin_e hf
      refine va_iald hx hb hK hP 1 0 rfl rfl h_7 dX8_dusks_38 ?_
      obtain ⟨t_work_8, hc_9, hf⟩ := ob1_e hf
      refine kV_v (wn := [oX8 t_q t_state_q t_roomMany t_doorMany t_stringLong t_laws_q t_lawMany t_readPage_q t_readLaws_q t_readRooms t_readDoors t_readString t_readLawMany t_toldOnce t_highRoom t_highDoor t_tape_q t_taped t_fault t_broken t_brokenAt t_spot t_here t_token t_value t_cuts_q t_letters_q t_work_q t_pages_q t_canBe_q t_leadsOn_q t_seen_q t_seenMany t_heard_q t_heardMany t_isKept_q t_lanes_q t_lengths_q t_cells_q t_torn, aI g t_laws_q 18 t_laws, aI g t_work_q 30 t_work_8]) (As := [.int (t_laws ((3 : Int32) * v1_1).toNatClampNeg), .int (t_laws (((3 : Int32) * v1_1) + (1 : Int32)).toNatClampNeg), .int (t_laws (((3 : Int32) * v1_1) + (2 : Int32)).toNatClampNeg)]) (rest := []) (c_X8_doesRule l g _ t_q t_state_q t_laws_q t_readPage_q t_readLaws_q t_tape_q t_cuts_q t_letters_q t_work_q t_pages_q t_canBe_q t_leadsOn_q t_seen_q t_heard_q t_isKept_q t_lanes_q t_lengths_q t_cells_q t_roomMany t_doorMany t_stringLong t_lawMany t_readRooms t_readDoors t_readString t_readLawMany t_toldOnce t_highRoom t_highDoor t_taped t_fault t_broken t_brokenAt t_spot t_here t_token t_value t_seenMany t_heardMany t_torn t_work_2 (t_laws ((3 : Int32) * v1_1).toNatClampNeg) (t_laws (((3 : Int32) * v1_1) + (1 : Int32)).toNatClampNeg) (t_laws (((3 : Int32) * v1_1) + (2 : Int32)).toNatClampNeg) t_work_8 hc_9) ⟨hx, hb, hml, hown, hts⟩ (cwV 3 hts gX8_dusks_X8_doesRule rfl rfl rfl (by decide +kernel) ⟨by decide, by decide⟩) hK hz hk hP (hD.re rfl) hS hA [0, 2] rfl rfl rfl rfl rfl rfl rfl hl.1 rfl (Nat.le_of_ble_eq_true rfl) dX8_dusks_39 (fun H locs hP hS => ?_)
      obtain ⟨v1_10, ev1_10, hf⟩ := bnd_e hf
      refine lv_iinc (v := v1_10) (lv' := [(1, .int v1_10), (0, .ref t_q)]) hx hb dX8_dusks_42 hl (k := 1) rfl (by rw [ev1_10]; rfl) (by decide) rfl (fun ls hl => ?_)
      refine lv_goto (tgt := 2) hx hb dX8_dusks_45 (by decide) ?_
      exact hrec v1_10 t_work_8 (Option.some.inj hf).symm _ _ _ hP hS (lv_sub hl [1, 0] rfl)
  exact L_3 FU (0 : Int32) t_work ho_3 _ _ _ hP hS (lv_sub hl [1, 0] rfl)
