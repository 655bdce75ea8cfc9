def f_X8_other (t_taped : Int32) (t_broken : Int32) (t_brokenAt : Int32) (t_spot : Int32) (t_here : Int32) (t_token : Int32) (t_value : Int32) (t_tape : Nat → Int32) (p1 : Int32) (p2 : Int32) (p3 : Int32) : Option (Int32 × Int32 × Int32 × Int32 × Int32 × Int32 × Int32) :=
 (jn2 (fun (t_broken_1 : Int32) (t_brokenAt_2 : Int32) => (jn2 (fun (t_broken_4 : Int32) (t_brokenAt_5 : Int32) => (jn2 (fun (t_broken_7 : Int32) (t_brokenAt_8 : Int32) => (jn1 (fun (s_10 : Int32) => (ob6 (f_X8_step t_taped t_broken_7 t_brokenAt_8 t_spot t_here t_token t_value t_tape) (fun t_broken_12 t_brokenAt_13 t_here_14 t_spot_15 t_token_16 t_value_17 =>
 (some (s_10, t_broken_12, t_brokenAt_13, t_here_14, t_spot_15, t_token_16, t_value_17))))) (fun j_11 =>
 (if t_broken_7 = (0 : Int32) then
 (j_11 t_value)
 else (j_11 p1))))) (fun j_9 =>
 (if t_broken_4 = (0 : Int32) then
 (if ((p3 >>> (t_value &&& 31)) &&& (1 : Int32)) = (1 : Int32) then
 (ob2 (f_X8_fails t_broken_4 t_brokenAt_5 t_here (4 : Int32)) (fun t_broken_22 t_brokenAt_23 =>
 (j_9 t_broken_22 t_brokenAt_23)))
 else (j_9 t_broken_4 t_brokenAt_5))
 else (j_9 t_broken_4 t_brokenAt_5))))) (fun j_6 =>
 (if t_broken_1 = (0 : Int32) then
 (ob1 (f_X8_in (t_value.toInt64) (p1.toInt64) (p2.toInt64)) (fun r_26 =>
 (if r_26 = (0 : Int32) then
 (ob2 (f_X8_fails t_broken_1 t_brokenAt_2 t_here (3 : Int32)) (fun t_broken_29 t_brokenAt_30 =>
 (j_6 t_broken_29 t_brokenAt_30)))
 else (j_6 t_broken_1 t_brokenAt_2))))
 else (j_6 t_broken_1 t_brokenAt_2))))) (fun j_3 =>
 (if t_broken = (0 : Int32) then
 (if t_token = (2 : Int32) then
 (j_3 t_broken t_brokenAt)
 else (ob2 (f_X8_fails t_broken t_brokenAt t_here (2 : Int32)) (fun t_broken_34 t_brokenAt_35 =>
 (j_3 t_broken_34 t_brokenAt_35))))
 else (j_3 t_broken t_brokenAt))))
abbrev rmX8_other : Room := { frames := 2, cells := 0, slots := 0, locals := 46 }
set_option maxHeartbeats 4000000 in
set_option maxRecDepth 100000 in
theorem c_X8_other (l : Launch) (g : Gh) (sz : Nat) (t_q t_state_q t_laws_q t_readPage_q t_readLaws_q t_tape_q t_cuts_q t_letters_q t_work_q t_pages_q t_canBe_q t_leadsOn_q t_seen_q t_heard_q t_isKept_q t_lanes_q t_lengths_q t_cells_q : Nat) (t_roomMany : Int32) (t_doorMany : Int32) (t_stringLong : Int32) (t_lawMany : Int32) (t_readRooms : Int32) (t_readDoors : Int32) (t_readString : Int32) (t_readLawMany : Int32) (t_toldOnce : Int32) (t_highRoom : Int32) (t_highDoor : Int32) (t_taped : Int32) (t_fault : Int32) (t_broken : Int32) (t_brokenAt : Int32) (t_spot : Int32) (t_here : Int32) (t_token : Int32) (t_value : Int32) (t_seenMany : Int32) (t_heardMany : Int32) (t_torn : Int32) (t_tape : Nat → Int32) (p1 : Int32) (p2 : Int32) (p3 : Int32) (rr : Int32) (t_broken' : Int32) (t_brokenAt' : Int32) (t_here' : Int32) (t_spot' : Int32) (t_token' : Int32) (t_value' : Int32) (hf : f_X8_other t_taped t_broken t_brokenAt t_spot t_here t_token t_value t_tape p1 p2 p3 = some (rr, t_broken', t_brokenAt', t_here', t_spot', t_token', t_value')) : CI l yX8_other wsX8_other rmX8_other [.ref t_q, .int p1, .int p2, .int p3] g sz [oX8 t_q t_state_q t_roomMany t_doorMany t_stringLong t_laws_q t_lawMany t_readPage_q t_readLaws_q t_readRooms t_readDoors t_readString t_readLawMany t_toldOnce t_highRoom t_highDoor t_tape_q t_taped t_fault t_broken t_brokenAt t_spot t_here t_token t_value t_cuts_q t_letters_q t_work_q t_pages_q t_canBe_q t_leadsOn_q t_seen_q t_seenMany t_heard_q t_heardMany t_isKept_q t_lanes_q t_lengths_q t_cells_q t_torn, aI g t_tape_q 320 t_tape] [oX8 t_q t_state_q t_roomMany t_doorMany t_stringLong t_laws_q t_lawMany t_readPage_q t_readLaws_q t_readRooms t_readDoors t_readString t_readLawMany t_toldOnce t_highRoom t_highDoor t_tape_q t_taped t_fault t_broken' t_brokenAt' t_spot' t_here' t_token' t_value' t_cuts_q t_letters_q t_work_q t_pages_q t_canBe_q t_leadsOn_q t_seen_q t_seenMany t_heard_q t_heardMany t_isKept_q t_lanes_q t_lengths_q t_cells_q t_torn, aI g t_tape_q 320 t_tape] rr := by
  refine ent_i (cc := cX8_other) (maxL := 5) (by decide) rfl (Nat.le_of_ble_eq_true rfl) ?_
  intro p e s m args below meth c A Q hx hb hml hown hts hK hz hk hA hD hP hS hret ls hl
  have hown : s.vm.findClass RX8 = some m.cls := hown
  have inX8 : ∀ w ∈ u_ws RX8 TX8 39, w ∈ wsX8_other := by decide +kernel
  have k76 := hts (.fieldLink RX8 76 "ThreadMovedModel" "broken" "I") (by decide +kernel)
  have k85 := hts (.fieldLink RX8 85 "ThreadMovedModel" "token" "I") (by decide +kernel)
  have k95 := hts (.fieldLink RX8 95 "ThreadMovedModel" "value" "I") (by decide +kernel)
  have hl : lv_has ls 5 [(0, .ref t_q), (1, .int p1), (2, .int p2), (3, .int p3)] := hl
  have hret : ∀ (rrz : Int32) (t_brokenz : Int32) (t_brokenAtz : Int32) (t_herez : Int32) (t_spotz : Int32) (t_tokenz : Int32) (t_valuez : Int32), (rrz, t_brokenz, t_brokenAtz, t_herez, t_spotz, t_tokenz, t_valuez) = (rr, t_broken', t_brokenAt', t_here', t_spot', t_token', t_value') → ∀ (H : Heap) (locs : List Loc) (pc : Nat) (ls : Array Slot), va_P g.1 vwCl [oX8 t_q t_state_q t_roomMany t_doorMany t_stringLong t_laws_q t_lawMany t_readPage_q t_readLaws_q t_readRooms t_readDoors t_readString t_readLawMany t_toldOnce t_highRoom t_highDoor t_tape_q t_taped t_fault t_brokenz t_brokenAtz t_spotz t_herez t_tokenz t_valuez t_cuts_q t_letters_q t_work_q t_pages_q t_canBe_q t_leadsOn_q t_seen_q t_seenMany t_heard_q t_heardMany t_isKept_q t_lanes_q t_lengths_q t_cells_q t_torn, aI g t_tape_q 320 t_tape] H → va_S A s.heap H locs → decode cX8_other pc = .ok (.ireturn, 1) → W p l e rmX8_other s m args below meth c H locs 0 0 Q (F0 m pc ls [.int rrz]) := by
    intro rrz t_brokenz t_brokenAtz t_herez t_spotz t_tokenz t_valuez he H locs pc ls hP hS hd
    cases he
    exact hret H locs pc ls hP hS hd
  unfold f_X8_other at hf
  refine lv_aload_n hx hb dX8_other_0 rfl (lv_at hl 0 rfl) ?_
  refine va_get (D := g.1) (ci := 8) (v := .int t_broken) (C := RX8) (T := TX8) (N := 39) hx hb hts inX8 hown hK hP 0 rfl rfl 18 (by decide) k76 (fun _ h9 => h9) rfl dX8_other_1 ?_
  obtain ⟨j_3, hj_3, hf⟩ := jn2_e hf
  have J_3 : ∀ (t_broken_1 : Int32) (t_brokenAt_2 : Int32), j_3 t_broken_1 t_brokenAt_2 = some (rr, t_broken', t_brokenAt', t_here', t_spot', t_token', t_value') → ∀ (H : Heap) (locs : List Loc) (ls : Array Slot), va_P g.1 vwCl [oX8 t_q t_state_q t_roomMany t_doorMany t_stringLong t_laws_q t_lawMany t_readPage_q t_readLaws_q t_readRooms t_readDoors t_readString t_readLawMany t_toldOnce t_highRoom t_highDoor t_tape_q t_taped t_fault t_broken_1 t_brokenAt_2 t_spot t_here t_token t_value t_cuts_q t_letters_q t_work_q t_pages_q t_canBe_q t_leadsOn_q t_seen_q t_seenMany t_heard_q t_heardMany t_isKept_q t_lanes_q t_lengths_q t_cells_q t_torn, aI g t_tape_q 320 t_tape] H → va_S A s.heap H locs → lv_has ls 5 [(0, .ref t_q), (1, .int p1), (2, .int p2), (3, .int p3)] → W p l e rmX8_other s m args below meth c H locs 0 0 Q (F0 m 20 ls []) := by
    intro t_broken_1 t_brokenAt_2 hf H locs ls hP hS hl
    rw [hj_3] at hf
    refine lv_aload_n hx hb dX8_other_20 rfl (lv_at hl 0 rfl) ?_
    refine va_get (D := g.1) (ci := 8) (v := .int t_broken_1) (C := RX8) (T := TX8) (N := 39) hx hb hts inX8 hown hK hP 0 rfl rfl 18 (by decide) k76 (fun _ h9 => h9) rfl dX8_other_21 ?_
    obtain ⟨j_6, hj_6, hf⟩ := jn2_e hf
    have J_6 : ∀ (t_broken_4 : Int32) (t_brokenAt_5 : Int32), j_6 t_broken_4 t_brokenAt_5 = some (rr, t_broken', t_brokenAt', t_here', t_spot', t_token', t_value') → ∀ (H : Heap) (locs : List Loc) (ls : Array Slot), va_P g.1 vwCl [oX8 t_q t_state_q t_roomMany t_doorMany t_stringLong t_laws_q t_lawMany t_readPage_q t_readLaws_q t_readRooms t_readDoors t_readString t_readLawMany t_toldOnce t_highRoom t_highDoor t_tape_q t_taped t_fault t_broken_4 t_brokenAt_5 t_spot t_here t_token t_value t_cuts_q t_letters_q t_work_q t_pages_q t_canBe_q t_leadsOn_q t_seen_q t_seenMany t_heard_q t_heardMany t_isKept_q t_lanes_q t_lengths_q t_cells_q t_torn, aI g t_tape_q 320 t_tape] H → va_S A s.heap H locs → lv_has ls 5 [(0, .ref t_q), (1, .int p1), (3, .int p3)] → W p l e rmX8_other s m args below meth c H locs 0 0 Q (F0 m 47 ls []) := by
      intro t_broken_4 t_brokenAt_5 hf H locs ls hP hS hl
      rw [hj_6] at hf
      refine lv_aload_n hx hb dX8_other_47 rfl (lv_at hl 0 rfl) ?_
      refine va_get (D := g.1) (ci := 8) (v := .int t_broken_4) (C := RX8) (T := TX8) (N := 39) hx hb hts inX8 hown hK hP 0 rfl rfl 18 (by decide) k76 (fun _ h9 => h9) rfl dX8_other_48 ?_
      obtain ⟨j_9, hj_9, hf⟩ := jn2_e hf
      have J_9 : ∀ (t_broken_7 : Int32) (t_brokenAt_8 : Int32), j_9 t_broken_7 t_brokenAt_8 = some (rr, t_broken', t_brokenAt', t_here', t_spot', t_token', t_value') → ∀ (H : Heap) (locs : List Loc) (ls : Array Slot), va_P g.1 vwCl [oX8 t_q t_state_q t_roomMany t_doorMany t_stringLong t_laws_q t_lawMany t_readPage_q t_readLaws_q t_readRooms t_readDoors t_readString t_readLawMany t_toldOnce t_highRoom t_highDoor t_tape_q t_taped t_fault t_broken_7 t_brokenAt_8 t_spot t_here t_token t_value t_cuts_q t_letters_q t_work_q t_pages_q t_canBe_q t_leadsOn_q t_seen_q t_seenMany t_heard_q t_heardMany t_isKept_q t_lanes_q t_lengths_q t_cells_q t_torn, aI g t_tape_q 320 t_tape] H → va_S A s.heap H locs → lv_has ls 5 [(0, .ref t_q), (1, .int p1)] → W p l e rmX8_other s m args below meth c H locs 0 0 Q (F0 m 71 ls []) := by
        intro t_broken_7 t_brokenAt_8 hf H locs ls hP hS hl
        rw [hj_9] at hf
        refine lv_aload_n hx hb dX8_other_71 rfl (lv_at hl 0 rfl) ?_
        refine va_get (D := g.1) (ci := 8) (v := .int t_broken_7) (C := RX8) (T := TX8) (N := 39) hx hb hts inX8 hown hK hP 0 rfl rfl 18 (by decide) k76 (fun _ h9 => h9) rfl dX8_other_72 ?_
        obtain ⟨j_11, hj_11, hf⟩ := jn1_e hf
        have J_11 : ∀ (s_10 : Int32), j_11 s_10 = some (rr, t_broken', t_brokenAt', t_here', t_spot', t_token', t_value') → ∀ (H : Heap) (locs : List Loc) (ls : Array Slot), va_P g.1 vwCl [oX8 t_q t_state_q t_roomMany t_doorMany t_stringLong t_laws_q t_lawMany t_readPage_q t_readLaws_q t_readRooms t_readDoors t_readString t_readLawMany t_toldOnce t_highRoom t_highDoor t_tape_q t_taped t_fault t_broken_7 t_brokenAt_8 t_spot t_here t_token t_value t_cuts_q t_letters_q t_work_q t_pages_q t_canBe_q t_leadsOn_q t_seen_q t_seenMany t_heard_q t_heardMany t_isKept_q t_lanes_q t_lengths_q t_cells_q t_torn, aI g t_tape_q 320 t_tape] H → va_S A s.heap H locs → lv_has ls 5 [(0, .ref t_q)] → W p l e rmX8_other s m args below meth c H locs 0 0 Q (F0 m 86 ls [.int s_10]) := by
          intro s_10 hf H locs ls hP hS hl
          rw [hj_11] at hf
          refine lv_istore (lv' := [(4, .int s_10), (0, .ref t_q)]) hx hb dX8_other_86 hl (by decide) rfl (fun ls hl => ?_)
          refine lv_aload_n hx hb dX8_other_88 rfl (lv_at hl 1 rfl) ?_
          obtain ⟨t_broken_12, t_brokenAt_13, t_here_14, t_spot_15, t_token_16, t_value_17, hc_18, hf⟩ := ob6_e hf
          refine kV_v (wn := [oX8 t_q t_state_q t_roomMany t_doorMany t_stringLong t_laws_q t_lawMany t_readPage_q t_readLaws_q t_readRooms t_readDoors t_readString t_readLawMany t_toldOnce t_highRoom t_highDoor t_tape_q t_taped t_fault t_broken_12 t_brokenAt_13 t_spot_15 t_here_14 t_token_16 t_value_17 t_cuts_q t_letters_q t_work_q t_pages_q t_canBe_q t_leadsOn_q t_seen_q t_seenMany t_heard_q t_heardMany t_isKept_q t_lanes_q t_lengths_q t_cells_q t_torn, aI g t_tape_q 320 t_tape]) (As := []) (rest := []) (c_X8_step l g _ t_q t_state_q t_laws_q t_readPage_q t_readLaws_q t_tape_q t_cuts_q t_letters_q t_work_q t_pages_q t_canBe_q t_leadsOn_q t_seen_q t_heard_q t_isKept_q t_lanes_q t_lengths_q t_cells_q t_roomMany t_doorMany t_stringLong t_lawMany t_readRooms t_readDoors t_readString t_readLawMany t_toldOnce t_highRoom t_highDoor t_taped t_fault t_broken_7 t_brokenAt_8 t_spot t_here t_token t_value t_seenMany t_heardMany t_torn t_tape t_broken_12 t_brokenAt_13 t_here_14 t_spot_15 t_token_16 t_value_17 hc_18) ⟨hx, hb, hml, hown, hts⟩ (cwV 0 hts gX8_other_X8_step rfl rfl rfl (by decide +kernel) ⟨by decide, by decide⟩) hK hz hk hP (hD.re rfl) hS hA [0, 1] rfl rfl rfl rfl rfl rfl rfl hl.1 rfl (Nat.le_of_ble_eq_true rfl) dX8_other_89 (fun H locs hP hS => ?_)
          refine lv_iload hx hb dX8_other_92 (lv_at hl 0 rfl) ?_
          exact hret s_10 t_broken_12 t_brokenAt_13 t_here_14 t_spot_15 t_token_16 t_value_17 (Option.some.inj hf) _ _ _ _ hP hS dX8_other_94
        refine lv_if_ne (tgt := 85) hx hb dX8_other_75 (by decide) (fun c_19 => ?_) (fun c_19 => ?_)
        · have hf := ite_f hf c_19
          refine lv_iload_n hx hb dX8_other_85 rfl (lv_at hl 1 rfl) ?_
          exact J_11 p1 hf _ _ _ hP hS (lv_sub hl [0] rfl)
        · have hf := ite_t hf c_19
          refine lv_aload_n hx hb dX8_other_78 rfl (lv_at hl 0 rfl) ?_
          refine va_get (D := g.1) (ci := 8) (v := .int t_value) (C := RX8) (T := TX8) (N := 39) hx hb hts inX8 hown hK hP 0 rfl rfl 23 (by decide) k95 (fun _ h9 => h9) rfl dX8_other_79 ?_
          refine lv_goto (tgt := 86) hx hb dX8_other_82 (by decide) ?_
          exact J_11 t_value hf _ _ _ hP hS (lv_sub hl [0] rfl)
      refine lv_if_ne (tgt := 71) hx hb dX8_other_51 (by decide) (fun c_20 => ?_) (fun c_20 => ?_)
      · have hf := ite_f hf c_20
        exact J_9 t_broken_4 t_brokenAt_5 hf _ _ _ hP hS (lv_sub hl [0, 1] rfl)
      · have hf := ite_t hf c_20
        refine lv_iload_n hx hb dX8_other_54 rfl (lv_at hl 2 rfl) ?_
        refine lv_aload_n hx hb dX8_other_55 rfl (lv_at hl 0 rfl) ?_
        refine va_get (D := g.1) (ci := 8) (v := .int t_value) (C := RX8) (T := TX8) (N := 39) hx hb hts inX8 hown hK hP 0 rfl rfl 23 (by decide) k95 (fun _ h9 => h9) rfl dX8_other_56 ?_
        refine lv_ishr hx hb dX8_other_59 ?_
        refine lv_iconst (v := (1 : Int32)) hx hb dX8_other_60 (by decide) ?_
        refine lv_iand hx hb dX8_other_61 ?_
        refine lv_iconst (v := (1 : Int32)) hx hb dX8_other_62 (by decide) ?_
        refine lv_icmp_ne (tgt := 71) hx hb dX8_other_63 (by decide) (fun c_21 => ?_) (fun c_21 => ?_)
        · have hf := ite_f hf c_21
          exact J_9 t_broken_4 t_brokenAt_5 hf _ _ _ hP hS (lv_sub hl [0, 1] rfl)
        · have hf := ite_t hf c_21
          refine lv_aload_n hx hb dX8_other_66 rfl (lv_at hl 0 rfl) ?_
          refine lv_iconst (v := (4 : Int32)) hx hb dX8_other_67 (by decide) ?_
          obtain ⟨t_broken_22, t_brokenAt_23, hc_24, hf⟩ := ob2_e hf
          refine kV_v (wn := [oX8 t_q t_state_q t_roomMany t_doorMany t_stringLong t_laws_q t_lawMany t_readPage_q t_readLaws_q t_readRooms t_readDoors t_readString t_readLawMany t_toldOnce t_highRoom t_highDoor t_tape_q t_taped t_fault t_broken_22 t_brokenAt_23 t_spot t_here t_token t_value t_cuts_q t_letters_q t_work_q t_pages_q t_canBe_q t_leadsOn_q t_seen_q t_seenMany t_heard_q t_heardMany t_isKept_q t_lanes_q t_lengths_q t_cells_q t_torn, aI g t_tape_q 320 t_tape]) (As := [.int (4 : Int32)]) (rest := []) (c_X8_fails l g _ t_q t_state_q t_laws_q t_readPage_q t_readLaws_q t_tape_q t_cuts_q t_letters_q t_work_q t_pages_q t_canBe_q t_leadsOn_q t_seen_q t_heard_q t_isKept_q t_lanes_q t_lengths_q t_cells_q t_roomMany t_doorMany t_stringLong t_lawMany t_readRooms t_readDoors t_readString t_readLawMany t_toldOnce t_highRoom t_highDoor t_taped t_fault t_broken_4 t_brokenAt_5 t_spot t_here t_token t_value t_seenMany t_heardMany t_torn (4 : Int32) t_broken_22 t_brokenAt_23 hc_24) ⟨hx, hb, hml, hown, hts⟩ (cwV 1 hts gX8_other_X8_fails rfl rfl rfl (by decide +kernel) ⟨by decide, by decide⟩) hK hz hk hP (hD.re rfl) hS hA [0] rfl rfl rfl rfl rfl rfl rfl hl.1 rfl (Nat.le_of_ble_eq_true rfl) dX8_other_68 (fun H locs hP hS => ?_)
          exact J_9 t_broken_22 t_brokenAt_23 hf _ _ _ hP hS (lv_sub hl [0, 1] rfl)
    refine lv_if_ne (tgt := 47) hx hb dX8_other_24 (by decide) (fun c_25 => ?_) (fun c_25 => ?_)
    · have hf := ite_f hf c_25
      exact J_6 t_broken_1 t_brokenAt_2 hf _ _ _ hP hS (lv_sub hl [0, 1, 3] rfl)
    · have hf := ite_t hf c_25
      refine lv_aload_n hx hb dX8_other_27 rfl (lv_at hl 0 rfl) ?_
      refine va_get (D := g.1) (ci := 8) (v := .int t_value) (C := RX8) (T := TX8) (N := 39) hx hb hts inX8 hown hK hP 0 rfl rfl 23 (by decide) k95 (fun _ h9 => h9) rfl dX8_other_28 ?_
      refine lv_i2l hx hb dX8_other_31 rfl ?_
      refine lv_iload_n hx hb dX8_other_32 rfl (lv_at hl 1 rfl) ?_
      refine lv_i2l hx hb dX8_other_33 rfl ?_
      refine lv_iload_n hx hb dX8_other_34 rfl (lv_at hl 2 rfl) ?_
      refine lv_i2l hx hb dX8_other_35 rfl ?_
      obtain ⟨r_26, hc_27, hf⟩ := ob1_e hf
      refine kS_i (wn := [oX8 t_q t_state_q t_roomMany t_doorMany t_stringLong t_laws_q t_lawMany t_readPage_q t_readLaws_q t_readRooms t_readDoors t_readString t_readLawMany t_toldOnce t_highRoom t_highDoor t_tape_q t_taped t_fault t_broken_1 t_brokenAt_2 t_spot t_here t_token t_value t_cuts_q t_letters_q t_work_q t_pages_q t_canBe_q t_leadsOn_q t_seen_q t_seenMany t_heard_q t_heardMany t_isKept_q t_lanes_q t_lengths_q t_cells_q t_torn, aI g t_tape_q 320 t_tape]) (As := [.long (t_value.toInt64), .long (p1.toInt64), .long (p2.toInt64)]) (rest := []) (c_X8_in l g _ (t_value.toInt64) (p1.toInt64) (p2.toInt64) r_26 hc_27) ⟨hx, hb, hml, hown, hts⟩ (va_cwS 3 hts gX8_other_X8_in rfl rfl rfl (by decide +kernel) ⟨by decide, by decide⟩) hK hz hk hP (hD.re rfl) hS hA [] rfl rfl rfl rfl rfl hl.1 rfl (Nat.le_of_ble_eq_true rfl) dX8_other_36 (fun H locs hP hS => ?_)
      refine lv_if_ne (tgt := 47) hx hb dX8_other_39 (by decide) (fun c_28 => ?_) (fun c_28 => ?_)
      · have hf := ite_f hf c_28
        exact J_6 t_broken_1 t_brokenAt_2 hf _ _ _ hP hS (lv_sub hl [0, 1, 3] rfl)
      · have hf := ite_t hf c_28
        refine lv_aload_n hx hb dX8_other_42 rfl (lv_at hl 0 rfl) ?_
        refine lv_iconst (v := (3 : Int32)) hx hb dX8_other_43 (by decide) ?_
        obtain ⟨t_broken_29, t_brokenAt_30, hc_31, hf⟩ := ob2_e hf
        refine kV_v (wn := [oX8 t_q t_state_q t_roomMany t_doorMany t_stringLong t_laws_q t_lawMany t_readPage_q t_readLaws_q t_readRooms t_readDoors t_readString t_readLawMany t_toldOnce t_highRoom t_highDoor t_tape_q t_taped t_fault t_broken_29 t_brokenAt_30 t_spot t_here t_token t_value t_cuts_q t_letters_q t_work_q t_pages_q t_canBe_q t_leadsOn_q t_seen_q t_seenMany t_heard_q t_heardMany t_isKept_q t_lanes_q t_lengths_q t_cells_q t_torn, aI g t_tape_q 320 t_tape]) (As := [.int (3 : Int32)]) (rest := []) (c_X8_fails l g _ t_q t_state_q t_laws_q t_readPage_q t_readLaws_q t_tape_q t_cuts_q t_letters_q t_work_q t_pages_q t_canBe_q t_leadsOn_q t_seen_q t_heard_q t_isKept_q t_lanes_q t_lengths_q t_cells_q t_roomMany t_doorMany t_stringLong t_lawMany t_readRooms t_readDoors t_readString t_readLawMany t_toldOnce t_highRoom t_highDoor t_taped t_fault t_broken_1 t_brokenAt_2 t_spot t_here t_token t_value t_seenMany t_heardMany t_torn (3 : Int32) t_broken_29 t_brokenAt_30 hc_31) ⟨hx, hb, hml, hown, hts⟩ (cwV 1 hts gX8_other_X8_fails rfl rfl rfl (by decide +kernel) ⟨by decide, by decide⟩) hK hz hk hP (hD.re rfl) hS hA [0] rfl rfl rfl rfl rfl rfl rfl hl.1 rfl (Nat.le_of_ble_eq_true rfl) dX8_other_44 (fun H locs hP hS => ?_)
        exact J_6 t_broken_29 t_brokenAt_30 hf _ _ _ hP hS (lv_sub hl [0, 1, 3] rfl)
  refine lv_if_ne (tgt := 20) hx hb dX8_other_4 (by decide) (fun c_32 => ?_) (fun c_32 => ?_)
  · have hf := ite_f hf c_32
    exact J_3 t_broken t_brokenAt hf _ _ _ hP hS (lv_sub hl [0, 1, 2, 3] rfl)
  · have hf := ite_t hf c_32
    refine lv_aload_n hx hb dX8_other_7 rfl (lv_at hl 0 rfl) ?_
    refine va_get (D := g.1) (ci := 8) (v := .int t_token) (C := RX8) (T := TX8) (N := 39) hx hb hts inX8 hown hK hP 0 rfl rfl 22 (by decide) k85 (fun _ h9 => h9) rfl dX8_other_8 ?_
    refine lv_iconst (v := (2 : Int32)) hx hb dX8_other_11 (by decide) ?_
    refine lv_icmp_eq (tgt := 20) hx hb dX8_other_12 (by decide) (fun c_33 => ?_) (fun c_33 => ?_)
    · have hf := ite_t hf c_33
      exact J_3 t_broken t_brokenAt hf _ _ _ hP hS (lv_sub hl [0, 1, 2, 3] rfl)
    · have hf := ite_f hf c_33
      refine lv_aload_n hx hb dX8_other_15 rfl (lv_at hl 0 rfl) ?_
      refine lv_iconst (v := (2 : Int32)) hx hb dX8_other_16 (by decide) ?_
      obtain ⟨t_broken_34, t_brokenAt_35, hc_36, hf⟩ := ob2_e hf
      refine kV_v (wn := [oX8 t_q t_state_q t_roomMany t_doorMany t_stringLong t_laws_q t_lawMany t_readPage_q t_readLaws_q t_readRooms t_readDoors t_readString t_readLawMany t_toldOnce t_highRoom t_highDoor t_tape_q t_taped t_fault t_broken_34 t_brokenAt_35 t_spot t_here t_token t_value t_cuts_q t_letters_q t_work_q t_pages_q t_canBe_q t_leadsOn_q t_seen_q t_seenMany t_heard_q t_heardMany t_isKept_q t_lanes_q t_lengths_q t_cells_q t_torn, aI g t_tape_q 320 t_tape]) (As := [.int (2 : Int32)]) (rest := []) (c_X8_fails l g _ t_q t_state_q t_laws_q t_readPage_q t_readLaws_q t_tape_q t_cuts_q t_letters_q t_work_q t_pages_q t_canBe_q t_leadsOn_q t_seen_q t_heard_q t_isKept_q t_lanes_q t_lengths_q t_cells_q t_roomMany t_doorMany t_stringLong t_lawMany t_readRooms t_readDoors t_readString t_readLawMany t_toldOnce t_highRoom t_highDoor t_taped t_fault t_broken t_brokenAt t_spot t_here t_token t_value t_seenMany t_heardMany t_torn (2 : Int32) t_broken_34 t_brokenAt_35 hc_36) ⟨hx, hb, hml, hown, hts⟩ (cwV 1 hts gX8_other_X8_fails rfl rfl rfl (by decide +kernel) ⟨by decide, by decide⟩) hK hz hk hP (hD.re rfl) hS hA [0] rfl rfl rfl rfl rfl rfl rfl hl.1 rfl (Nat.le_of_ble_eq_true rfl) dX8_other_17 (fun H locs hP hS => ?_)
      exact J_3 t_broken_34 t_brokenAt_35 hf _ _ _ hP hS (lv_sub hl [0, 1, 2, 3] rfl)

def f_X8_doorOf (t_highDoor : Int32) (t_taped : Int32) (t_broken : Int32) (t_brokenAt : Int32) (t_spot : Int32) (t_here : Int32) (t_token : Int32) (t_value : Int32) (t_tape : Nat → Int32) (p1 : Int32) : Option (Int32 × Int32 × Int32 × Int32 × Int32 × Int32 × Int32 × Int32) :=
 (ob7 (f_X8_other t_taped t_broken t_brokenAt t_spot t_here t_token t_value t_tape (0 : Int32) (9 : Int32) p1) (fun r_1 t_broken_2 t_brokenAt_3 t_here_4 t_spot_5 t_token_6 t_value_7 =>
 (jn1 (fun (s_9 : Int32) => (some (r_1, t_broken_2, t_brokenAt_3, t_here_4, s_9, t_spot_5, t_token_6, t_value_7))) (fun j_10 =>
 (if r_1 ≤ t_highDoor then
 (j_10 t_highDoor)
 else (j_10 r_1))))))
abbrev rmX8_doorOf : Room := { frames := 3, cells := 0, slots := 0, locals := 70 }
set_option maxHeartbeats 4000000 in
set_option maxRecDepth 100000 in
theorem c_X8_doorOf (l : Launch) (g : Gh) (sz : Nat) (t_q t_state_q t_laws_q t_readPage_q t_readLaws_q t_tape_q t_cuts_q t_letters_q t_work_q t_pages_q t_canBe_q t_leadsOn_q t_seen_q t_heard_q t_isKept_q t_lanes_q t_lengths_q t_cells_q : Nat) (t_roomMany : Int32) (t_doorMany : Int32) (t_stringLong : Int32) (t_lawMany : Int32) (t_readRooms : Int32) (t_readDoors : Int32) (t_readString : Int32) (t_readLawMany : Int32) (t_toldOnce : Int32) (t_highRoom : Int32) (t_highDoor : Int32) (t_taped : Int32) (t_fault : Int32) (t_broken : Int32) (t_brokenAt : Int32) (t_spot : Int32) (t_here : Int32) (t_token : Int32) (t_value : Int32) (t_seenMany : Int32) (t_heardMany : Int32) (t_torn : Int32) (t_tape : Nat → Int32) (p1 : Int32) (rr : Int32) (t_broken' : Int32) (t_brokenAt' : Int32) (t_here' : Int32) (t_highDoor' : Int32) (t_spot' : Int32) (t_token' : Int32) (t_value' : Int32) (hf : f_X8_doorOf t_highDoor t_taped t_broken t_brokenAt t_spot t_here t_token t_value t_tape p1 = some (rr, t_broken', t_brokenAt', t_here', t_highDoor', t_spot', t_token', t_value')) : CI l yX8_doorOf wsX8_doorOf rmX8_doorOf [.ref t_q, .int p1] g sz [oX8 t_q t_state_q t_roomMany t_doorMany t_stringLong t_laws_q t_lawMany t_readPage_q t_readLaws_q t_readRooms t_readDoors t_readString t_readLawMany t_toldOnce t_highRoom t_highDoor t_tape_q t_taped t_fault t_broken t_brokenAt t_spot t_here t_token t_value t_cuts_q t_letters_q t_work_q t_pages_q t_canBe_q t_leadsOn_q t_seen_q t_seenMany t_heard_q t_heardMany t_isKept_q t_lanes_q t_lengths_q t_cells_q t_torn, aI g t_tape_q 320 t_tape] [oX8 t_q t_state_q t_roomMany t_doorMany t_stringLong t_laws_q t_lawMany t_readPage_q t_readLaws_q t_readRooms t_readDoors t_readString t_readLawMany t_toldOnce t_highRoom t_highDoor' t_tape_q t_taped t_fault t_broken' t_brokenAt' t_spot' t_here' t_token' t_value' t_cuts_q t_letters_q t_work_q t_pages_q t_canBe_q t_leadsOn_q t_seen_q t_seenMany t_heard_q t_heardMany t_isKept_q t_lanes_q t_lengths_q t_cells_q t_torn, aI g t_tape_q 320 t_tape] rr := by
  refine ent_i (cc := cX8_doorOf) (maxL := 3) (by decide) rfl (Nat.le_of_ble_eq_true rfl) ?_
  intro p e s m args below meth c A Q hx hb hml hown hts hK hz hk hA hD hP hS hret ls hl
  have hown : s.vm.findClass RX8 = some m.cls := hown
  have inX8 : ∀ w ∈ u_ws RX8 TX8 39, w ∈ wsX8_doorOf := by decide +kernel
  have k120 := hts (.fieldLink RX8 120 "ThreadMovedModel" "highDoor" "I") (by decide +kernel)
  have hl : lv_has ls 3 [(0, .ref t_q), (1, .int p1)] := hl
  have hret : ∀ (rrz : Int32) (t_brokenz : Int32) (t_brokenAtz : Int32) (t_herez : Int32) (t_highDoorz : Int32) (t_spotz : Int32) (t_tokenz : Int32) (t_valuez : Int32), (rrz, t_brokenz, t_brokenAtz, t_herez, t_highDoorz, t_spotz, t_tokenz, t_valuez) = (rr, t_broken', t_brokenAt', t_here', t_highDoor', t_spot', t_token', t_value') → ∀ (H : Heap) (locs : List Loc) (pc : Nat) (ls : Array Slot), va_P g.1 vwCl [oX8 t_q t_state_q t_roomMany t_doorMany t_stringLong t_laws_q t_lawMany t_readPage_q t_readLaws_q t_readRooms t_readDoors t_readString t_readLawMany t_toldOnce t_highRoom t_highDoorz t_tape_q t_taped t_fault t_brokenz t_brokenAtz t_spotz t_herez t_tokenz t_valuez t_cuts_q t_letters_q t_work_q t_pages_q t_canBe_q t_leadsOn_q t_seen_q t_seenMany t_heard_q t_heardMany t_isKept_q t_lanes_q t_lengths_q t_cells_q t_torn, aI g t_tape_q 320 t_tape] H → va_S A s.heap H locs → decode cX8_doorOf pc = .ok (.ireturn, 1) → W p l e rmX8_doorOf s m args below meth c H locs 0 0 Q (F0 m pc ls [.int rrz]) := by
    intro rrz t_brokenz t_brokenAtz t_herez t_highDoorz t_spotz t_tokenz t_valuez he H locs pc ls hP hS hd
    cases he
    exact hret H locs pc ls hP hS hd
  unfold f_X8_doorOf at hf
  refine lv_aload_n hx hb dX8_doorOf_0 rfl (lv_at hl 0 rfl) ?_
  refine lv_iconst (v := (0 : Int32)) hx hb dX8_doorOf_1 (by decide) ?_
  refine lv_bipush (v := (9 : Int32)) hx hb dX8_doorOf_2 (by decide) ?_
  refine lv_iload_n hx hb dX8_doorOf_4 rfl (lv_at hl 1 rfl) ?_
  obtain ⟨r_1, t_broken_2, t_brokenAt_3, t_here_4, t_spot_5, t_token_6, t_value_7, hc_8, hf⟩ := ob7_e hf
  refine kV_i (wn := [oX8 t_q t_state_q t_roomMany t_doorMany t_stringLong t_laws_q t_lawMany t_readPage_q t_readLaws_q t_readRooms t_readDoors t_readString t_readLawMany t_toldOnce t_highRoom t_highDoor t_tape_q t_taped t_fault t_broken_2 t_brokenAt_3 t_spot_5 t_here_4 t_token_6 t_value_7 t_cuts_q t_letters_q t_work_q t_pages_q t_canBe_q t_leadsOn_q t_seen_q t_seenMany t_heard_q t_heardMany t_isKept_q t_lanes_q t_lengths_q t_cells_q t_torn, aI g t_tape_q 320 t_tape]) (As := [.int (0 : Int32), .int (9 : Int32), .int p1]) (rest := []) (c_X8_other l g _ t_q t_state_q t_laws_q t_readPage_q t_readLaws_q t_tape_q t_cuts_q t_letters_q t_work_q t_pages_q t_canBe_q t_leadsOn_q t_seen_q t_heard_q t_isKept_q t_lanes_q t_lengths_q t_cells_q t_roomMany t_doorMany t_stringLong t_lawMany t_readRooms t_readDoors t_readString t_readLawMany t_toldOnce t_highRoom t_highDoor t_taped t_fault t_broken t_brokenAt t_spot t_here t_token t_value t_seenMany t_heardMany t_torn t_tape (0 : Int32) (9 : Int32) p1 r_1 t_broken_2 t_brokenAt_3 t_here_4 t_spot_5 t_token_6 t_value_7 hc_8) ⟨hx, hb, hml, hown, hts⟩ (cwV 3 hts gX8_doorOf_X8_other rfl rfl rfl (by decide +kernel) ⟨by decide, by decide⟩) hK hz hk hP (hD.re rfl) hS hA [0, 1] rfl rfl rfl rfl rfl rfl rfl hl.1 rfl (Nat.le_of_ble_eq_true rfl) dX8_doorOf_5 (fun H locs hP hS => ?_)
  refine lv_istore_n (lv' := [(2, .int r_1), (0, .ref t_q), (1, .int p1)]) hx hb dX8_doorOf_8 rfl hl (by decide) rfl (fun ls hl => ?_)
  refine lv_aload_n hx hb dX8_doorOf_9 rfl (lv_at hl 1 rfl) ?_
  refine lv_iload_n hx hb dX8_doorOf_10 rfl (lv_at hl 0 rfl) ?_
  refine lv_aload_n hx hb dX8_doorOf_11 rfl (lv_at hl 1 rfl) ?_
  refine va_get (D := g.1) (ci := 8) (v := .int t_highDoor) (C := RX8) (T := TX8) (N := 39) hx hb hts inX8 hown hK hP 0 rfl rfl 14 (by decide) k120 (fun _ h9 => h9) rfl dX8_doorOf_12 ?_
  obtain ⟨j_10, hj_10, hf⟩ := jn1_e hf
  have J_10 : ∀ (s_9 : Int32), j_10 s_9 = some (rr, t_broken', t_brokenAt', t_here', t_highDoor', t_spot', t_token', t_value') → ∀ (H : Heap) (locs : List Loc) (ls : Array Slot), va_P g.1 vwCl [oX8 t_q t_state_q t_roomMany t_doorMany t_stringLong t_laws_q t_lawMany t_readPage_q t_readLaws_q t_readRooms t_readDoors t_readString t_readLawMany t_toldOnce t_highRoom t_highDoor t_tape_q t_taped t_fault t_broken_2 t_brokenAt_3 t_spot_5 t_here_4 t_token_6 t_value_7 t_cuts_q t_letters_q t_work_q t_pages_q t_canBe_q t_leadsOn_q t_seen_q t_seenMany t_heard_q t_heardMany t_isKept_q t_lanes_q t_lengths_q t_cells_q t_torn, aI g t_tape_q 320 t_tape] H → va_S A s.heap H locs → lv_has ls 3 [(2, .int r_1)] → W p l e rmX8_doorOf s m args below meth c H locs 0 0 Q (F0 m 26 ls [.int s_9, .ref t_q]) := by
    intro s_9 hf H locs ls hP hS hl
    rw [hj_10] at hf
    refine va_put (D := g.1) (ci := 8) (v := .int s_9) (ty := .int) (C := RX8) (T := TX8) (N := 39) hx hb hts inX8 tyX8 tyX8_ok nmX8 hown hK hP (hD.re rfl) hS 0 rfl rfl 14 (by decide) k120 (fun _ h9 => h9) rfl (by decide +kernel) rfl rfl (Nat.le_of_ble_eq_true rfl) dX8_doorOf_26 (fun H locs hP _ hS => ?_)
    have hP : va_P g.1 vwCl [oX8 t_q t_state_q t_roomMany t_doorMany t_stringLong t_laws_q t_lawMany t_readPage_q t_readLaws_q t_readRooms t_readDoors t_readString t_readLawMany t_toldOnce t_highRoom s_9 t_tape_q t_taped t_fault t_broken_2 t_brokenAt_3 t_spot_5 t_here_4 t_token_6 t_value_7 t_cuts_q t_letters_q t_work_q t_pages_q t_canBe_q t_leadsOn_q t_seen_q t_seenMany t_heard_q t_heardMany t_isKept_q t_lanes_q t_lengths_q t_cells_q t_torn, aI g t_tape_q 320 t_tape] H := hP
    refine lv_iload_n hx hb dX8_doorOf_29 rfl (lv_at hl 0 rfl) ?_
    exact hret r_1 t_broken_2 t_brokenAt_3 t_here_4 s_9 t_spot_5 t_token_6 t_value_7 (Option.some.inj hf) _ _ _ _ hP hS dX8_doorOf_30
  refine lv_icmp_le (tgt := 22) hx hb dX8_doorOf_15 (by decide) (fun c_11 => ?_) (fun c_11 => ?_)
  · have hf := ite_t hf c_11
    refine lv_aload_n hx hb dX8_doorOf_22 rfl (lv_at hl 1 rfl) ?_
    refine va_get (D := g.1) (ci := 8) (v := .int t_highDoor) (C := RX8) (T := TX8) (N := 39) hx hb hts inX8 hown hK hP 0 rfl rfl 14 (by decide) k120 (fun _ h9 => h9) rfl dX8_doorOf_23 ?_
    exact J_10 t_highDoor hf _ _ _ hP hS (lv_sub hl [0] rfl)
  · have hf := ite_f hf c_11
    refine lv_iload_n hx hb dX8_doorOf_18 rfl (lv_at hl 0 rfl) ?_
    refine lv_goto (tgt := 26) hx hb dX8_doorOf_19 (by decide) ?_
    exact J_10 r_1 hf _ _ _ hP hS (lv_sub hl [0] rfl)

def f_X8_isRoom (t_roomMany : Int32) (p1 : Int32) : Option (Int32) :=
 (ob1 (f_X8_in (p1.toInt64) (0 : Int64) ((t_roomMany - (1 : Int32)).toInt64)) (fun r_1 =>
 (gbl r_1 (some r_1))))
abbrev rmX8_isRoom : Room := { frames := 1, cells := 0, slots := 0, locals := 25 }
set_option maxHeartbeats 4000000 in
set_option maxRecDepth 100000 in
theorem c_X8_isRoom (l : Launch) (g : Gh) (sz : Nat) (t_q t_state_q t_laws_q t_readPage_q t_readLaws_q t_tape_q t_cuts_q t_letters_q t_work_q t_pages_q t_canBe_q t_leadsOn_q t_seen_q t_heard_q t_isKept_q t_lanes_q t_lengths_q t_cells_q : Nat) (t_roomMany : Int32) (t_doorMany : Int32) (t_stringLong : Int32) (t_lawMany : Int32) (t_readRooms : Int32) (t_readDoors : Int32) (t_readString : Int32) (t_readLawMany : Int32) (t_toldOnce : Int32) (t_highRoom : Int32) (t_highDoor : Int32) (t_taped : Int32) (t_fault : Int32) (t_broken : Int32) (t_brokenAt : Int32) (t_spot : Int32) (t_here : Int32) (t_token : Int32) (t_value : Int32) (t_seenMany : Int32) (t_heardMany : Int32) (t_torn : Int32) (p1 : Int32) (rr : Int32) (hf : f_X8_isRoom t_roomMany p1 = some rr) : CI l yX8_isRoom wsX8_isRoom rmX8_isRoom [.ref t_q, .int p1] g sz [oX8 t_q t_state_q t_roomMany t_doorMany t_stringLong t_laws_q t_lawMany t_readPage_q t_readLaws_q t_readRooms t_readDoors t_readString t_readLawMany t_toldOnce t_highRoom t_highDoor t_tape_q t_taped t_fault t_broken t_brokenAt t_spot t_here t_token t_value t_cuts_q t_letters_q t_work_q t_pages_q t_canBe_q t_leadsOn_q t_seen_q t_seenMany t_heard_q t_heardMany t_isKept_q t_lanes_q t_lengths_q t_cells_q t_torn] [oX8 t_q t_state_q t_roomMany t_doorMany t_stringLong t_laws_q t_lawMany t_readPage_q t_readLaws_q t_readRooms t_readDoors t_readString t_readLawMany t_toldOnce t_highRoom t_highDoor t_tape_q t_taped t_fault t_broken t_brokenAt t_spot t_here t_token t_value t_cuts_q t_letters_q t_work_q t_pages_q t_canBe_q t_leadsOn_q t_seen_q t_seenMany t_heard_q t_heardMany t_isKept_q t_lanes_q t_lengths_q t_cells_q t_torn] rr := by
  refine ent_z (cc := cX8_isRoom) (maxL := 2) (by decide) rfl (Nat.le_of_ble_eq_true rfl) ?_
  intro p e s m args below meth c A Q hx hb hml hown hts hK hz hk hA hD hP hS hret ls hl
  have hown : s.vm.findClass RX8 = some m.cls := hown
  have inX8 : ∀ w ∈ u_ws RX8 TX8 39, w ∈ wsX8_isRoom := by decide +kernel
  have k13 := hts (.fieldLink RX8 13 "ThreadMovedModel" "roomMany" "I") (by decide +kernel)
  have hl : lv_has ls 2 [(0, .ref t_q), (1, .int p1)] := hl
  have hret : ∀ (rrz : Int32), rrz = rr → narrow .boolean (.int rrz) = .int rrz → ∀ (H : Heap) (locs : List Loc) (pc : Nat) (ls : Array Slot), va_P g.1 vwCl [oX8 t_q t_state_q t_roomMany t_doorMany t_stringLong t_laws_q t_lawMany t_readPage_q t_readLaws_q t_readRooms t_readDoors t_readString t_readLawMany t_toldOnce t_highRoom t_highDoor t_tape_q t_taped t_fault t_broken t_brokenAt t_spot t_here t_token t_value t_cuts_q t_letters_q t_work_q t_pages_q t_canBe_q t_leadsOn_q t_seen_q t_seenMany t_heard_q t_heardMany t_isKept_q t_lanes_q t_lengths_q t_cells_q t_torn] H → va_S A s.heap H locs → decode cX8_isRoom pc = .ok (.ireturn, 1) → W p l e rmX8_isRoom s m args below meth c H locs 0 0 Q (F0 m pc ls [.int rrz]) := by
    intro rrz he hzz H locs pc ls hP hS hd
    cases he
    exact hret H locs pc ls hzz hP hS hd
  unfold f_X8_isRoom at hf
  refine lv_iload_n hx hb dX8_isRoom_0 rfl (lv_at hl 1 rfl) ?_
  refine lv_i2l hx hb dX8_isRoom_1 rfl ?_
  refine lv_lconst (v := (0 : Int64)) hx hb dX8_isRoom_2 (by decide) ?_
  refine lv_aload_n hx hb dX8_isRoom_3 rfl (lv_at hl 0 rfl) ?_
  refine va_get (D := g.1) (ci := 8) (v := .int t_roomMany) (C := RX8) (T := TX8) (N := 39) hx hb hts inX8 hown hK hP 0 rfl rfl 1 (by decide) k13 (fun _ h9 => h9) rfl dX8_isRoom_4 ?_
  refine lv_iconst (v := (1 : Int32)) hx hb dX8_isRoom_7 (by decide) ?_
  refine lv_isub hx hb dX8_isRoom_8 ?_
  refine lv_i2l hx hb dX8_isRoom_9 rfl ?_
  obtain ⟨r_1, hc_2, hf⟩ := ob1_e hf
  refine kS_i (wn := [oX8 t_q t_state_q t_roomMany t_doorMany t_stringLong t_laws_q t_lawMany t_readPage_q t_readLaws_q t_readRooms t_readDoors t_readString t_readLawMany t_toldOnce t_highRoom t_highDoor t_tape_q t_taped t_fault t_broken t_brokenAt t_spot t_here t_token t_value t_cuts_q t_letters_q t_work_q t_pages_q t_canBe_q t_leadsOn_q t_seen_q t_seenMany t_heard_q t_heardMany t_isKept_q t_lanes_q t_lengths_q t_cells_q t_torn]) (As := [.long (p1.toInt64), .long (0 : Int64), .long ((t_roomMany - (1 : Int32)).toInt64)]) (rest := []) (c_X8_in l g _ (p1.toInt64) (0 : Int64) ((t_roomMany - (1 : Int32)).toInt64) r_1 hc_2) ⟨hx, hb, hml, hown, hts⟩ (va_cwS 3 hts gX8_isRoom_X8_in rfl rfl rfl (by decide +kernel) ⟨by decide, by decide⟩) hK hz hk hP (hD.re rfl) hS hA [] rfl rfl rfl rfl rfl hl.1 rfl (Nat.le_of_ble_eq_true rfl) dX8_isRoom_10 (fun H locs hP hS => ?_)
  obtain ⟨b_3, hf⟩ := gbl_e hf
  exact hret r_1 (Option.some.inj hf) (bl_n b_3) _ _ _ _ hP hS dX8_isRoom_13

def f_X8_doors (t_roomMany : Int32) (t_doorMany : Int32) (t_state : Nat → Int32) (p1 : Int32) : Option (Int32) :=
 (ob1 (f_X8_isRoom t_roomMany p1) (fun r_1 =>
 (if r_1 = (0 : Int32) then
 (some (-1 : Int32))
 else (ob1 (f_X8_leading t_doorMany 196 t_state (0 : Int32) p1) (fun r_4 =>
 (some r_4))))))
abbrev rmX8_doors : Room := { frames := 2, cells := 0, slots := 0, locals := 51 }
set_option maxHeartbeats 4000000 in
set_option maxRecDepth 100000 in
theorem c_X8_doors (l : Launch) (g : Gh) (sz : Nat) (t_q t_state_q t_laws_q t_readPage_q t_readLaws_q t_tape_q t_cuts_q t_letters_q t_work_q t_pages_q t_canBe_q t_leadsOn_q t_seen_q t_heard_q t_isKept_q t_lanes_q t_lengths_q t_cells_q : Nat) (t_roomMany : Int32) (t_doorMany : Int32) (t_stringLong : Int32) (t_lawMany : Int32) (t_readRooms : Int32) (t_readDoors : Int32) (t_readString : Int32) (t_readLawMany : Int32) (t_toldOnce : Int32) (t_highRoom : Int32) (t_highDoor : Int32) (t_taped : Int32) (t_fault : Int32) (t_broken : Int32) (t_brokenAt : Int32) (t_spot : Int32) (t_here : Int32) (t_token : Int32) (t_value : Int32) (t_seenMany : Int32) (t_heardMany : Int32) (t_torn : Int32) (t_state : Nat → Int32) (p1 : Int32) (rr : Int32) (hf : f_X8_doors t_roomMany t_doorMany t_state p1 = some rr) : CI l yX8_doors wsX8_doors rmX8_doors [.ref t_q, .int p1] g sz [oX8 t_q t_state_q t_roomMany t_doorMany t_stringLong t_laws_q t_lawMany t_readPage_q t_readLaws_q t_readRooms t_readDoors t_readString t_readLawMany t_toldOnce t_highRoom t_highDoor t_tape_q t_taped t_fault t_broken t_brokenAt t_spot t_here t_token t_value t_cuts_q t_letters_q t_work_q t_pages_q t_canBe_q t_leadsOn_q t_seen_q t_seenMany t_heard_q t_heardMany t_isKept_q t_lanes_q t_lengths_q t_cells_q t_torn, aI g t_state_q 196 t_state] [oX8 t_q t_state_q t_roomMany t_doorMany t_stringLong t_laws_q t_lawMany t_readPage_q t_readLaws_q t_readRooms t_readDoors t_readString t_readLawMany t_toldOnce t_highRoom t_highDoor t_tape_q t_taped t_fault t_broken t_brokenAt t_spot t_here t_token t_value t_cuts_q t_letters_q t_work_q t_pages_q t_canBe_q t_leadsOn_q t_seen_q t_seenMany t_heard_q t_heardMany t_isKept_q t_lanes_q t_lengths_q t_cells_q t_torn, aI g t_state_q 196 t_state] rr := by
  refine ent_i (cc := cX8_doors) (maxL := 2) (by decide) rfl (Nat.le_of_ble_eq_true rfl) ?_
  intro p e s m args below meth c A Q hx hb hml hown hts hK hz hk hA hD hP hS hret ls hl
  have hown : s.vm.findClass RX8 = some m.cls := hown
  have inX8 : ∀ w ∈ u_ws RX8 TX8 39, w ∈ wsX8_doors := by decide +kernel
  have k7 := hts (.fieldLink RX8 7 "ThreadMovedModel" "state" "[I") (by decide +kernel)
  have hl : lv_has ls 2 [(0, .ref t_q), (1, .int p1)] := hl
  have hret : ∀ (rrz : Int32), rrz = rr → ∀ (H : Heap) (locs : List Loc) (pc : Nat) (ls : Array Slot), va_P g.1 vwCl [oX8 t_q t_state_q t_roomMany t_doorMany t_stringLong t_laws_q t_lawMany t_readPage_q t_readLaws_q t_readRooms t_readDoors t_readString t_readLawMany t_toldOnce t_highRoom t_highDoor t_tape_q t_taped t_fault t_broken t_brokenAt t_spot t_here t_token t_value t_cuts_q t_letters_q t_work_q t_pages_q t_canBe_q t_leadsOn_q t_seen_q t_seenMany t_heard_q t_heardMany t_isKept_q t_lanes_q t_lengths_q t_cells_q t_torn, aI g t_state_q 196 t_state] H → va_S A s.heap H locs → decode cX8_doors pc = .ok (.ireturn, 1) → W p l e rmX8_doors s m args below meth c H locs 0 0 Q (F0 m pc ls [.int rrz]) := by
    intro rrz he H locs pc ls hP hS hd
    cases he
    exact hret H locs pc ls hP hS hd
  unfold f_X8_doors at hf
  refine lv_aload_n hx hb dX8_doors_0 rfl (lv_at hl 0 rfl) ?_
  refine lv_iload_n hx hb dX8_doors_1 rfl (lv_at hl 1 rfl) ?_
  obtain ⟨r_1, hc_2, hf⟩ := ob1_e hf
  refine kV_i (wn := [oX8 t_q t_state_q t_roomMany t_doorMany t_stringLong t_laws_q t_lawMany t_readPage_q t_readLaws_q t_readRooms t_readDoors t_readString t_readLawMany t_toldOnce t_highRoom t_highDoor t_tape_q t_taped t_fault t_broken t_brokenAt t_spot t_here t_token t_value t_cuts_q t_letters_q t_work_q t_pages_q t_canBe_q t_leadsOn_q t_seen_q t_seenMany t_heard_q t_heardMany t_isKept_q t_lanes_q t_lengths_q t_cells_q t_torn, aI g t_state_q 196 t_state]) (As := [.int p1]) (rest := []) (c_X8_isRoom l g _ t_q t_state_q t_laws_q t_readPage_q t_readLaws_q t_tape_q t_cuts_q t_letters_q t_work_q t_pages_q t_canBe_q t_leadsOn_q t_seen_q t_heard_q t_isKept_q t_lanes_q t_lengths_q t_cells_q t_roomMany t_doorMany t_stringLong t_lawMany t_readRooms t_readDoors t_readString t_readLawMany t_toldOnce t_highRoom t_highDoor t_taped t_fault t_broken t_brokenAt t_spot t_here t_token t_value t_seenMany t_heardMany t_torn p1 r_1 hc_2) ⟨hx, hb, hml, hown, hts⟩ (cwV 1 hts gX8_doors_X8_isRoom rfl rfl rfl (by decide +kernel) ⟨by decide, by decide⟩) hK hz hk hP (hD.re rfl) hS hA [0] rfl rfl rfl rfl rfl rfl rfl hl.1 rfl (Nat.le_of_ble_eq_true rfl) dX8_doors_2 (fun H locs hP hS => ?_)
  refine lv_if_eq (tgt := 21) hx hb dX8_doors_5 (by decide) (fun c_3 => ?_) (fun c_3 => ?_)
  · have hf := ite_t hf c_3
    refine lv_iconst (v := (-1 : Int32)) hx hb dX8_doors_21 (by decide) ?_
    exact hret (-1 : Int32) (Option.some.inj hf) _ _ _ _ hP hS dX8_doors_22
  · have hf := ite_f hf c_3
    refine lv_aload_n hx hb dX8_doors_8 rfl (lv_at hl 0 rfl) ?_
    refine lv_aload_n hx hb dX8_doors_9 rfl (lv_at hl 0 rfl) ?_
    refine va_get (D := g.1) (ci := 8) (v := .ref t_state_q) (C := RX8) (T := TX8) (N := 39) hx hb hts inX8 hown hK hP 0 rfl rfl 0 (by decide) k7 (fun _ h9 => h9) rfl dX8_doors_10 ?_
    refine lv_iconst (v := (0 : Int32)) hx hb dX8_doors_13 (by decide) ?_
    refine lv_iload_n hx hb dX8_doors_14 rfl (lv_at hl 1 rfl) ?_
    obtain ⟨r_4, hc_5, hf⟩ := ob1_e hf
    refine kV_i (wn := [oX8 t_q t_state_q t_roomMany t_doorMany t_stringLong t_laws_q t_lawMany t_readPage_q t_readLaws_q t_readRooms t_readDoors t_readString t_readLawMany t_toldOnce t_highRoom t_highDoor t_tape_q t_taped t_fault t_broken t_brokenAt t_spot t_here t_token t_value t_cuts_q t_letters_q t_work_q t_pages_q t_canBe_q t_leadsOn_q t_seen_q t_seenMany t_heard_q t_heardMany t_isKept_q t_lanes_q t_lengths_q t_cells_q t_torn, aI g t_state_q 196 t_state]) (As := [.ref t_state_q, .int (0 : Int32), .int p1]) (rest := []) (c_X8_leading l g _ t_q t_state_q t_laws_q t_readPage_q t_readLaws_q t_tape_q t_cuts_q t_letters_q t_work_q t_pages_q t_canBe_q t_leadsOn_q t_seen_q t_heard_q t_isKept_q t_lanes_q t_lengths_q t_cells_q t_state_q t_roomMany t_doorMany t_stringLong t_lawMany t_readRooms t_readDoors t_readString t_readLawMany t_toldOnce t_highRoom t_highDoor t_taped t_fault t_broken t_brokenAt t_spot t_here t_token t_value t_seenMany t_heardMany t_torn 196 t_state (0 : Int32) p1 r_4 hc_5) ⟨hx, hb, hml, hown, hts⟩ (cwV 3 hts gX8_doors_X8_leading rfl rfl rfl (by decide +kernel) ⟨by decide, by decide⟩) hK hz hk hP (hD.re rfl) hS hA [0, 1] rfl rfl rfl rfl rfl rfl rfl hl.1 rfl (Nat.le_of_ble_eq_true rfl) dX8_doors_15 (fun H locs hP hS => ?_)
    refine lv_goto (tgt := 22) hx hb dX8_doors_18 (by decide) ?_
    exact hret r_4 (Option.some.inj hf) _ _ _ _ hP hS dX8_doors_22

def b_X8_dusk_41 (t_roomMany : Int32) (t_lawMany : Int32) (t_laws : Nat → Int32) (p1 : Int32) (v4_12 : Int32) (t_work_13 : Nat → Int32) : Option ((Int32 × (Nat → Int32)) ⊕ (Int32 × (Nat → Int32))) :=
 (if p1 ≤ v4_12 then
 (some (.inr (v4_12, t_work_13)))
 else (ob1 (f_X8_dusks t_roomMany t_lawMany t_laws t_work_13) (fun t_work_16 =>
 (bnd (v4_12 + (1 : Int32)) (fun v4_18 =>
 (some (.inl (v4_18, t_work_16))))))))
def f_X8_dusk (t_roomMany : Int32) (t_doorMany : Int32) (t_lawMany : Int32) (t_laws : Nat → Int32) (t_state : Nat → Int32) (t_work : Nat → Int32) (p1 : Int32) (p2 : Int32) (p3 : Int32) : Option (Int32 × (Nat → Int32)) :=
 (ob1 (f_X8_in (p1.toInt64) (0 : Int64) (60 : Int64)) (fun r_1 =>
 (if r_1 = (0 : Int32) then
 (some ((-1 : Int32), t_work))
 else (ob1 (f_X8_isDoor t_doorMany p2) (fun r_4 =>
 (if r_4 = (0 : Int32) then
 (some ((-1 : Int32), t_work))
 else (ob1 (f_X8_in (p3.toInt64) (0 : Int64) (2 : Int64)) (fun r_7 =>
 (if r_7 = (0 : Int32) then
 (some ((-1 : Int32), t_work))
 else (ob1 (f_X8_worksNow t_state t_work) (fun t_work_10 =>
 (ob2 (itr (un2 (b_X8_dusk_41 t_roomMany t_lawMany t_laws p1)) FU ((0 : Int32), t_work_10)) (fun x4_19 t_work_20 =>
 (gin (((3 : Int32) * p2) + p3) 30 (some ((t_work_20 (((3 : Int32) * p2) + p3).toNatClampNeg), t_work_20))))))))))))))))
abbrev rmX8_dusk : Room := { frames := 2, cells := 0, slots := 0, locals := 46 }
set_option maxHeartbeats 4000000 in
set_option maxRecDepth 100000 in
theorem c_X8_dusk (l : Launch) (g : Gh) (sz : Nat) (t_q t_state_q t_laws_q t_readPage_q t_readLaws_q t_tape_q t_cuts_q t_letters_q t_work_q t_pages_q t_canBe_q t_leadsOn_q t_seen_q t_heard_q t_isKept_q t_lanes_q t_lengths_q t_cells_q : Nat) (t_roomMany : Int32) (t_doorMany : Int32) (t_stringLong : Int32) (t_lawMany : Int32) (t_readRooms : Int32) (t_readDoors : Int32) (t_readString : Int32) (t_readLawMany : Int32) (t_toldOnce : Int32) (t_highRoom : Int32) (t_highDoor : Int32) (t_taped : Int32) (t_fault : Int32) (t_broken : Int32) (t_brokenAt : Int32) (t_spot : Int32) (t_here : Int32) (t_token : Int32) (t_value : Int32) (t_seenMany : Int32) (t_heardMany : Int32) (t_torn : Int32) (t_laws : Nat → Int32) (t_state : Nat → Int32) (t_work : Nat → Int32) (p1 : Int32) (p2 : Int32) (p3 : Int32) (rr : Int32) (t_work' : Nat → Int32) (hf : f_X8_dusk t_roomMany t_doorMany t_lawMany t_laws t_state t_work p1 p2 p3 = some (rr, t_work')) : CI l yX8_dusk wsX8_dusk rmX8_dusk [.ref t_q, .int p1, .int p2, .int p3] g sz [oX8 t_q t_state_q t_roomMany t_doorMany t_stringLong t_laws_q t_lawMany t_readPage_q t_readLaws_q t_readRooms t_readDoors t_readString t_readLawMany t_toldOnce t_highRoom t_highDoor t_tape_q t_taped t_fault t_broken t_brokenAt t_spot t_here t_token t_value t_cuts_q t_letters_q t_work_q t_pages_q t_canBe_q t_leadsOn_q t_seen_q t_seenMany t_heard_q t_heardMany t_isKept_q t_lanes_q t_lengths_q t_cells_q t_torn, aI g t_laws_q 18 t_laws, aI g t_state_q 196 t_state, aI g t_work_q 30 t_work] [oX8 t_q t_state_q t_roomMany t_doorMany t_stringLong t_laws_q t_lawMany t_readPage_q t_readLaws_q t_readRooms t_readDoors t_readString t_readLawMany t_toldOnce t_highRoom t_highDoor t_tape_q t_taped t_fault t_broken t_brokenAt t_spot t_here t_token t_value t_cuts_q t_letters_q t_work_q t_pages_q t_canBe_q t_leadsOn_q t_seen_q t_seenMany t_heard_q t_heardMany t_isKept_q t_lanes_q t_lengths_q t_cells_q t_torn, aI g t_laws_q 18 t_laws, aI g t_state_q 196 t_state, aI g t_work_q 30 t_work'] rr := by
  refine ent_i (cc := cX8_dusk) (maxL := 5) (by decide) rfl (Nat.le_of_ble_eq_true rfl) ?_
  intro p e s m args below meth c A Q hx hb hml hown hts hK hz hk hA hD hP hS hret ls hl
  have hown : s.vm.findClass RX8 = some m.cls := hown
  have inX8 : ∀ w ∈ u_ws RX8 TX8 39, w ∈ wsX8_dusk := by decide +kernel
  have k38 := hts (.fieldLink RX8 38 "ThreadMovedModel" "work" "[I") (by decide +kernel)
  have q194 := hts (.constantLong RX8 194 (2)) (by decide +kernel)
  have q240 := hts (.constantLong RX8 240 (60)) (by decide +kernel)
  have hl : lv_has ls 5 [(0, .ref t_q), (1, .int p1), (2, .int p2), (3, .int p3)] := hl
  have hret : ∀ (rrz : Int32) (t_workz : Nat → Int32), (rrz, t_workz) = (rr, t_work') → ∀ (H : Heap) (locs : List Loc) (pc : Nat) (ls : Array Slot), va_P g.1 vwCl [oX8 t_q t_state_q t_roomMany t_doorMany t_stringLong t_laws_q t_lawMany t_readPage_q t_readLaws_q t_readRooms t_readDoors t_readString t_readLawMany t_toldOnce t_highRoom t_highDoor t_tape_q t_taped t_fault t_broken t_brokenAt t_spot t_here t_token t_value t_cuts_q t_letters_q t_work_q t_pages_q t_canBe_q t_leadsOn_q t_seen_q t_seenMany t_heard_q t_heardMany t_isKept_q t_lanes_q t_lengths_q t_cells_q t_torn, aI g t_laws_q 18 t_laws, aI g t_state_q 196 t_state, aI g t_work_q 30 t_workz] H → va_S A s.heap H locs → decode cX8_dusk pc = .ok (.ireturn, 1) → W p l e rmX8_dusk s m args below meth c H locs 0 0 Q (F0 m pc ls [.int rrz]) := by
    intro rrz t_workz he H locs pc ls hP hS hd
    cases he
    exact hret H locs pc ls hP hS hd
  unfold f_X8_dusk at hf
  refine lv_iload_n hx hb dX8_dusk_0 rfl (lv_at hl 1 rfl) ?_
  refine lv_i2l hx hb dX8_dusk_1 rfl ?_
  refine lv_lconst (v := (0 : Int64)) hx hb dX8_dusk_2 (by decide) ?_
  refine lv_ldc2 hx hb hown q240 dX8_dusk_3 ?_
  obtain ⟨r_1, hc_2, hf⟩ := ob1_e hf
  refine kS_i (wn := [oX8 t_q t_state_q t_roomMany t_doorMany t_stringLong t_laws_q t_lawMany t_readPage_q t_readLaws_q t_readRooms t_readDoors t_readString t_readLawMany t_toldOnce t_highRoom t_highDoor t_tape_q t_taped t_fault t_broken t_brokenAt t_spot t_here t_token t_value t_cuts_q t_letters_q t_work_q t_pages_q t_canBe_q t_leadsOn_q t_seen_q t_seenMany t_heard_q t_heardMany t_isKept_q t_lanes_q t_lengths_q t_cells_q t_torn, aI g t_laws_q 18 t_laws, aI g t_state_q 196 t_state, aI g t_work_q 30 t_work]) (As := [.long (p1.toInt64), .long (0 : Int64), .long (60 : Int64)]) (rest := []) (c_X8_in l g _ (p1.toInt64) (0 : Int64) (60 : Int64) r_1 hc_2) ⟨hx, hb, hml, hown, hts⟩ (va_cwS 3 hts gX8_dusk_X8_in rfl rfl rfl (by decide +kernel) ⟨by decide, by decide⟩) hK hz hk hP (hD.re rfl) hS hA [] rfl rfl rfl rfl rfl hl.1 rfl (Nat.le_of_ble_eq_true rfl) dX8_dusk_6 (fun H locs hP hS => ?_)
  refine lv_if_eq (tgt := 32) hx hb dX8_dusk_9 (by decide) (fun c_3 => ?_) (fun c_3 => ?_)
  · have hf := ite_t hf c_3
    refine lv_iconst (v := (-1 : Int32)) hx hb dX8_dusk_32 (by decide) ?_
    exact hret (-1 : Int32) t_work (Option.some.inj hf) _ _ _ _ hP hS dX8_dusk_33
  · have hf := ite_f hf c_3
    refine lv_aload_n hx hb dX8_dusk_12 rfl (lv_at hl 0 rfl) ?_
    refine lv_iload_n hx hb dX8_dusk_13 rfl (lv_at hl 2 rfl) ?_
    obtain ⟨r_4, hc_5, hf⟩ := ob1_e hf
    refine kV_i (wn := [oX8 t_q t_state_q t_roomMany t_doorMany t_stringLong t_laws_q t_lawMany t_readPage_q t_readLaws_q t_readRooms t_readDoors t_readString t_readLawMany t_toldOnce t_highRoom t_highDoor t_tape_q t_taped t_fault t_broken t_brokenAt t_spot t_here t_token t_value t_cuts_q t_letters_q t_work_q t_pages_q t_canBe_q t_leadsOn_q t_seen_q t_seenMany t_heard_q t_heardMany t_isKept_q t_lanes_q t_lengths_q t_cells_q t_torn, aI g t_laws_q 18 t_laws, aI g t_state_q 196 t_state, aI g t_work_q 30 t_work]) (As := [.int p2]) (rest := []) (c_X8_isDoor l g _ t_q t_state_q t_laws_q t_readPage_q t_readLaws_q t_tape_q t_cuts_q t_letters_q t_work_q t_pages_q t_canBe_q t_leadsOn_q t_seen_q t_heard_q t_isKept_q t_lanes_q t_lengths_q t_cells_q t_roomMany t_doorMany t_stringLong t_lawMany t_readRooms t_readDoors t_readString t_readLawMany t_toldOnce t_highRoom t_highDoor t_taped t_fault t_broken t_brokenAt t_spot t_here t_token t_value t_seenMany t_heardMany t_torn p2 r_4 hc_5) ⟨hx, hb, hml, hown, hts⟩ (cwV 1 hts gX8_dusk_X8_isDoor rfl rfl rfl (by decide +kernel) ⟨by decide, by decide⟩) hK hz hk hP (hD.re rfl) hS hA [0] rfl rfl rfl rfl rfl rfl rfl hl.1 rfl (Nat.le_of_ble_eq_true rfl) dX8_dusk_14 (fun H locs hP hS => ?_)
    refine lv_if_eq (tgt := 32) hx hb dX8_dusk_17 (by decide) (fun c_6 => ?_) (fun c_6 => ?_)
    · have hf := ite_t hf c_6
      refine lv_iconst (v := (-1 : Int32)) hx hb dX8_dusk_32 (by decide) ?_
      exact hret (-1 : Int32) t_work (Option.some.inj hf) _ _ _ _ hP hS dX8_dusk_33
    · have hf := ite_f hf c_6
      refine lv_iload_n hx hb dX8_dusk_20 rfl (lv_at hl 3 rfl) ?_
      refine lv_i2l hx hb dX8_dusk_21 rfl ?_
      refine lv_lconst (v := (0 : Int64)) hx hb dX8_dusk_22 (by decide) ?_
      refine lv_ldc2 hx hb hown q194 dX8_dusk_23 ?_
      obtain ⟨r_7, hc_8, hf⟩ := ob1_e hf
      refine kS_i (wn := [oX8 t_q t_state_q t_roomMany t_doorMany t_stringLong t_laws_q t_lawMany t_readPage_q t_readLaws_q t_readRooms t_readDoors t_readString t_readLawMany t_toldOnce t_highRoom t_highDoor t_tape_q t_taped t_fault t_broken t_brokenAt t_spot t_here t_token t_value t_cuts_q t_letters_q t_work_q t_pages_q t_canBe_q t_leadsOn_q t_seen_q t_seenMany t_heard_q t_heardMany t_isKept_q t_lanes_q t_lengths_q t_cells_q t_torn, aI g t_laws_q 18 t_laws, aI g t_state_q 196 t_state, aI g t_work_q 30 t_work]) (As := [.long (p3.toInt64), .long (0 : Int64), .long (2 : Int64)]) (rest := []) (c_X8_in l g _ (p3.toInt64) (0 : Int64) (2 : Int64) r_7 hc_8) ⟨hx, hb, hml, hown, hts⟩ (va_cwS 3 hts gX8_dusk_X8_in rfl rfl rfl (by decide +kernel) ⟨by decide, by decide⟩) hK hz hk hP (hD.re rfl) hS hA [] rfl rfl rfl rfl rfl hl.1 rfl (Nat.le_of_ble_eq_true rfl) dX8_dusk_26 (fun H locs hP hS => ?_)
      refine lv_if_ne (tgt := 34) hx hb dX8_dusk_29 (by decide) (fun c_9 => ?_) (fun c_9 => ?_)
      · have hf := ite_f hf c_9
        refine lv_aload_n hx hb dX8_dusk_34 rfl (lv_at hl 0 rfl) ?_
        obtain ⟨t_work_10, hc_11, hf⟩ := ob1_e hf
        refine kV_v (wn := [oX8 t_q t_state_q t_roomMany t_doorMany t_stringLong t_laws_q t_lawMany t_readPage_q t_readLaws_q t_readRooms t_readDoors t_readString t_readLawMany t_toldOnce t_highRoom t_highDoor t_tape_q t_taped t_fault t_broken t_brokenAt t_spot t_here t_token t_value t_cuts_q t_letters_q t_work_q t_pages_q t_canBe_q t_leadsOn_q t_seen_q t_seenMany t_heard_q t_heardMany t_isKept_q t_lanes_q t_lengths_q t_cells_q t_torn, aI g t_laws_q 18 t_laws, aI g t_state_q 196 t_state, aI g t_work_q 30 t_work_10]) (As := []) (rest := []) (c_X8_worksNow l g _ t_q t_state_q t_laws_q t_readPage_q t_readLaws_q t_tape_q t_cuts_q t_letters_q t_work_q t_pages_q t_canBe_q t_leadsOn_q t_seen_q t_heard_q t_isKept_q t_lanes_q t_lengths_q t_cells_q t_roomMany t_doorMany t_stringLong t_lawMany t_readRooms t_readDoors t_readString t_readLawMany t_toldOnce t_highRoom t_highDoor t_taped t_fault t_broken t_brokenAt t_spot t_here t_token t_value t_seenMany t_heardMany t_torn t_state t_work t_work_10 hc_11) ⟨hx, hb, hml, hown, hts⟩ (cwV 0 hts gX8_dusk_X8_worksNow rfl rfl rfl (by decide +kernel) ⟨by decide, by decide⟩) hK hz hk hP (hD.re rfl) hS hA [0, 2, 3] rfl rfl rfl rfl rfl rfl rfl hl.1 rfl (Nat.le_of_ble_eq_true rfl) dX8_dusk_35 (fun H locs hP hS => ?_)
        refine lv_iconst (v := (0 : Int32)) hx hb dX8_dusk_38 (by decide) ?_
        refine lv_istore (lv' := [(4, .int (0 : Int32)), (0, .ref t_q), (1, .int p1), (2, .int p2), (3, .int p3)]) hx hb dX8_dusk_39 hl (by decide) rfl (fun ls hl => ?_)
        obtain ⟨x4_19, t_work_20, ho_14, hf⟩ := ob2_e hf
        have K_14 : ∀ (x4_19y : Int32) (t_work_20y : Nat → Int32), x4_19 = x4_19y → t_work_20 = t_work_20y → ∀ (H : Heap) (locs : List Loc) (ls : Array Slot), va_P g.1 vwCl [oX8 t_q t_state_q t_roomMany t_doorMany t_stringLong t_laws_q t_lawMany t_readPage_q t_readLaws_q t_readRooms t_readDoors t_readString t_readLawMany t_toldOnce t_highRoom t_highDoor t_tape_q t_taped t_fault t_broken t_brokenAt t_spot t_here t_token t_value t_cuts_q t_letters_q t_work_q t_pages_q t_canBe_q t_leadsOn_q t_seen_q t_seenMany t_heard_q t_heardMany t_isKept_q t_lanes_q t_lengths_q t_cells_q t_torn, aI g t_laws_q 18 t_laws, aI g t_state_q 196 t_state, aI g t_work_q 30 t_work_20y] H → va_S A s.heap H locs → lv_has ls 5 [(0, .ref t_q), (2, .int p2), (3, .int p3)] → W p l e rmX8_dusk s m args below meth c H locs 0 0 Q (F0 m 57 ls []) := by
          intro x4_19y t_work_20y ey0 ey1 H locs ls hP hS hl
          subst ey0
          subst ey1
          refine lv_aload_n hx hb dX8_dusk_57 rfl (lv_at hl 0 rfl) ?_
          refine va_get (D := g.1) (ci := 8) (v := .ref t_work_q) (C := RX8) (T := TX8) (N := 39) hx hb hts inX8 hown hK hP 0 rfl rfl 26 (by decide) k38 (fun _ h9 => h9) rfl dX8_dusk_58 ?_
          refine lv_iconst (v := (3 : Int32)) hx hb dX8_dusk_61 (by decide) ?_
          refine lv_iload_n hx hb dX8_dusk_62 rfl (lv_at hl 1 rfl) ?_
          refine lv_imul hx hb dX8_dusk_63 ?_
          refine lv_iload_n hx hb dX8_dusk_64 rfl (lv_at hl 2 rfl) ?_
          refine lv_iadd hx hb dX8_dusk_65 ?_
          obtain ⟨h_21, hf⟩ := gin_e hf
          refine va_iald hx hb hK hP 3 0 rfl rfl h_21 dX8_dusk_66 ?_
          exact hret (t_work_20 (((3 : Int32) * p2) + p3).toNatClampNeg) t_work_20 (Option.some.inj hf) _ _ _ _ hP hS dX8_dusk_67
        have L_14 : ∀ (n : Nat) (v4_12 : Int32) (t_work_13 : Nat → Int32), itr (un2 (b_X8_dusk_41 t_roomMany t_lawMany t_laws p1)) n (v4_12, t_work_13) = some (x4_19, t_work_20) → ∀ (H : Heap) (locs : List Loc) (ls : Array Slot), va_P g.1 vwCl [oX8 t_q t_state_q t_roomMany t_doorMany t_stringLong t_laws_q t_lawMany t_readPage_q t_readLaws_q t_readRooms t_readDoors t_readString t_readLawMany t_toldOnce t_highRoom t_highDoor t_tape_q t_taped t_fault t_broken t_brokenAt t_spot t_here t_token t_value t_cuts_q t_letters_q t_work_q t_pages_q t_canBe_q t_leadsOn_q t_seen_q t_seenMany t_heard_q t_heardMany t_isKept_q t_lanes_q t_lengths_q t_cells_q t_torn, aI g t_laws_q 18 t_laws, aI g t_state_q 196 t_state, aI g t_work_q 30 t_work_13] H → va_S A s.heap H locs → lv_has ls 5 [(0, .ref t_q), (1, .int p1), (2, .int p2), (3, .int p3), (4, .int v4_12)] → W p l e rmX8_dusk s m args below meth c H locs 0 0 Q (F0 m 41 ls []) := by
          refine itr_ind2 ?_
          intro v4_12 t_work_13 z_14 hf hrec hex H locs ls hP hS hl
          unfold b_X8_dusk_41 at hf
          refine lv_iload hx hb dX8_dusk_41 (lv_at hl 4 rfl) ?_
          refine lv_iload_n hx hb dX8_dusk_43 rfl (lv_at hl 1 rfl) ?_
          refine lv_icmp_ge (tgt := 57) hx hb dX8_dusk_44 (by decide) (fun c_15 => ?_) (fun c_15 => ?_)
          · have hf := ite_t hf c_15
            exact K_14 v4_12 t_work_13 (congrArg (fun t => t.1) (hex _ (Option.some.inj hf).symm).symm) (congrArg (fun t => t.2) (hex _ (Option.some.inj hf).symm).symm) _ _ _ hP hS (lv_sub hl [0, 2, 3] rfl)
          · have hf := ite_f hf c_15
            refine lv_aload_n hx hb dX8_dusk_47 rfl (lv_at hl 0 rfl) ?_
            obtain ⟨t_work_16, hc_17, hf⟩ := ob1_e hf
            refine kV_v (wn := [oX8 t_q t_state_q t_roomMany t_doorMany t_stringLong t_laws_q t_lawMany t_readPage_q t_readLaws_q t_readRooms t_readDoors t_readString t_readLawMany t_toldOnce t_highRoom t_highDoor t_tape_q t_taped t_fault t_broken t_brokenAt t_spot t_here t_token t_value t_cuts_q t_letters_q t_work_q t_pages_q t_canBe_q t_leadsOn_q t_seen_q t_seenMany t_heard_q t_heardMany t_isKept_q t_lanes_q t_lengths_q t_cells_q t_torn, aI g t_laws_q 18 t_laws, aI g t_state_q 196 t_state, aI g t_work_q 30 t_work_16]) (As := []) (rest := []) (c_X8_dusks l g _ t_q t_state_q t_laws_q t_readPage_q t_readLaws_q t_tape_q t_cuts_q t_letters_q t_work_q t_pages_q t_canBe_q t_leadsOn_q t_seen_q t_heard_q t_isKept_q t_lanes_q t_lengths_q t_cells_q t_roomMany t_doorMany t_stringLong t_lawMany t_readRooms t_readDoors t_readString t_readLawMany t_toldOnce t_highRoom t_highDoor t_taped t_fault t_broken t_brokenAt t_spot t_here t_token t_value t_seenMany t_heardMany t_torn t_laws t_work_13 t_work_16 hc_17) ⟨hx, hb, hml, hown, hts⟩ (cwV 0 hts gX8_dusk_X8_dusks rfl rfl rfl (by decide +kernel) ⟨by decide, by decide⟩) hK hz hk hP (hD.re rfl) hS hA [0, 1, 3] rfl rfl rfl rfl rfl rfl rfl hl.1 rfl (Nat.le_of_ble_eq_true rfl) dX8_dusk_48 (fun H locs hP hS => ?_)
            obtain ⟨v4_18, ev4_18, hf⟩ := bnd_e hf
            refine lv_iinc (v := v4_18) (lv' := [(4, .int v4_18), (0, .ref t_q), (1, .int p1), (2, .int p2), (3, .int p3)]) hx hb dX8_dusk_51 hl (k := 4) rfl (by rw [ev4_18]; rfl) (by decide) rfl (fun ls hl => ?_)
            refine lv_goto (tgt := 41) hx hb dX8_dusk_54 (by decide) ?_
            exact hrec v4_18 t_work_16 (Option.some.inj hf).symm _ _ _ hP hS (lv_sub hl [1, 2, 3, 4, 0] rfl)
        exact L_14 FU (0 : Int32) t_work_10 ho_14 _ _ _ hP hS (lv_sub hl [1, 2, 3, 4, 0] rfl)
      · have hf := ite_t hf c_9
        refine lv_iconst (v := (-1 : Int32)) hx hb dX8_dusk_32 (by decide) ?_
        exact hret (-1 : Int32) t_work (Option.some.inj hf) _ _ _ _ hP hS dX8_dusk_33
