def f_X8_hear (t_roomMany : Int32) (t_heardMany : Int32) (t_heard : Nat → Int32) (p1 : Int32) (p2 : Int32) (p3 : Int32) : Option (Int32 × Int32 × (Nat → Int32)) :=
 (ob1 (f_X8_in (p1.toInt64) (1 : Int64) (12 : Int64)) (fun r_1 =>
 (if r_1 = (0 : Int32) then
 (some ((-1 : Int32), t_heardMany, t_heard))
 else (ob1 (f_X8_isRoom t_roomMany p2) (fun r_4 =>
 (if r_4 = (0 : Int32) then
 (some ((-1 : Int32), t_heardMany, t_heard))
 else (if t_heardMany = (6 : Int32) then
 (some ((-3 : Int32), t_heardMany, t_heard))
 else (gin ((3 : Int32) * t_heardMany) 18 (bnd (upd t_heard ((3 : Int32) * t_heardMany).toNatClampNeg p1) (fun t_heard_9 =>
 (gin (((3 : Int32) * t_heardMany) + (1 : Int32)) 18 (bnd (upd t_heard_9 (((3 : Int32) * t_heardMany) + (1 : Int32)).toNatClampNeg p2) (fun t_heard_11 =>
 (jn1 (fun (s_12 : Int32) => (gin (((3 : Int32) * t_heardMany) + (2 : Int32)) 18 (bnd (upd t_heard_11 (((3 : Int32) * t_heardMany) + (2 : Int32)).toNatClampNeg s_12) (fun t_heard_15 =>
 (bnd (t_heardMany + (1 : Int32)) (fun t_heardMany_16 =>
 (some (t_heardMany_16, t_heardMany_16, t_heard_15)))))))) (fun j_13 =>
 (if p3 = (0 : Int32) then
 (j_13 (0 : Int32))
 else (j_13 (1 : Int32))))))))))))))))))
abbrev rmX8_hear : Room := { frames := 2, cells := 0, slots := 0, locals := 46 }
set_option maxHeartbeats 4000000 in
set_option maxRecDepth 100000 in
theorem c_X8_hear (l : Launch) (g : Gh) (sz : Nat) (t_q t_state_q t_laws_q t_readPage_q t_readLaws_q t_tape_q t_cuts_q t_letters_q t_work_q t_pages_q t_canBe_q t_leadsOn_q t_seen_q t_heard_q t_isKept_q t_lanes_q t_lengths_q t_cells_q : Nat) (t_roomMany : Int32) (t_doorMany : Int32) (t_stringLong : Int32) (t_lawMany : Int32) (t_readRooms : Int32) (t_readDoors : Int32) (t_readString : Int32) (t_readLawMany : Int32) (t_toldOnce : Int32) (t_highRoom : Int32) (t_highDoor : Int32) (t_taped : Int32) (t_fault : Int32) (t_broken : Int32) (t_brokenAt : Int32) (t_spot : Int32) (t_here : Int32) (t_token : Int32) (t_value : Int32) (t_seenMany : Int32) (t_heardMany : Int32) (t_torn : Int32) (t_heard : Nat → Int32) (p1 : Int32) (p2 : Int32) (p3 : Int32) (rr : Int32) (t_heardMany' : Int32) (t_heard' : Nat → Int32) (hf : f_X8_hear t_roomMany t_heardMany t_heard p1 p2 p3 = some (rr, t_heardMany', t_heard')) : CI l yX8_hear wsX8_hear rmX8_hear [.ref t_q, .int p1, .int p2, .int p3] g sz [oX8 t_q t_state_q t_roomMany t_doorMany t_stringLong t_laws_q t_lawMany t_readPage_q t_readLaws_q t_readRooms t_readDoors t_readString t_readLawMany t_toldOnce t_highRoom t_highDoor t_tape_q t_taped t_fault t_broken t_brokenAt t_spot t_here t_token t_value t_cuts_q t_letters_q t_work_q t_pages_q t_canBe_q t_leadsOn_q t_seen_q t_seenMany t_heard_q t_heardMany t_isKept_q t_lanes_q t_lengths_q t_cells_q t_torn, aI g t_heard_q 18 t_heard] [oX8 t_q t_state_q t_roomMany t_doorMany t_stringLong t_laws_q t_lawMany t_readPage_q t_readLaws_q t_readRooms t_readDoors t_readString t_readLawMany t_toldOnce t_highRoom t_highDoor t_tape_q t_taped t_fault t_broken t_brokenAt t_spot t_here t_token t_value t_cuts_q t_letters_q t_work_q t_pages_q t_canBe_q t_leadsOn_q t_seen_q t_seenMany t_heard_q t_heardMany' t_isKept_q t_lanes_q t_lengths_q t_cells_q t_torn, aI g t_heard_q 18 t_heard'] rr := by
  refine ent_i (cc := cX8_hear) (maxL := 4) (by decide) rfl (Nat.le_of_ble_eq_true rfl) ?_
  intro p e s m args below meth c A Q hx hb hml hown hts hK hz hk hA hD hP hS hret ls hl
  have hown : s.vm.findClass RX8 = some m.cls := hown
  have inX8 : ∀ w ∈ u_ws RX8 TX8 39, w ∈ wsX8_hear := by decide +kernel
  have k53 := hts (.fieldLink RX8 53 "ThreadMovedModel" "heard" "[I") (by decide +kernel)
  have k184 := hts (.fieldLink RX8 184 "ThreadMovedModel" "heardMany" "I") (by decide +kernel)
  have q278 := hts (.constantLong RX8 278 (12)) (by decide +kernel)
  have hl : lv_has ls 4 [(0, .ref t_q), (1, .int p1), (2, .int p2), (3, .int p3)] := hl
  have hret : ∀ (rrz : Int32) (t_heardManyz : Int32) (t_heardz : Nat → Int32), (rrz, t_heardManyz, t_heardz) = (rr, t_heardMany', t_heard') → ∀ (H : Heap) (locs : List Loc) (pc : Nat) (ls : Array Slot), va_P g.1 vwCl [oX8 t_q t_state_q t_roomMany t_doorMany t_stringLong t_laws_q t_lawMany t_readPage_q t_readLaws_q t_readRooms t_readDoors t_readString t_readLawMany t_toldOnce t_highRoom t_highDoor t_tape_q t_taped t_fault t_broken t_brokenAt t_spot t_here t_token t_value t_cuts_q t_letters_q t_work_q t_pages_q t_canBe_q t_leadsOn_q t_seen_q t_seenMany t_heard_q t_heardManyz t_isKept_q t_lanes_q t_lengths_q t_cells_q t_torn, aI g t_heard_q 18 t_heardz] H → va_S A s.heap H locs → decode cX8_hear pc = .ok (.ireturn, 1) → W p l e rmX8_hear s m args below meth c H locs 0 0 Q (F0 m pc ls [.int rrz]) := by
    intro rrz t_heardManyz t_heardz he H locs pc ls hP hS hd
    cases he
    exact hret H locs pc ls hP hS hd
  unfold f_X8_hear at hf
  refine lv_iload_n hx hb dX8_hear_0 rfl (lv_at hl 1 rfl) ?_
  refine lv_i2l hx hb dX8_hear_1 rfl ?_
  refine lv_lconst (v := (1 : Int64)) hx hb dX8_hear_2 (by decide) ?_
  refine lv_ldc2 hx hb hown q278 dX8_hear_3 ?_
  obtain ⟨r_1, hc_2, hf⟩ := ob1_e hf
  refine kS_i (wn := [oX8 t_q t_state_q t_roomMany t_doorMany t_stringLong t_laws_q t_lawMany t_readPage_q t_readLaws_q t_readRooms t_readDoors t_readString t_readLawMany t_toldOnce t_highRoom t_highDoor t_tape_q t_taped t_fault t_broken t_brokenAt t_spot t_here t_token t_value t_cuts_q t_letters_q t_work_q t_pages_q t_canBe_q t_leadsOn_q t_seen_q t_seenMany t_heard_q t_heardMany t_isKept_q t_lanes_q t_lengths_q t_cells_q t_torn, aI g t_heard_q 18 t_heard]) (As := [.long (p1.toInt64), .long (1 : Int64), .long (12 : Int64)]) (rest := []) (c_X8_in l g _ (p1.toInt64) (1 : Int64) (12 : Int64) r_1 hc_2) ⟨hx, hb, hml, hown, hts⟩ (va_cwS 3 hts gX8_hear_X8_in rfl rfl rfl (by decide +kernel) ⟨by decide, by decide⟩) hK hz hk hP (hD.re rfl) hS hA [] rfl rfl rfl rfl rfl hl.1 rfl (Nat.le_of_ble_eq_true rfl) dX8_hear_6 (fun H locs hP hS => ?_)
  refine lv_if_eq (tgt := 20) hx hb dX8_hear_9 (by decide) (fun c_3 => ?_) (fun c_3 => ?_)
  · have hf := ite_t hf c_3
    refine lv_iconst (v := (-1 : Int32)) hx hb dX8_hear_20 (by decide) ?_
    exact hret (-1 : Int32) t_heardMany t_heard (Option.some.inj hf) _ _ _ _ hP hS dX8_hear_21
  · have hf := ite_f hf c_3
    refine lv_aload_n hx hb dX8_hear_12 rfl (lv_at hl 0 rfl) ?_
    refine lv_iload_n hx hb dX8_hear_13 rfl (lv_at hl 2 rfl) ?_
    obtain ⟨r_4, hc_5, hf⟩ := ob1_e hf
    refine kV_i (wn := [oX8 t_q t_state_q t_roomMany t_doorMany t_stringLong t_laws_q t_lawMany t_readPage_q t_readLaws_q t_readRooms t_readDoors t_readString t_readLawMany t_toldOnce t_highRoom t_highDoor t_tape_q t_taped t_fault t_broken t_brokenAt t_spot t_here t_token t_value t_cuts_q t_letters_q t_work_q t_pages_q t_canBe_q t_leadsOn_q t_seen_q t_seenMany t_heard_q t_heardMany t_isKept_q t_lanes_q t_lengths_q t_cells_q t_torn, aI g t_heard_q 18 t_heard]) (As := [.int p2]) (rest := []) (c_X8_isRoom l g _ t_q t_state_q t_laws_q t_readPage_q t_readLaws_q t_tape_q t_cuts_q t_letters_q t_work_q t_pages_q t_canBe_q t_leadsOn_q t_seen_q t_heard_q t_isKept_q t_lanes_q t_lengths_q t_cells_q t_roomMany t_doorMany t_stringLong t_lawMany t_readRooms t_readDoors t_readString t_readLawMany t_toldOnce t_highRoom t_highDoor t_taped t_fault t_broken t_brokenAt t_spot t_here t_token t_value t_seenMany t_heardMany t_torn p2 r_4 hc_5) ⟨hx, hb, hml, hown, hts⟩ (cwV 1 hts gX8_hear_X8_isRoom rfl rfl rfl (by decide +kernel) ⟨by decide, by decide⟩) hK hz hk hP (hD.re rfl) hS hA [0] rfl rfl rfl rfl rfl rfl rfl hl.1 rfl (Nat.le_of_ble_eq_true rfl) dX8_hear_14 (fun H locs hP hS => ?_)
    refine lv_if_ne (tgt := 22) hx hb dX8_hear_17 (by decide) (fun c_6 => ?_) (fun c_6 => ?_)
    · have hf := ite_f hf c_6
      refine lv_aload_n hx hb dX8_hear_22 rfl (lv_at hl 0 rfl) ?_
      refine va_get (D := g.1) (ci := 8) (v := .int t_heardMany) (C := RX8) (T := TX8) (N := 39) hx hb hts inX8 hown hK hP 0 rfl rfl 33 (by decide) k184 (fun _ h9 => h9) rfl dX8_hear_23 ?_
      refine lv_bipush (v := (6 : Int32)) hx hb dX8_hear_26 (by decide) ?_
      refine lv_icmp_ne (tgt := 34) hx hb dX8_hear_28 (by decide) (fun c_7 => ?_) (fun c_7 => ?_)
      · have hf := ite_f hf c_7
        refine lv_aload_n hx hb dX8_hear_34 rfl (lv_at hl 0 rfl) ?_
        refine va_get (D := g.1) (ci := 8) (v := .ref t_heard_q) (C := RX8) (T := TX8) (N := 39) hx hb hts inX8 hown hK hP 0 rfl rfl 32 (by decide) k53 (fun _ h9 => h9) rfl dX8_hear_35 ?_
        refine lv_iconst (v := (3 : Int32)) hx hb dX8_hear_38 (by decide) ?_
        refine lv_aload_n hx hb dX8_hear_39 rfl (lv_at hl 0 rfl) ?_
        refine va_get (D := g.1) (ci := 8) (v := .int t_heardMany) (C := RX8) (T := TX8) (N := 39) hx hb hts inX8 hown hK hP 0 rfl rfl 33 (by decide) k184 (fun _ h9 => h9) rfl dX8_hear_40 ?_
        refine lv_imul hx hb dX8_hear_43 ?_
        refine lv_iload_n hx hb dX8_hear_44 rfl (lv_at hl 1 rfl) ?_
        obtain ⟨h_8, hf⟩ := gin_e hf
        obtain ⟨t_heard_9, et_heard_9, hf⟩ := bnd_e hf
        refine va_iast hx hb hK hP (hD.re rfl) hS 1 0 rfl rfl h_8 dX8_hear_45 (fun H locs hP _ hS => ?_)
        have hP : va_P g.1 vwCl [oX8 t_q t_state_q t_roomMany t_doorMany t_stringLong t_laws_q t_lawMany t_readPage_q t_readLaws_q t_readRooms t_readDoors t_readString t_readLawMany t_toldOnce t_highRoom t_highDoor t_tape_q t_taped t_fault t_broken t_brokenAt t_spot t_here t_token t_value t_cuts_q t_letters_q t_work_q t_pages_q t_canBe_q t_leadsOn_q t_seen_q t_seenMany t_heard_q t_heardMany t_isKept_q t_lanes_q t_lengths_q t_cells_q t_torn, aI g t_heard_q 18 t_heard_9] H := by rw [et_heard_9]; exact hP
        refine lv_aload_n hx hb dX8_hear_46 rfl (lv_at hl 0 rfl) ?_
        refine va_get (D := g.1) (ci := 8) (v := .ref t_heard_q) (C := RX8) (T := TX8) (N := 39) hx hb hts inX8 hown hK hP 0 rfl rfl 32 (by decide) k53 (fun _ h9 => h9) rfl dX8_hear_47 ?_
        refine lv_iconst (v := (3 : Int32)) hx hb dX8_hear_50 (by decide) ?_
        refine lv_aload_n hx hb dX8_hear_51 rfl (lv_at hl 0 rfl) ?_
        refine va_get (D := g.1) (ci := 8) (v := .int t_heardMany) (C := RX8) (T := TX8) (N := 39) hx hb hts inX8 hown hK hP 0 rfl rfl 33 (by decide) k184 (fun _ h9 => h9) rfl dX8_hear_52 ?_
        refine lv_imul hx hb dX8_hear_55 ?_
        refine lv_iconst (v := (1 : Int32)) hx hb dX8_hear_56 (by decide) ?_
        refine lv_iadd hx hb dX8_hear_57 ?_
        refine lv_iload_n hx hb dX8_hear_58 rfl (lv_at hl 2 rfl) ?_
        obtain ⟨h_10, hf⟩ := gin_e hf
        obtain ⟨t_heard_11, et_heard_11, hf⟩ := bnd_e hf
        refine va_iast hx hb hK hP (hD.re rfl) hS 1 0 rfl rfl h_10 dX8_hear_59 (fun H locs hP _ hS => ?_)
        have hP : va_P g.1 vwCl [oX8 t_q t_state_q t_roomMany t_doorMany t_stringLong t_laws_q t_lawMany t_readPage_q t_readLaws_q t_readRooms t_readDoors t_readString t_readLawMany t_toldOnce t_highRoom t_highDoor t_tape_q t_taped t_fault t_broken t_brokenAt t_spot t_here t_token t_value t_cuts_q t_letters_q t_work_q t_pages_q t_canBe_q t_leadsOn_q t_seen_q t_seenMany t_heard_q t_heardMany t_isKept_q t_lanes_q t_lengths_q t_cells_q t_torn, aI g t_heard_q 18 t_heard_11] H := by rw [et_heard_11]; exact hP
        refine lv_aload_n hx hb dX8_hear_60 rfl (lv_at hl 0 rfl) ?_
        refine va_get (D := g.1) (ci := 8) (v := .ref t_heard_q) (C := RX8) (T := TX8) (N := 39) hx hb hts inX8 hown hK hP 0 rfl rfl 32 (by decide) k53 (fun _ h9 => h9) rfl dX8_hear_61 ?_
        refine lv_iconst (v := (3 : Int32)) hx hb dX8_hear_64 (by decide) ?_
        refine lv_aload_n hx hb dX8_hear_65 rfl (lv_at hl 0 rfl) ?_
        refine va_get (D := g.1) (ci := 8) (v := .int t_heardMany) (C := RX8) (T := TX8) (N := 39) hx hb hts inX8 hown hK hP 0 rfl rfl 33 (by decide) k184 (fun _ h9 => h9) rfl dX8_hear_66 ?_
        refine lv_imul hx hb dX8_hear_69 ?_
        refine lv_iconst (v := (2 : Int32)) hx hb dX8_hear_70 (by decide) ?_
        refine lv_iadd hx hb dX8_hear_71 ?_
        refine lv_iload_n hx hb dX8_hear_72 rfl (lv_at hl 3 rfl) ?_
        obtain ⟨j_13, hj_13, hf⟩ := jn1_e hf
        have J_13 : ∀ (s_12 : Int32), j_13 s_12 = some (rr, t_heardMany', t_heard') → ∀ (H : Heap) (locs : List Loc) (ls : Array Slot), va_P g.1 vwCl [oX8 t_q t_state_q t_roomMany t_doorMany t_stringLong t_laws_q t_lawMany t_readPage_q t_readLaws_q t_readRooms t_readDoors t_readString t_readLawMany t_toldOnce t_highRoom t_highDoor t_tape_q t_taped t_fault t_broken t_brokenAt t_spot t_here t_token t_value t_cuts_q t_letters_q t_work_q t_pages_q t_canBe_q t_leadsOn_q t_seen_q t_seenMany t_heard_q t_heardMany t_isKept_q t_lanes_q t_lengths_q t_cells_q t_torn, aI g t_heard_q 18 t_heard_11] H → va_S A s.heap H locs → lv_has ls 4 [(0, .ref t_q)] → W p l e rmX8_hear s m args below meth c H locs 0 0 Q (F0 m 81 ls [.int s_12, .int (((3 : Int32) * t_heardMany) + (2 : Int32)), .ref t_heard_q]) := by
          intro s_12 hf H locs ls hP hS hl
          rw [hj_13] at hf
          obtain ⟨h_14, hf⟩ := gin_e hf
          obtain ⟨t_heard_15, et_heard_15, hf⟩ := bnd_e hf
          refine va_iast hx hb hK hP (hD.re rfl) hS 1 0 rfl rfl h_14 dX8_hear_81 (fun H locs hP _ hS => ?_)
          have hP : va_P g.1 vwCl [oX8 t_q t_state_q t_roomMany t_doorMany t_stringLong t_laws_q t_lawMany t_readPage_q t_readLaws_q t_readRooms t_readDoors t_readString t_readLawMany t_toldOnce t_highRoom t_highDoor t_tape_q t_taped t_fault t_broken t_brokenAt t_spot t_here t_token t_value t_cuts_q t_letters_q t_work_q t_pages_q t_canBe_q t_leadsOn_q t_seen_q t_seenMany t_heard_q t_heardMany t_isKept_q t_lanes_q t_lengths_q t_cells_q t_torn, aI g t_heard_q 18 t_heard_15] H := by rw [et_heard_15]; exact hP
          refine lv_aload_n hx hb dX8_hear_82 rfl (lv_at hl 0 rfl) ?_
          refine lv_dup hx hb dX8_hear_83 rfl ?_
          refine va_get (D := g.1) (ci := 8) (v := .int t_heardMany) (C := RX8) (T := TX8) (N := 39) hx hb hts inX8 hown hK hP 0 rfl rfl 33 (by decide) k184 (fun _ h9 => h9) rfl dX8_hear_84 ?_
          refine lv_iconst (v := (1 : Int32)) hx hb dX8_hear_87 (by decide) ?_
          refine lv_iadd hx hb dX8_hear_88 ?_
          obtain ⟨t_heardMany_16, et_heardMany_16, hf⟩ := bnd_e hf
          refine tp_i et_heardMany_16 ?_
          refine va_put (D := g.1) (ci := 8) (v := .int t_heardMany_16) (ty := .int) (C := RX8) (T := TX8) (N := 39) hx hb hts inX8 tyX8 tyX8_ok nmX8 hown hK hP (hD.re rfl) hS 0 rfl rfl 33 (by decide) k184 (fun _ h9 => h9) rfl (by decide +kernel) rfl rfl (Nat.le_of_ble_eq_true rfl) dX8_hear_89 (fun H locs hP _ hS => ?_)
          have hP : va_P g.1 vwCl [oX8 t_q t_state_q t_roomMany t_doorMany t_stringLong t_laws_q t_lawMany t_readPage_q t_readLaws_q t_readRooms t_readDoors t_readString t_readLawMany t_toldOnce t_highRoom t_highDoor t_tape_q t_taped t_fault t_broken t_brokenAt t_spot t_here t_token t_value t_cuts_q t_letters_q t_work_q t_pages_q t_canBe_q t_leadsOn_q t_seen_q t_seenMany t_heard_q t_heardMany_16 t_isKept_q t_lanes_q t_lengths_q t_cells_q t_torn, aI g t_heard_q 18 t_heard_15] H := hP
          refine lv_aload_n hx hb dX8_hear_92 rfl (lv_at hl 0 rfl) ?_
          refine va_get (D := g.1) (ci := 8) (v := .int t_heardMany_16) (C := RX8) (T := TX8) (N := 39) hx hb hts inX8 hown hK hP 0 rfl rfl 33 (by decide) k184 (fun _ h9 => h9) rfl dX8_hear_93 ?_
          exact hret t_heardMany_16 t_heardMany_16 t_heard_15 (Option.some.inj hf) _ _ _ _ hP hS dX8_hear_96
        refine lv_if_eq (tgt := 80) hx hb dX8_hear_73 (by decide) (fun c_17 => ?_) (fun c_17 => ?_)
        · have hf := ite_t hf c_17
          refine lv_iconst (v := (0 : Int32)) hx hb dX8_hear_80 (by decide) ?_
          exact J_13 (0 : Int32) hf _ _ _ hP hS (lv_sub hl [0] rfl)
        · have hf := ite_f hf c_17
          refine lv_iconst (v := (1 : Int32)) hx hb dX8_hear_76 (by decide) ?_
          refine lv_goto (tgt := 81) hx hb dX8_hear_77 (by decide) ?_
          exact J_13 (1 : Int32) hf _ _ _ hP hS (lv_sub hl [0] rfl)
      · have hf := ite_t hf c_7
        refine lv_bipush (v := (-3 : Int32)) hx hb dX8_hear_31 (by decide) ?_
        exact hret (-3 : Int32) t_heardMany t_heard (Option.some.inj hf) _ _ _ _ hP hS dX8_hear_33
    · have hf := ite_t hf c_6
      refine lv_iconst (v := (-1 : Int32)) hx hb dX8_hear_20 (by decide) ?_
      exact hret (-1 : Int32) t_heardMany t_heard (Option.some.inj hf) _ _ _ _ hP hS dX8_hear_21

def f_X8_hush (t_heardMany : Int32) (p1 : Int32) : Option (Int32 × Int32) :=
 (ob1 (f_X8_in (p1.toInt64) (0 : Int64) (t_heardMany.toInt64)) (fun r_1 =>
 (if r_1 = (0 : Int32) then
 (some ((-1 : Int32), t_heardMany))
 else (some (t_heardMany, p1)))))
abbrev rmX8_hush : Room := { frames := 1, cells := 0, slots := 0, locals := 25 }
set_option maxHeartbeats 4000000 in
set_option maxRecDepth 100000 in
theorem c_X8_hush (l : Launch) (g : Gh) (sz : Nat) (t_q t_state_q t_laws_q t_readPage_q t_readLaws_q t_tape_q t_cuts_q t_letters_q t_work_q t_pages_q t_canBe_q t_leadsOn_q t_seen_q t_heard_q t_isKept_q t_lanes_q t_lengths_q t_cells_q : Nat) (t_roomMany : Int32) (t_doorMany : Int32) (t_stringLong : Int32) (t_lawMany : Int32) (t_readRooms : Int32) (t_readDoors : Int32) (t_readString : Int32) (t_readLawMany : Int32) (t_toldOnce : Int32) (t_highRoom : Int32) (t_highDoor : Int32) (t_taped : Int32) (t_fault : Int32) (t_broken : Int32) (t_brokenAt : Int32) (t_spot : Int32) (t_here : Int32) (t_token : Int32) (t_value : Int32) (t_seenMany : Int32) (t_heardMany : Int32) (t_torn : Int32) (p1 : Int32) (rr : Int32) (t_heardMany' : Int32) (hf : f_X8_hush t_heardMany p1 = some (rr, t_heardMany')) : CI l yX8_hush wsX8_hush rmX8_hush [.ref t_q, .int p1] g sz [oX8 t_q t_state_q t_roomMany t_doorMany t_stringLong t_laws_q t_lawMany t_readPage_q t_readLaws_q t_readRooms t_readDoors t_readString t_readLawMany t_toldOnce t_highRoom t_highDoor t_tape_q t_taped t_fault t_broken t_brokenAt t_spot t_here t_token t_value t_cuts_q t_letters_q t_work_q t_pages_q t_canBe_q t_leadsOn_q t_seen_q t_seenMany t_heard_q t_heardMany t_isKept_q t_lanes_q t_lengths_q t_cells_q t_torn] [oX8 t_q t_state_q t_roomMany t_doorMany t_stringLong t_laws_q t_lawMany t_readPage_q t_readLaws_q t_readRooms t_readDoors t_readString t_readLawMany t_toldOnce t_highRoom t_highDoor t_tape_q t_taped t_fault t_broken t_brokenAt t_spot t_here t_token t_value t_cuts_q t_letters_q t_work_q t_pages_q t_canBe_q t_leadsOn_q t_seen_q t_seenMany t_heard_q t_heardMany' t_isKept_q t_lanes_q t_lengths_q t_cells_q t_torn] rr := by
  refine ent_i (cc := cX8_hush) (maxL := 3) (by decide) rfl (Nat.le_of_ble_eq_true rfl) ?_
  intro p e s m args below meth c A Q hx hb hml hown hts hK hz hk hA hD hP hS hret ls hl
  have hown : s.vm.findClass RX8 = some m.cls := hown
  have inX8 : ∀ w ∈ u_ws RX8 TX8 39, w ∈ wsX8_hush := by decide +kernel
  have k184 := hts (.fieldLink RX8 184 "ThreadMovedModel" "heardMany" "I") (by decide +kernel)
  have hl : lv_has ls 3 [(0, .ref t_q), (1, .int p1)] := hl
  have hret : ∀ (rrz : Int32) (t_heardManyz : Int32), (rrz, t_heardManyz) = (rr, t_heardMany') → ∀ (H : Heap) (locs : List Loc) (pc : Nat) (ls : Array Slot), va_P g.1 vwCl [oX8 t_q t_state_q t_roomMany t_doorMany t_stringLong t_laws_q t_lawMany t_readPage_q t_readLaws_q t_readRooms t_readDoors t_readString t_readLawMany t_toldOnce t_highRoom t_highDoor t_tape_q t_taped t_fault t_broken t_brokenAt t_spot t_here t_token t_value t_cuts_q t_letters_q t_work_q t_pages_q t_canBe_q t_leadsOn_q t_seen_q t_seenMany t_heard_q t_heardManyz t_isKept_q t_lanes_q t_lengths_q t_cells_q t_torn] H → va_S A s.heap H locs → decode cX8_hush pc = .ok (.ireturn, 1) → W p l e rmX8_hush s m args below meth c H locs 0 0 Q (F0 m pc ls [.int rrz]) := by
    intro rrz t_heardManyz he H locs pc ls hP hS hd
    cases he
    exact hret H locs pc ls hP hS hd
  unfold f_X8_hush at hf
  refine lv_iload_n hx hb dX8_hush_0 rfl (lv_at hl 1 rfl) ?_
  refine lv_i2l hx hb dX8_hush_1 rfl ?_
  refine lv_lconst (v := (0 : Int64)) hx hb dX8_hush_2 (by decide) ?_
  refine lv_aload_n hx hb dX8_hush_3 rfl (lv_at hl 0 rfl) ?_
  refine va_get (D := g.1) (ci := 8) (v := .int t_heardMany) (C := RX8) (T := TX8) (N := 39) hx hb hts inX8 hown hK hP 0 rfl rfl 33 (by decide) k184 (fun _ h9 => h9) rfl dX8_hush_4 ?_
  refine lv_i2l hx hb dX8_hush_7 rfl ?_
  obtain ⟨r_1, hc_2, hf⟩ := ob1_e hf
  refine kS_i (wn := [oX8 t_q t_state_q t_roomMany t_doorMany t_stringLong t_laws_q t_lawMany t_readPage_q t_readLaws_q t_readRooms t_readDoors t_readString t_readLawMany t_toldOnce t_highRoom t_highDoor t_tape_q t_taped t_fault t_broken t_brokenAt t_spot t_here t_token t_value t_cuts_q t_letters_q t_work_q t_pages_q t_canBe_q t_leadsOn_q t_seen_q t_seenMany t_heard_q t_heardMany t_isKept_q t_lanes_q t_lengths_q t_cells_q t_torn]) (As := [.long (p1.toInt64), .long (0 : Int64), .long (t_heardMany.toInt64)]) (rest := []) (c_X8_in l g _ (p1.toInt64) (0 : Int64) (t_heardMany.toInt64) r_1 hc_2) ⟨hx, hb, hml, hown, hts⟩ (va_cwS 3 hts gX8_hush_X8_in rfl rfl rfl (by decide +kernel) ⟨by decide, by decide⟩) hK hz hk hP (hD.re rfl) hS hA [] rfl rfl rfl rfl rfl hl.1 rfl (Nat.le_of_ble_eq_true rfl) dX8_hush_8 (fun H locs hP hS => ?_)
  refine lv_if_ne (tgt := 16) hx hb dX8_hush_11 (by decide) (fun c_3 => ?_) (fun c_3 => ?_)
  · have hf := ite_f hf c_3
    refine lv_aload_n hx hb dX8_hush_16 rfl (lv_at hl 0 rfl) ?_
    refine va_get (D := g.1) (ci := 8) (v := .int t_heardMany) (C := RX8) (T := TX8) (N := 39) hx hb hts inX8 hown hK hP 0 rfl rfl 33 (by decide) k184 (fun _ h9 => h9) rfl dX8_hush_17 ?_
    refine lv_istore_n (lv' := [(2, .int t_heardMany), (0, .ref t_q), (1, .int p1)]) hx hb dX8_hush_20 rfl hl (by decide) rfl (fun ls hl => ?_)
    refine lv_aload_n hx hb dX8_hush_21 rfl (lv_at hl 1 rfl) ?_
    refine lv_iload_n hx hb dX8_hush_22 rfl (lv_at hl 2 rfl) ?_
    refine va_put (D := g.1) (ci := 8) (v := .int p1) (ty := .int) (C := RX8) (T := TX8) (N := 39) hx hb hts inX8 tyX8 tyX8_ok nmX8 hown hK hP (hD.re rfl) hS 0 rfl rfl 33 (by decide) k184 (fun _ h9 => h9) rfl (by decide +kernel) rfl rfl (Nat.le_of_ble_eq_true rfl) dX8_hush_23 (fun H locs hP _ hS => ?_)
    have hP : va_P g.1 vwCl [oX8 t_q t_state_q t_roomMany t_doorMany t_stringLong t_laws_q t_lawMany t_readPage_q t_readLaws_q t_readRooms t_readDoors t_readString t_readLawMany t_toldOnce t_highRoom t_highDoor t_tape_q t_taped t_fault t_broken t_brokenAt t_spot t_here t_token t_value t_cuts_q t_letters_q t_work_q t_pages_q t_canBe_q t_leadsOn_q t_seen_q t_seenMany t_heard_q p1 t_isKept_q t_lanes_q t_lengths_q t_cells_q t_torn] H := hP
    refine lv_iload_n hx hb dX8_hush_26 rfl (lv_at hl 0 rfl) ?_
    exact hret t_heardMany p1 (Option.some.inj hf) _ _ _ _ hP hS dX8_hush_27
  · have hf := ite_t hf c_3
    refine lv_iconst (v := (-1 : Int32)) hx hb dX8_hush_14 (by decide) ?_
    exact hret (-1 : Int32) t_heardMany (Option.some.inj hf) _ _ _ _ hP hS dX8_hush_15

def b_X8_isFree_33 (t_doorMany : Int32) (t_pages : Nat → Int32) (p1 : Int32) (v2_4 : Int32) (v3_5 : Int32) (v5_9 : Int32) (v4_12 : Int32) (v6_13 : Int32) : Option ((Int32 × Int32) ⊕ (Int32 × Int32)) :=
 (if t_doorMany ≤ v6_13 then
 (some (.inr (v4_12, v6_13)))
 else (if ((v2_4 >>> (v5_9 &&& 31)) &&& (1 : Int32)) = (1 : Int32) then
 (jn1 (fun (s_17 : Int32) => (jn1 (fun (s_19 : Int32) => (bnd (v4_12 ||| s_19) (fun v4_21 =>
 (bnd (v6_13 + (1 : Int32)) (fun v6_22 =>
 (some (.inl (v4_21, v6_22)))))))) (fun j_20 =>
 (if s_17 = (-4 : Int32) then
 (j_20 (0 : Int32))
 else (j_20 ((1 : Int32) <<< (s_17 &&& 31))))))) (fun j_18 =>
 (if ((p1 >>> (v6_13 &&& 31)) &&& (1 : Int32)) = (1 : Int32) then
 (j_18 (-4 : Int32))
 else (ob1 (f_X8_leadsTo 750 t_pages ((30 : Int32) * v3_5) v6_13 v5_9) (fun r_25 =>
 (j_18 r_25))))))
 else (some (.inr (v4_12, v6_13)))))
def b_X8_isFree_21 (t_roomMany : Int32) (t_doorMany : Int32) (t_pages : Nat → Int32) (p1 : Int32) (v2_4 : Int32) (v3_5 : Int32) (v4_8 : Int32) (v5_9 : Int32) : Option ((Int32 × Int32) ⊕ (Int32 × Int32)) :=
 (if t_roomMany ≤ v5_9 then
 (some (.inr (v4_8, v5_9)))
 else (ob2 (itr (un2 (b_X8_isFree_33 t_doorMany t_pages p1 v2_4 v3_5 v5_9)) FU (v4_8, (0 : Int32))) (fun x4_27 x6_28 =>
 (bnd (v5_9 + (1 : Int32)) (fun v5_29 =>
 (some (.inl (x4_27, v5_29))))))))
def b_X8_isFree_9 (t_roomMany : Int32) (t_doorMany : Int32) (t_pages : Nat → Int32) (p1 : Int32) (v2_4 : Int32) (v3_5 : Int32) : Option ((Int32 × Int32) ⊕ (Int32 × Int32)) :=
 (if (24 : Int32) ≤ v3_5 then
 (some (.inr (v2_4, v3_5)))
 else (ob2 (itr (un2 (b_X8_isFree_21 t_roomMany t_doorMany t_pages p1 v2_4 v3_5)) FU (v2_4, (0 : Int32))) (fun x4_30 x5_31 =>
 (bnd (v3_5 + (1 : Int32)) (fun v3_32 =>
 (some (.inl (x4_30, v3_32))))))))
def f_X8_isFree (t_roomMany : Int32) (t_doorMany : Int32) (t_pages : Nat → Int32) (t_state : Nat → Int32) (p1 : Int32) : Option (Int32) :=
 (ob1 (f_X8_beastNow t_state) (fun r_1 =>
 (bnd ((1 : Int32) <<< (r_1 &&& 31)) (fun v2_3 =>
 (ob2 (itr (un2 (b_X8_isFree_9 t_roomMany t_doorMany t_pages p1)) FU (v2_3, (0 : Int32))) (fun x2_33 x3_34 =>
 (if (x2_33 &&& (1 : Int32)) = (0 : Int32) then
 (some (1 : Int32))
 else (some (0 : Int32)))))))))
abbrev rmX8_isFree : Room := { frames := 1, cells := 0, slots := 0, locals := 26 }
set_option maxHeartbeats 4000000 in
set_option maxRecDepth 100000 in
theorem c_X8_isFree (l : Launch) (g : Gh) (sz : Nat) (t_q t_state_q t_laws_q t_readPage_q t_readLaws_q t_tape_q t_cuts_q t_letters_q t_work_q t_pages_q t_canBe_q t_leadsOn_q t_seen_q t_heard_q t_isKept_q t_lanes_q t_lengths_q t_cells_q : Nat) (t_roomMany : Int32) (t_doorMany : Int32) (t_stringLong : Int32) (t_lawMany : Int32) (t_readRooms : Int32) (t_readDoors : Int32) (t_readString : Int32) (t_readLawMany : Int32) (t_toldOnce : Int32) (t_highRoom : Int32) (t_highDoor : Int32) (t_taped : Int32) (t_fault : Int32) (t_broken : Int32) (t_brokenAt : Int32) (t_spot : Int32) (t_here : Int32) (t_token : Int32) (t_value : Int32) (t_seenMany : Int32) (t_heardMany : Int32) (t_torn : Int32) (t_pages : Nat → Int32) (t_state : Nat → Int32) (p1 : Int32) (rr : Int32) (hf : f_X8_isFree t_roomMany t_doorMany t_pages t_state p1 = some rr) : CI l yX8_isFree wsX8_isFree rmX8_isFree [.ref t_q, .int p1] g sz [oX8 t_q t_state_q t_roomMany t_doorMany t_stringLong t_laws_q t_lawMany t_readPage_q t_readLaws_q t_readRooms t_readDoors t_readString t_readLawMany t_toldOnce t_highRoom t_highDoor t_tape_q t_taped t_fault t_broken t_brokenAt t_spot t_here t_token t_value t_cuts_q t_letters_q t_work_q t_pages_q t_canBe_q t_leadsOn_q t_seen_q t_seenMany t_heard_q t_heardMany t_isKept_q t_lanes_q t_lengths_q t_cells_q t_torn, aI g t_pages_q 750 t_pages, aI g t_state_q 196 t_state] [oX8 t_q t_state_q t_roomMany t_doorMany t_stringLong t_laws_q t_lawMany t_readPage_q t_readLaws_q t_readRooms t_readDoors t_readString t_readLawMany t_toldOnce t_highRoom t_highDoor t_tape_q t_taped t_fault t_broken t_brokenAt t_spot t_here t_token t_value t_cuts_q t_letters_q t_work_q t_pages_q t_canBe_q t_leadsOn_q t_seen_q t_seenMany t_heard_q t_heardMany t_isKept_q t_lanes_q t_lengths_q t_cells_q t_torn, aI g t_pages_q 750 t_pages, aI g t_state_q 196 t_state] rr := by
  refine ent_z (cc := cX8_isFree) (maxL := 8) (by decide) rfl (Nat.le_of_ble_eq_true rfl) ?_
  intro p e s m args below meth c A Q hx hb hml hown hts hK hz hk hA hD hP hS hret ls hl
  have hown : s.vm.findClass RX8 = some m.cls := hown
  have inX8 : ∀ w ∈ u_ws RX8 TX8 39, w ∈ wsX8_isFree := by decide +kernel
  have k13 := hts (.fieldLink RX8 13 "ThreadMovedModel" "roomMany" "I") (by decide +kernel)
  have k41 := hts (.fieldLink RX8 41 "ThreadMovedModel" "pages" "[I") (by decide +kernel)
  have k175 := hts (.fieldLink RX8 175 "ThreadMovedModel" "doorMany" "I") (by decide +kernel)
  have hl : lv_has ls 8 [(0, .ref t_q), (1, .int p1)] := hl
  have hret : ∀ (rrz : Int32), rrz = rr → narrow .boolean (.int rrz) = .int rrz → ∀ (H : Heap) (locs : List Loc) (pc : Nat) (ls : Array Slot), va_P g.1 vwCl [oX8 t_q t_state_q t_roomMany t_doorMany t_stringLong t_laws_q t_lawMany t_readPage_q t_readLaws_q t_readRooms t_readDoors t_readString t_readLawMany t_toldOnce t_highRoom t_highDoor t_tape_q t_taped t_fault t_broken t_brokenAt t_spot t_here t_token t_value t_cuts_q t_letters_q t_work_q t_pages_q t_canBe_q t_leadsOn_q t_seen_q t_seenMany t_heard_q t_heardMany t_isKept_q t_lanes_q t_lengths_q t_cells_q t_torn, aI g t_pages_q 750 t_pages, aI g t_state_q 196 t_state] H → va_S A s.heap H locs → decode cX8_isFree pc = .ok (.ireturn, 1) → W p l e rmX8_isFree s m args below meth c H locs 0 0 Q (F0 m pc ls [.int rrz]) := by
    intro rrz he hzz H locs pc ls hP hS hd
    cases he
    exact hret H locs pc ls hzz hP hS hd
  unfold f_X8_isFree at hf
  refine lv_iconst (v := (1 : Int32)) hx hb dX8_isFree_0 (by decide) ?_
  refine lv_aload_n hx hb dX8_isFree_1 rfl (lv_at hl 0 rfl) ?_
  obtain ⟨r_1, hc_2, hf⟩ := ob1_e hf
  refine kV_i (wn := [oX8 t_q t_state_q t_roomMany t_doorMany t_stringLong t_laws_q t_lawMany t_readPage_q t_readLaws_q t_readRooms t_readDoors t_readString t_readLawMany t_toldOnce t_highRoom t_highDoor t_tape_q t_taped t_fault t_broken t_brokenAt t_spot t_here t_token t_value t_cuts_q t_letters_q t_work_q t_pages_q t_canBe_q t_leadsOn_q t_seen_q t_seenMany t_heard_q t_heardMany t_isKept_q t_lanes_q t_lengths_q t_cells_q t_torn, aI g t_pages_q 750 t_pages, aI g t_state_q 196 t_state]) (As := []) (rest := [.int (1 : Int32)]) (c_X8_beastNow l g _ t_q t_state_q t_laws_q t_readPage_q t_readLaws_q t_tape_q t_cuts_q t_letters_q t_work_q t_pages_q t_canBe_q t_leadsOn_q t_seen_q t_heard_q t_isKept_q t_lanes_q t_lengths_q t_cells_q t_roomMany t_doorMany t_stringLong t_lawMany t_readRooms t_readDoors t_readString t_readLawMany t_toldOnce t_highRoom t_highDoor t_taped t_fault t_broken t_brokenAt t_spot t_here t_token t_value t_seenMany t_heardMany t_torn t_state r_1 hc_2) ⟨hx, hb, hml, hown, hts⟩ (cwV 0 hts gX8_isFree_X8_beastNow rfl rfl rfl (by decide +kernel) ⟨by decide, by decide⟩) hK hz hk hP (hD.re rfl) hS hA [0, 2] rfl rfl rfl rfl rfl rfl rfl hl.1 rfl (Nat.le_of_ble_eq_true rfl) dX8_isFree_2 (fun H locs hP hS => ?_)
  refine lv_ishl hx hb dX8_isFree_5 ?_
  obtain ⟨v2_3, ev2_3, hf⟩ := bnd_e hf
  refine tp_i ev2_3 ?_
  refine lv_istore_n (lv' := [(2, .int v2_3), (0, .ref t_q), (1, .int p1)]) hx hb dX8_isFree_6 rfl hl (by decide) rfl (fun ls hl => ?_)
  refine lv_iconst (v := (0 : Int32)) hx hb dX8_isFree_7 (by decide) ?_
  refine lv_istore_n (lv' := [(3, .int (0 : Int32)), (2, .int v2_3), (0, .ref t_q), (1, .int p1)]) hx hb dX8_isFree_8 rfl hl (by decide) rfl (fun ls hl => ?_)
  obtain ⟨x2_33, x3_34, ho_6, hf⟩ := ob2_e hf
  have K_6 : ∀ (x2_33y : Int32) (x3_34y : Int32), x2_33 = x2_33y → x3_34 = x3_34y → ∀ (H : Heap) (locs : List Loc) (ls : Array Slot), va_P g.1 vwCl [oX8 t_q t_state_q t_roomMany t_doorMany t_stringLong t_laws_q t_lawMany t_readPage_q t_readLaws_q t_readRooms t_readDoors t_readString t_readLawMany t_toldOnce t_highRoom t_highDoor t_tape_q t_taped t_fault t_broken t_brokenAt t_spot t_here t_token t_value t_cuts_q t_letters_q t_work_q t_pages_q t_canBe_q t_leadsOn_q t_seen_q t_seenMany t_heard_q t_heardMany t_isKept_q t_lanes_q t_lengths_q t_cells_q t_torn, aI g t_pages_q 750 t_pages, aI g t_state_q 196 t_state] H → va_S A s.heap H locs → lv_has ls 8 [(2, .int x2_33y)] → W p l e rmX8_isFree s m args below meth c H locs 0 0 Q (F0 m 126 ls []) := by
    intro x2_33y x3_34y ey0 ey1 H locs ls hP hS hl
    subst ey0
    subst ey1
    refine lv_iload_n hx hb dX8_isFree_126 rfl (lv_at hl 0 rfl) ?_
    refine lv_iconst (v := (1 : Int32)) hx hb dX8_isFree_127 (by decide) ?_
    refine lv_iand hx hb dX8_isFree_128 ?_
    refine lv_if_ne (tgt := 136) hx hb dX8_isFree_129 (by decide) (fun c_35 => ?_) (fun c_35 => ?_)
    · have hf := ite_f hf c_35
      refine lv_iconst (v := (0 : Int32)) hx hb dX8_isFree_136 (by decide) ?_
      exact hret (0 : Int32) (Option.some.inj hf) rfl _ _ _ _ hP hS dX8_isFree_137
    · have hf := ite_t hf c_35
      refine lv_iconst (v := (1 : Int32)) hx hb dX8_isFree_132 (by decide) ?_
      refine lv_goto (tgt := 137) hx hb dX8_isFree_133 (by decide) ?_
      exact hret (1 : Int32) (Option.some.inj hf) rfl _ _ _ _ hP hS dX8_isFree_137
  have L_6 : ∀ (n : Nat) (v2_4 : Int32) (v3_5 : Int32), itr (un2 (b_X8_isFree_9 t_roomMany t_doorMany t_pages p1)) n (v2_4, v3_5) = some (x2_33, x3_34) → ∀ (H : Heap) (locs : List Loc) (ls : Array Slot), va_P g.1 vwCl [oX8 t_q t_state_q t_roomMany t_doorMany t_stringLong t_laws_q t_lawMany t_readPage_q t_readLaws_q t_readRooms t_readDoors t_readString t_readLawMany t_toldOnce t_highRoom t_highDoor t_tape_q t_taped t_fault t_broken t_brokenAt t_spot t_here t_token t_value t_cuts_q t_letters_q t_work_q t_pages_q t_canBe_q t_leadsOn_q t_seen_q t_seenMany t_heard_q t_heardMany t_isKept_q t_lanes_q t_lengths_q t_cells_q t_torn, aI g t_pages_q 750 t_pages, aI g t_state_q 196 t_state] H → va_S A s.heap H locs → lv_has ls 8 [(0, .ref t_q), (1, .int p1), (2, .int v2_4), (3, .int v3_5)] → W p l e rmX8_isFree s m args below meth c H locs 0 0 Q (F0 m 9 ls []) := by
    refine itr_ind2 ?_
    intro v2_4 v3_5 z_6 hf hrec hex H locs ls hP hS hl
    unfold b_X8_isFree_9 at hf
    refine lv_iload_n hx hb dX8_isFree_9 rfl (lv_at hl 3 rfl) ?_
    refine lv_bipush (v := (24 : Int32)) hx hb dX8_isFree_10 (by decide) ?_
    refine lv_icmp_ge (tgt := 126) hx hb dX8_isFree_12 (by decide) (fun c_7 => ?_) (fun c_7 => ?_)
    · have hf := ite_t hf c_7
      exact K_6 v2_4 v3_5 (congrArg (fun t => t.1) (hex _ (Option.some.inj hf).symm).symm) (congrArg (fun t => t.2) (hex _ (Option.some.inj hf).symm).symm) _ _ _ hP hS (lv_sub hl [2] rfl)
    · have hf := ite_f hf c_7
      refine lv_iload_n hx hb dX8_isFree_15 rfl (lv_at hl 2 rfl) ?_
      refine lv_istore (lv' := [(4, .int v2_4), (0, .ref t_q), (1, .int p1), (2, .int v2_4), (3, .int v3_5)]) hx hb dX8_isFree_16 hl (by decide) rfl (fun ls hl => ?_)
      refine lv_iconst (v := (0 : Int32)) hx hb dX8_isFree_18 (by decide) ?_
      refine lv_istore (lv' := [(5, .int (0 : Int32)), (4, .int v2_4), (0, .ref t_q), (1, .int p1), (2, .int v2_4), (3, .int v3_5)]) hx hb dX8_isFree_19 hl (by decide) rfl (fun ls hl => ?_)
      obtain ⟨x4_30, x5_31, ho_10, hf⟩ := ob2_e hf
      have K_10 : ∀ (x4_30y : Int32) (x5_31y : Int32), x4_30 = x4_30y → x5_31 = x5_31y → ∀ (H : Heap) (locs : List Loc) (ls : Array Slot), va_P g.1 vwCl [oX8 t_q t_state_q t_roomMany t_doorMany t_stringLong t_laws_q t_lawMany t_readPage_q t_readLaws_q t_readRooms t_readDoors t_readString t_readLawMany t_toldOnce t_highRoom t_highDoor t_tape_q t_taped t_fault t_broken t_brokenAt t_spot t_here t_token t_value t_cuts_q t_letters_q t_work_q t_pages_q t_canBe_q t_leadsOn_q t_seen_q t_seenMany t_heard_q t_heardMany t_isKept_q t_lanes_q t_lengths_q t_cells_q t_torn, aI g t_pages_q 750 t_pages, aI g t_state_q 196 t_state] H → va_S A s.heap H locs → lv_has ls 8 [(0, .ref t_q), (1, .int p1), (3, .int v3_5), (4, .int x4_30y)] → W p l e rmX8_isFree s m args below meth c H locs 0 0 Q (F0 m 117 ls []) := by
        intro x4_30y x5_31y ey0 ey1 H locs ls hP hS hl
        subst ey0
        subst ey1
        refine lv_iload hx hb dX8_isFree_117 (lv_at hl 3 rfl) ?_
        refine lv_istore_n (lv' := [(2, .int x4_30), (0, .ref t_q), (1, .int p1), (3, .int v3_5), (4, .int x4_30)]) hx hb dX8_isFree_119 rfl hl (by decide) rfl (fun ls hl => ?_)
        obtain ⟨v3_32, ev3_32, hf⟩ := bnd_e hf
        refine lv_iinc (v := v3_32) (lv' := [(3, .int v3_32), (2, .int x4_30), (0, .ref t_q), (1, .int p1), (4, .int x4_30)]) hx hb dX8_isFree_120 hl (k := 3) rfl (by rw [ev3_32]; rfl) (by decide) rfl (fun ls hl => ?_)
        refine lv_goto (tgt := 9) hx hb dX8_isFree_123 (by decide) ?_
        exact hrec x4_30 v3_32 (Option.some.inj hf).symm _ _ _ hP hS (lv_sub hl [2, 3, 1, 0] rfl)
      have L_10 : ∀ (n : Nat) (v4_8 : Int32) (v5_9 : Int32), itr (un2 (b_X8_isFree_21 t_roomMany t_doorMany t_pages p1 v2_4 v3_5)) n (v4_8, v5_9) = some (x4_30, x5_31) → ∀ (H : Heap) (locs : List Loc) (ls : Array Slot), va_P g.1 vwCl [oX8 t_q t_state_q t_roomMany t_doorMany t_stringLong t_laws_q t_lawMany t_readPage_q t_readLaws_q t_readRooms t_readDoors t_readString t_readLawMany t_toldOnce t_highRoom t_highDoor t_tape_q t_taped t_fault t_broken t_brokenAt t_spot t_here t_token t_value t_cuts_q t_letters_q t_work_q t_pages_q t_canBe_q t_leadsOn_q t_seen_q t_seenMany t_heard_q t_heardMany t_isKept_q t_lanes_q t_lengths_q t_cells_q t_torn, aI g t_pages_q 750 t_pages, aI g t_state_q 196 t_state] H → va_S A s.heap H locs → lv_has ls 8 [(0, .ref t_q), (1, .int p1), (2, .int v2_4), (3, .int v3_5), (4, .int v4_8), (5, .int v5_9)] → W p l e rmX8_isFree s m args below meth c H locs 0 0 Q (F0 m 21 ls []) := by
        refine itr_ind2 ?_
        intro v4_8 v5_9 z_10 hf hrec hex H locs ls hP hS hl
        unfold b_X8_isFree_21 at hf
        refine lv_iload hx hb dX8_isFree_21 (lv_at hl 5 rfl) ?_
        refine lv_aload_n hx hb dX8_isFree_23 rfl (lv_at hl 0 rfl) ?_
        refine va_get (D := g.1) (ci := 8) (v := .int t_roomMany) (C := RX8) (T := TX8) (N := 39) hx hb hts inX8 hown hK hP 0 rfl rfl 1 (by decide) k13 (fun _ h9 => h9) rfl dX8_isFree_24 ?_
        refine lv_icmp_ge (tgt := 117) hx hb dX8_isFree_27 (by decide) (fun c_11 => ?_) (fun c_11 => ?_)
        · have hf := ite_t hf c_11
          exact K_10 v4_8 v5_9 (congrArg (fun t => t.1) (hex _ (Option.some.inj hf).symm).symm) (congrArg (fun t => t.2) (hex _ (Option.some.inj hf).symm).symm) _ _ _ hP hS (lv_sub hl [0, 1, 3, 4] rfl)
        · have hf := ite_f hf c_11
          refine lv_iconst (v := (0 : Int32)) hx hb dX8_isFree_30 (by decide) ?_
          refine lv_istore (lv' := [(6, .int (0 : Int32)), (0, .ref t_q), (1, .int p1), (2, .int v2_4), (3, .int v3_5), (4, .int v4_8), (5, .int v5_9)]) hx hb dX8_isFree_31 hl (by decide) rfl (fun ls hl => ?_)
          obtain ⟨x4_27, x6_28, ho_14, hf⟩ := ob2_e hf
          have K_14 : ∀ (x4_27y : Int32) (x6_28y : Int32), x4_27 = x4_27y → x6_28 = x6_28y → ∀ (H : Heap) (locs : List Loc) (ls : Array Slot), va_P g.1 vwCl [oX8 t_q t_state_q t_roomMany t_doorMany t_stringLong t_laws_q t_lawMany t_readPage_q t_readLaws_q t_readRooms t_readDoors t_readString t_readLawMany t_toldOnce t_highRoom t_highDoor t_tape_q t_taped t_fault t_broken t_brokenAt t_spot t_here t_token t_value t_cuts_q t_letters_q t_work_q t_pages_q t_canBe_q t_leadsOn_q t_seen_q t_seenMany t_heard_q t_heardMany t_isKept_q t_lanes_q t_lengths_q t_cells_q t_torn, aI g t_pages_q 750 t_pages, aI g t_state_q 196 t_state] H → va_S A s.heap H locs → lv_has ls 8 [(0, .ref t_q), (1, .int p1), (2, .int v2_4), (3, .int v3_5), (4, .int x4_27y), (5, .int v5_9)] → W p l e rmX8_isFree s m args below meth c H locs 0 0 Q (F0 m 111 ls []) := by
            intro x4_27y x6_28y ey0 ey1 H locs ls hP hS hl
            subst ey0
            subst ey1
            obtain ⟨v5_29, ev5_29, hf⟩ := bnd_e hf
            refine lv_iinc (v := v5_29) (lv' := [(5, .int v5_29), (0, .ref t_q), (1, .int p1), (2, .int v2_4), (3, .int v3_5), (4, .int x4_27)]) hx hb dX8_isFree_111 hl (k := 5) rfl (by rw [ev5_29]; rfl) (by decide) rfl (fun ls hl => ?_)
            refine lv_goto (tgt := 21) hx hb dX8_isFree_114 (by decide) ?_
            exact hrec x4_27 v5_29 (Option.some.inj hf).symm _ _ _ hP hS (lv_sub hl [1, 2, 3, 4, 5, 0] rfl)
          have L_14 : ∀ (n : Nat) (v4_12 : Int32) (v6_13 : Int32), itr (un2 (b_X8_isFree_33 t_doorMany t_pages p1 v2_4 v3_5 v5_9)) n (v4_12, v6_13) = some (x4_27, x6_28) → ∀ (H : Heap) (locs : List Loc) (ls : Array Slot), va_P g.1 vwCl [oX8 t_q t_state_q t_roomMany t_doorMany t_stringLong t_laws_q t_lawMany t_readPage_q t_readLaws_q t_readRooms t_readDoors t_readString t_readLawMany t_toldOnce t_highRoom t_highDoor t_tape_q t_taped t_fault t_broken t_brokenAt t_spot t_here t_token t_value t_cuts_q t_letters_q t_work_q t_pages_q t_canBe_q t_leadsOn_q t_seen_q t_seenMany t_heard_q t_heardMany t_isKept_q t_lanes_q t_lengths_q t_cells_q t_torn, aI g t_pages_q 750 t_pages, aI g t_state_q 196 t_state] H → va_S A s.heap H locs → lv_has ls 8 [(0, .ref t_q), (1, .int p1), (2, .int v2_4), (3, .int v3_5), (4, .int v4_12), (5, .int v5_9), (6, .int v6_13)] → W p l e rmX8_isFree s m args below meth c H locs 0 0 Q (F0 m 33 ls []) := by
            refine itr_ind2 ?_
            intro v4_12 v6_13 z_14 hf hrec hex H locs ls hP hS hl
            unfold b_X8_isFree_33 at hf
            refine lv_iload hx hb dX8_isFree_33 (lv_at hl 6 rfl) ?_
            refine lv_aload_n hx hb dX8_isFree_35 rfl (lv_at hl 0 rfl) ?_
            refine va_get (D := g.1) (ci := 8) (v := .int t_doorMany) (C := RX8) (T := TX8) (N := 39) hx hb hts inX8 hown hK hP 0 rfl rfl 2 (by decide) k175 (fun _ h9 => h9) rfl dX8_isFree_36 ?_
            refine lv_icmp_ge (tgt := 111) hx hb dX8_isFree_39 (by decide) (fun c_15 => ?_) (fun c_15 => ?_)
            · have hf := ite_t hf c_15
              exact K_14 v4_12 v6_13 (congrArg (fun t => t.1) (hex _ (Option.some.inj hf).symm).symm) (congrArg (fun t => t.2) (hex _ (Option.some.inj hf).symm).symm) _ _ _ hP hS (lv_sub hl [0, 1, 2, 3, 4, 5] rfl)
            · have hf := ite_f hf c_15
              refine lv_iload_n hx hb dX8_isFree_42 rfl (lv_at hl 2 rfl) ?_
              refine lv_iload hx hb dX8_isFree_43 (lv_at hl 5 rfl) ?_
              refine lv_ishr hx hb dX8_isFree_45 ?_
              refine lv_iconst (v := (1 : Int32)) hx hb dX8_isFree_46 (by decide) ?_
              refine lv_iand hx hb dX8_isFree_47 ?_
              refine lv_iconst (v := (1 : Int32)) hx hb dX8_isFree_48 (by decide) ?_
              refine lv_icmp_ne (tgt := 111) hx hb dX8_isFree_49 (by decide) (fun c_16 => ?_) (fun c_16 => ?_)
              · have hf := ite_f hf c_16
                exact K_14 v4_12 v6_13 (congrArg (fun t => t.1) (hex _ (Option.some.inj hf).symm).symm) (congrArg (fun t => t.2) (hex _ (Option.some.inj hf).symm).symm) _ _ _ hP hS (lv_sub hl [0, 1, 2, 3, 4, 5] rfl)
              · have hf := ite_t hf c_16
                refine lv_iload_n hx hb dX8_isFree_52 rfl (lv_at hl 1 rfl) ?_
                refine lv_iload hx hb dX8_isFree_53 (lv_at hl 6 rfl) ?_
                refine lv_ishr hx hb dX8_isFree_55 ?_
                refine lv_iconst (v := (1 : Int32)) hx hb dX8_isFree_56 (by decide) ?_
                refine lv_iand hx hb dX8_isFree_57 ?_
                refine lv_iconst (v := (1 : Int32)) hx hb dX8_isFree_58 (by decide) ?_
                obtain ⟨j_18, hj_18, hf⟩ := jn1_e hf
                have J_18 : ∀ (s_17 : Int32), j_18 s_17 = some z_14 → ∀ (H : Heap) (locs : List Loc) (ls : Array Slot), va_P g.1 vwCl [oX8 t_q t_state_q t_roomMany t_doorMany t_stringLong t_laws_q t_lawMany t_readPage_q t_readLaws_q t_readRooms t_readDoors t_readString t_readLawMany t_toldOnce t_highRoom t_highDoor t_tape_q t_taped t_fault t_broken t_brokenAt t_spot t_here t_token t_value t_cuts_q t_letters_q t_work_q t_pages_q t_canBe_q t_leadsOn_q t_seen_q t_seenMany t_heard_q t_heardMany t_isKept_q t_lanes_q t_lengths_q t_cells_q t_torn, aI g t_pages_q 750 t_pages, aI g t_state_q 196 t_state] H → va_S A s.heap H locs → lv_has ls 8 [(0, .ref t_q), (1, .int p1), (2, .int v2_4), (3, .int v3_5), (4, .int v4_12), (5, .int v5_9), (6, .int v6_13)] → W p l e rmX8_isFree s m args below meth c H locs 0 0 Q (F0 m 83 ls [.int s_17]) := by
                  intro s_17 hf H locs ls hP hS hl
                  rw [hj_18] at hf
                  refine lv_istore (lv' := [(7, .int s_17), (0, .ref t_q), (1, .int p1), (2, .int v2_4), (3, .int v3_5), (4, .int v4_12), (5, .int v5_9), (6, .int v6_13)]) hx hb dX8_isFree_83 hl (by decide) rfl (fun ls hl => ?_)
                  refine lv_iload hx hb dX8_isFree_85 (lv_at hl 5 rfl) ?_
                  refine lv_iload hx hb dX8_isFree_87 (lv_at hl 0 rfl) ?_
                  refine lv_bipush (v := (-4 : Int32)) hx hb dX8_isFree_89 (by decide) ?_
                  obtain ⟨j_20, hj_20, hf⟩ := jn1_e hf
                  have J_20 : ∀ (s_19 : Int32), j_20 s_19 = some z_14 → ∀ (H : Heap) (locs : List Loc) (ls : Array Slot), va_P g.1 vwCl [oX8 t_q t_state_q t_roomMany t_doorMany t_stringLong t_laws_q t_lawMany t_readPage_q t_readLaws_q t_readRooms t_readDoors t_readString t_readLawMany t_toldOnce t_highRoom t_highDoor t_tape_q t_taped t_fault t_broken t_brokenAt t_spot t_here t_token t_value t_cuts_q t_letters_q t_work_q t_pages_q t_canBe_q t_leadsOn_q t_seen_q t_seenMany t_heard_q t_heardMany t_isKept_q t_lanes_q t_lengths_q t_cells_q t_torn, aI g t_pages_q 750 t_pages, aI g t_state_q 196 t_state] H → va_S A s.heap H locs → lv_has ls 8 [(0, .ref t_q), (1, .int p1), (2, .int v2_4), (3, .int v3_5), (5, .int v5_9), (6, .int v6_13)] → W p l e rmX8_isFree s m args below meth c H locs 0 0 Q (F0 m 102 ls [.int s_19, .int v4_12]) := by
                    intro s_19 hf H locs ls hP hS hl
                    rw [hj_20] at hf
                    refine lv_ior hx hb dX8_isFree_102 ?_
                    obtain ⟨v4_21, ev4_21, hf⟩ := bnd_e hf
                    refine tp_i ev4_21 ?_
                    refine lv_istore (lv' := [(4, .int v4_21), (0, .ref t_q), (1, .int p1), (2, .int v2_4), (3, .int v3_5), (5, .int v5_9), (6, .int v6_13)]) hx hb dX8_isFree_103 hl (by decide) rfl (fun ls hl => ?_)
                    obtain ⟨v6_22, ev6_22, hf⟩ := bnd_e hf
                    refine lv_iinc (v := v6_22) (lv' := [(6, .int v6_22), (4, .int v4_21), (0, .ref t_q), (1, .int p1), (2, .int v2_4), (3, .int v3_5), (5, .int v5_9)]) hx hb dX8_isFree_105 hl (k := 6) rfl (by rw [ev6_22]; rfl) (by decide) rfl (fun ls hl => ?_)
                    refine lv_goto (tgt := 33) hx hb dX8_isFree_108 (by decide) ?_
                    exact hrec v4_21 v6_22 (Option.some.inj hf).symm _ _ _ hP hS (lv_sub hl [2, 3, 4, 5, 1, 6, 0] rfl)
                  refine lv_icmp_ne (tgt := 98) hx hb dX8_isFree_91 (by decide) (fun c_23 => ?_) (fun c_23 => ?_)
                  · have hf := ite_f hf c_23
                    refine lv_iconst (v := (1 : Int32)) hx hb dX8_isFree_98 (by decide) ?_
                    refine lv_iload hx hb dX8_isFree_99 (lv_at hl 0 rfl) ?_
                    refine lv_ishl hx hb dX8_isFree_101 ?_
                    exact J_20 ((1 : Int32) <<< (s_17 &&& 31)) hf _ _ _ hP hS (lv_sub hl [1, 2, 3, 4, 6, 7] rfl)
                  · have hf := ite_t hf c_23
                    refine lv_iconst (v := (0 : Int32)) hx hb dX8_isFree_94 (by decide) ?_
                    refine lv_goto (tgt := 102) hx hb dX8_isFree_95 (by decide) ?_
                    exact J_20 (0 : Int32) hf _ _ _ hP hS (lv_sub hl [1, 2, 3, 4, 6, 7] rfl)
                refine lv_icmp_ne (tgt := 67) hx hb dX8_isFree_59 (by decide) (fun c_24 => ?_) (fun c_24 => ?_)
                · have hf := ite_f hf c_24
                  refine lv_aload_n hx hb dX8_isFree_67 rfl (lv_at hl 0 rfl) ?_
                  refine lv_aload_n hx hb dX8_isFree_68 rfl (lv_at hl 0 rfl) ?_
                  refine va_get (D := g.1) (ci := 8) (v := .ref t_pages_q) (C := RX8) (T := TX8) (N := 39) hx hb hts inX8 hown hK hP 0 rfl rfl 27 (by decide) k41 (fun _ h9 => h9) rfl dX8_isFree_69 ?_
                  refine lv_bipush (v := (30 : Int32)) hx hb dX8_isFree_72 (by decide) ?_
                  refine lv_iload_n hx hb dX8_isFree_74 rfl (lv_at hl 3 rfl) ?_
                  refine lv_imul hx hb dX8_isFree_75 ?_
                  refine lv_iload hx hb dX8_isFree_76 (lv_at hl 6 rfl) ?_
                  refine lv_iload hx hb dX8_isFree_78 (lv_at hl 5 rfl) ?_
                  obtain ⟨r_25, hc_26, hf⟩ := ob1_e hf
                  refine kV_i (wn := [oX8 t_q t_state_q t_roomMany t_doorMany t_stringLong t_laws_q t_lawMany t_readPage_q t_readLaws_q t_readRooms t_readDoors t_readString t_readLawMany t_toldOnce t_highRoom t_highDoor t_tape_q t_taped t_fault t_broken t_brokenAt t_spot t_here t_token t_value t_cuts_q t_letters_q t_work_q t_pages_q t_canBe_q t_leadsOn_q t_seen_q t_seenMany t_heard_q t_heardMany t_isKept_q t_lanes_q t_lengths_q t_cells_q t_torn, aI g t_pages_q 750 t_pages, aI g t_state_q 196 t_state]) (As := [.ref t_pages_q, .int ((30 : Int32) * v3_5), .int v6_13, .int v5_9]) (rest := []) (c_X8_leadsTo l g _ t_q t_state_q t_laws_q t_readPage_q t_readLaws_q t_tape_q t_cuts_q t_letters_q t_work_q t_pages_q t_canBe_q t_leadsOn_q t_seen_q t_heard_q t_isKept_q t_lanes_q t_lengths_q t_cells_q t_pages_q t_roomMany t_doorMany t_stringLong t_lawMany t_readRooms t_readDoors t_readString t_readLawMany t_toldOnce t_highRoom t_highDoor t_taped t_fault t_broken t_brokenAt t_spot t_here t_token t_value t_seenMany t_heardMany t_torn 750 t_pages ((30 : Int32) * v3_5) v6_13 v5_9 r_25 hc_26) ⟨hx, hb, hml, hown, hts⟩ (cwV 4 hts gX8_isFree_X8_leadsTo rfl rfl rfl (by decide +kernel) ⟨by decide, by decide⟩) hK hz hk hP (hD.re rfl) hS hA [0, 1] rfl rfl rfl rfl rfl rfl rfl hl.1 rfl (Nat.le_of_ble_eq_true rfl) dX8_isFree_80 (fun H locs hP hS => ?_)
                  exact J_18 r_25 hf _ _ _ hP hS (lv_sub hl [0, 1, 2, 3, 4, 5, 6] rfl)
                · have hf := ite_t hf c_24
                  refine lv_bipush (v := (-4 : Int32)) hx hb dX8_isFree_62 (by decide) ?_
                  refine lv_goto (tgt := 83) hx hb dX8_isFree_64 (by decide) ?_
                  exact J_18 (-4 : Int32) hf _ _ _ hP hS (lv_sub hl [0, 1, 2, 3, 4, 5, 6] rfl)
          exact L_14 FU v4_8 (0 : Int32) ho_14 _ _ _ hP hS (lv_sub hl [1, 2, 3, 4, 5, 6, 0] rfl)
      exact L_10 FU v2_4 (0 : Int32) ho_10 _ _ _ hP hS (lv_sub hl [2, 3, 4, 5, 1, 0] rfl)
  exact L_6 FU v2_3 (0 : Int32) ho_6 _ _ _ hP hS (lv_sub hl [2, 3, 1, 0] rfl)
