def b_X8_soonest_48 (p1 : Int32) (t_canBe_7 : Nat → Int32) (v3_11 : Int32) : Option ((Int32) ⊕ (Int32)) :=
 (if (24 : Int32) < v3_11 then
 (some (.inr v3_11))
 else (ob1 (f_X8_isThere t_canBe_7 v3_11 p1) (fun r_14 =>
 (if r_14 = (0 : Int32) then
 (bnd (v3_11 + (1 : Int32)) (fun v3_17 =>
 (some (.inl v3_17))))
 else (some (.inr v3_11))))))
def b_X8_soonest_145 (t_doorMany : Int32) (t_state : Nat → Int32) (t_pages_8 : Nat → Int32) (t_leadsOn_22 : Nat → Int32) (v4_28 : Int32) (v5_29 : Int32) (v7_31 : Int32) (v6_36 : Int32) (v8_37 : Int32) : Option ((Int32 × Int32) ⊕ (Int32 × Int32)) :=
 (jn0 (bnd (v6_36 + (1 : Int32)) (fun v6_40 =>
 (ob1 (f_X8_after t_doorMany t_pages_8 t_state v7_31 v4_28 v5_29 v6_40) (fun r_41 =>
 (some (.inl (v6_40, r_41))))))) (fun j_39 =>
 (if v8_37 = (-4 : Int32) then
 (j_39)
 else (gin ((((56 : Int32) * (v7_31 + (1 : Int32))) + ((8 : Int32) * (v8_37 - v8_37 / (10 : Int32) * (10 : Int32)))) + (v8_37 / (10 : Int32))) 1400 (if (t_leadsOn_22 ((((56 : Int32) * (v7_31 + (1 : Int32))) + ((8 : Int32) * (v8_37 - v8_37 / (10 : Int32) * (10 : Int32)))) + (v8_37 / (10 : Int32))).toNatClampNeg) = (0 : Int32) then
 (j_39)
 else (some (.inr (v6_36, v8_37))))))))
def b_X8_soonest_119 (t_doorMany : Int32) (t_state : Nat → Int32) (p2 : Int32) (t_pages_8 : Nat → Int32) (t_leadsOn_22 : Nat → Int32) (v4_28 : Int32) (v5_29 : Int32) (v6_30 : Int32) (v7_31 : Int32) : Option ((Int32 × Int32 × Int32 × Int32) ⊕ (Int32 × Int32 × Int32 × Int32)) :=
 (if (p2 - (10 : Int32)) < v7_31 then
 (some (.inr (v4_28, v5_29, v6_30, v7_31)))
 else (ob1 (f_X8_after t_doorMany t_pages_8 t_state v7_31 v4_28 v5_29 (0 : Int32)) (fun r_34 =>
 (ob2 (itr (un2 (b_X8_soonest_145 t_doorMany t_state t_pages_8 t_leadsOn_22 v4_28 v5_29 v7_31)) FU ((0 : Int32), r_34)) (fun x6_46 x8_47 =>
 (bnd (x8_47 - x8_47 / (10 : Int32) * (10 : Int32)) (fun v4_48 =>
 (jn1 (fun (s_49 : Int32) => (bnd (v7_31 + (1 : Int32)) (fun v7_51 =>
 (some (.inl (v4_48, s_49, x6_46, v7_51)))))) (fun j_50 =>
 (if (x8_47 / (10 : Int32)) = (0 : Int32) then
 (j_50 (-4 : Int32))
 else (j_50 ((x8_47 / (10 : Int32)) - (1 : Int32)))))))))))))
def f_X8_soonest (t_roomMany : Int32) (t_doorMany : Int32) (t_lawMany : Int32) (t_canBe : Nat → Int32) (t_laws : Nat → Int32) (t_leadsOn : Nat → Int32) (t_pages : Nat → Int32) (t_state : Nat → Int32) (t_work : Nat → Int32) (p1 : Int32) (p2 : Int32) : Option (Int32 × (Nat → Int32) × (Nat → Int32) × (Nat → Int32) × (Nat → Int32)) :=
 (ob1 (f_X8_isRoom t_roomMany p1) (fun r_1 =>
 (if r_1 = (0 : Int32) then
 (some ((-1 : Int32), t_canBe, t_leadsOn, t_pages, t_work))
 else (jn0 (gin (48 : Int32) 196 (if (t_state (48 : Int32).toNatClampNeg) = (1 : Int32) then
 (some ((-2 : Int32), t_canBe, t_leadsOn, t_pages, t_work))
 else (ob3 (f_X8_layAlive t_roomMany t_doorMany t_lawMany t_canBe t_laws t_pages t_state t_work) (fun t_canBe_7 t_pages_8 t_work_9 =>
 (ob1 (itr (un1 (b_X8_soonest_48 p1 t_canBe_7)) FU (0 : Int32)) (fun x3_18 =>
 (if (24 : Int32) < x3_18 then
 (some ((-4 : Int32), t_canBe_7, t_leadsOn, t_pages_8, t_work_9))
 else (if (p2 - (10 : Int32)) < x3_18 then
 (if p2 = (0 : Int32) then
 (some (x3_18, t_canBe_7, t_leadsOn, t_pages_8, t_work_9))
 else (ob1 (f_X8_layBack t_doorMany t_leadsOn t_pages_8 t_state x3_18 p1) (fun t_leadsOn_22 =>
 (gin (31 : Int32) 196 (bnd (t_state (31 : Int32).toNatClampNeg) (fun v4_25 =>
 (ob1 (f_X8_beastNow t_state) (fun r_26 =>
 (ob4 (itr (un4 (b_X8_soonest_119 t_doorMany t_state p2 t_pages_8 t_leadsOn_22)) FU (v4_25, r_26, (0 : Int32), (0 : Int32))) (fun x4_53 x5_54 x6_55 x7_56 =>
 (some (x6_55, t_canBe_7, t_leadsOn_22, t_pages_8, t_work_9))))))))))))
 else (some ((-4 : Int32), t_canBe_7, t_leadsOn, t_pages_8, t_work_9)))))))))) (fun j_4 =>
 (if p2 = (0 : Int32) then
 (j_4)
 else (ob1 (f_X8_in (p2.toInt64) (10 : Int64) (33 : Int64)) (fun r_58 =>
 (if r_58 = (0 : Int32) then
 (some ((-1 : Int32), t_canBe, t_leadsOn, t_pages, t_work))
 else (j_4))))))))))
abbrev rmX8_soonest : Room := { frames := 5, cells := 0, slots := 0, locals := 132 }
set_option maxHeartbeats 4000000 in
set_option maxRecDepth 100000 in
theorem c_X8_soonest (l : Launch) (g : Gh) (sz : Nat) (t_q t_state_q t_laws_q t_readPage_q t_readLaws_q t_tape_q t_cuts_q t_letters_q t_work_q t_pages_q t_canBe_q t_leadsOn_q t_seen_q t_heard_q t_isKept_q t_lanes_q t_lengths_q t_cells_q : Nat) (t_roomMany : Int32) (t_doorMany : Int32) (t_stringLong : Int32) (t_lawMany : Int32) (t_readRooms : Int32) (t_readDoors : Int32) (t_readString : Int32) (t_readLawMany : Int32) (t_toldOnce : Int32) (t_highRoom : Int32) (t_highDoor : Int32) (t_taped : Int32) (t_fault : Int32) (t_broken : Int32) (t_brokenAt : Int32) (t_spot : Int32) (t_here : Int32) (t_token : Int32) (t_value : Int32) (t_seenMany : Int32) (t_heardMany : Int32) (t_torn : Int32) (t_canBe : Nat → Int32) (t_laws : Nat → Int32) (t_leadsOn : Nat → Int32) (t_pages : Nat → Int32) (t_state : Nat → Int32) (t_work : Nat → Int32) (p1 : Int32) (p2 : Int32) (rr : Int32) (t_canBe' : Nat → Int32) (t_leadsOn' : Nat → Int32) (t_pages' : Nat → Int32) (t_work' : Nat → Int32) (hf : f_X8_soonest t_roomMany t_doorMany t_lawMany t_canBe t_laws t_leadsOn t_pages t_state t_work p1 p2 = some (rr, t_canBe', t_leadsOn', t_pages', t_work')) : CI l yX8_soonest wsX8_soonest rmX8_soonest [.ref t_q, .int p1, .int p2] g sz [oX8 t_q t_state_q t_roomMany t_doorMany t_stringLong t_laws_q t_lawMany t_readPage_q t_readLaws_q t_readRooms t_readDoors t_readString t_readLawMany t_toldOnce t_highRoom t_highDoor t_tape_q t_taped t_fault t_broken t_brokenAt t_spot t_here t_token t_value t_cuts_q t_letters_q t_work_q t_pages_q t_canBe_q t_leadsOn_q t_seen_q t_seenMany t_heard_q t_heardMany t_isKept_q t_lanes_q t_lengths_q t_cells_q t_torn, aI g t_canBe_q 1400 t_canBe, aI g t_laws_q 18 t_laws, aI g t_leadsOn_q 1400 t_leadsOn, aI g t_pages_q 750 t_pages, aI g t_state_q 196 t_state, aI g t_work_q 30 t_work] [oX8 t_q t_state_q t_roomMany t_doorMany t_stringLong t_laws_q t_lawMany t_readPage_q t_readLaws_q t_readRooms t_readDoors t_readString t_readLawMany t_toldOnce t_highRoom t_highDoor t_tape_q t_taped t_fault t_broken t_brokenAt t_spot t_here t_token t_value t_cuts_q t_letters_q t_work_q t_pages_q t_canBe_q t_leadsOn_q t_seen_q t_seenMany t_heard_q t_heardMany t_isKept_q t_lanes_q t_lengths_q t_cells_q t_torn, aI g t_canBe_q 1400 t_canBe', aI g t_laws_q 18 t_laws, aI g t_leadsOn_q 1400 t_leadsOn', aI g t_pages_q 750 t_pages', aI g t_state_q 196 t_state, aI g t_work_q 30 t_work'] rr := by
  refine ent_i (cc := cX8_soonest) (maxL := 9) (by decide) rfl (Nat.le_of_ble_eq_true rfl) ?_
  intro p e s m args below meth c A Q hx hb hml hown hts hK hz hk hA hD hP hS hret ls hl
  have hown : s.vm.findClass RX8 = some m.cls := hown
  have inX8 : ∀ w ∈ u_ws RX8 TX8 39, w ∈ wsX8_soonest := by decide +kernel
  have k7 := hts (.fieldLink RX8 7 "ThreadMovedModel" "state" "[I") (by decide +kernel)
  have k47 := hts (.fieldLink RX8 47 "ThreadMovedModel" "leadsOn" "[I") (by decide +kernel)
  have q252 := hts (.constantLong RX8 252 (10)) (by decide +kernel)
  have q254 := hts (.constantLong RX8 254 (33)) (by decide +kernel)
  have hl : lv_has ls 9 [(0, .ref t_q), (1, .int p1), (2, .int p2)] := hl
  have hret : ∀ (rrz : Int32) (t_canBez : Nat → Int32) (t_leadsOnz : Nat → Int32) (t_pagesz : Nat → Int32) (t_workz : Nat → Int32), (rrz, t_canBez, t_leadsOnz, t_pagesz, t_workz) = (rr, t_canBe', t_leadsOn', t_pages', t_work') → ∀ (H : Heap) (locs : List Loc) (pc : Nat) (ls : Array Slot), va_P g.1 vwCl [oX8 t_q t_state_q t_roomMany t_doorMany t_stringLong t_laws_q t_lawMany t_readPage_q t_readLaws_q t_readRooms t_readDoors t_readString t_readLawMany t_toldOnce t_highRoom t_highDoor t_tape_q t_taped t_fault t_broken t_brokenAt t_spot t_here t_token t_value t_cuts_q t_letters_q t_work_q t_pages_q t_canBe_q t_leadsOn_q t_seen_q t_seenMany t_heard_q t_heardMany t_isKept_q t_lanes_q t_lengths_q t_cells_q t_torn, aI g t_canBe_q 1400 t_canBez, aI g t_laws_q 18 t_laws, aI g t_leadsOn_q 1400 t_leadsOnz, aI g t_pages_q 750 t_pagesz, aI g t_state_q 196 t_state, aI g t_work_q 30 t_workz] H → va_S A s.heap H locs → decode cX8_soonest pc = .ok (.ireturn, 1) → W p l e rmX8_soonest s m args below meth c H locs 0 0 Q (F0 m pc ls [.int rrz]) := by
    intro rrz t_canBez t_leadsOnz t_pagesz t_workz he H locs pc ls hP hS hd
    cases he
    exact hret H locs pc ls hP hS hd
  unfold f_X8_soonest at hf
  refine lv_aload_n hx hb dX8_soonest_0 rfl (lv_at hl 0 rfl) ?_
  refine lv_iload_n hx hb dX8_soonest_1 rfl (lv_at hl 1 rfl) ?_
  obtain ⟨r_1, hc_2, hf⟩ := ob1_e hf
  refine kV_i (wn := [oX8 t_q t_state_q t_roomMany t_doorMany t_stringLong t_laws_q t_lawMany t_readPage_q t_readLaws_q t_readRooms t_readDoors t_readString t_readLawMany t_toldOnce t_highRoom t_highDoor t_tape_q t_taped t_fault t_broken t_brokenAt t_spot t_here t_token t_value t_cuts_q t_letters_q t_work_q t_pages_q t_canBe_q t_leadsOn_q t_seen_q t_seenMany t_heard_q t_heardMany t_isKept_q t_lanes_q t_lengths_q t_cells_q t_torn, aI g t_canBe_q 1400 t_canBe, aI g t_laws_q 18 t_laws, aI g t_leadsOn_q 1400 t_leadsOn, aI g t_pages_q 750 t_pages, aI g t_state_q 196 t_state, aI g t_work_q 30 t_work]) (As := [.int p1]) (rest := []) (c_X8_isRoom l g _ t_q t_state_q t_laws_q t_readPage_q t_readLaws_q t_tape_q t_cuts_q t_letters_q t_work_q t_pages_q t_canBe_q t_leadsOn_q t_seen_q t_heard_q t_isKept_q t_lanes_q t_lengths_q t_cells_q t_roomMany t_doorMany t_stringLong t_lawMany t_readRooms t_readDoors t_readString t_readLawMany t_toldOnce t_highRoom t_highDoor t_taped t_fault t_broken t_brokenAt t_spot t_here t_token t_value t_seenMany t_heardMany t_torn p1 r_1 hc_2) ⟨hx, hb, hml, hown, hts⟩ (cwV 1 hts gX8_soonest_X8_isRoom rfl rfl rfl (by decide +kernel) ⟨by decide, by decide⟩) hK hz hk hP (hD.re rfl) hS hA [0] rfl rfl rfl rfl rfl rfl rfl hl.1 rfl (Nat.le_of_ble_eq_true rfl) dX8_soonest_2 (fun H locs hP hS => ?_)
  refine lv_if_eq (tgt := 26) hx hb dX8_soonest_5 (by decide) (fun c_3 => ?_) (fun c_3 => ?_)
  · have hf := ite_t hf c_3
    refine lv_iconst (v := (-1 : Int32)) hx hb dX8_soonest_26 (by decide) ?_
    exact hret (-1 : Int32) t_canBe t_leadsOn t_pages t_work (Option.some.inj hf) _ _ _ _ hP hS dX8_soonest_27
  · have hf := ite_f hf c_3
    refine lv_iload_n hx hb dX8_soonest_8 rfl (lv_at hl 2 rfl) ?_
    obtain ⟨j_4, hj_4, hf⟩ := jn0_e hf
    have J_4 : j_4 = some (rr, t_canBe', t_leadsOn', t_pages', t_work') → ∀ (H : Heap) (locs : List Loc) (ls : Array Slot), va_P g.1 vwCl [oX8 t_q t_state_q t_roomMany t_doorMany t_stringLong t_laws_q t_lawMany t_readPage_q t_readLaws_q t_readRooms t_readDoors t_readString t_readLawMany t_toldOnce t_highRoom t_highDoor t_tape_q t_taped t_fault t_broken t_brokenAt t_spot t_here t_token t_value t_cuts_q t_letters_q t_work_q t_pages_q t_canBe_q t_leadsOn_q t_seen_q t_seenMany t_heard_q t_heardMany t_isKept_q t_lanes_q t_lengths_q t_cells_q t_torn, aI g t_canBe_q 1400 t_canBe, aI g t_laws_q 18 t_laws, aI g t_leadsOn_q 1400 t_leadsOn, aI g t_pages_q 750 t_pages, aI g t_state_q 196 t_state, aI g t_work_q 30 t_work] H → va_S A s.heap H locs → lv_has ls 9 [(0, .ref t_q), (1, .int p1), (2, .int p2)] → W p l e rmX8_soonest s m args below meth c H locs 0 0 Q (F0 m 28 ls []) := by
      intro hf H locs ls hP hS hl
      rw [hj_4] at hf
      refine lv_aload_n hx hb dX8_soonest_28 rfl (lv_at hl 0 rfl) ?_
      refine va_get (D := g.1) (ci := 8) (v := .ref t_state_q) (C := RX8) (T := TX8) (N := 39) hx hb hts inX8 hown hK hP 0 rfl rfl 0 (by decide) k7 (fun _ h9 => h9) rfl dX8_soonest_29 ?_
      refine lv_bipush (v := (48 : Int32)) hx hb dX8_soonest_32 (by decide) ?_
      obtain ⟨h_5, hf⟩ := gin_e hf
      refine va_iald hx hb hK hP 5 0 rfl rfl h_5 dX8_soonest_34 ?_
      refine lv_iconst (v := (1 : Int32)) hx hb dX8_soonest_35 (by decide) ?_
      refine lv_icmp_ne (tgt := 42) hx hb dX8_soonest_36 (by decide) (fun c_6 => ?_) (fun c_6 => ?_)
      · have hf := ite_f hf c_6
        refine lv_aload_n hx hb dX8_soonest_42 rfl (lv_at hl 0 rfl) ?_
        obtain ⟨t_canBe_7, t_pages_8, t_work_9, hc_10, hf⟩ := ob3_e hf
        refine kV_v (wn := [oX8 t_q t_state_q t_roomMany t_doorMany t_stringLong t_laws_q t_lawMany t_readPage_q t_readLaws_q t_readRooms t_readDoors t_readString t_readLawMany t_toldOnce t_highRoom t_highDoor t_tape_q t_taped t_fault t_broken t_brokenAt t_spot t_here t_token t_value t_cuts_q t_letters_q t_work_q t_pages_q t_canBe_q t_leadsOn_q t_seen_q t_seenMany t_heard_q t_heardMany t_isKept_q t_lanes_q t_lengths_q t_cells_q t_torn, aI g t_canBe_q 1400 t_canBe_7, aI g t_laws_q 18 t_laws, aI g t_leadsOn_q 1400 t_leadsOn, aI g t_pages_q 750 t_pages_8, aI g t_state_q 196 t_state, aI g t_work_q 30 t_work_9]) (As := []) (rest := []) (c_X8_layAlive l g _ t_q t_state_q t_laws_q t_readPage_q t_readLaws_q t_tape_q t_cuts_q t_letters_q t_work_q t_pages_q t_canBe_q t_leadsOn_q t_seen_q t_heard_q t_isKept_q t_lanes_q t_lengths_q t_cells_q t_roomMany t_doorMany t_stringLong t_lawMany t_readRooms t_readDoors t_readString t_readLawMany t_toldOnce t_highRoom t_highDoor t_taped t_fault t_broken t_brokenAt t_spot t_here t_token t_value t_seenMany t_heardMany t_torn t_canBe t_laws t_pages t_state t_work t_canBe_7 t_pages_8 t_work_9 hc_10) ⟨hx, hb, hml, hown, hts⟩ (cwV 0 hts gX8_soonest_X8_layAlive rfl rfl rfl (by decide +kernel) ⟨by decide, by decide⟩) hK hz hk hP (hD.re rfl) hS hA [0, 1, 2, 4, 5, 6] rfl rfl rfl rfl rfl rfl rfl hl.1 rfl (Nat.le_of_ble_eq_true rfl) dX8_soonest_43 (fun H locs hP hS => ?_)
        refine lv_iconst (v := (0 : Int32)) hx hb dX8_soonest_46 (by decide) ?_
        refine lv_istore_n (lv' := [(3, .int (0 : Int32)), (0, .ref t_q), (1, .int p1), (2, .int p2)]) hx hb dX8_soonest_47 rfl hl (by decide) rfl (fun ls hl => ?_)
        obtain ⟨x3_18, ho_12, hf⟩ := ob1_e hf
        have K_12 : ∀ (x3_18y : Int32), x3_18 = x3_18y → ∀ (H : Heap) (locs : List Loc) (ls : Array Slot), va_P g.1 vwCl [oX8 t_q t_state_q t_roomMany t_doorMany t_stringLong t_laws_q t_lawMany t_readPage_q t_readLaws_q t_readRooms t_readDoors t_readString t_readLawMany t_toldOnce t_highRoom t_highDoor t_tape_q t_taped t_fault t_broken t_brokenAt t_spot t_here t_token t_value t_cuts_q t_letters_q t_work_q t_pages_q t_canBe_q t_leadsOn_q t_seen_q t_seenMany t_heard_q t_heardMany t_isKept_q t_lanes_q t_lengths_q t_cells_q t_torn, aI g t_canBe_q 1400 t_canBe_7, aI g t_laws_q 18 t_laws, aI g t_leadsOn_q 1400 t_leadsOn, aI g t_pages_q 750 t_pages_8, aI g t_state_q 196 t_state, aI g t_work_q 30 t_work_9] H → va_S A s.heap H locs → lv_has ls 9 [(0, .ref t_q), (1, .int p1), (2, .int p2), (3, .int x3_18y)] → W p l e rmX8_soonest s m args below meth c H locs 0 0 Q (F0 m 69 ls []) := by
          intro x3_18y ey0 H locs ls hP hS hl
          subst ey0
          refine lv_iload_n hx hb dX8_soonest_69 rfl (lv_at hl 3 rfl) ?_
          refine lv_bipush (v := (24 : Int32)) hx hb dX8_soonest_70 (by decide) ?_
          refine lv_icmp_gt (tgt := 83) hx hb dX8_soonest_72 (by decide) (fun c_19 => ?_) (fun c_19 => ?_)
          · have hf := ite_t hf c_19
            refine lv_bipush (v := (-4 : Int32)) hx hb dX8_soonest_83 (by decide) ?_
            exact hret (-4 : Int32) t_canBe_7 t_leadsOn t_pages_8 t_work_9 (Option.some.inj hf) _ _ _ _ hP hS dX8_soonest_85
          · have hf := ite_f hf c_19
            refine lv_iload_n hx hb dX8_soonest_75 rfl (lv_at hl 2 rfl) ?_
            refine lv_bipush (v := (10 : Int32)) hx hb dX8_soonest_76 (by decide) ?_
            refine lv_isub hx hb dX8_soonest_78 ?_
            refine lv_iload_n hx hb dX8_soonest_79 rfl (lv_at hl 3 rfl) ?_
            refine lv_icmp_lt (tgt := 86) hx hb dX8_soonest_80 (by decide) (fun c_20 => ?_) (fun c_20 => ?_)
            · have hf := ite_t hf c_20
              refine lv_iload_n hx hb dX8_soonest_86 rfl (lv_at hl 2 rfl) ?_
              refine lv_if_ne (tgt := 92) hx hb dX8_soonest_87 (by decide) (fun c_21 => ?_) (fun c_21 => ?_)
              · have hf := ite_f hf c_21
                refine lv_aload_n hx hb dX8_soonest_92 rfl (lv_at hl 0 rfl) ?_
                refine lv_iload_n hx hb dX8_soonest_93 rfl (lv_at hl 3 rfl) ?_
                refine lv_iload_n hx hb dX8_soonest_94 rfl (lv_at hl 1 rfl) ?_
                obtain ⟨t_leadsOn_22, hc_23, hf⟩ := ob1_e hf
                refine kV_v (wn := [oX8 t_q t_state_q t_roomMany t_doorMany t_stringLong t_laws_q t_lawMany t_readPage_q t_readLaws_q t_readRooms t_readDoors t_readString t_readLawMany t_toldOnce t_highRoom t_highDoor t_tape_q t_taped t_fault t_broken t_brokenAt t_spot t_here t_token t_value t_cuts_q t_letters_q t_work_q t_pages_q t_canBe_q t_leadsOn_q t_seen_q t_seenMany t_heard_q t_heardMany t_isKept_q t_lanes_q t_lengths_q t_cells_q t_torn, aI g t_canBe_q 1400 t_canBe_7, aI g t_laws_q 18 t_laws, aI g t_leadsOn_q 1400 t_leadsOn_22, aI g t_pages_q 750 t_pages_8, aI g t_state_q 196 t_state, aI g t_work_q 30 t_work_9]) (As := [.int x3_18, .int p1]) (rest := []) (c_X8_layBack l g _ t_q t_state_q t_laws_q t_readPage_q t_readLaws_q t_tape_q t_cuts_q t_letters_q t_work_q t_pages_q t_canBe_q t_leadsOn_q t_seen_q t_heard_q t_isKept_q t_lanes_q t_lengths_q t_cells_q t_roomMany t_doorMany t_stringLong t_lawMany t_readRooms t_readDoors t_readString t_readLawMany t_toldOnce t_highRoom t_highDoor t_taped t_fault t_broken t_brokenAt t_spot t_here t_token t_value t_seenMany t_heardMany t_torn t_leadsOn t_pages_8 t_state x3_18 p1 t_leadsOn_22 hc_23) ⟨hx, hb, hml, hown, hts⟩ (cwV 2 hts gX8_soonest_X8_layBack rfl rfl rfl (by decide +kernel) ⟨by decide, by decide⟩) hK hz hk hP (hD.re rfl) hS hA [0, 3, 4, 5] rfl rfl rfl rfl rfl rfl rfl hl.1 rfl (Nat.le_of_ble_eq_true rfl) dX8_soonest_95 (fun H locs hP hS => ?_)
                refine lv_aload_n hx hb dX8_soonest_98 rfl (lv_at hl 0 rfl) ?_
                refine va_get (D := g.1) (ci := 8) (v := .ref t_state_q) (C := RX8) (T := TX8) (N := 39) hx hb hts inX8 hown hK hP 0 rfl rfl 0 (by decide) k7 (fun _ h9 => h9) rfl dX8_soonest_99 ?_
                refine lv_bipush (v := (31 : Int32)) hx hb dX8_soonest_102 (by decide) ?_
                obtain ⟨h_24, hf⟩ := gin_e hf
                refine va_iald hx hb hK hP 5 0 rfl rfl h_24 dX8_soonest_104 ?_
                obtain ⟨v4_25, ev4_25, hf⟩ := bnd_e hf
                refine tp_i ev4_25 ?_
                refine lv_istore (lv' := [(4, .int v4_25), (0, .ref t_q), (1, .int p1), (2, .int p2), (3, .int x3_18)]) hx hb dX8_soonest_105 hl (by decide) rfl (fun ls hl => ?_)
                refine lv_aload_n hx hb dX8_soonest_107 rfl (lv_at hl 1 rfl) ?_
                obtain ⟨r_26, hc_27, hf⟩ := ob1_e hf
                refine kV_i (wn := [oX8 t_q t_state_q t_roomMany t_doorMany t_stringLong t_laws_q t_lawMany t_readPage_q t_readLaws_q t_readRooms t_readDoors t_readString t_readLawMany t_toldOnce t_highRoom t_highDoor t_tape_q t_taped t_fault t_broken t_brokenAt t_spot t_here t_token t_value t_cuts_q t_letters_q t_work_q t_pages_q t_canBe_q t_leadsOn_q t_seen_q t_seenMany t_heard_q t_heardMany t_isKept_q t_lanes_q t_lengths_q t_cells_q t_torn, aI g t_canBe_q 1400 t_canBe_7, aI g t_laws_q 18 t_laws, aI g t_leadsOn_q 1400 t_leadsOn_22, aI g t_pages_q 750 t_pages_8, aI g t_state_q 196 t_state, aI g t_work_q 30 t_work_9]) (As := []) (rest := []) (c_X8_beastNow l g _ t_q t_state_q t_laws_q t_readPage_q t_readLaws_q t_tape_q t_cuts_q t_letters_q t_work_q t_pages_q t_canBe_q t_leadsOn_q t_seen_q t_heard_q t_isKept_q t_lanes_q t_lengths_q t_cells_q t_roomMany t_doorMany t_stringLong t_lawMany t_readRooms t_readDoors t_readString t_readLawMany t_toldOnce t_highRoom t_highDoor t_taped t_fault t_broken t_brokenAt t_spot t_here t_token t_value t_seenMany t_heardMany t_torn t_state r_26 hc_27) ⟨hx, hb, hml, hown, hts⟩ (cwV 0 hts gX8_soonest_X8_beastNow rfl rfl rfl (by decide +kernel) ⟨by decide, by decide⟩) hK hz hk hP (hD.re rfl) hS hA [0, 5] rfl rfl rfl rfl rfl rfl rfl hl.1 rfl (Nat.le_of_ble_eq_true rfl) dX8_soonest_108 (fun H locs hP hS => ?_)
                refine lv_istore (lv' := [(5, .int r_26), (4, .int v4_25), (0, .ref t_q), (1, .int p1), (2, .int p2), (3, .int x3_18)]) hx hb dX8_soonest_111 hl (by decide) rfl (fun ls hl => ?_)
                refine lv_iconst (v := (0 : Int32)) hx hb dX8_soonest_113 (by decide) ?_
                refine lv_istore (lv' := [(6, .int (0 : Int32)), (5, .int r_26), (4, .int v4_25), (0, .ref t_q), (1, .int p1), (2, .int p2), (3, .int x3_18)]) hx hb dX8_soonest_114 hl (by decide) rfl (fun ls hl => ?_)
                refine lv_iconst (v := (0 : Int32)) hx hb dX8_soonest_116 (by decide) ?_
                refine lv_istore (lv' := [(7, .int (0 : Int32)), (6, .int (0 : Int32)), (5, .int r_26), (4, .int v4_25), (0, .ref t_q), (1, .int p1), (2, .int p2), (3, .int x3_18)]) hx hb dX8_soonest_117 hl (by decide) rfl (fun ls hl => ?_)
                obtain ⟨x4_53, x5_54, x6_55, x7_56, ho_32, hf⟩ := ob4_e hf
                have K_32 : ∀ (x4_53y : Int32) (x5_54y : Int32) (x6_55y : Int32) (x7_56y : Int32), x4_53 = x4_53y → x5_54 = x5_54y → x6_55 = x6_55y → x7_56 = x7_56y → ∀ (H : Heap) (locs : List Loc) (ls : Array Slot), va_P g.1 vwCl [oX8 t_q t_state_q t_roomMany t_doorMany t_stringLong t_laws_q t_lawMany t_readPage_q t_readLaws_q t_readRooms t_readDoors t_readString t_readLawMany t_toldOnce t_highRoom t_highDoor t_tape_q t_taped t_fault t_broken t_brokenAt t_spot t_here t_token t_value t_cuts_q t_letters_q t_work_q t_pages_q t_canBe_q t_leadsOn_q t_seen_q t_seenMany t_heard_q t_heardMany t_isKept_q t_lanes_q t_lengths_q t_cells_q t_torn, aI g t_canBe_q 1400 t_canBe_7, aI g t_laws_q 18 t_laws, aI g t_leadsOn_q 1400 t_leadsOn_22, aI g t_pages_q 750 t_pages_8, aI g t_state_q 196 t_state, aI g t_work_q 30 t_work_9] H → va_S A s.heap H locs → lv_has ls 9 [(6, .int x6_55y)] → W p l e rmX8_soonest s m args below meth c H locs 0 0 Q (F0 m 237 ls []) := by
                  intro x4_53y x5_54y x6_55y x7_56y ey0 ey1 ey2 ey3 H locs ls hP hS hl
                  subst ey0
                  subst ey1
                  subst ey2
                  subst ey3
                  refine lv_iload hx hb dX8_soonest_237 (lv_at hl 0 rfl) ?_
                  exact hret x6_55 t_canBe_7 t_leadsOn_22 t_pages_8 t_work_9 (Option.some.inj hf) _ _ _ _ hP hS dX8_soonest_239
                have L_32 : ∀ (n : Nat) (v4_28 : Int32) (v5_29 : Int32) (v6_30 : Int32) (v7_31 : Int32), itr (un4 (b_X8_soonest_119 t_doorMany t_state p2 t_pages_8 t_leadsOn_22)) n (v4_28, v5_29, v6_30, v7_31) = some (x4_53, x5_54, x6_55, x7_56) → ∀ (H : Heap) (locs : List Loc) (ls : Array Slot), va_P g.1 vwCl [oX8 t_q t_state_q t_roomMany t_doorMany t_stringLong t_laws_q t_lawMany t_readPage_q t_readLaws_q t_readRooms t_readDoors t_readString t_readLawMany t_toldOnce t_highRoom t_highDoor t_tape_q t_taped t_fault t_broken t_brokenAt t_spot t_here t_token t_value t_cuts_q t_letters_q t_work_q t_pages_q t_canBe_q t_leadsOn_q t_seen_q t_seenMany t_heard_q t_heardMany t_isKept_q t_lanes_q t_lengths_q t_cells_q t_torn, aI g t_canBe_q 1400 t_canBe_7, aI g t_laws_q 18 t_laws, aI g t_leadsOn_q 1400 t_leadsOn_22, aI g t_pages_q 750 t_pages_8, aI g t_state_q 196 t_state, aI g t_work_q 30 t_work_9] H → va_S A s.heap H locs → lv_has ls 9 [(0, .ref t_q), (2, .int p2), (4, .int v4_28), (5, .int v5_29), (6, .int v6_30), (7, .int v7_31)] → W p l e rmX8_soonest s m args below meth c H locs 0 0 Q (F0 m 119 ls []) := by
                  refine itr_ind4 ?_
                  intro v4_28 v5_29 v6_30 v7_31 z_32 hf hrec hex H locs ls hP hS hl
                  unfold b_X8_soonest_119 at hf
                  refine lv_iload hx hb dX8_soonest_119 (lv_at hl 5 rfl) ?_
                  refine lv_iload_n hx hb dX8_soonest_121 rfl (lv_at hl 1 rfl) ?_
                  refine lv_bipush (v := (10 : Int32)) hx hb dX8_soonest_122 (by decide) ?_
                  refine lv_isub hx hb dX8_soonest_124 ?_
                  refine lv_icmp_gt (tgt := 237) hx hb dX8_soonest_125 (by decide) (fun c_33 => ?_) (fun c_33 => ?_)
                  · have hf := ite_t hf c_33
                    exact K_32 v4_28 v5_29 v6_30 v7_31 (congrArg (fun t => t.1) (hex _ (Option.some.inj hf).symm).symm) (congrArg (fun t => t.2.1) (hex _ (Option.some.inj hf).symm).symm) (congrArg (fun t => t.2.2.1) (hex _ (Option.some.inj hf).symm).symm) (congrArg (fun t => t.2.2.2) (hex _ (Option.some.inj hf).symm).symm) _ _ _ hP hS (lv_sub hl [4] rfl)
                  · have hf := ite_f hf c_33
                    refine lv_iconst (v := (0 : Int32)) hx hb dX8_soonest_128 (by decide) ?_
                    refine lv_istore (lv' := [(6, .int (0 : Int32)), (0, .ref t_q), (2, .int p2), (4, .int v4_28), (5, .int v5_29), (7, .int v7_31)]) hx hb dX8_soonest_129 hl (by decide) rfl (fun ls hl => ?_)
                    refine lv_aload_n hx hb dX8_soonest_131 rfl (lv_at hl 1 rfl) ?_
                    refine lv_iload hx hb dX8_soonest_132 (lv_at hl 5 rfl) ?_
                    refine lv_iload hx hb dX8_soonest_134 (lv_at hl 3 rfl) ?_
                    refine lv_iload hx hb dX8_soonest_136 (lv_at hl 4 rfl) ?_
                    refine lv_iload hx hb dX8_soonest_138 (lv_at hl 0 rfl) ?_
                    obtain ⟨r_34, hc_35, hf⟩ := ob1_e hf
                    refine kV_i (wn := [oX8 t_q t_state_q t_roomMany t_doorMany t_stringLong t_laws_q t_lawMany t_readPage_q t_readLaws_q t_readRooms t_readDoors t_readString t_readLawMany t_toldOnce t_highRoom t_highDoor t_tape_q t_taped t_fault t_broken t_brokenAt t_spot t_here t_token t_value t_cuts_q t_letters_q t_work_q t_pages_q t_canBe_q t_leadsOn_q t_seen_q t_seenMany t_heard_q t_heardMany t_isKept_q t_lanes_q t_lengths_q t_cells_q t_torn, aI g t_canBe_q 1400 t_canBe_7, aI g t_laws_q 18 t_laws, aI g t_leadsOn_q 1400 t_leadsOn_22, aI g t_pages_q 750 t_pages_8, aI g t_state_q 196 t_state, aI g t_work_q 30 t_work_9]) (As := [.int v7_31, .int v4_28, .int v5_29, .int (0 : Int32)]) (rest := []) (c_X8_after l g _ t_q t_state_q t_laws_q t_readPage_q t_readLaws_q t_tape_q t_cuts_q t_letters_q t_work_q t_pages_q t_canBe_q t_leadsOn_q t_seen_q t_heard_q t_isKept_q t_lanes_q t_lengths_q t_cells_q t_roomMany t_doorMany t_stringLong t_lawMany t_readRooms t_readDoors t_readString t_readLawMany t_toldOnce t_highRoom t_highDoor t_taped t_fault t_broken t_brokenAt t_spot t_here t_token t_value t_seenMany t_heardMany t_torn t_pages_8 t_state v7_31 v4_28 v5_29 (0 : Int32) r_34 hc_35) ⟨hx, hb, hml, hown, hts⟩ (cwV 4 hts gX8_soonest_X8_after rfl rfl rfl (by decide +kernel) ⟨by decide, by decide⟩) hK hz hk hP (hD.re rfl) hS hA [0, 4, 5] rfl rfl rfl rfl rfl rfl rfl hl.1 rfl (Nat.le_of_ble_eq_true rfl) dX8_soonest_140 (fun H locs hP hS => ?_)
                    refine lv_istore (lv' := [(8, .int r_34), (6, .int (0 : Int32)), (0, .ref t_q), (2, .int p2), (4, .int v4_28), (5, .int v5_29), (7, .int v7_31)]) hx hb dX8_soonest_143 hl (by decide) rfl (fun ls hl => ?_)
                    obtain ⟨x6_46, x8_47, ho_38, hf⟩ := ob2_e hf
                    have K_38 : ∀ (x6_46y : Int32) (x8_47y : Int32), x6_46 = x6_46y → x8_47 = x8_47y → ∀ (H : Heap) (locs : List Loc) (ls : Array Slot), va_P g.1 vwCl [oX8 t_q t_state_q t_roomMany t_doorMany t_stringLong t_laws_q t_lawMany t_readPage_q t_readLaws_q t_readRooms t_readDoors t_readString t_readLawMany t_toldOnce t_highRoom t_highDoor t_tape_q t_taped t_fault t_broken t_brokenAt t_spot t_here t_token t_value t_cuts_q t_letters_q t_work_q t_pages_q t_canBe_q t_leadsOn_q t_seen_q t_seenMany t_heard_q t_heardMany t_isKept_q t_lanes_q t_lengths_q t_cells_q t_torn, aI g t_canBe_q 1400 t_canBe_7, aI g t_laws_q 18 t_laws, aI g t_leadsOn_q 1400 t_leadsOn_22, aI g t_pages_q 750 t_pages_8, aI g t_state_q 196 t_state, aI g t_work_q 30 t_work_9] H → va_S A s.heap H locs → lv_has ls 9 [(0, .ref t_q), (2, .int p2), (6, .int x6_46y), (7, .int v7_31), (8, .int x8_47y)] → W p l e rmX8_soonest s m args below meth c H locs 0 0 Q (F0 m 202 ls []) := by
                      intro x6_46y x8_47y ey0 ey1 H locs ls hP hS hl
                      subst ey0
                      subst ey1
                      refine lv_iload hx hb dX8_soonest_202 (lv_at hl 4 rfl) ?_
                      refine lv_bipush (v := (10 : Int32)) hx hb dX8_soonest_204 (by decide) ?_
                      refine lv_irem hx hb dX8_soonest_206 (by decide) ?_
                      obtain ⟨v4_48, ev4_48, hf⟩ := bnd_e hf
                      refine tp_i ev4_48 ?_
                      refine lv_istore (lv' := [(4, .int v4_48), (0, .ref t_q), (2, .int p2), (6, .int x6_46), (7, .int v7_31), (8, .int x8_47)]) hx hb dX8_soonest_207 hl (by decide) rfl (fun ls hl => ?_)
                      refine lv_iload hx hb dX8_soonest_209 (lv_at hl 5 rfl) ?_
                      refine lv_bipush (v := (10 : Int32)) hx hb dX8_soonest_211 (by decide) ?_
                      refine lv_idiv hx hb dX8_soonest_213 (by decide) ?_
                      obtain ⟨j_50, hj_50, hf⟩ := jn1_e hf
                      have J_50 : ∀ (s_49 : Int32), j_50 s_49 = some z_32 → ∀ (H : Heap) (locs : List Loc) (ls : Array Slot), va_P g.1 vwCl [oX8 t_q t_state_q t_roomMany t_doorMany t_stringLong t_laws_q t_lawMany t_readPage_q t_readLaws_q t_readRooms t_readDoors t_readString t_readLawMany t_toldOnce t_highRoom t_highDoor t_tape_q t_taped t_fault t_broken t_brokenAt t_spot t_here t_token t_value t_cuts_q t_letters_q t_work_q t_pages_q t_canBe_q t_leadsOn_q t_seen_q t_seenMany t_heard_q t_heardMany t_isKept_q t_lanes_q t_lengths_q t_cells_q t_torn, aI g t_canBe_q 1400 t_canBe_7, aI g t_laws_q 18 t_laws, aI g t_leadsOn_q 1400 t_leadsOn_22, aI g t_pages_q 750 t_pages_8, aI g t_state_q 196 t_state, aI g t_work_q 30 t_work_9] H → va_S A s.heap H locs → lv_has ls 9 [(0, .ref t_q), (2, .int p2), (4, .int v4_48), (6, .int x6_46), (7, .int v7_31)] → W p l e rmX8_soonest s m args below meth c H locs 0 0 Q (F0 m 229 ls [.int s_49]) := by
                        intro s_49 hf H locs ls hP hS hl
                        rw [hj_50] at hf
                        refine lv_istore (lv' := [(5, .int s_49), (0, .ref t_q), (2, .int p2), (4, .int v4_48), (6, .int x6_46), (7, .int v7_31)]) hx hb dX8_soonest_229 hl (by decide) rfl (fun ls hl => ?_)
                        obtain ⟨v7_51, ev7_51, hf⟩ := bnd_e hf
                        refine lv_iinc (v := v7_51) (lv' := [(7, .int v7_51), (5, .int s_49), (0, .ref t_q), (2, .int p2), (4, .int v4_48), (6, .int x6_46)]) hx hb dX8_soonest_231 hl (k := 5) rfl (by rw [ev7_51]; rfl) (by decide) rfl (fun ls hl => ?_)
                        refine lv_goto (tgt := 119) hx hb dX8_soonest_234 (by decide) ?_
                        exact hrec v4_48 s_49 x6_46 v7_51 (Option.some.inj hf).symm _ _ _ hP hS (lv_sub hl [2, 3, 4, 1, 5, 0] rfl)
                      refine lv_if_ne (tgt := 222) hx hb dX8_soonest_214 (by decide) (fun c_52 => ?_) (fun c_52 => ?_)
                      · have hf := ite_f hf c_52
                        refine lv_iload hx hb dX8_soonest_222 (lv_at hl 5 rfl) ?_
                        refine lv_bipush (v := (10 : Int32)) hx hb dX8_soonest_224 (by decide) ?_
                        refine lv_idiv hx hb dX8_soonest_226 (by decide) ?_
                        refine lv_iconst (v := (1 : Int32)) hx hb dX8_soonest_227 (by decide) ?_
                        refine lv_isub hx hb dX8_soonest_228 ?_
                        exact J_50 ((x8_47 / (10 : Int32)) - (1 : Int32)) hf _ _ _ hP hS (lv_sub hl [1, 2, 0, 3, 4] rfl)
                      · have hf := ite_t hf c_52
                        refine lv_bipush (v := (-4 : Int32)) hx hb dX8_soonest_217 (by decide) ?_
                        refine lv_goto (tgt := 229) hx hb dX8_soonest_219 (by decide) ?_
                        exact J_50 (-4 : Int32) hf _ _ _ hP hS (lv_sub hl [1, 2, 0, 3, 4] rfl)
                    have L_38 : ∀ (n : Nat) (v6_36 : Int32) (v8_37 : Int32), itr (un2 (b_X8_soonest_145 t_doorMany t_state t_pages_8 t_leadsOn_22 v4_28 v5_29 v7_31)) n (v6_36, v8_37) = some (x6_46, x8_47) → ∀ (H : Heap) (locs : List Loc) (ls : Array Slot), va_P g.1 vwCl [oX8 t_q t_state_q t_roomMany t_doorMany t_stringLong t_laws_q t_lawMany t_readPage_q t_readLaws_q t_readRooms t_readDoors t_readString t_readLawMany t_toldOnce t_highRoom t_highDoor t_tape_q t_taped t_fault t_broken t_brokenAt t_spot t_here t_token t_value t_cuts_q t_letters_q t_work_q t_pages_q t_canBe_q t_leadsOn_q t_seen_q t_seenMany t_heard_q t_heardMany t_isKept_q t_lanes_q t_lengths_q t_cells_q t_torn, aI g t_canBe_q 1400 t_canBe_7, aI g t_laws_q 18 t_laws, aI g t_leadsOn_q 1400 t_leadsOn_22, aI g t_pages_q 750 t_pages_8, aI g t_state_q 196 t_state, aI g t_work_q 30 t_work_9] H → va_S A s.heap H locs → lv_has ls 9 [(0, .ref t_q), (2, .int p2), (4, .int v4_28), (5, .int v5_29), (6, .int v6_36), (7, .int v7_31), (8, .int v8_37)] → W p l e rmX8_soonest s m args below meth c H locs 0 0 Q (F0 m 145 ls []) := by
                      refine itr_ind2 ?_
                      intro v6_36 v8_37 z_38 hf hrec hex H locs ls hP hS hl
                      unfold b_X8_soonest_145 at hf
                      refine lv_iload hx hb dX8_soonest_145 (lv_at hl 6 rfl) ?_
                      refine lv_bipush (v := (-4 : Int32)) hx hb dX8_soonest_147 (by decide) ?_
                      obtain ⟨j_39, hj_39, hf⟩ := jn0_e hf
                      have J_39 : j_39 = some z_38 → ∀ (H : Heap) (locs : List Loc) (ls : Array Slot), va_P g.1 vwCl [oX8 t_q t_state_q t_roomMany t_doorMany t_stringLong t_laws_q t_lawMany t_readPage_q t_readLaws_q t_readRooms t_readDoors t_readString t_readLawMany t_toldOnce t_highRoom t_highDoor t_tape_q t_taped t_fault t_broken t_brokenAt t_spot t_here t_token t_value t_cuts_q t_letters_q t_work_q t_pages_q t_canBe_q t_leadsOn_q t_seen_q t_seenMany t_heard_q t_heardMany t_isKept_q t_lanes_q t_lengths_q t_cells_q t_torn, aI g t_canBe_q 1400 t_canBe_7, aI g t_laws_q 18 t_laws, aI g t_leadsOn_q 1400 t_leadsOn_22, aI g t_pages_q 750 t_pages_8, aI g t_state_q 196 t_state, aI g t_work_q 30 t_work_9] H → va_S A s.heap H locs → lv_has ls 9 [(0, .ref t_q), (2, .int p2), (4, .int v4_28), (5, .int v5_29), (6, .int v6_36), (7, .int v7_31)] → W p l e rmX8_soonest s m args below meth c H locs 0 0 Q (F0 m 182 ls []) := by
                        intro hf H locs ls hP hS hl
                        rw [hj_39] at hf
                        obtain ⟨v6_40, ev6_40, hf⟩ := bnd_e hf
                        refine lv_iinc (v := v6_40) (lv' := [(6, .int v6_40), (0, .ref t_q), (2, .int p2), (4, .int v4_28), (5, .int v5_29), (7, .int v7_31)]) hx hb dX8_soonest_182 hl (k := 4) rfl (by rw [ev6_40]; rfl) (by decide) rfl (fun ls hl => ?_)
                        refine lv_aload_n hx hb dX8_soonest_185 rfl (lv_at hl 1 rfl) ?_
                        refine lv_iload hx hb dX8_soonest_186 (lv_at hl 5 rfl) ?_
                        refine lv_iload hx hb dX8_soonest_188 (lv_at hl 3 rfl) ?_
                        refine lv_iload hx hb dX8_soonest_190 (lv_at hl 4 rfl) ?_
                        refine lv_iload hx hb dX8_soonest_192 (lv_at hl 0 rfl) ?_
                        obtain ⟨r_41, hc_42, hf⟩ := ob1_e hf
                        refine kV_i (wn := [oX8 t_q t_state_q t_roomMany t_doorMany t_stringLong t_laws_q t_lawMany t_readPage_q t_readLaws_q t_readRooms t_readDoors t_readString t_readLawMany t_toldOnce t_highRoom t_highDoor t_tape_q t_taped t_fault t_broken t_brokenAt t_spot t_here t_token t_value t_cuts_q t_letters_q t_work_q t_pages_q t_canBe_q t_leadsOn_q t_seen_q t_seenMany t_heard_q t_heardMany t_isKept_q t_lanes_q t_lengths_q t_cells_q t_torn, aI g t_canBe_q 1400 t_canBe_7, aI g t_laws_q 18 t_laws, aI g t_leadsOn_q 1400 t_leadsOn_22, aI g t_pages_q 750 t_pages_8, aI g t_state_q 196 t_state, aI g t_work_q 30 t_work_9]) (As := [.int v7_31, .int v4_28, .int v5_29, .int v6_40]) (rest := []) (c_X8_after l g _ t_q t_state_q t_laws_q t_readPage_q t_readLaws_q t_tape_q t_cuts_q t_letters_q t_work_q t_pages_q t_canBe_q t_leadsOn_q t_seen_q t_heard_q t_isKept_q t_lanes_q t_lengths_q t_cells_q t_roomMany t_doorMany t_stringLong t_lawMany t_readRooms t_readDoors t_readString t_readLawMany t_toldOnce t_highRoom t_highDoor t_taped t_fault t_broken t_brokenAt t_spot t_here t_token t_value t_seenMany t_heardMany t_torn t_pages_8 t_state v7_31 v4_28 v5_29 v6_40 r_41 hc_42) ⟨hx, hb, hml, hown, hts⟩ (cwV 4 hts gX8_soonest_X8_after rfl rfl rfl (by decide +kernel) ⟨by decide, by decide⟩) hK hz hk hP (hD.re rfl) hS hA [0, 4, 5] rfl rfl rfl rfl rfl rfl rfl hl.1 rfl (Nat.le_of_ble_eq_true rfl) dX8_soonest_194 (fun H locs hP hS => ?_)
                        refine lv_istore (lv' := [(8, .int r_41), (6, .int v6_40), (0, .ref t_q), (2, .int p2), (4, .int v4_28), (5, .int v5_29), (7, .int v7_31)]) hx hb dX8_soonest_197 hl (by decide) rfl (fun ls hl => ?_)
                        refine lv_goto (tgt := 145) hx hb dX8_soonest_199 (by decide) ?_
                        exact hrec v6_40 r_41 (Option.some.inj hf).symm _ _ _ hP hS (lv_sub hl [2, 3, 4, 5, 1, 6, 0] rfl)
                      refine lv_icmp_eq (tgt := 182) hx hb dX8_soonest_149 (by decide) (fun c_43 => ?_) (fun c_43 => ?_)
                      · have hf := ite_t hf c_43
                        exact J_39 hf _ _ _ hP hS (lv_sub hl [0, 1, 2, 3, 4, 5] rfl)
                      · have hf := ite_f hf c_43
                        refine lv_aload_n hx hb dX8_soonest_152 rfl (lv_at hl 0 rfl) ?_
                        refine va_get (D := g.1) (ci := 8) (v := .ref t_leadsOn_q) (C := RX8) (T := TX8) (N := 39) hx hb hts inX8 hown hK hP 0 rfl rfl 29 (by decide) k47 (fun _ h9 => h9) rfl dX8_soonest_153 ?_
                        refine lv_bipush (v := (56 : Int32)) hx hb dX8_soonest_156 (by decide) ?_
                        refine lv_iload hx hb dX8_soonest_158 (lv_at hl 5 rfl) ?_
                        refine lv_iconst (v := (1 : Int32)) hx hb dX8_soonest_160 (by decide) ?_
                        refine lv_iadd hx hb dX8_soonest_161 ?_
                        refine lv_imul hx hb dX8_soonest_162 ?_
                        refine lv_bipush (v := (8 : Int32)) hx hb dX8_soonest_163 (by decide) ?_
                        refine lv_iload hx hb dX8_soonest_165 (lv_at hl 6 rfl) ?_
                        refine lv_bipush (v := (10 : Int32)) hx hb dX8_soonest_167 (by decide) ?_
                        refine lv_irem hx hb dX8_soonest_169 (by decide) ?_
                        refine lv_imul hx hb dX8_soonest_170 ?_
                        refine lv_iadd hx hb dX8_soonest_171 ?_
                        refine lv_iload hx hb dX8_soonest_172 (lv_at hl 6 rfl) ?_
                        refine lv_bipush (v := (10 : Int32)) hx hb dX8_soonest_174 (by decide) ?_
                        refine lv_idiv hx hb dX8_soonest_176 (by decide) ?_
                        refine lv_iadd hx hb dX8_soonest_177 ?_
                        obtain ⟨h_44, hf⟩ := gin_e hf
                        refine va_iald hx hb hK hP 3 0 rfl rfl h_44 dX8_soonest_178 ?_
                        refine lv_if_ne (tgt := 202) hx hb dX8_soonest_179 (by decide) (fun c_45 => ?_) (fun c_45 => ?_)
                        · have hf := ite_f hf c_45
                          exact K_38 v6_36 v8_37 (congrArg (fun t => t.1) (hex _ (Option.some.inj hf).symm).symm) (congrArg (fun t => t.2) (hex _ (Option.some.inj hf).symm).symm) _ _ _ hP hS (lv_sub hl [0, 1, 4, 5, 6] rfl)
                        · have hf := ite_t hf c_45
                          exact J_39 hf _ _ _ hP hS (lv_sub hl [0, 1, 2, 3, 4, 5] rfl)
                    exact L_38 FU (0 : Int32) r_34 ho_38 _ _ _ hP hS (lv_sub hl [2, 3, 4, 5, 1, 6, 0] rfl)
                exact L_32 FU v4_25 r_26 (0 : Int32) (0 : Int32) ho_32 _ _ _ hP hS (lv_sub hl [4, 6, 3, 2, 1, 0] rfl)
              · have hf := ite_t hf c_21
                refine lv_iload_n hx hb dX8_soonest_90 rfl (lv_at hl 3 rfl) ?_
                exact hret x3_18 t_canBe_7 t_leadsOn t_pages_8 t_work_9 (Option.some.inj hf) _ _ _ _ hP hS dX8_soonest_91
            · have hf := ite_f hf c_20
              refine lv_bipush (v := (-4 : Int32)) hx hb dX8_soonest_83 (by decide) ?_
              exact hret (-4 : Int32) t_canBe_7 t_leadsOn t_pages_8 t_work_9 (Option.some.inj hf) _ _ _ _ hP hS dX8_soonest_85
        have L_12 : ∀ (n : Nat) (v3_11 : Int32), itr (un1 (b_X8_soonest_48 p1 t_canBe_7)) n v3_11 = some x3_18 → ∀ (H : Heap) (locs : List Loc) (ls : Array Slot), va_P g.1 vwCl [oX8 t_q t_state_q t_roomMany t_doorMany t_stringLong t_laws_q t_lawMany t_readPage_q t_readLaws_q t_readRooms t_readDoors t_readString t_readLawMany t_toldOnce t_highRoom t_highDoor t_tape_q t_taped t_fault t_broken t_brokenAt t_spot t_here t_token t_value t_cuts_q t_letters_q t_work_q t_pages_q t_canBe_q t_leadsOn_q t_seen_q t_seenMany t_heard_q t_heardMany t_isKept_q t_lanes_q t_lengths_q t_cells_q t_torn, aI g t_canBe_q 1400 t_canBe_7, aI g t_laws_q 18 t_laws, aI g t_leadsOn_q 1400 t_leadsOn, aI g t_pages_q 750 t_pages_8, aI g t_state_q 196 t_state, aI g t_work_q 30 t_work_9] H → va_S A s.heap H locs → lv_has ls 9 [(0, .ref t_q), (1, .int p1), (2, .int p2), (3, .int v3_11)] → W p l e rmX8_soonest s m args below meth c H locs 0 0 Q (F0 m 48 ls []) := by
          refine itr_ind1 ?_
          intro v3_11 z_12 hf hrec hex H locs ls hP hS hl
          unfold b_X8_soonest_48 at hf
          refine lv_iload_n hx hb dX8_soonest_48 rfl (lv_at hl 3 rfl) ?_
          refine lv_bipush (v := (24 : Int32)) hx hb dX8_soonest_49 (by decide) ?_
          refine lv_icmp_gt (tgt := 69) hx hb dX8_soonest_51 (by decide) (fun c_13 => ?_) (fun c_13 => ?_)
          · have hf := ite_t hf c_13
            exact K_12 v3_11 (congrArg (fun t => t) (hex _ (Option.some.inj hf).symm).symm) _ _ _ hP hS (lv_sub hl [0, 1, 2, 3] rfl)
          · have hf := ite_f hf c_13
            refine lv_aload_n hx hb dX8_soonest_54 rfl (lv_at hl 0 rfl) ?_
            refine lv_iload_n hx hb dX8_soonest_55 rfl (lv_at hl 3 rfl) ?_
            refine lv_iload_n hx hb dX8_soonest_56 rfl (lv_at hl 1 rfl) ?_
            obtain ⟨r_14, hc_15, hf⟩ := ob1_e hf
            refine kV_i (wn := [oX8 t_q t_state_q t_roomMany t_doorMany t_stringLong t_laws_q t_lawMany t_readPage_q t_readLaws_q t_readRooms t_readDoors t_readString t_readLawMany t_toldOnce t_highRoom t_highDoor t_tape_q t_taped t_fault t_broken t_brokenAt t_spot t_here t_token t_value t_cuts_q t_letters_q t_work_q t_pages_q t_canBe_q t_leadsOn_q t_seen_q t_seenMany t_heard_q t_heardMany t_isKept_q t_lanes_q t_lengths_q t_cells_q t_torn, aI g t_canBe_q 1400 t_canBe_7, aI g t_laws_q 18 t_laws, aI g t_leadsOn_q 1400 t_leadsOn, aI g t_pages_q 750 t_pages_8, aI g t_state_q 196 t_state, aI g t_work_q 30 t_work_9]) (As := [.int v3_11, .int p1]) (rest := []) (c_X8_isThere l g _ t_q t_state_q t_laws_q t_readPage_q t_readLaws_q t_tape_q t_cuts_q t_letters_q t_work_q t_pages_q t_canBe_q t_leadsOn_q t_seen_q t_heard_q t_isKept_q t_lanes_q t_lengths_q t_cells_q t_roomMany t_doorMany t_stringLong t_lawMany t_readRooms t_readDoors t_readString t_readLawMany t_toldOnce t_highRoom t_highDoor t_taped t_fault t_broken t_brokenAt t_spot t_here t_token t_value t_seenMany t_heardMany t_torn t_canBe_7 v3_11 p1 r_14 hc_15) ⟨hx, hb, hml, hown, hts⟩ (cwV 2 hts gX8_soonest_X8_isThere rfl rfl rfl (by decide +kernel) ⟨by decide, by decide⟩) hK hz hk hP (hD.re rfl) hS hA [0, 1] rfl rfl rfl rfl rfl rfl rfl hl.1 rfl (Nat.le_of_ble_eq_true rfl) dX8_soonest_57 (fun H locs hP hS => ?_)
            refine lv_if_ne (tgt := 69) hx hb dX8_soonest_60 (by decide) (fun c_16 => ?_) (fun c_16 => ?_)
            · have hf := ite_f hf c_16
              exact K_12 v3_11 (congrArg (fun t => t) (hex _ (Option.some.inj hf).symm).symm) _ _ _ hP hS (lv_sub hl [0, 1, 2, 3] rfl)
            · have hf := ite_t hf c_16
              obtain ⟨v3_17, ev3_17, hf⟩ := bnd_e hf
              refine lv_iinc (v := v3_17) (lv' := [(3, .int v3_17), (0, .ref t_q), (1, .int p1), (2, .int p2)]) hx hb dX8_soonest_63 hl (k := 3) rfl (by rw [ev3_17]; rfl) (by decide) rfl (fun ls hl => ?_)
              refine lv_goto (tgt := 48) hx hb dX8_soonest_66 (by decide) ?_
              exact hrec v3_17 (Option.some.inj hf).symm _ _ _ hP hS (lv_sub hl [1, 2, 3, 0] rfl)
        exact L_12 FU (0 : Int32) ho_12 _ _ _ hP hS (lv_sub hl [1, 2, 3, 0] rfl)
      · have hf := ite_t hf c_6
        refine lv_bipush (v := (-2 : Int32)) hx hb dX8_soonest_39 (by decide) ?_
        exact hret (-2 : Int32) t_canBe t_leadsOn t_pages t_work (Option.some.inj hf) _ _ _ _ hP hS dX8_soonest_41
    refine lv_if_eq (tgt := 28) hx hb dX8_soonest_9 (by decide) (fun c_57 => ?_) (fun c_57 => ?_)
    · have hf := ite_t hf c_57
      exact J_4 hf _ _ _ hP hS (lv_sub hl [0, 1, 2] rfl)
    · have hf := ite_f hf c_57
      refine lv_iload_n hx hb dX8_soonest_12 rfl (lv_at hl 2 rfl) ?_
      refine lv_i2l hx hb dX8_soonest_13 rfl ?_
      refine lv_ldc2 hx hb hown q252 dX8_soonest_14 ?_
      refine lv_ldc2 hx hb hown q254 dX8_soonest_17 ?_
      obtain ⟨r_58, hc_59, hf⟩ := ob1_e hf
      refine kS_i (wn := [oX8 t_q t_state_q t_roomMany t_doorMany t_stringLong t_laws_q t_lawMany t_readPage_q t_readLaws_q t_readRooms t_readDoors t_readString t_readLawMany t_toldOnce t_highRoom t_highDoor t_tape_q t_taped t_fault t_broken t_brokenAt t_spot t_here t_token t_value t_cuts_q t_letters_q t_work_q t_pages_q t_canBe_q t_leadsOn_q t_seen_q t_seenMany t_heard_q t_heardMany t_isKept_q t_lanes_q t_lengths_q t_cells_q t_torn, aI g t_canBe_q 1400 t_canBe, aI g t_laws_q 18 t_laws, aI g t_leadsOn_q 1400 t_leadsOn, aI g t_pages_q 750 t_pages, aI g t_state_q 196 t_state, aI g t_work_q 30 t_work]) (As := [.long (p2.toInt64), .long (10 : Int64), .long (33 : Int64)]) (rest := []) (c_X8_in l g _ (p2.toInt64) (10 : Int64) (33 : Int64) r_58 hc_59) ⟨hx, hb, hml, hown, hts⟩ (va_cwS 3 hts gX8_soonest_X8_in rfl rfl rfl (by decide +kernel) ⟨by decide, by decide⟩) hK hz hk hP (hD.re rfl) hS hA [] rfl rfl rfl rfl rfl hl.1 rfl (Nat.le_of_ble_eq_true rfl) dX8_soonest_20 (fun H locs hP hS => ?_)
      refine lv_if_ne (tgt := 28) hx hb dX8_soonest_23 (by decide) (fun c_60 => ?_) (fun c_60 => ?_)
      · have hf := ite_f hf c_60
        exact J_4 hf _ _ _ hP hS (lv_sub hl [0, 1, 2] rfl)
      · have hf := ite_t hf c_60
        refine lv_iconst (v := (-1 : Int32)) hx hb dX8_soonest_26 (by decide) ?_
        exact hret (-1 : Int32) t_canBe t_leadsOn t_pages t_work (Option.some.inj hf) _ _ _ _ hP hS dX8_soonest_27
