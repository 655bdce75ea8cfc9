def b_X8_alive_36 (p1 : Int32) (t_canBe_6 : Nat → Int32) (v2_10 : Int32) (v3_11 : Int32) : Option ((Int32 × Int32) ⊕ (Int32 × Int32)) :=
 (if (7 : Int32) ≤ v3_11 then
 (some (.inr (v2_10, v3_11)))
 else (ob1 (f_X8_isThere t_canBe_6 p1 v3_11) (fun r_14 =>
 (jn1 (fun (s_16 : Int32) => (bnd (v2_10 ||| s_16) (fun v2_18 =>
 (bnd (v3_11 + (1 : Int32)) (fun v3_19 =>
 (some (.inl (v2_18, v3_19)))))))) (fun j_17 =>
 (if r_14 = (0 : Int32) then
 (j_17 (0 : Int32))
 else (j_17 ((1 : Int32) <<< (v3_11 &&& 31)))))))))
def f_X8_alive (t_roomMany : Int32) (t_doorMany : Int32) (t_lawMany : Int32) (t_canBe : Nat → Int32) (t_laws : Nat → Int32) (t_pages : Nat → Int32) (t_state : Nat → Int32) (t_work : Nat → Int32) (p1 : Int32) : Option (Int32 × (Nat → Int32) × (Nat → Int32) × (Nat → Int32)) :=
 (ob1 (f_X8_in (p1.toInt64) (0 : Int64) (24 : Int64)) (fun r_1 =>
 (if r_1 = (0 : Int32) then
 (some ((-1 : Int32), t_canBe, t_pages, t_work))
 else (gin (48 : Int32) 196 (if (t_state (48 : Int32).toNatClampNeg) = (1 : Int32) then
 (some ((-2 : Int32), t_canBe, t_pages, t_work))
 else (ob3 (f_X8_layAlive t_roomMany t_doorMany t_lawMany t_canBe t_laws t_pages t_state t_work) (fun t_canBe_6 t_pages_7 t_work_8 =>
 (ob2 (itr (un2 (b_X8_alive_36 p1 t_canBe_6)) FU ((0 : Int32), (0 : Int32))) (fun x2_21 x3_22 =>
 (some (x2_21, t_canBe_6, t_pages_7, t_work_8)))))))))))
abbrev rmX8_alive : Room := { frames := 5, cells := 0, slots := 0, locals := 132 }
set_option maxHeartbeats 4000000 in
set_option maxRecDepth 100000 in
theorem c_X8_alive (l : Launch) (g : Gh) (sz : Nat) (t_q t_state_q t_laws_q t_readPage_q t_readLaws_q t_tape_q t_cuts_q t_letters_q t_work_q t_pages_q t_canBe_q t_leadsOn_q t_seen_q t_heard_q t_isKept_q t_lanes_q t_lengths_q t_cells_q : Nat) (t_roomMany : Int32) (t_doorMany : Int32) (t_stringLong : Int32) (t_lawMany : Int32) (t_readRooms : Int32) (t_readDoors : Int32) (t_readString : Int32) (t_readLawMany : Int32) (t_toldOnce : Int32) (t_highRoom : Int32) (t_highDoor : Int32) (t_taped : Int32) (t_fault : Int32) (t_broken : Int32) (t_brokenAt : Int32) (t_spot : Int32) (t_here : Int32) (t_token : Int32) (t_value : Int32) (t_seenMany : Int32) (t_heardMany : Int32) (t_torn : Int32) (t_canBe : Nat → Int32) (t_laws : Nat → Int32) (t_pages : Nat → Int32) (t_state : Nat → Int32) (t_work : Nat → Int32) (p1 : Int32) (rr : Int32) (t_canBe' : Nat → Int32) (t_pages' : Nat → Int32) (t_work' : Nat → Int32) (hf : f_X8_alive t_roomMany t_doorMany t_lawMany t_canBe t_laws t_pages t_state t_work p1 = some (rr, t_canBe', t_pages', t_work')) : CI l yX8_alive wsX8_alive rmX8_alive [.ref t_q, .int p1] g sz [oX8 t_q t_state_q t_roomMany t_doorMany t_stringLong t_laws_q t_lawMany t_readPage_q t_readLaws_q t_readRooms t_readDoors t_readString t_readLawMany t_toldOnce t_highRoom t_highDoor t_tape_q t_taped t_fault t_broken t_brokenAt t_spot t_here t_token t_value t_cuts_q t_letters_q t_work_q t_pages_q t_canBe_q t_leadsOn_q t_seen_q t_seenMany t_heard_q t_heardMany t_isKept_q t_lanes_q t_lengths_q t_cells_q t_torn, aI g t_canBe_q 1400 t_canBe, aI g t_laws_q 18 t_laws, aI g t_pages_q 750 t_pages, aI g t_state_q 196 t_state, aI g t_work_q 30 t_work] [oX8 t_q t_state_q t_roomMany t_doorMany t_stringLong t_laws_q t_lawMany t_readPage_q t_readLaws_q t_readRooms t_readDoors t_readString t_readLawMany t_toldOnce t_highRoom t_highDoor t_tape_q t_taped t_fault t_broken t_brokenAt t_spot t_here t_token t_value t_cuts_q t_letters_q t_work_q t_pages_q t_canBe_q t_leadsOn_q t_seen_q t_seenMany t_heard_q t_heardMany t_isKept_q t_lanes_q t_lengths_q t_cells_q t_torn, aI g t_canBe_q 1400 t_canBe', aI g t_laws_q 18 t_laws, aI g t_pages_q 750 t_pages', aI g t_state_q 196 t_state, aI g t_work_q 30 t_work'] rr := by
  refine ent_i (cc := cX8_alive) (maxL := 4) (by decide) rfl (Nat.le_of_ble_eq_true rfl) ?_
  intro p e s m args below meth c A Q hx hb hml hown hts hK hz hk hA hD hP hS hret ls hl
  have hown : s.vm.findClass RX8 = some m.cls := hown
  have inX8 : ∀ w ∈ u_ws RX8 TX8 39, w ∈ wsX8_alive := by decide +kernel
  have k7 := hts (.fieldLink RX8 7 "ThreadMovedModel" "state" "[I") (by decide +kernel)
  have q267 := hts (.constantLong RX8 267 (24)) (by decide +kernel)
  have hl : lv_has ls 4 [(0, .ref t_q), (1, .int p1)] := hl
  have hret : ∀ (rrz : Int32) (t_canBez : Nat → Int32) (t_pagesz : Nat → Int32) (t_workz : Nat → Int32), (rrz, t_canBez, t_pagesz, t_workz) = (rr, t_canBe', t_pages', t_work') → ∀ (H : Heap) (locs : List Loc) (pc : Nat) (ls : Array Slot), va_P g.1 vwCl [oX8 t_q t_state_q t_roomMany t_doorMany t_stringLong t_laws_q t_lawMany t_readPage_q t_readLaws_q t_readRooms t_readDoors t_readString t_readLawMany t_toldOnce t_highRoom t_highDoor t_tape_q t_taped t_fault t_broken t_brokenAt t_spot t_here t_token t_value t_cuts_q t_letters_q t_work_q t_pages_q t_canBe_q t_leadsOn_q t_seen_q t_seenMany t_heard_q t_heardMany t_isKept_q t_lanes_q t_lengths_q t_cells_q t_torn, aI g t_canBe_q 1400 t_canBez, aI g t_laws_q 18 t_laws, aI g t_pages_q 750 t_pagesz, aI g t_state_q 196 t_state, aI g t_work_q 30 t_workz] H → va_S A s.heap H locs → decode cX8_alive pc = .ok (.ireturn, 1) → W p l e rmX8_alive s m args below meth c H locs 0 0 Q (F0 m pc ls [.int rrz]) := by
    intro rrz t_canBez t_pagesz t_workz he H locs pc ls hP hS hd
    cases he
    exact hret H locs pc ls hP hS hd
  unfold f_X8_alive at hf
  refine lv_iload_n hx hb dX8_alive_0 rfl (lv_at hl 1 rfl) ?_
  refine lv_i2l hx hb dX8_alive_1 rfl ?_
  refine lv_lconst (v := (0 : Int64)) hx hb dX8_alive_2 (by decide) ?_
  refine lv_ldc2 hx hb hown q267 dX8_alive_3 ?_
  obtain ⟨r_1, hc_2, hf⟩ := ob1_e hf
  refine kS_i (wn := [oX8 t_q t_state_q t_roomMany t_doorMany t_stringLong t_laws_q t_lawMany t_readPage_q t_readLaws_q t_readRooms t_readDoors t_readString t_readLawMany t_toldOnce t_highRoom t_highDoor t_tape_q t_taped t_fault t_broken t_brokenAt t_spot t_here t_token t_value t_cuts_q t_letters_q t_work_q t_pages_q t_canBe_q t_leadsOn_q t_seen_q t_seenMany t_heard_q t_heardMany t_isKept_q t_lanes_q t_lengths_q t_cells_q t_torn, aI g t_canBe_q 1400 t_canBe, aI g t_laws_q 18 t_laws, aI g t_pages_q 750 t_pages, aI g t_state_q 196 t_state, aI g t_work_q 30 t_work]) (As := [.long (p1.toInt64), .long (0 : Int64), .long (24 : Int64)]) (rest := []) (c_X8_in l g _ (p1.toInt64) (0 : Int64) (24 : Int64) r_1 hc_2) ⟨hx, hb, hml, hown, hts⟩ (va_cwS 3 hts gX8_alive_X8_in rfl rfl rfl (by decide +kernel) ⟨by decide, by decide⟩) hK hz hk hP (hD.re rfl) hS hA [] rfl rfl rfl rfl rfl hl.1 rfl (Nat.le_of_ble_eq_true rfl) dX8_alive_6 (fun H locs hP hS => ?_)
  refine lv_if_ne (tgt := 14) hx hb dX8_alive_9 (by decide) (fun c_3 => ?_) (fun c_3 => ?_)
  · have hf := ite_f hf c_3
    refine lv_aload_n hx hb dX8_alive_14 rfl (lv_at hl 0 rfl) ?_
    refine va_get (D := g.1) (ci := 8) (v := .ref t_state_q) (C := RX8) (T := TX8) (N := 39) hx hb hts inX8 hown hK hP 0 rfl rfl 0 (by decide) k7 (fun _ h9 => h9) rfl dX8_alive_15 ?_
    refine lv_bipush (v := (48 : Int32)) hx hb dX8_alive_18 (by decide) ?_
    obtain ⟨h_4, hf⟩ := gin_e hf
    refine va_iald hx hb hK hP 4 0 rfl rfl h_4 dX8_alive_20 ?_
    refine lv_iconst (v := (1 : Int32)) hx hb dX8_alive_21 (by decide) ?_
    refine lv_icmp_ne (tgt := 28) hx hb dX8_alive_22 (by decide) (fun c_5 => ?_) (fun c_5 => ?_)
    · have hf := ite_f hf c_5
      refine lv_aload_n hx hb dX8_alive_28 rfl (lv_at hl 0 rfl) ?_
      obtain ⟨t_canBe_6, t_pages_7, t_work_8, hc_9, hf⟩ := ob3_e hf
      refine kV_v (wn := [oX8 t_q t_state_q t_roomMany t_doorMany t_stringLong t_laws_q t_lawMany t_readPage_q t_readLaws_q t_readRooms t_readDoors t_readString t_readLawMany t_toldOnce t_highRoom t_highDoor t_tape_q t_taped t_fault t_broken t_brokenAt t_spot t_here t_token t_value t_cuts_q t_letters_q t_work_q t_pages_q t_canBe_q t_leadsOn_q t_seen_q t_seenMany t_heard_q t_heardMany t_isKept_q t_lanes_q t_lengths_q t_cells_q t_torn, aI g t_canBe_q 1400 t_canBe_6, aI g t_laws_q 18 t_laws, aI g t_pages_q 750 t_pages_7, aI g t_state_q 196 t_state, aI g t_work_q 30 t_work_8]) (As := []) (rest := []) (c_X8_layAlive l g _ t_q t_state_q t_laws_q t_readPage_q t_readLaws_q t_tape_q t_cuts_q t_letters_q t_work_q t_pages_q t_canBe_q t_leadsOn_q t_seen_q t_heard_q t_isKept_q t_lanes_q t_lengths_q t_cells_q t_roomMany t_doorMany t_stringLong t_lawMany t_readRooms t_readDoors t_readString t_readLawMany t_toldOnce t_highRoom t_highDoor t_taped t_fault t_broken t_brokenAt t_spot t_here t_token t_value t_seenMany t_heardMany t_torn t_canBe t_laws t_pages t_state t_work t_canBe_6 t_pages_7 t_work_8 hc_9) ⟨hx, hb, hml, hown, hts⟩ (cwV 0 hts gX8_alive_X8_layAlive rfl rfl rfl (by decide +kernel) ⟨by decide, by decide⟩) hK hz hk hP (hD.re rfl) hS hA [0, 1, 2, 3, 4, 5] rfl rfl rfl rfl rfl rfl rfl hl.1 rfl (Nat.le_of_ble_eq_true rfl) dX8_alive_29 (fun H locs hP hS => ?_)
      refine lv_iconst (v := (0 : Int32)) hx hb dX8_alive_32 (by decide) ?_
      refine lv_istore_n (lv' := [(2, .int (0 : Int32)), (0, .ref t_q), (1, .int p1)]) hx hb dX8_alive_33 rfl hl (by decide) rfl (fun ls hl => ?_)
      refine lv_iconst (v := (0 : Int32)) hx hb dX8_alive_34 (by decide) ?_
      refine lv_istore_n (lv' := [(3, .int (0 : Int32)), (2, .int (0 : Int32)), (0, .ref t_q), (1, .int p1)]) hx hb dX8_alive_35 rfl hl (by decide) rfl (fun ls hl => ?_)
      obtain ⟨x2_21, x3_22, ho_12, hf⟩ := ob2_e hf
      have K_12 : ∀ (x2_21y : Int32) (x3_22y : Int32), x2_21 = x2_21y → x3_22 = x3_22y → ∀ (H : Heap) (locs : List Loc) (ls : Array Slot), va_P g.1 vwCl [oX8 t_q t_state_q t_roomMany t_doorMany t_stringLong t_laws_q t_lawMany t_readPage_q t_readLaws_q t_readRooms t_readDoors t_readString t_readLawMany t_toldOnce t_highRoom t_highDoor t_tape_q t_taped t_fault t_broken t_brokenAt t_spot t_here t_token t_value t_cuts_q t_letters_q t_work_q t_pages_q t_canBe_q t_leadsOn_q t_seen_q t_seenMany t_heard_q t_heardMany t_isKept_q t_lanes_q t_lengths_q t_cells_q t_torn, aI g t_canBe_q 1400 t_canBe_6, aI g t_laws_q 18 t_laws, aI g t_pages_q 750 t_pages_7, aI g t_state_q 196 t_state, aI g t_work_q 30 t_work_8] H → va_S A s.heap H locs → lv_has ls 4 [(2, .int x2_21y)] → W p l e rmX8_alive s m args below meth c H locs 0 0 Q (F0 m 67 ls []) := by
        intro x2_21y x3_22y ey0 ey1 H locs ls hP hS hl
        subst ey0
        subst ey1
        refine lv_iload_n hx hb dX8_alive_67 rfl (lv_at hl 0 rfl) ?_
        exact hret x2_21 t_canBe_6 t_pages_7 t_work_8 (Option.some.inj hf) _ _ _ _ hP hS dX8_alive_68
      have L_12 : ∀ (n : Nat) (v2_10 : Int32) (v3_11 : Int32), itr (un2 (b_X8_alive_36 p1 t_canBe_6)) n (v2_10, v3_11) = some (x2_21, x3_22) → ∀ (H : Heap) (locs : List Loc) (ls : Array Slot), va_P g.1 vwCl [oX8 t_q t_state_q t_roomMany t_doorMany t_stringLong t_laws_q t_lawMany t_readPage_q t_readLaws_q t_readRooms t_readDoors t_readString t_readLawMany t_toldOnce t_highRoom t_highDoor t_tape_q t_taped t_fault t_broken t_brokenAt t_spot t_here t_token t_value t_cuts_q t_letters_q t_work_q t_pages_q t_canBe_q t_leadsOn_q t_seen_q t_seenMany t_heard_q t_heardMany t_isKept_q t_lanes_q t_lengths_q t_cells_q t_torn, aI g t_canBe_q 1400 t_canBe_6, aI g t_laws_q 18 t_laws, aI g t_pages_q 750 t_pages_7, aI g t_state_q 196 t_state, aI g t_work_q 30 t_work_8] H → va_S A s.heap H locs → lv_has ls 4 [(0, .ref t_q), (1, .int p1), (2, .int v2_10), (3, .int v3_11)] → W p l e rmX8_alive s m args below meth c H locs 0 0 Q (F0 m 36 ls []) := by
        refine itr_ind2 ?_
        intro v2_10 v3_11 z_12 hf hrec hex H locs ls hP hS hl
        unfold b_X8_alive_36 at hf
        refine lv_iload_n hx hb dX8_alive_36 rfl (lv_at hl 3 rfl) ?_
        refine lv_bipush (v := (7 : Int32)) hx hb dX8_alive_37 (by decide) ?_
        refine lv_icmp_ge (tgt := 67) hx hb dX8_alive_39 (by decide) (fun c_13 => ?_) (fun c_13 => ?_)
        · have hf := ite_t hf c_13
          exact K_12 v2_10 v3_11 (congrArg (fun t => t.1) (hex _ (Option.some.inj hf).symm).symm) (congrArg (fun t => t.2) (hex _ (Option.some.inj hf).symm).symm) _ _ _ hP hS (lv_sub hl [2] rfl)
        · have hf := ite_f hf c_13
          refine lv_iload_n hx hb dX8_alive_42 rfl (lv_at hl 2 rfl) ?_
          refine lv_aload_n hx hb dX8_alive_43 rfl (lv_at hl 0 rfl) ?_
          refine lv_iload_n hx hb dX8_alive_44 rfl (lv_at hl 1 rfl) ?_
          refine lv_iload_n hx hb dX8_alive_45 rfl (lv_at hl 3 rfl) ?_
          obtain ⟨r_14, hc_15, hf⟩ := ob1_e hf
          refine kV_i (wn := [oX8 t_q t_state_q t_roomMany t_doorMany t_stringLong t_laws_q t_lawMany t_readPage_q t_readLaws_q t_readRooms t_readDoors t_readString t_readLawMany t_toldOnce t_highRoom t_highDoor t_tape_q t_taped t_fault t_broken t_brokenAt t_spot t_here t_token t_value t_cuts_q t_letters_q t_work_q t_pages_q t_canBe_q t_leadsOn_q t_seen_q t_seenMany t_heard_q t_heardMany t_isKept_q t_lanes_q t_lengths_q t_cells_q t_torn, aI g t_canBe_q 1400 t_canBe_6, aI g t_laws_q 18 t_laws, aI g t_pages_q 750 t_pages_7, aI g t_state_q 196 t_state, aI g t_work_q 30 t_work_8]) (As := [.int p1, .int v3_11]) (rest := [.int v2_10]) (c_X8_isThere l g _ t_q t_state_q t_laws_q t_readPage_q t_readLaws_q t_tape_q t_cuts_q t_letters_q t_work_q t_pages_q t_canBe_q t_leadsOn_q t_seen_q t_heard_q t_isKept_q t_lanes_q t_lengths_q t_cells_q t_roomMany t_doorMany t_stringLong t_lawMany t_readRooms t_readDoors t_readString t_readLawMany t_toldOnce t_highRoom t_highDoor t_taped t_fault t_broken t_brokenAt t_spot t_here t_token t_value t_seenMany t_heardMany t_torn t_canBe_6 p1 v3_11 r_14 hc_15) ⟨hx, hb, hml, hown, hts⟩ (cwV 2 hts gX8_alive_X8_isThere rfl rfl rfl (by decide +kernel) ⟨by decide, by decide⟩) hK hz hk hP (hD.re rfl) hS hA [0, 1] rfl rfl rfl rfl rfl rfl rfl hl.1 rfl (Nat.le_of_ble_eq_true rfl) dX8_alive_46 (fun H locs hP hS => ?_)
          obtain ⟨j_17, hj_17, hf⟩ := jn1_e hf
          have J_17 : ∀ (s_16 : Int32), j_17 s_16 = some z_12 → ∀ (H : Heap) (locs : List Loc) (ls : Array Slot), va_P g.1 vwCl [oX8 t_q t_state_q t_roomMany t_doorMany t_stringLong t_laws_q t_lawMany t_readPage_q t_readLaws_q t_readRooms t_readDoors t_readString t_readLawMany t_toldOnce t_highRoom t_highDoor t_tape_q t_taped t_fault t_broken t_brokenAt t_spot t_here t_token t_value t_cuts_q t_letters_q t_work_q t_pages_q t_canBe_q t_leadsOn_q t_seen_q t_seenMany t_heard_q t_heardMany t_isKept_q t_lanes_q t_lengths_q t_cells_q t_torn, aI g t_canBe_q 1400 t_canBe_6, aI g t_laws_q 18 t_laws, aI g t_pages_q 750 t_pages_7, aI g t_state_q 196 t_state, aI g t_work_q 30 t_work_8] H → va_S A s.heap H locs → lv_has ls 4 [(0, .ref t_q), (1, .int p1), (3, .int v3_11)] → W p l e rmX8_alive s m args below meth c H locs 0 0 Q (F0 m 59 ls [.int s_16, .int v2_10]) := by
            intro s_16 hf H locs ls hP hS hl
            rw [hj_17] at hf
            refine lv_ior hx hb dX8_alive_59 ?_
            obtain ⟨v2_18, ev2_18, hf⟩ := bnd_e hf
            refine tp_i ev2_18 ?_
            refine lv_istore_n (lv' := [(2, .int v2_18), (0, .ref t_q), (1, .int p1), (3, .int v3_11)]) hx hb dX8_alive_60 rfl hl (by decide) rfl (fun ls hl => ?_)
            obtain ⟨v3_19, ev3_19, hf⟩ := bnd_e hf
            refine lv_iinc (v := v3_19) (lv' := [(3, .int v3_19), (2, .int v2_18), (0, .ref t_q), (1, .int p1)]) hx hb dX8_alive_61 hl (k := 3) rfl (by rw [ev3_19]; rfl) (by decide) rfl (fun ls hl => ?_)
            refine lv_goto (tgt := 36) hx hb dX8_alive_64 (by decide) ?_
            exact hrec v2_18 v3_19 (Option.some.inj hf).symm _ _ _ hP hS (lv_sub hl [2, 3, 1, 0] rfl)
          refine lv_if_eq (tgt := 58) hx hb dX8_alive_49 (by decide) (fun c_20 => ?_) (fun c_20 => ?_)
          · have hf := ite_t hf c_20
            refine lv_iconst (v := (0 : Int32)) hx hb dX8_alive_58 (by decide) ?_
            exact J_17 (0 : Int32) hf _ _ _ hP hS (lv_sub hl [0, 1, 3] rfl)
          · have hf := ite_f hf c_20
            refine lv_iconst (v := (1 : Int32)) hx hb dX8_alive_52 (by decide) ?_
            refine lv_iload_n hx hb dX8_alive_53 rfl (lv_at hl 3 rfl) ?_
            refine lv_ishl hx hb dX8_alive_54 ?_
            refine lv_goto (tgt := 59) hx hb dX8_alive_55 (by decide) ?_
            exact J_17 ((1 : Int32) <<< (v3_11 &&& 31)) hf _ _ _ hP hS (lv_sub hl [0, 1, 3] rfl)
      exact L_12 FU (0 : Int32) (0 : Int32) ho_12 _ _ _ hP hS (lv_sub hl [2, 3, 1, 0] rfl)
    · have hf := ite_t hf c_5
      refine lv_bipush (v := (-2 : Int32)) hx hb dX8_alive_25 (by decide) ?_
      exact hret (-2 : Int32) t_canBe t_pages t_work (Option.some.inj hf) _ _ _ _ hP hS dX8_alive_27
  · have hf := ite_t hf c_3
    refine lv_iconst (v := (-1 : Int32)) hx hb dX8_alive_12 (by decide) ?_
    exact hret (-1 : Int32) t_canBe t_pages t_work (Option.some.inj hf) _ _ _ _ hP hS dX8_alive_13

def b_X8_copies_2 (p1 : Int32) (p2 : Int32) (v3_1 : Int32) (t_state_2 : Nat → Int32) : Option ((Int32 × (Nat → Int32)) ⊕ (Int32 × (Nat → Int32))) :=
 (if (49 : Int32) ≤ v3_1 then
 (some (.inr (v3_1, t_state_2)))
 else (gin (p1 + v3_1) 196 (gin (p2 + v3_1) 196 (bnd (upd t_state_2 (p2 + v3_1).toNatClampNeg (t_state_2 (p1 + v3_1).toNatClampNeg)) (fun t_state_7 =>
 (bnd (v3_1 + (1 : Int32)) (fun v3_8 =>
 (some (.inl (v3_8, t_state_7))))))))))
def f_X8_copies (t_state : Nat → Int32) (p1 : Int32) (p2 : Int32) : Option ((Nat → Int32)) :=
 (ob2 (itr (un2 (b_X8_copies_2 p1 p2)) FU ((0 : Int32), t_state)) (fun x3_9 t_state_10 =>
 (some t_state_10)))
abbrev rmX8_copies : Room := { frames := 0, cells := 0, slots := 0, locals := 0 }
set_option maxHeartbeats 4000000 in
set_option maxRecDepth 100000 in
theorem c_X8_copies (l : Launch) (g : Gh) (sz : Nat) (t_q t_state_q t_laws_q t_readPage_q t_readLaws_q t_tape_q t_cuts_q t_letters_q t_work_q t_pages_q t_canBe_q t_leadsOn_q t_seen_q t_heard_q t_isKept_q t_lanes_q t_lengths_q t_cells_q : Nat) (t_roomMany : Int32) (t_doorMany : Int32) (t_stringLong : Int32) (t_lawMany : Int32) (t_readRooms : Int32) (t_readDoors : Int32) (t_readString : Int32) (t_readLawMany : Int32) (t_toldOnce : Int32) (t_highRoom : Int32) (t_highDoor : Int32) (t_taped : Int32) (t_fault : Int32) (t_broken : Int32) (t_brokenAt : Int32) (t_spot : Int32) (t_here : Int32) (t_token : Int32) (t_value : Int32) (t_seenMany : Int32) (t_heardMany : Int32) (t_torn : Int32) (t_state : Nat → Int32) (p1 : Int32) (p2 : Int32) (t_state' : Nat → Int32) (hf : f_X8_copies t_state p1 p2 = some t_state') : CV l yX8_copies wsX8_copies rmX8_copies [.ref t_q, .int p1, .int p2] g sz [oX8 t_q t_state_q t_roomMany t_doorMany t_stringLong t_laws_q t_lawMany t_readPage_q t_readLaws_q t_readRooms t_readDoors t_readString t_readLawMany t_toldOnce t_highRoom t_highDoor t_tape_q t_taped t_fault t_broken t_brokenAt t_spot t_here t_token t_value t_cuts_q t_letters_q t_work_q t_pages_q t_canBe_q t_leadsOn_q t_seen_q t_seenMany t_heard_q t_heardMany t_isKept_q t_lanes_q t_lengths_q t_cells_q t_torn, aI g t_state_q 196 t_state] [oX8 t_q t_state_q t_roomMany t_doorMany t_stringLong t_laws_q t_lawMany t_readPage_q t_readLaws_q t_readRooms t_readDoors t_readString t_readLawMany t_toldOnce t_highRoom t_highDoor t_tape_q t_taped t_fault t_broken t_brokenAt t_spot t_here t_token t_value t_cuts_q t_letters_q t_work_q t_pages_q t_canBe_q t_leadsOn_q t_seen_q t_seenMany t_heard_q t_heardMany t_isKept_q t_lanes_q t_lengths_q t_cells_q t_torn, aI g t_state_q 196 t_state'] := by
  refine ent_v (cc := cX8_copies) (maxL := 4) (by decide) rfl (Nat.le_of_ble_eq_true rfl) ?_
  intro p e s m args below meth c A Q hx hb hml hown hts hK hz hk hA hD hP hS hret ls hl
  have hown : s.vm.findClass RX8 = some m.cls := hown
  have inX8 : ∀ w ∈ u_ws RX8 TX8 39, w ∈ wsX8_copies := by decide +kernel
  have k7 := hts (.fieldLink RX8 7 "ThreadMovedModel" "state" "[I") (by decide +kernel)
  have hl : lv_has ls 4 [(0, .ref t_q), (1, .int p1), (2, .int p2)] := hl
  have hret : ∀ (t_statez : Nat → Int32), t_statez = t_state' → ∀ (H : Heap) (locs : List Loc) (pc : Nat) (ls : Array Slot), va_P g.1 vwCl [oX8 t_q t_state_q t_roomMany t_doorMany t_stringLong t_laws_q t_lawMany t_readPage_q t_readLaws_q t_readRooms t_readDoors t_readString t_readLawMany t_toldOnce t_highRoom t_highDoor t_tape_q t_taped t_fault t_broken t_brokenAt t_spot t_here t_token t_value t_cuts_q t_letters_q t_work_q t_pages_q t_canBe_q t_leadsOn_q t_seen_q t_seenMany t_heard_q t_heardMany t_isKept_q t_lanes_q t_lengths_q t_cells_q t_torn, aI g t_state_q 196 t_statez] H → va_S A s.heap H locs → decode cX8_copies pc = .ok (.return_, 1) → W p l e rmX8_copies s m args below meth c H locs 0 0 Q (F0 m pc ls []) := by
    intro t_statez he H locs pc ls hP hS hd
    cases he
    exact hret H locs pc ls hP hS hd
  unfold f_X8_copies at hf
  refine lv_iconst (v := (0 : Int32)) hx hb dX8_copies_0 (by decide) ?_
  refine lv_istore_n (lv' := [(3, .int (0 : Int32)), (0, .ref t_q), (1, .int p1), (2, .int p2)]) hx hb dX8_copies_1 rfl hl (by decide) rfl (fun ls hl => ?_)
  obtain ⟨x3_9, t_state_10, ho_3, hf⟩ := ob2_e hf
  have K_3 : ∀ (x3_9y : Int32) (t_state_10y : Nat → Int32), x3_9 = x3_9y → t_state_10 = t_state_10y → ∀ (H : Heap) (locs : List Loc) (ls : Array Slot), va_P g.1 vwCl [oX8 t_q t_state_q t_roomMany t_doorMany t_stringLong t_laws_q t_lawMany t_readPage_q t_readLaws_q t_readRooms t_readDoors t_readString t_readLawMany t_toldOnce t_highRoom t_highDoor t_tape_q t_taped t_fault t_broken t_brokenAt t_spot t_here t_token t_value t_cuts_q t_letters_q t_work_q t_pages_q t_canBe_q t_leadsOn_q t_seen_q t_seenMany t_heard_q t_heardMany t_isKept_q t_lanes_q t_lengths_q t_cells_q t_torn, aI g t_state_q 196 t_state_10y] H → va_S A s.heap H locs → lv_has ls 4 [] → W p l e rmX8_copies s m args below meth c H locs 0 0 Q (F0 m 30 ls []) := by
    intro x3_9y t_state_10y ey0 ey1 H locs ls hP hS hl
    subst ey0
    subst ey1
    exact hret t_state_10 (Option.some.inj hf) _ _ _ _ hP hS dX8_copies_30
  have L_3 : ∀ (n : Nat) (v3_1 : Int32) (t_state_2 : Nat → Int32), itr (un2 (b_X8_copies_2 p1 p2)) n (v3_1, t_state_2) = some (x3_9, t_state_10) → ∀ (H : Heap) (locs : List Loc) (ls : Array Slot), va_P g.1 vwCl [oX8 t_q t_state_q t_roomMany t_doorMany t_stringLong t_laws_q t_lawMany t_readPage_q t_readLaws_q t_readRooms t_readDoors t_readString t_readLawMany t_toldOnce t_highRoom t_highDoor t_tape_q t_taped t_fault t_broken t_brokenAt t_spot t_here t_token t_value t_cuts_q t_letters_q t_work_q t_pages_q t_canBe_q t_leadsOn_q t_seen_q t_seenMany t_heard_q t_heardMany t_isKept_q t_lanes_q t_lengths_q t_cells_q t_torn, aI g t_state_q 196 t_state_2] H → va_S A s.heap H locs → lv_has ls 4 [(0, .ref t_q), (1, .int p1), (2, .int p2), (3, .int v3_1)] → W p l e rmX8_copies s m args below meth c H locs 0 0 Q (F0 m 2 ls []) := by
    refine itr_ind2 ?_
    intro v3_1 t_state_2 z_3 hf hrec hex H locs ls hP hS hl
    unfold b_X8_copies_2 at hf
    refine lv_iload_n hx hb dX8_copies_2 rfl (lv_at hl 3 rfl) ?_
    refine lv_bipush (v := (49 : Int32)) hx hb dX8_copies_3 (by decide) ?_
    refine lv_icmp_ge (tgt := 30) hx hb dX8_copies_5 (by decide) (fun c_4 => ?_) (fun c_4 => ?_)
    · have hf := ite_t hf c_4
      exact K_3 v3_1 t_state_2 (congrArg (fun t => t.1) (hex _ (Option.some.inj hf).symm).symm) (congrArg (fun t => t.2) (hex _ (Option.some.inj hf).symm).symm) _ _ _ hP hS (lv_sub hl [] rfl)
    · have hf := ite_f hf c_4
      refine lv_aload_n hx hb dX8_copies_8 rfl (lv_at hl 0 rfl) ?_
      refine va_get (D := g.1) (ci := 8) (v := .ref t_state_q) (C := RX8) (T := TX8) (N := 39) hx hb hts inX8 hown hK hP 0 rfl rfl 0 (by decide) k7 (fun _ h9 => h9) rfl dX8_copies_9 ?_
      refine lv_iload_n hx hb dX8_copies_12 rfl (lv_at hl 2 rfl) ?_
      refine lv_iload_n hx hb dX8_copies_13 rfl (lv_at hl 3 rfl) ?_
      refine lv_iadd hx hb dX8_copies_14 ?_
      refine lv_aload_n hx hb dX8_copies_15 rfl (lv_at hl 0 rfl) ?_
      refine va_get (D := g.1) (ci := 8) (v := .ref t_state_q) (C := RX8) (T := TX8) (N := 39) hx hb hts inX8 hown hK hP 0 rfl rfl 0 (by decide) k7 (fun _ h9 => h9) rfl dX8_copies_16 ?_
      refine lv_iload_n hx hb dX8_copies_19 rfl (lv_at hl 1 rfl) ?_
      refine lv_iload_n hx hb dX8_copies_20 rfl (lv_at hl 3 rfl) ?_
      refine lv_iadd hx hb dX8_copies_21 ?_
      obtain ⟨h_5, hf⟩ := gin_e hf
      refine va_iald hx hb hK hP 1 0 rfl rfl h_5 dX8_copies_22 ?_
      obtain ⟨h_6, hf⟩ := gin_e hf
      obtain ⟨t_state_7, et_state_7, hf⟩ := bnd_e hf
      refine va_iast hx hb hK hP (hD.re rfl) hS 1 0 rfl rfl h_6 dX8_copies_23 (fun H locs hP _ hS => ?_)
      have hP : va_P g.1 vwCl [oX8 t_q t_state_q t_roomMany t_doorMany t_stringLong t_laws_q t_lawMany t_readPage_q t_readLaws_q t_readRooms t_readDoors t_readString t_readLawMany t_toldOnce t_highRoom t_highDoor t_tape_q t_taped t_fault t_broken t_brokenAt t_spot t_here t_token t_value t_cuts_q t_letters_q t_work_q t_pages_q t_canBe_q t_leadsOn_q t_seen_q t_seenMany t_heard_q t_heardMany t_isKept_q t_lanes_q t_lengths_q t_cells_q t_torn, aI g t_state_q 196 t_state_7] H := by rw [et_state_7]; exact hP
      obtain ⟨v3_8, ev3_8, hf⟩ := bnd_e hf
      refine lv_iinc (v := v3_8) (lv' := [(3, .int v3_8), (0, .ref t_q), (1, .int p1), (2, .int p2)]) hx hb dX8_copies_24 hl (k := 3) rfl (by rw [ev3_8]; rfl) (by decide) rfl (fun ls hl => ?_)
      refine lv_goto (tgt := 2) hx hb dX8_copies_27 (by decide) ?_
      exact hrec v3_8 t_state_7 (Option.some.inj hf).symm _ _ _ hP hS (lv_sub hl [1, 2, 3, 0] rfl)
  exact L_3 FU (0 : Int32) t_state ho_3 _ _ _ hP hS (lv_sub hl [1, 2, 3, 0] rfl)

def f_X8_back (t_isKept : Nat → Int32) (t_state : Nat → Int32) (p1 : Int32) : Option (Int32 × (Nat → Int32)) :=
 (ob1 (f_X8_in (p1.toInt64) (0 : Int64) (1 : Int64)) (fun r_1 =>
 (if r_1 = (0 : Int32) then
 (some ((-1 : Int32), t_state))
 else (gin p1 2 (if (t_isKept p1.toNatClampNeg) = (0 : Int32) then
 (some ((-2 : Int32), t_state))
 else (ob1 (f_X8_copies t_state ((49 : Int32) * (p1 + (1 : Int32))) (0 : Int32)) (fun t_state_6 =>
 (gin (47 : Int32) 196 (some ((t_state_6 (47 : Int32).toNatClampNeg), t_state_6))))))))))
abbrev rmX8_back : Room := { frames := 1, cells := 0, slots := 0, locals := 25 }
set_option maxHeartbeats 4000000 in
set_option maxRecDepth 100000 in
theorem c_X8_back (l : Launch) (g : Gh) (sz : Nat) (t_q t_state_q t_laws_q t_readPage_q t_readLaws_q t_tape_q t_cuts_q t_letters_q t_work_q t_pages_q t_canBe_q t_leadsOn_q t_seen_q t_heard_q t_isKept_q t_lanes_q t_lengths_q t_cells_q : Nat) (t_roomMany : Int32) (t_doorMany : Int32) (t_stringLong : Int32) (t_lawMany : Int32) (t_readRooms : Int32) (t_readDoors : Int32) (t_readString : Int32) (t_readLawMany : Int32) (t_toldOnce : Int32) (t_highRoom : Int32) (t_highDoor : Int32) (t_taped : Int32) (t_fault : Int32) (t_broken : Int32) (t_brokenAt : Int32) (t_spot : Int32) (t_here : Int32) (t_token : Int32) (t_value : Int32) (t_seenMany : Int32) (t_heardMany : Int32) (t_torn : Int32) (t_isKept : Nat → Int32) (t_state : Nat → Int32) (p1 : Int32) (rr : Int32) (t_state' : Nat → Int32) (hf : f_X8_back t_isKept t_state p1 = some (rr, t_state')) : CI l yX8_back wsX8_back rmX8_back [.ref t_q, .int p1] g sz [oX8 t_q t_state_q t_roomMany t_doorMany t_stringLong t_laws_q t_lawMany t_readPage_q t_readLaws_q t_readRooms t_readDoors t_readString t_readLawMany t_toldOnce t_highRoom t_highDoor t_tape_q t_taped t_fault t_broken t_brokenAt t_spot t_here t_token t_value t_cuts_q t_letters_q t_work_q t_pages_q t_canBe_q t_leadsOn_q t_seen_q t_seenMany t_heard_q t_heardMany t_isKept_q t_lanes_q t_lengths_q t_cells_q t_torn, aZ g t_isKept_q 2 t_isKept, aI g t_state_q 196 t_state] [oX8 t_q t_state_q t_roomMany t_doorMany t_stringLong t_laws_q t_lawMany t_readPage_q t_readLaws_q t_readRooms t_readDoors t_readString t_readLawMany t_toldOnce t_highRoom t_highDoor t_tape_q t_taped t_fault t_broken t_brokenAt t_spot t_here t_token t_value t_cuts_q t_letters_q t_work_q t_pages_q t_canBe_q t_leadsOn_q t_seen_q t_seenMany t_heard_q t_heardMany t_isKept_q t_lanes_q t_lengths_q t_cells_q t_torn, aZ g t_isKept_q 2 t_isKept, aI g t_state_q 196 t_state'] rr := by
  refine ent_i (cc := cX8_back) (maxL := 2) (by decide) rfl (Nat.le_of_ble_eq_true rfl) ?_
  intro p e s m args below meth c A Q hx hb hml hown hts hK hz hk hA hD hP hS hret ls hl
  have hown : s.vm.findClass RX8 = some m.cls := hown
  have inX8 : ∀ w ∈ u_ws RX8 TX8 39, w ∈ wsX8_back := by decide +kernel
  have k7 := hts (.fieldLink RX8 7 "ThreadMovedModel" "state" "[I") (by decide +kernel)
  have k56 := hts (.fieldLink RX8 56 "ThreadMovedModel" "isKept" "[Z") (by decide +kernel)
  have hl : lv_has ls 2 [(0, .ref t_q), (1, .int p1)] := hl
  have hret : ∀ (rrz : Int32) (t_statez : Nat → Int32), (rrz, t_statez) = (rr, t_state') → ∀ (H : Heap) (locs : List Loc) (pc : Nat) (ls : Array Slot), va_P g.1 vwCl [oX8 t_q t_state_q t_roomMany t_doorMany t_stringLong t_laws_q t_lawMany t_readPage_q t_readLaws_q t_readRooms t_readDoors t_readString t_readLawMany t_toldOnce t_highRoom t_highDoor t_tape_q t_taped t_fault t_broken t_brokenAt t_spot t_here t_token t_value t_cuts_q t_letters_q t_work_q t_pages_q t_canBe_q t_leadsOn_q t_seen_q t_seenMany t_heard_q t_heardMany t_isKept_q t_lanes_q t_lengths_q t_cells_q t_torn, aZ g t_isKept_q 2 t_isKept, aI g t_state_q 196 t_statez] H → va_S A s.heap H locs → decode cX8_back pc = .ok (.ireturn, 1) → W p l e rmX8_back s m args below meth c H locs 0 0 Q (F0 m pc ls [.int rrz]) := by
    intro rrz t_statez he H locs pc ls hP hS hd
    cases he
    exact hret H locs pc ls hP hS hd
  unfold f_X8_back at hf
  refine lv_iload_n hx hb dX8_back_0 rfl (lv_at hl 1 rfl) ?_
  refine lv_i2l hx hb dX8_back_1 rfl ?_
  refine lv_lconst (v := (0 : Int64)) hx hb dX8_back_2 (by decide) ?_
  refine lv_lconst (v := (1 : Int64)) hx hb dX8_back_3 (by decide) ?_
  obtain ⟨r_1, hc_2, hf⟩ := ob1_e hf
  refine kS_i (wn := [oX8 t_q t_state_q t_roomMany t_doorMany t_stringLong t_laws_q t_lawMany t_readPage_q t_readLaws_q t_readRooms t_readDoors t_readString t_readLawMany t_toldOnce t_highRoom t_highDoor t_tape_q t_taped t_fault t_broken t_brokenAt t_spot t_here t_token t_value t_cuts_q t_letters_q t_work_q t_pages_q t_canBe_q t_leadsOn_q t_seen_q t_seenMany t_heard_q t_heardMany t_isKept_q t_lanes_q t_lengths_q t_cells_q t_torn, aZ g t_isKept_q 2 t_isKept, aI g t_state_q 196 t_state]) (As := [.long (p1.toInt64), .long (0 : Int64), .long (1 : Int64)]) (rest := []) (c_X8_in l g _ (p1.toInt64) (0 : Int64) (1 : Int64) r_1 hc_2) ⟨hx, hb, hml, hown, hts⟩ (va_cwS 3 hts gX8_back_X8_in rfl rfl rfl (by decide +kernel) ⟨by decide, by decide⟩) hK hz hk hP (hD.re rfl) hS hA [] rfl rfl rfl rfl rfl hl.1 rfl (Nat.le_of_ble_eq_true rfl) dX8_back_4 (fun H locs hP hS => ?_)
  refine lv_if_ne (tgt := 12) hx hb dX8_back_7 (by decide) (fun c_3 => ?_) (fun c_3 => ?_)
  · have hf := ite_f hf c_3
    refine lv_aload_n hx hb dX8_back_12 rfl (lv_at hl 0 rfl) ?_
    refine va_get (D := g.1) (ci := 8) (v := .ref t_isKept_q) (C := RX8) (T := TX8) (N := 39) hx hb hts inX8 hown hK hP 0 rfl rfl 34 (by decide) k56 (fun _ h9 => h9) rfl dX8_back_13 ?_
    refine lv_iload_n hx hb dX8_back_16 rfl (lv_at hl 1 rfl) ?_
    obtain ⟨h_4, hf⟩ := gin_e hf
    refine va_zald hx hb hK hP 1 2 rfl rfl h_4 dX8_back_17 ?_
    refine lv_if_ne (tgt := 24) hx hb dX8_back_18 (by decide) (fun c_5 => ?_) (fun c_5 => ?_)
    · have hf := ite_f hf c_5
      refine lv_aload_n hx hb dX8_back_24 rfl (lv_at hl 0 rfl) ?_
      refine lv_bipush (v := (49 : Int32)) hx hb dX8_back_25 (by decide) ?_
      refine lv_iload_n hx hb dX8_back_27 rfl (lv_at hl 1 rfl) ?_
      refine lv_iconst (v := (1 : Int32)) hx hb dX8_back_28 (by decide) ?_
      refine lv_iadd hx hb dX8_back_29 ?_
      refine lv_imul hx hb dX8_back_30 ?_
      refine lv_iconst (v := (0 : Int32)) hx hb dX8_back_31 (by decide) ?_
      obtain ⟨t_state_6, hc_7, hf⟩ := ob1_e hf
      refine kV_v (wn := [oX8 t_q t_state_q t_roomMany t_doorMany t_stringLong t_laws_q t_lawMany t_readPage_q t_readLaws_q t_readRooms t_readDoors t_readString t_readLawMany t_toldOnce t_highRoom t_highDoor t_tape_q t_taped t_fault t_broken t_brokenAt t_spot t_here t_token t_value t_cuts_q t_letters_q t_work_q t_pages_q t_canBe_q t_leadsOn_q t_seen_q t_seenMany t_heard_q t_heardMany t_isKept_q t_lanes_q t_lengths_q t_cells_q t_torn, aZ g t_isKept_q 2 t_isKept, aI g t_state_q 196 t_state_6]) (As := [.int ((49 : Int32) * (p1 + (1 : Int32))), .int (0 : Int32)]) (rest := []) (c_X8_copies l g _ t_q t_state_q t_laws_q t_readPage_q t_readLaws_q t_tape_q t_cuts_q t_letters_q t_work_q t_pages_q t_canBe_q t_leadsOn_q t_seen_q t_heard_q t_isKept_q t_lanes_q t_lengths_q t_cells_q t_roomMany t_doorMany t_stringLong t_lawMany t_readRooms t_readDoors t_readString t_readLawMany t_toldOnce t_highRoom t_highDoor t_taped t_fault t_broken t_brokenAt t_spot t_here t_token t_value t_seenMany t_heardMany t_torn t_state ((49 : Int32) * (p1 + (1 : Int32))) (0 : Int32) t_state_6 hc_7) ⟨hx, hb, hml, hown, hts⟩ (cwV 2 hts gX8_back_X8_copies rfl rfl rfl (by decide +kernel) ⟨by decide, by decide⟩) hK hz hk hP (hD.re rfl) hS hA [0, 2] rfl rfl rfl rfl rfl rfl rfl hl.1 rfl (Nat.le_of_ble_eq_true rfl) dX8_back_32 (fun H locs hP hS => ?_)
      refine lv_aload_n hx hb dX8_back_35 rfl (lv_at hl 0 rfl) ?_
      refine va_get (D := g.1) (ci := 8) (v := .ref t_state_q) (C := RX8) (T := TX8) (N := 39) hx hb hts inX8 hown hK hP 0 rfl rfl 0 (by decide) k7 (fun _ h9 => h9) rfl dX8_back_36 ?_
      refine lv_bipush (v := (47 : Int32)) hx hb dX8_back_39 (by decide) ?_
      obtain ⟨h_8, hf⟩ := gin_e hf
      refine va_iald hx hb hK hP 2 0 rfl rfl h_8 dX8_back_41 ?_
      exact hret (t_state_6 (47 : Int32).toNatClampNeg) t_state_6 (Option.some.inj hf) _ _ _ _ hP hS dX8_back_42
    · have hf := ite_t hf c_5
      refine lv_bipush (v := (-2 : Int32)) hx hb dX8_back_21 (by decide) ?_
      exact hret (-2 : Int32) t_state (Option.some.inj hf) _ _ _ _ hP hS dX8_back_23
  · have hf := ite_t hf c_3
    refine lv_iconst (v := (-1 : Int32)) hx hb dX8_back_10 (by decide) ?_
    exact hret (-1 : Int32) t_state (Option.some.inj hf) _ _ _ _ hP hS dX8_back_11

def f_X8_sets (t_state : Nat → Int32) (p1 : Int32) (p2 : Int32) (p3 : Int32) : Option (Int32 × (Nat → Int32)) :=
 (if p1 = (0 : Int32) then
 (some ((-1 : Int32), t_state))
 else (gin p2 196 (bnd (t_state p2.toNatClampNeg) (fun v4_3 =>
 (gin p2 196 (bnd (upd t_state p2.toNatClampNeg p3) (fun t_state_5 =>
 (some (v4_3, t_state_5)))))))))
abbrev rmX8_sets : Room := { frames := 0, cells := 0, slots := 0, locals := 0 }
set_option maxHeartbeats 4000000 in
set_option maxRecDepth 100000 in
theorem c_X8_sets (l : Launch) (g : Gh) (sz : Nat) (t_q t_state_q t_laws_q t_readPage_q t_readLaws_q t_tape_q t_cuts_q t_letters_q t_work_q t_pages_q t_canBe_q t_leadsOn_q t_seen_q t_heard_q t_isKept_q t_lanes_q t_lengths_q t_cells_q : Nat) (t_roomMany : Int32) (t_doorMany : Int32) (t_stringLong : Int32) (t_lawMany : Int32) (t_readRooms : Int32) (t_readDoors : Int32) (t_readString : Int32) (t_readLawMany : Int32) (t_toldOnce : Int32) (t_highRoom : Int32) (t_highDoor : Int32) (t_taped : Int32) (t_fault : Int32) (t_broken : Int32) (t_brokenAt : Int32) (t_spot : Int32) (t_here : Int32) (t_token : Int32) (t_value : Int32) (t_seenMany : Int32) (t_heardMany : Int32) (t_torn : Int32) (t_state : Nat → Int32) (p1 : Int32) (p2 : Int32) (p3 : Int32) (rr : Int32) (t_state' : Nat → Int32) (hf : f_X8_sets t_state p1 p2 p3 = some (rr, t_state')) : CI l yX8_sets wsX8_sets rmX8_sets [.ref t_q, .int p1, .int p2, .int p3] g sz [oX8 t_q t_state_q t_roomMany t_doorMany t_stringLong t_laws_q t_lawMany t_readPage_q t_readLaws_q t_readRooms t_readDoors t_readString t_readLawMany t_toldOnce t_highRoom t_highDoor t_tape_q t_taped t_fault t_broken t_brokenAt t_spot t_here t_token t_value t_cuts_q t_letters_q t_work_q t_pages_q t_canBe_q t_leadsOn_q t_seen_q t_seenMany t_heard_q t_heardMany t_isKept_q t_lanes_q t_lengths_q t_cells_q t_torn, aI g t_state_q 196 t_state] [oX8 t_q t_state_q t_roomMany t_doorMany t_stringLong t_laws_q t_lawMany t_readPage_q t_readLaws_q t_readRooms t_readDoors t_readString t_readLawMany t_toldOnce t_highRoom t_highDoor t_tape_q t_taped t_fault t_broken t_brokenAt t_spot t_here t_token t_value t_cuts_q t_letters_q t_work_q t_pages_q t_canBe_q t_leadsOn_q t_seen_q t_seenMany t_heard_q t_heardMany t_isKept_q t_lanes_q t_lengths_q t_cells_q t_torn, aI g t_state_q 196 t_state'] rr := by
  refine ent_i (cc := cX8_sets) (maxL := 5) (by decide) rfl (Nat.le_of_ble_eq_true rfl) ?_
  intro p e s m args below meth c A Q hx hb hml hown hts hK hz hk hA hD hP hS hret ls hl
  have hown : s.vm.findClass RX8 = some m.cls := hown
  have inX8 : ∀ w ∈ u_ws RX8 TX8 39, w ∈ wsX8_sets := by decide +kernel
  have k7 := hts (.fieldLink RX8 7 "ThreadMovedModel" "state" "[I") (by decide +kernel)
  have hl : lv_has ls 5 [(0, .ref t_q), (1, .int p1), (2, .int p2), (3, .int p3)] := hl
  have hret : ∀ (rrz : Int32) (t_statez : Nat → Int32), (rrz, t_statez) = (rr, t_state') → ∀ (H : Heap) (locs : List Loc) (pc : Nat) (ls : Array Slot), va_P g.1 vwCl [oX8 t_q t_state_q t_roomMany t_doorMany t_stringLong t_laws_q t_lawMany t_readPage_q t_readLaws_q t_readRooms t_readDoors t_readString t_readLawMany t_toldOnce t_highRoom t_highDoor t_tape_q t_taped t_fault t_broken t_brokenAt t_spot t_here t_token t_value t_cuts_q t_letters_q t_work_q t_pages_q t_canBe_q t_leadsOn_q t_seen_q t_seenMany t_heard_q t_heardMany t_isKept_q t_lanes_q t_lengths_q t_cells_q t_torn, aI g t_state_q 196 t_statez] H → va_S A s.heap H locs → decode cX8_sets pc = .ok (.ireturn, 1) → W p l e rmX8_sets s m args below meth c H locs 0 0 Q (F0 m pc ls [.int rrz]) := by
    intro rrz t_statez he H locs pc ls hP hS hd
    cases he
    exact hret H locs pc ls hP hS hd
  unfold f_X8_sets at hf
  refine lv_iload_n hx hb dX8_sets_0 rfl (lv_at hl 1 rfl) ?_
  refine lv_if_ne (tgt := 6) hx hb dX8_sets_1 (by decide) (fun c_1 => ?_) (fun c_1 => ?_)
  · have hf := ite_f hf c_1
    refine lv_aload_n hx hb dX8_sets_6 rfl (lv_at hl 0 rfl) ?_
    refine va_get (D := g.1) (ci := 8) (v := .ref t_state_q) (C := RX8) (T := TX8) (N := 39) hx hb hts inX8 hown hK hP 0 rfl rfl 0 (by decide) k7 (fun _ h9 => h9) rfl dX8_sets_7 ?_
    refine lv_iload_n hx hb dX8_sets_10 rfl (lv_at hl 2 rfl) ?_
    obtain ⟨h_2, hf⟩ := gin_e hf
    refine va_iald hx hb hK hP 1 0 rfl rfl h_2 dX8_sets_11 ?_
    obtain ⟨v4_3, ev4_3, hf⟩ := bnd_e hf
    refine tp_i ev4_3 ?_
    refine lv_istore (lv' := [(4, .int v4_3), (0, .ref t_q), (1, .int p1), (2, .int p2), (3, .int p3)]) hx hb dX8_sets_12 hl (by decide) rfl (fun ls hl => ?_)
    refine lv_aload_n hx hb dX8_sets_14 rfl (lv_at hl 1 rfl) ?_
    refine va_get (D := g.1) (ci := 8) (v := .ref t_state_q) (C := RX8) (T := TX8) (N := 39) hx hb hts inX8 hown hK hP 0 rfl rfl 0 (by decide) k7 (fun _ h9 => h9) rfl dX8_sets_15 ?_
    refine lv_iload_n hx hb dX8_sets_18 rfl (lv_at hl 3 rfl) ?_
    refine lv_iload_n hx hb dX8_sets_19 rfl (lv_at hl 4 rfl) ?_
    obtain ⟨h_4, hf⟩ := gin_e hf
    obtain ⟨t_state_5, et_state_5, hf⟩ := bnd_e hf
    refine va_iast hx hb hK hP (hD.re rfl) hS 1 0 rfl rfl h_4 dX8_sets_20 (fun H locs hP _ hS => ?_)
    have hP : va_P g.1 vwCl [oX8 t_q t_state_q t_roomMany t_doorMany t_stringLong t_laws_q t_lawMany t_readPage_q t_readLaws_q t_readRooms t_readDoors t_readString t_readLawMany t_toldOnce t_highRoom t_highDoor t_tape_q t_taped t_fault t_broken t_brokenAt t_spot t_here t_token t_value t_cuts_q t_letters_q t_work_q t_pages_q t_canBe_q t_leadsOn_q t_seen_q t_seenMany t_heard_q t_heardMany t_isKept_q t_lanes_q t_lengths_q t_cells_q t_torn, aI g t_state_q 196 t_state_5] H := by rw [et_state_5]; exact hP
    refine lv_iload hx hb dX8_sets_21 (lv_at hl 0 rfl) ?_
    exact hret v4_3 t_state_5 (Option.some.inj hf) _ _ _ _ hP hS dX8_sets_23
  · have hf := ite_t hf c_1
    refine lv_iconst (v := (-1 : Int32)) hx hb dX8_sets_4 (by decide) ?_
    exact hret (-1 : Int32) t_state (Option.some.inj hf) _ _ _ _ hP hS dX8_sets_5

def f_X8_bar (t_doorMany : Int32) (t_state : Nat → Int32) (p1 : Int32) (p2 : Int32) : Option (Int32 × (Nat → Int32)) :=
 (ob1 (f_X8_isDoor t_doorMany p1) (fun r_1 =>
 (jn1 (fun (s_3 : Int32) => (ob2 (f_X8_sets t_state r_1 (((3 : Int32) * p1) + (2 : Int32)) s_3) (fun r_5 t_state_6 =>
 (some (r_5, t_state_6))))) (fun j_4 =>
 (if p2 = (0 : Int32) then
 (j_4 (0 : Int32))
 else (j_4 (1 : Int32)))))))
abbrev rmX8_bar : Room := { frames := 2, cells := 0, slots := 0, locals := 46 }
set_option maxHeartbeats 4000000 in
set_option maxRecDepth 100000 in
theorem c_X8_bar (l : Launch) (g : Gh) (sz : Nat) (t_q t_state_q t_laws_q t_readPage_q t_readLaws_q t_tape_q t_cuts_q t_letters_q t_work_q t_pages_q t_canBe_q t_leadsOn_q t_seen_q t_heard_q t_isKept_q t_lanes_q t_lengths_q t_cells_q : Nat) (t_roomMany : Int32) (t_doorMany : Int32) (t_stringLong : Int32) (t_lawMany : Int32) (t_readRooms : Int32) (t_readDoors : Int32) (t_readString : Int32) (t_readLawMany : Int32) (t_toldOnce : Int32) (t_highRoom : Int32) (t_highDoor : Int32) (t_taped : Int32) (t_fault : Int32) (t_broken : Int32) (t_brokenAt : Int32) (t_spot : Int32) (t_here : Int32) (t_token : Int32) (t_value : Int32) (t_seenMany : Int32) (t_heardMany : Int32) (t_torn : Int32) (t_state : Nat → Int32) (p1 : Int32) (p2 : Int32) (rr : Int32) (t_state' : Nat → Int32) (hf : f_X8_bar t_doorMany t_state p1 p2 = some (rr, t_state')) : CI l yX8_bar wsX8_bar rmX8_bar [.ref t_q, .int p1, .int p2] g sz [oX8 t_q t_state_q t_roomMany t_doorMany t_stringLong t_laws_q t_lawMany t_readPage_q t_readLaws_q t_readRooms t_readDoors t_readString t_readLawMany t_toldOnce t_highRoom t_highDoor t_tape_q t_taped t_fault t_broken t_brokenAt t_spot t_here t_token t_value t_cuts_q t_letters_q t_work_q t_pages_q t_canBe_q t_leadsOn_q t_seen_q t_seenMany t_heard_q t_heardMany t_isKept_q t_lanes_q t_lengths_q t_cells_q t_torn, aI g t_state_q 196 t_state] [oX8 t_q t_state_q t_roomMany t_doorMany t_stringLong t_laws_q t_lawMany t_readPage_q t_readLaws_q t_readRooms t_readDoors t_readString t_readLawMany t_toldOnce t_highRoom t_highDoor t_tape_q t_taped t_fault t_broken t_brokenAt t_spot t_here t_token t_value t_cuts_q t_letters_q t_work_q t_pages_q t_canBe_q t_leadsOn_q t_seen_q t_seenMany t_heard_q t_heardMany t_isKept_q t_lanes_q t_lengths_q t_cells_q t_torn, aI g t_state_q 196 t_state'] rr := by
  refine ent_i (cc := cX8_bar) (maxL := 3) (by decide) rfl (Nat.le_of_ble_eq_true rfl) ?_
  intro p e s m args below meth c A Q hx hb hml hown hts hK hz hk hA hD hP hS hret ls hl
  have hown : s.vm.findClass RX8 = some m.cls := hown
  have hl : lv_has ls 3 [(0, .ref t_q), (1, .int p1), (2, .int p2)] := hl
  have hret : ∀ (rrz : Int32) (t_statez : Nat → Int32), (rrz, t_statez) = (rr, t_state') → ∀ (H : Heap) (locs : List Loc) (pc : Nat) (ls : Array Slot), va_P g.1 vwCl [oX8 t_q t_state_q t_roomMany t_doorMany t_stringLong t_laws_q t_lawMany t_readPage_q t_readLaws_q t_readRooms t_readDoors t_readString t_readLawMany t_toldOnce t_highRoom t_highDoor t_tape_q t_taped t_fault t_broken t_brokenAt t_spot t_here t_token t_value t_cuts_q t_letters_q t_work_q t_pages_q t_canBe_q t_leadsOn_q t_seen_q t_seenMany t_heard_q t_heardMany t_isKept_q t_lanes_q t_lengths_q t_cells_q t_torn, aI g t_state_q 196 t_statez] H → va_S A s.heap H locs → decode cX8_bar pc = .ok (.ireturn, 1) → W p l e rmX8_bar s m args below meth c H locs 0 0 Q (F0 m pc ls [.int rrz]) := by
    intro rrz t_statez he H locs pc ls hP hS hd
    cases he
    exact hret H locs pc ls hP hS hd
  unfold f_X8_bar at hf
  refine lv_aload_n hx hb dX8_bar_0 rfl (lv_at hl 0 rfl) ?_
  refine lv_aload_n hx hb dX8_bar_1 rfl (lv_at hl 0 rfl) ?_
  refine lv_iload_n hx hb dX8_bar_2 rfl (lv_at hl 1 rfl) ?_
  obtain ⟨r_1, hc_2, hf⟩ := ob1_e hf
  refine kV_i (wn := [oX8 t_q t_state_q t_roomMany t_doorMany t_stringLong t_laws_q t_lawMany t_readPage_q t_readLaws_q t_readRooms t_readDoors t_readString t_readLawMany t_toldOnce t_highRoom t_highDoor t_tape_q t_taped t_fault t_broken t_brokenAt t_spot t_here t_token t_value t_cuts_q t_letters_q t_work_q t_pages_q t_canBe_q t_leadsOn_q t_seen_q t_seenMany t_heard_q t_heardMany t_isKept_q t_lanes_q t_lengths_q t_cells_q t_torn, aI g t_state_q 196 t_state]) (As := [.int p1]) (rest := [.ref t_q]) (c_X8_isDoor l g _ t_q t_state_q t_laws_q t_readPage_q t_readLaws_q t_tape_q t_cuts_q t_letters_q t_work_q t_pages_q t_canBe_q t_leadsOn_q t_seen_q t_heard_q t_isKept_q t_lanes_q t_lengths_q t_cells_q t_roomMany t_doorMany t_stringLong t_lawMany t_readRooms t_readDoors t_readString t_readLawMany t_toldOnce t_highRoom t_highDoor t_taped t_fault t_broken t_brokenAt t_spot t_here t_token t_value t_seenMany t_heardMany t_torn p1 r_1 hc_2) ⟨hx, hb, hml, hown, hts⟩ (cwV 1 hts gX8_bar_X8_isDoor rfl rfl rfl (by decide +kernel) ⟨by decide, by decide⟩) hK hz hk hP (hD.re rfl) hS hA [0] rfl rfl rfl rfl rfl rfl rfl hl.1 rfl (Nat.le_of_ble_eq_true rfl) dX8_bar_3 (fun H locs hP hS => ?_)
  refine lv_iconst (v := (3 : Int32)) hx hb dX8_bar_6 (by decide) ?_
  refine lv_iload_n hx hb dX8_bar_7 rfl (lv_at hl 1 rfl) ?_
  refine lv_imul hx hb dX8_bar_8 ?_
  refine lv_iconst (v := (2 : Int32)) hx hb dX8_bar_9 (by decide) ?_
  refine lv_iadd hx hb dX8_bar_10 ?_
  refine lv_iload_n hx hb dX8_bar_11 rfl (lv_at hl 2 rfl) ?_
  obtain ⟨j_4, hj_4, hf⟩ := jn1_e hf
  have J_4 : ∀ (s_3 : Int32), j_4 s_3 = some (rr, t_state') → ∀ (H : Heap) (locs : List Loc) (ls : Array Slot), va_P g.1 vwCl [oX8 t_q t_state_q t_roomMany t_doorMany t_stringLong t_laws_q t_lawMany t_readPage_q t_readLaws_q t_readRooms t_readDoors t_readString t_readLawMany t_toldOnce t_highRoom t_highDoor t_tape_q t_taped t_fault t_broken t_brokenAt t_spot t_here t_token t_value t_cuts_q t_letters_q t_work_q t_pages_q t_canBe_q t_leadsOn_q t_seen_q t_seenMany t_heard_q t_heardMany t_isKept_q t_lanes_q t_lengths_q t_cells_q t_torn, aI g t_state_q 196 t_state] H → va_S A s.heap H locs → lv_has ls 3 [] → W p l e rmX8_bar s m args below meth c H locs 0 0 Q (F0 m 20 ls [.int s_3, .int (((3 : Int32) * p1) + (2 : Int32)), .int r_1, .ref t_q]) := by
    intro s_3 hf H locs ls hP hS hl
    rw [hj_4] at hf
    obtain ⟨r_5, t_state_6, hc_7, hf⟩ := ob2_e hf
    refine kV_i (wn := [oX8 t_q t_state_q t_roomMany t_doorMany t_stringLong t_laws_q t_lawMany t_readPage_q t_readLaws_q t_readRooms t_readDoors t_readString t_readLawMany t_toldOnce t_highRoom t_highDoor t_tape_q t_taped t_fault t_broken t_brokenAt t_spot t_here t_token t_value t_cuts_q t_letters_q t_work_q t_pages_q t_canBe_q t_leadsOn_q t_seen_q t_seenMany t_heard_q t_heardMany t_isKept_q t_lanes_q t_lengths_q t_cells_q t_torn, aI g t_state_q 196 t_state_6]) (As := [.int r_1, .int (((3 : Int32) * p1) + (2 : Int32)), .int s_3]) (rest := []) (c_X8_sets l g _ t_q t_state_q t_laws_q t_readPage_q t_readLaws_q t_tape_q t_cuts_q t_letters_q t_work_q t_pages_q t_canBe_q t_leadsOn_q t_seen_q t_heard_q t_isKept_q t_lanes_q t_lengths_q t_cells_q t_roomMany t_doorMany t_stringLong t_lawMany t_readRooms t_readDoors t_readString t_readLawMany t_toldOnce t_highRoom t_highDoor t_taped t_fault t_broken t_brokenAt t_spot t_here t_token t_value t_seenMany t_heardMany t_torn t_state r_1 (((3 : Int32) * p1) + (2 : Int32)) s_3 r_5 t_state_6 hc_7) ⟨hx, hb, hml, hown, hts⟩ (cwV 3 hts gX8_bar_X8_sets rfl rfl rfl (by decide +kernel) ⟨by decide, by decide⟩) hK hz hk hP (hD.re rfl) hS hA [0, 1] rfl rfl rfl rfl rfl rfl rfl hl.1 rfl (Nat.le_of_ble_eq_true rfl) dX8_bar_20 (fun H locs hP hS => ?_)
    exact hret r_5 t_state_6 (Option.some.inj hf) _ _ _ _ hP hS dX8_bar_23
  refine lv_if_eq (tgt := 19) hx hb dX8_bar_12 (by decide) (fun c_8 => ?_) (fun c_8 => ?_)
  · have hf := ite_t hf c_8
    refine lv_iconst (v := (0 : Int32)) hx hb dX8_bar_19 (by decide) ?_
    exact J_4 (0 : Int32) hf _ _ _ hP hS (lv_sub hl [] rfl)
  · have hf := ite_f hf c_8
    refine lv_iconst (v := (1 : Int32)) hx hb dX8_bar_15 (by decide) ?_
    refine lv_goto (tgt := 20) hx hb dX8_bar_16 (by decide) ?_
    exact J_4 (1 : Int32) hf _ _ _ hP hS (lv_sub hl [] rfl)
