def b_X8_again_20 (t_doorMany : Int32) (t_state : Nat → Int32) (t_work_7 : Nat → Int32) (v2_9 : Int32) (v3_10 : Int32) : Option ((Int32 × Int32) ⊕ (Int32 × Int32)) :=
 (if ((3 : Int32) * t_doorMany) ≤ v3_10 then
 (some (.inr (v2_9, v3_10)))
 else (jn1 (fun (s_13 : Int32) => (bnd (v3_10 + (1 : Int32)) (fun v3_15 =>
 (some (.inl (s_13, v3_15)))))) (fun j_14 =>
 (jn0 (j_14 (0 : Int32)) (fun j_16 =>
 (if v2_9 = (0 : Int32) then
 (j_16)
 else (gin v3_10 30 (gin v3_10 196 (if (t_work_7 v3_10.toNatClampNeg) = (t_state v3_10.toNatClampNeg) then
 (j_14 (1 : Int32))
 else (j_16))))))))))
def b_X8_again_6 (t_roomMany : Int32) (t_doorMany : Int32) (t_lawMany : Int32) (t_laws : Nat → Int32) (t_state : Nat → Int32) (v1_3 : Int32) (t_work_4 : Nat → Int32) : Option ((Int32 × (Nat → Int32)) ⊕ ((Int32 × (Nat → Int32)) ⊕ (Int32 × (Nat → Int32)))) :=
 (if (60 : Int32) < v1_3 then
 (some (.inr (.inr (v1_3, t_work_4))))
 else (ob1 (f_X8_dusks t_roomMany t_lawMany t_laws t_work_4) (fun t_work_7 =>
 (ob2 (itr (un2 (b_X8_again_20 t_doorMany t_state t_work_7)) FU ((1 : Int32), (0 : Int32))) (fun x2_21 x3_22 =>
 (if x2_21 = (0 : Int32) then
 (bnd (v1_3 + (1 : Int32)) (fun v1_24 =>
 (some (.inl (v1_24, t_work_7)))))
 else (some (.inr (.inl (v1_3, t_work_7))))))))))
def f_X8_again (t_roomMany : Int32) (t_doorMany : Int32) (t_lawMany : Int32) (t_laws : Nat → Int32) (t_state : Nat → Int32) (t_work : Nat → Int32) : Option (Int32 × (Nat → Int32)) :=
 (ob1 (f_X8_worksNow t_state t_work) (fun t_work_1 =>
 (obm2 (itr (un2 (b_X8_again_6 t_roomMany t_doorMany t_lawMany t_laws t_state)) FU ((1 : Int32), t_work_1)) (fun x1_25 t_work_26 =>
 (some ((-4 : Int32), t_work_26))))))
abbrev rmX8_again : Room := { frames := 2, cells := 0, slots := 0, locals := 45 }
set_option maxHeartbeats 4000000 in
set_option maxRecDepth 100000 in
theorem c_X8_again (l : Launch) (g : Gh) (sz : Nat) (t_q t_state_q t_laws_q t_readPage_q t_readLaws_q t_tape_q t_cuts_q t_letters_q t_work_q t_pages_q t_canBe_q t_leadsOn_q t_seen_q t_heard_q t_isKept_q t_lanes_q t_lengths_q t_cells_q : Nat) (t_roomMany : Int32) (t_doorMany : Int32) (t_stringLong : Int32) (t_lawMany : Int32) (t_readRooms : Int32) (t_readDoors : Int32) (t_readString : Int32) (t_readLawMany : Int32) (t_toldOnce : Int32) (t_highRoom : Int32) (t_highDoor : Int32) (t_taped : Int32) (t_fault : Int32) (t_broken : Int32) (t_brokenAt : Int32) (t_spot : Int32) (t_here : Int32) (t_token : Int32) (t_value : Int32) (t_seenMany : Int32) (t_heardMany : Int32) (t_torn : Int32) (t_laws : Nat → Int32) (t_state : Nat → Int32) (t_work : Nat → Int32) (rr : Int32) (t_work' : Nat → Int32) (hf : f_X8_again t_roomMany t_doorMany t_lawMany t_laws t_state t_work = some (rr, t_work')) : CI l yX8_again wsX8_again rmX8_again [.ref t_q] g sz [oX8 t_q t_state_q t_roomMany t_doorMany t_stringLong t_laws_q t_lawMany t_readPage_q t_readLaws_q t_readRooms t_readDoors t_readString t_readLawMany t_toldOnce t_highRoom t_highDoor t_tape_q t_taped t_fault t_broken t_brokenAt t_spot t_here t_token t_value t_cuts_q t_letters_q t_work_q t_pages_q t_canBe_q t_leadsOn_q t_seen_q t_seenMany t_heard_q t_heardMany t_isKept_q t_lanes_q t_lengths_q t_cells_q t_torn, aI g t_laws_q 18 t_laws, aI g t_state_q 196 t_state, aI g t_work_q 30 t_work] [oX8 t_q t_state_q t_roomMany t_doorMany t_stringLong t_laws_q t_lawMany t_readPage_q t_readLaws_q t_readRooms t_readDoors t_readString t_readLawMany t_toldOnce t_highRoom t_highDoor t_tape_q t_taped t_fault t_broken t_brokenAt t_spot t_here t_token t_value t_cuts_q t_letters_q t_work_q t_pages_q t_canBe_q t_leadsOn_q t_seen_q t_seenMany t_heard_q t_heardMany t_isKept_q t_lanes_q t_lengths_q t_cells_q t_torn, aI g t_laws_q 18 t_laws, aI g t_state_q 196 t_state, aI g t_work_q 30 t_work'] rr := by
  refine ent_i (cc := cX8_again) (maxL := 4) (by decide) rfl (Nat.le_of_ble_eq_true rfl) ?_
  intro p e s m args below meth c A Q hx hb hml hown hts hK hz hk hA hD hP hS hret ls hl
  have hown : s.vm.findClass RX8 = some m.cls := hown
  have inX8 : ∀ w ∈ u_ws RX8 TX8 39, w ∈ wsX8_again := by decide +kernel
  have k7 := hts (.fieldLink RX8 7 "ThreadMovedModel" "state" "[I") (by decide +kernel)
  have k38 := hts (.fieldLink RX8 38 "ThreadMovedModel" "work" "[I") (by decide +kernel)
  have k175 := hts (.fieldLink RX8 175 "ThreadMovedModel" "doorMany" "I") (by decide +kernel)
  have hl : lv_has ls 4 [(0, .ref t_q)] := hl
  have hret : ∀ (rrz : Int32) (t_workz : Nat → Int32), (rrz, t_workz) = (rr, t_work') → ∀ (H : Heap) (locs : List Loc) (pc : Nat) (ls : Array Slot), va_P g.1 vwCl [oX8 t_q t_state_q t_roomMany t_doorMany t_stringLong t_laws_q t_lawMany t_readPage_q t_readLaws_q t_readRooms t_readDoors t_readString t_readLawMany t_toldOnce t_highRoom t_highDoor t_tape_q t_taped t_fault t_broken t_brokenAt t_spot t_here t_token t_value t_cuts_q t_letters_q t_work_q t_pages_q t_canBe_q t_leadsOn_q t_seen_q t_seenMany t_heard_q t_heardMany t_isKept_q t_lanes_q t_lengths_q t_cells_q t_torn, aI g t_laws_q 18 t_laws, aI g t_state_q 196 t_state, aI g t_work_q 30 t_workz] H → va_S A s.heap H locs → decode cX8_again pc = .ok (.ireturn, 1) → W p l e rmX8_again s m args below meth c H locs 0 0 Q (F0 m pc ls [.int rrz]) := by
    intro rrz t_workz he H locs pc ls hP hS hd
    cases he
    exact hret H locs pc ls hP hS hd
  unfold f_X8_again at hf
  refine lv_aload_n hx hb dX8_again_0 rfl (lv_at hl 0 rfl) ?_
  obtain ⟨t_work_1, hc_2, hf⟩ := ob1_e hf
  refine kV_v (wn := [oX8 t_q t_state_q t_roomMany t_doorMany t_stringLong t_laws_q t_lawMany t_readPage_q t_readLaws_q t_readRooms t_readDoors t_readString t_readLawMany t_toldOnce t_highRoom t_highDoor t_tape_q t_taped t_fault t_broken t_brokenAt t_spot t_here t_token t_value t_cuts_q t_letters_q t_work_q t_pages_q t_canBe_q t_leadsOn_q t_seen_q t_seenMany t_heard_q t_heardMany t_isKept_q t_lanes_q t_lengths_q t_cells_q t_torn, aI g t_laws_q 18 t_laws, aI g t_state_q 196 t_state, aI g t_work_q 30 t_work_1]) (As := []) (rest := []) (c_X8_worksNow l g _ t_q t_state_q t_laws_q t_readPage_q t_readLaws_q t_tape_q t_cuts_q t_letters_q t_work_q t_pages_q t_canBe_q t_leadsOn_q t_seen_q t_heard_q t_isKept_q t_lanes_q t_lengths_q t_cells_q t_roomMany t_doorMany t_stringLong t_lawMany t_readRooms t_readDoors t_readString t_readLawMany t_toldOnce t_highRoom t_highDoor t_taped t_fault t_broken t_brokenAt t_spot t_here t_token t_value t_seenMany t_heardMany t_torn t_state t_work t_work_1 hc_2) ⟨hx, hb, hml, hown, hts⟩ (cwV 0 hts gX8_again_X8_worksNow rfl rfl rfl (by decide +kernel) ⟨by decide, by decide⟩) hK hz hk hP (hD.re rfl) hS hA [0, 2, 3] rfl rfl rfl rfl rfl rfl rfl hl.1 rfl (Nat.le_of_ble_eq_true rfl) dX8_again_1 (fun H locs hP hS => ?_)
  refine lv_iconst (v := (1 : Int32)) hx hb dX8_again_4 (by decide) ?_
  refine lv_istore_n (lv' := [(1, .int (1 : Int32)), (0, .ref t_q)]) hx hb dX8_again_5 rfl hl (by decide) rfl (fun ls hl => ?_)
  obtain ⟨z0_5, ho_5, hkr_5, hke_5⟩ := obm2_e hf
  have K_5 : ∀ (x1_25 : Int32) (t_work_26 : Nat → Int32), z0_5 = .inr (x1_25, t_work_26) → ∀ (H : Heap) (locs : List Loc) (ls : Array Slot), va_P g.1 vwCl [oX8 t_q t_state_q t_roomMany t_doorMany t_stringLong t_laws_q t_lawMany t_readPage_q t_readLaws_q t_readRooms t_readDoors t_readString t_readLawMany t_toldOnce t_highRoom t_highDoor t_tape_q t_taped t_fault t_broken t_brokenAt t_spot t_here t_token t_value t_cuts_q t_letters_q t_work_q t_pages_q t_canBe_q t_leadsOn_q t_seen_q t_seenMany t_heard_q t_heardMany t_isKept_q t_lanes_q t_lengths_q t_cells_q t_torn, aI g t_laws_q 18 t_laws, aI g t_state_q 196 t_state, aI g t_work_q 30 t_work_26] H → va_S A s.heap H locs → lv_has ls 4 [] → W p l e rmX8_again s m args below meth c H locs 0 0 Q (F0 m 73 ls []) := by
    intro x1_25 t_work_26 hz9 H locs ls hP hS hl
    have hf := hke_5 x1_25 t_work_26 hz9
    refine lv_bipush (v := (-4 : Int32)) hx hb dX8_again_73 (by decide) ?_
    exact hret (-4 : Int32) t_work_26 (Option.some.inj hf) _ _ _ _ hP hS dX8_again_75
  have L_5 : ∀ (n : Nat) (v1_3 : Int32) (t_work_4 : Nat → Int32), itr (un2 (b_X8_again_6 t_roomMany t_doorMany t_lawMany t_laws t_state)) n (v1_3, t_work_4) = some z0_5 → ∀ (H : Heap) (locs : List Loc) (ls : Array Slot), va_P g.1 vwCl [oX8 t_q t_state_q t_roomMany t_doorMany t_stringLong t_laws_q t_lawMany t_readPage_q t_readLaws_q t_readRooms t_readDoors t_readString t_readLawMany t_toldOnce t_highRoom t_highDoor t_tape_q t_taped t_fault t_broken t_brokenAt t_spot t_here t_token t_value t_cuts_q t_letters_q t_work_q t_pages_q t_canBe_q t_leadsOn_q t_seen_q t_seenMany t_heard_q t_heardMany t_isKept_q t_lanes_q t_lengths_q t_cells_q t_torn, aI g t_laws_q 18 t_laws, aI g t_state_q 196 t_state, aI g t_work_q 30 t_work_4] H → va_S A s.heap H locs → lv_has ls 4 [(0, .ref t_q), (1, .int v1_3)] → W p l e rmX8_again s m args below meth c H locs 0 0 Q (F0 m 6 ls []) := by
    refine itr_ind2 ?_
    intro v1_3 t_work_4 z_5 hf hrec hex H locs ls hP hS hl
    unfold b_X8_again_6 at hf
    refine lv_iload_n hx hb dX8_again_6 rfl (lv_at hl 1 rfl) ?_
    refine lv_bipush (v := (60 : Int32)) hx hb dX8_again_7 (by decide) ?_
    refine lv_icmp_gt (tgt := 73) hx hb dX8_again_9 (by decide) (fun c_6 => ?_) (fun c_6 => ?_)
    · have hf := ite_t hf c_6
      exact K_5 v1_3 t_work_4 (hex _ (Option.some.inj hf).symm).symm _ _ _ hP hS (lv_sub hl [] rfl)
    · have hf := ite_f hf c_6
      refine lv_aload_n hx hb dX8_again_12 rfl (lv_at hl 0 rfl) ?_
      obtain ⟨t_work_7, hc_8, hf⟩ := ob1_e hf
      refine kV_v (wn := [oX8 t_q t_state_q t_roomMany t_doorMany t_stringLong t_laws_q t_lawMany t_readPage_q t_readLaws_q t_readRooms t_readDoors t_readString t_readLawMany t_toldOnce t_highRoom t_highDoor t_tape_q t_taped t_fault t_broken t_brokenAt t_spot t_here t_token t_value t_cuts_q t_letters_q t_work_q t_pages_q t_canBe_q t_leadsOn_q t_seen_q t_seenMany t_heard_q t_heardMany t_isKept_q t_lanes_q t_lengths_q t_cells_q t_torn, aI g t_laws_q 18 t_laws, aI g t_state_q 196 t_state, aI g t_work_q 30 t_work_7]) (As := []) (rest := []) (c_X8_dusks l g _ t_q t_state_q t_laws_q t_readPage_q t_readLaws_q t_tape_q t_cuts_q t_letters_q t_work_q t_pages_q t_canBe_q t_leadsOn_q t_seen_q t_heard_q t_isKept_q t_lanes_q t_lengths_q t_cells_q t_roomMany t_doorMany t_stringLong t_lawMany t_readRooms t_readDoors t_readString t_readLawMany t_toldOnce t_highRoom t_highDoor t_taped t_fault t_broken t_brokenAt t_spot t_here t_token t_value t_seenMany t_heardMany t_torn t_laws t_work_4 t_work_7 hc_8) ⟨hx, hb, hml, hown, hts⟩ (cwV 0 hts gX8_again_X8_dusks rfl rfl rfl (by decide +kernel) ⟨by decide, by decide⟩) hK hz hk hP (hD.re rfl) hS hA [0, 1, 3] rfl rfl rfl rfl rfl rfl rfl hl.1 rfl (Nat.le_of_ble_eq_true rfl) dX8_again_13 (fun H locs hP hS => ?_)
      refine lv_iconst (v := (1 : Int32)) hx hb dX8_again_16 (by decide) ?_
      refine lv_istore_n (lv' := [(2, .int (1 : Int32)), (0, .ref t_q), (1, .int v1_3)]) hx hb dX8_again_17 rfl hl (by decide) rfl (fun ls hl => ?_)
      refine lv_iconst (v := (0 : Int32)) hx hb dX8_again_18 (by decide) ?_
      refine lv_istore_n (lv' := [(3, .int (0 : Int32)), (2, .int (1 : Int32)), (0, .ref t_q), (1, .int v1_3)]) hx hb dX8_again_19 rfl hl (by decide) rfl (fun ls hl => ?_)
      obtain ⟨x2_21, x3_22, ho_11, hf⟩ := ob2_e hf
      have K_11 : ∀ (x2_21y : Int32) (x3_22y : Int32), x2_21 = x2_21y → x3_22 = x3_22y → ∀ (H : Heap) (locs : List Loc) (ls : Array Slot), va_P g.1 vwCl [oX8 t_q t_state_q t_roomMany t_doorMany t_stringLong t_laws_q t_lawMany t_readPage_q t_readLaws_q t_readRooms t_readDoors t_readString t_readLawMany t_toldOnce t_highRoom t_highDoor t_tape_q t_taped t_fault t_broken t_brokenAt t_spot t_here t_token t_value t_cuts_q t_letters_q t_work_q t_pages_q t_canBe_q t_leadsOn_q t_seen_q t_seenMany t_heard_q t_heardMany t_isKept_q t_lanes_q t_lengths_q t_cells_q t_torn, aI g t_laws_q 18 t_laws, aI g t_state_q 196 t_state, aI g t_work_q 30 t_work_7] H → va_S A s.heap H locs → lv_has ls 4 [(0, .ref t_q), (1, .int v1_3), (2, .int x2_21y)] → W p l e rmX8_again s m args below meth c H locs 0 0 Q (F0 m 61 ls []) := by
        intro x2_21y x3_22y ey0 ey1 H locs ls hP hS hl
        subst ey0
        subst ey1
        refine lv_iload_n hx hb dX8_again_61 rfl (lv_at hl 2 rfl) ?_
        refine lv_if_eq (tgt := 67) hx hb dX8_again_62 (by decide) (fun c_23 => ?_) (fun c_23 => ?_)
        · have hf := ite_t hf c_23
          obtain ⟨v1_24, ev1_24, hf⟩ := bnd_e hf
          refine lv_iinc (v := v1_24) (lv' := [(1, .int v1_24), (0, .ref t_q), (2, .int x2_21)]) hx hb dX8_again_67 hl (k := 1) rfl (by rw [ev1_24]; rfl) (by decide) rfl (fun ls hl => ?_)
          refine lv_goto (tgt := 6) hx hb dX8_again_70 (by decide) ?_
          exact hrec v1_24 t_work_7 (Option.some.inj hf).symm _ _ _ hP hS (lv_sub hl [1, 0] rfl)
        · have hf := ite_f hf c_23
          refine lv_iload_n hx hb dX8_again_65 rfl (lv_at hl 1 rfl) ?_
          exact hret v1_3 t_work_7 (hkr_5 _ (hex _ (Option.some.inj hf).symm).symm) _ _ _ _ hP hS dX8_again_66
      have L_11 : ∀ (n : Nat) (v2_9 : Int32) (v3_10 : Int32), itr (un2 (b_X8_again_20 t_doorMany t_state t_work_7)) n (v2_9, v3_10) = some (x2_21, x3_22) → ∀ (H : Heap) (locs : List Loc) (ls : Array Slot), va_P g.1 vwCl [oX8 t_q t_state_q t_roomMany t_doorMany t_stringLong t_laws_q t_lawMany t_readPage_q t_readLaws_q t_readRooms t_readDoors t_readString t_readLawMany t_toldOnce t_highRoom t_highDoor t_tape_q t_taped t_fault t_broken t_brokenAt t_spot t_here t_token t_value t_cuts_q t_letters_q t_work_q t_pages_q t_canBe_q t_leadsOn_q t_seen_q t_seenMany t_heard_q t_heardMany t_isKept_q t_lanes_q t_lengths_q t_cells_q t_torn, aI g t_laws_q 18 t_laws, aI g t_state_q 196 t_state, aI g t_work_q 30 t_work_7] H → va_S A s.heap H locs → lv_has ls 4 [(0, .ref t_q), (1, .int v1_3), (2, .int v2_9), (3, .int v3_10)] → W p l e rmX8_again s m args below meth c H locs 0 0 Q (F0 m 20 ls []) := by
        refine itr_ind2 ?_
        intro v2_9 v3_10 z_11 hf hrec hex H locs ls hP hS hl
        unfold b_X8_again_20 at hf
        refine lv_iload_n hx hb dX8_again_20 rfl (lv_at hl 3 rfl) ?_
        refine lv_iconst (v := (3 : Int32)) hx hb dX8_again_21 (by decide) ?_
        refine lv_aload_n hx hb dX8_again_22 rfl (lv_at hl 0 rfl) ?_
        refine va_get (D := g.1) (ci := 8) (v := .int t_doorMany) (C := RX8) (T := TX8) (N := 39) hx hb hts inX8 hown hK hP 0 rfl rfl 2 (by decide) k175 (fun _ h9 => h9) rfl dX8_again_23 ?_
        refine lv_imul hx hb dX8_again_26 ?_
        refine lv_icmp_ge (tgt := 61) hx hb dX8_again_27 (by decide) (fun c_12 => ?_) (fun c_12 => ?_)
        · have hf := ite_t hf c_12
          exact K_11 v2_9 v3_10 (congrArg (fun t => t.1) (hex _ (Option.some.inj hf).symm).symm) (congrArg (fun t => t.2) (hex _ (Option.some.inj hf).symm).symm) _ _ _ hP hS (lv_sub hl [0, 1, 2] rfl)
        · have hf := ite_f hf c_12
          refine lv_iload_n hx hb dX8_again_30 rfl (lv_at hl 2 rfl) ?_
          obtain ⟨j_14, hj_14, hf⟩ := jn1_e hf
          have J_14 : ∀ (s_13 : Int32), j_14 s_13 = some z_11 → ∀ (H : Heap) (locs : List Loc) (ls : Array Slot), va_P g.1 vwCl [oX8 t_q t_state_q t_roomMany t_doorMany t_stringLong t_laws_q t_lawMany t_readPage_q t_readLaws_q t_readRooms t_readDoors t_readString t_readLawMany t_toldOnce t_highRoom t_highDoor t_tape_q t_taped t_fault t_broken t_brokenAt t_spot t_here t_token t_value t_cuts_q t_letters_q t_work_q t_pages_q t_canBe_q t_leadsOn_q t_seen_q t_seenMany t_heard_q t_heardMany t_isKept_q t_lanes_q t_lengths_q t_cells_q t_torn, aI g t_laws_q 18 t_laws, aI g t_state_q 196 t_state, aI g t_work_q 30 t_work_7] H → va_S A s.heap H locs → lv_has ls 4 [(0, .ref t_q), (1, .int v1_3), (3, .int v3_10)] → W p l e rmX8_again s m args below meth c H locs 0 0 Q (F0 m 54 ls [.int s_13]) := by
            intro s_13 hf H locs ls hP hS hl
            rw [hj_14] at hf
            refine lv_istore_n (lv' := [(2, .int s_13), (0, .ref t_q), (1, .int v1_3), (3, .int v3_10)]) hx hb dX8_again_54 rfl hl (by decide) rfl (fun ls hl => ?_)
            obtain ⟨v3_15, ev3_15, hf⟩ := bnd_e hf
            refine lv_iinc (v := v3_15) (lv' := [(3, .int v3_15), (2, .int s_13), (0, .ref t_q), (1, .int v1_3)]) hx hb dX8_again_55 hl (k := 3) rfl (by rw [ev3_15]; rfl) (by decide) rfl (fun ls hl => ?_)
            refine lv_goto (tgt := 20) hx hb dX8_again_58 (by decide) ?_
            exact hrec s_13 v3_15 (Option.some.inj hf).symm _ _ _ hP hS (lv_sub hl [2, 3, 1, 0] rfl)
          obtain ⟨j_16, hj_16, hf⟩ := jn0_e hf
          have J_16 : j_16 = some z_11 → ∀ (H : Heap) (locs : List Loc) (ls : Array Slot), va_P g.1 vwCl [oX8 t_q t_state_q t_roomMany t_doorMany t_stringLong t_laws_q t_lawMany t_readPage_q t_readLaws_q t_readRooms t_readDoors t_readString t_readLawMany t_toldOnce t_highRoom t_highDoor t_tape_q t_taped t_fault t_broken t_brokenAt t_spot t_here t_token t_value t_cuts_q t_letters_q t_work_q t_pages_q t_canBe_q t_leadsOn_q t_seen_q t_seenMany t_heard_q t_heardMany t_isKept_q t_lanes_q t_lengths_q t_cells_q t_torn, aI g t_laws_q 18 t_laws, aI g t_state_q 196 t_state, aI g t_work_q 30 t_work_7] H → va_S A s.heap H locs → lv_has ls 4 [(0, .ref t_q), (1, .int v1_3), (3, .int v3_10)] → W p l e rmX8_again s m args below meth c H locs 0 0 Q (F0 m 53 ls []) := by
            intro hf H locs ls hP hS hl
            rw [hj_16] at hf
            refine lv_iconst (v := (0 : Int32)) hx hb dX8_again_53 (by decide) ?_
            exact J_14 (0 : Int32) hf _ _ _ hP hS (lv_sub hl [0, 1, 2] rfl)
          refine lv_if_eq (tgt := 53) hx hb dX8_again_31 (by decide) (fun c_17 => ?_) (fun c_17 => ?_)
          · have hf := ite_t hf c_17
            exact J_16 hf _ _ _ hP hS (lv_sub hl [0, 1, 3] rfl)
          · have hf := ite_f hf c_17
            refine lv_aload_n hx hb dX8_again_34 rfl (lv_at hl 0 rfl) ?_
            refine va_get (D := g.1) (ci := 8) (v := .ref t_work_q) (C := RX8) (T := TX8) (N := 39) hx hb hts inX8 hown hK hP 0 rfl rfl 26 (by decide) k38 (fun _ h9 => h9) rfl dX8_again_35 ?_
            refine lv_iload_n hx hb dX8_again_38 rfl (lv_at hl 3 rfl) ?_
            obtain ⟨h_18, hf⟩ := gin_e hf
            refine va_iald hx hb hK hP 3 0 rfl rfl h_18 dX8_again_39 ?_
            refine lv_aload_n hx hb dX8_again_40 rfl (lv_at hl 0 rfl) ?_
            refine va_get (D := g.1) (ci := 8) (v := .ref t_state_q) (C := RX8) (T := TX8) (N := 39) hx hb hts inX8 hown hK hP 0 rfl rfl 0 (by decide) k7 (fun _ h9 => h9) rfl dX8_again_41 ?_
            refine lv_iload_n hx hb dX8_again_44 rfl (lv_at hl 3 rfl) ?_
            obtain ⟨h_19, hf⟩ := gin_e hf
            refine va_iald hx hb hK hP 2 0 rfl rfl h_19 dX8_again_45 ?_
            refine lv_icmp_ne (tgt := 53) hx hb dX8_again_46 (by decide) (fun c_20 => ?_) (fun c_20 => ?_)
            · have hf := ite_f hf c_20
              exact J_16 hf _ _ _ hP hS (lv_sub hl [0, 1, 3] rfl)
            · have hf := ite_t hf c_20
              refine lv_iconst (v := (1 : Int32)) hx hb dX8_again_49 (by decide) ?_
              refine lv_goto (tgt := 54) hx hb dX8_again_50 (by decide) ?_
              exact J_14 (1 : Int32) hf _ _ _ hP hS (lv_sub hl [0, 1, 3] rfl)
      exact L_11 FU (1 : Int32) (0 : Int32) ho_11 _ _ _ hP hS (lv_sub hl [2, 3, 1, 0] rfl)
  exact L_5 FU (1 : Int32) t_work_1 ho_5 _ _ _ hP hS (lv_sub hl [1, 0] rfl)

def b_X8_layPages_14 (v1_3 : Int32) (t_work_5 : Nat → Int32) (v2_8 : Int32) (t_pages_9 : Nat → Int32) : Option ((Int32 × (Nat → Int32)) ⊕ (Int32 × (Nat → Int32))) :=
 (if (30 : Int32) ≤ v2_8 then
 (some (.inr (v2_8, t_pages_9)))
 else (gin v2_8 30 (gin (((30 : Int32) * v1_3) + v2_8) 750 (bnd (upd t_pages_9 (((30 : Int32) * v1_3) + v2_8).toNatClampNeg (t_work_5 v2_8.toNatClampNeg)) (fun t_pages_14 =>
 (bnd (v2_8 + (1 : Int32)) (fun v2_15 =>
 (some (.inl (v2_15, t_pages_14))))))))))
def b_X8_layPages_6 (t_roomMany : Int32) (t_lawMany : Int32) (t_laws : Nat → Int32) (t_state : Nat → Int32) (v1_3 : Int32) (t_pages_4 : Nat → Int32) (t_work_5 : Nat → Int32) : Option ((Int32 × (Nat → Int32) × (Nat → Int32)) ⊕ (Int32 × (Nat → Int32) × (Nat → Int32))) :=
 (if (24 : Int32) < v1_3 then
 (some (.inr (v1_3, t_pages_4, t_work_5)))
 else (ob2 (itr (un2 (b_X8_layPages_14 v1_3 t_work_5)) FU ((0 : Int32), t_pages_4)) (fun x2_16 t_pages_17 =>
 (gin (47 : Int32) 196 (gin (30 : Int32) 196 (gnz ((t_state (30 : Int32).toNatClampNeg) + (1 : Int32)) (jn1 (fun (t_work_21 : Nat → Int32) => (bnd (v1_3 + (1 : Int32)) (fun v1_23 =>
 (some (.inl (v1_23, t_pages_17, t_work_21)))))) (fun j_22 =>
 (if ((((t_state (47 : Int32).toNatClampNeg) + v1_3) + (1 : Int32)) - (((t_state (47 : Int32).toNatClampNeg) + v1_3) + (1 : Int32)) / ((t_state (30 : Int32).toNatClampNeg) + (1 : Int32)) * ((t_state (30 : Int32).toNatClampNeg) + (1 : Int32))) = (0 : Int32) then
 (ob1 (f_X8_dusks t_roomMany t_lawMany t_laws t_work_5) (fun t_work_25 =>
 (j_22 t_work_25)))
 else (j_22 t_work_5))))))))))
def f_X8_layPages (t_roomMany : Int32) (t_lawMany : Int32) (t_laws : Nat → Int32) (t_pages : Nat → Int32) (t_state : Nat → Int32) (t_work : Nat → Int32) : Option ((Nat → Int32) × (Nat → Int32)) :=
 (ob1 (f_X8_worksNow t_state t_work) (fun t_work_1 =>
 (ob3 (itr (un3 (b_X8_layPages_6 t_roomMany t_lawMany t_laws t_state)) FU ((0 : Int32), t_pages, t_work_1)) (fun x1_27 t_pages_28 t_work_29 =>
 (some (t_pages_28, t_work_29))))))
abbrev rmX8_layPages : Room := { frames := 2, cells := 0, slots := 0, locals := 45 }
set_option maxHeartbeats 4000000 in
set_option maxRecDepth 100000 in
theorem c_X8_layPages (l : Launch) (g : Gh) (sz : Nat) (t_q t_state_q t_laws_q t_readPage_q t_readLaws_q t_tape_q t_cuts_q t_letters_q t_work_q t_pages_q t_canBe_q t_leadsOn_q t_seen_q t_heard_q t_isKept_q t_lanes_q t_lengths_q t_cells_q : Nat) (t_roomMany : Int32) (t_doorMany : Int32) (t_stringLong : Int32) (t_lawMany : Int32) (t_readRooms : Int32) (t_readDoors : Int32) (t_readString : Int32) (t_readLawMany : Int32) (t_toldOnce : Int32) (t_highRoom : Int32) (t_highDoor : Int32) (t_taped : Int32) (t_fault : Int32) (t_broken : Int32) (t_brokenAt : Int32) (t_spot : Int32) (t_here : Int32) (t_token : Int32) (t_value : Int32) (t_seenMany : Int32) (t_heardMany : Int32) (t_torn : Int32) (t_laws : Nat → Int32) (t_pages : Nat → Int32) (t_state : Nat → Int32) (t_work : Nat → Int32) (t_pages' : Nat → Int32) (t_work' : Nat → Int32) (hf : f_X8_layPages t_roomMany t_lawMany t_laws t_pages t_state t_work = some (t_pages', t_work')) : CV l yX8_layPages wsX8_layPages rmX8_layPages [.ref t_q] g sz [oX8 t_q t_state_q t_roomMany t_doorMany t_stringLong t_laws_q t_lawMany t_readPage_q t_readLaws_q t_readRooms t_readDoors t_readString t_readLawMany t_toldOnce t_highRoom t_highDoor t_tape_q t_taped t_fault t_broken t_brokenAt t_spot t_here t_token t_value t_cuts_q t_letters_q t_work_q t_pages_q t_canBe_q t_leadsOn_q t_seen_q t_seenMany t_heard_q t_heardMany t_isKept_q t_lanes_q t_lengths_q t_cells_q t_torn, aI g t_laws_q 18 t_laws, aI g t_pages_q 750 t_pages, aI g t_state_q 196 t_state, aI g t_work_q 30 t_work] [oX8 t_q t_state_q t_roomMany t_doorMany t_stringLong t_laws_q t_lawMany t_readPage_q t_readLaws_q t_readRooms t_readDoors t_readString t_readLawMany t_toldOnce t_highRoom t_highDoor t_tape_q t_taped t_fault t_broken t_brokenAt t_spot t_here t_token t_value t_cuts_q t_letters_q t_work_q t_pages_q t_canBe_q t_leadsOn_q t_seen_q t_seenMany t_heard_q t_heardMany t_isKept_q t_lanes_q t_lengths_q t_cells_q t_torn, aI g t_laws_q 18 t_laws, aI g t_pages_q 750 t_pages', aI g t_state_q 196 t_state, aI g t_work_q 30 t_work'] := by
  refine ent_v (cc := cX8_layPages) (maxL := 3) (by decide) rfl (Nat.le_of_ble_eq_true rfl) ?_
  intro p e s m args below meth c A Q hx hb hml hown hts hK hz hk hA hD hP hS hret ls hl
  have hown : s.vm.findClass RX8 = some m.cls := hown
  have inX8 : ∀ w ∈ u_ws RX8 TX8 39, w ∈ wsX8_layPages := by decide +kernel
  have k7 := hts (.fieldLink RX8 7 "ThreadMovedModel" "state" "[I") (by decide +kernel)
  have k38 := hts (.fieldLink RX8 38 "ThreadMovedModel" "work" "[I") (by decide +kernel)
  have k41 := hts (.fieldLink RX8 41 "ThreadMovedModel" "pages" "[I") (by decide +kernel)
  have hl : lv_has ls 3 [(0, .ref t_q)] := hl
  have hret : ∀ (t_pagesz : Nat → Int32) (t_workz : Nat → Int32), (t_pagesz, t_workz) = (t_pages', t_work') → ∀ (H : Heap) (locs : List Loc) (pc : Nat) (ls : Array Slot), va_P g.1 vwCl [oX8 t_q t_state_q t_roomMany t_doorMany t_stringLong t_laws_q t_lawMany t_readPage_q t_readLaws_q t_readRooms t_readDoors t_readString t_readLawMany t_toldOnce t_highRoom t_highDoor t_tape_q t_taped t_fault t_broken t_brokenAt t_spot t_here t_token t_value t_cuts_q t_letters_q t_work_q t_pages_q t_canBe_q t_leadsOn_q t_seen_q t_seenMany t_heard_q t_heardMany t_isKept_q t_lanes_q t_lengths_q t_cells_q t_torn, aI g t_laws_q 18 t_laws, aI g t_pages_q 750 t_pagesz, aI g t_state_q 196 t_state, aI g t_work_q 30 t_workz] H → va_S A s.heap H locs → decode cX8_layPages pc = .ok (.return_, 1) → W p l e rmX8_layPages s m args below meth c H locs 0 0 Q (F0 m pc ls []) := by
    intro t_pagesz t_workz he H locs pc ls hP hS hd
    cases he
    exact hret H locs pc ls hP hS hd
  unfold f_X8_layPages at hf
  refine lv_aload_n hx hb dX8_layPages_0 rfl (lv_at hl 0 rfl) ?_
  obtain ⟨t_work_1, hc_2, hf⟩ := ob1_e hf
  refine kV_v (wn := [oX8 t_q t_state_q t_roomMany t_doorMany t_stringLong t_laws_q t_lawMany t_readPage_q t_readLaws_q t_readRooms t_readDoors t_readString t_readLawMany t_toldOnce t_highRoom t_highDoor t_tape_q t_taped t_fault t_broken t_brokenAt t_spot t_here t_token t_value t_cuts_q t_letters_q t_work_q t_pages_q t_canBe_q t_leadsOn_q t_seen_q t_seenMany t_heard_q t_heardMany t_isKept_q t_lanes_q t_lengths_q t_cells_q t_torn, aI g t_laws_q 18 t_laws, aI g t_pages_q 750 t_pages, aI g t_state_q 196 t_state, aI g t_work_q 30 t_work_1]) (As := []) (rest := []) (c_X8_worksNow l g _ t_q t_state_q t_laws_q t_readPage_q t_readLaws_q t_tape_q t_cuts_q t_letters_q t_work_q t_pages_q t_canBe_q t_leadsOn_q t_seen_q t_heard_q t_isKept_q t_lanes_q t_lengths_q t_cells_q t_roomMany t_doorMany t_stringLong t_lawMany t_readRooms t_readDoors t_readString t_readLawMany t_toldOnce t_highRoom t_highDoor t_taped t_fault t_broken t_brokenAt t_spot t_here t_token t_value t_seenMany t_heardMany t_torn t_state t_work t_work_1 hc_2) ⟨hx, hb, hml, hown, hts⟩ (cwV 0 hts gX8_layPages_X8_worksNow rfl rfl rfl (by decide +kernel) ⟨by decide, by decide⟩) hK hz hk hP (hD.re rfl) hS hA [0, 3, 4] rfl rfl rfl rfl rfl rfl rfl hl.1 rfl (Nat.le_of_ble_eq_true rfl) dX8_layPages_1 (fun H locs hP hS => ?_)
  refine lv_iconst (v := (0 : Int32)) hx hb dX8_layPages_4 (by decide) ?_
  refine lv_istore_n (lv' := [(1, .int (0 : Int32)), (0, .ref t_q)]) hx hb dX8_layPages_5 rfl hl (by decide) rfl (fun ls hl => ?_)
  obtain ⟨x1_27, t_pages_28, t_work_29, ho_6, hf⟩ := ob3_e hf
  have K_6 : ∀ (x1_27y : Int32) (t_pages_28y : Nat → Int32) (t_work_29y : Nat → Int32), x1_27 = x1_27y → t_pages_28 = t_pages_28y → t_work_29 = t_work_29y → ∀ (H : Heap) (locs : List Loc) (ls : Array Slot), va_P g.1 vwCl [oX8 t_q t_state_q t_roomMany t_doorMany t_stringLong t_laws_q t_lawMany t_readPage_q t_readLaws_q t_readRooms t_readDoors t_readString t_readLawMany t_toldOnce t_highRoom t_highDoor t_tape_q t_taped t_fault t_broken t_brokenAt t_spot t_here t_token t_value t_cuts_q t_letters_q t_work_q t_pages_q t_canBe_q t_leadsOn_q t_seen_q t_seenMany t_heard_q t_heardMany t_isKept_q t_lanes_q t_lengths_q t_cells_q t_torn, aI g t_laws_q 18 t_laws, aI g t_pages_q 750 t_pages_28y, aI g t_state_q 196 t_state, aI g t_work_q 30 t_work_29y] H → va_S A s.heap H locs → lv_has ls 3 [] → W p l e rmX8_layPages s m args below meth c H locs 0 0 Q (F0 m 77 ls []) := by
    intro x1_27y t_pages_28y t_work_29y ey0 ey1 ey2 H locs ls hP hS hl
    subst ey0
    subst ey1
    subst ey2
    exact hret t_pages_28 t_work_29 (Option.some.inj hf) _ _ _ _ hP hS dX8_layPages_77
  have L_6 : ∀ (n : Nat) (v1_3 : Int32) (t_pages_4 : Nat → Int32) (t_work_5 : Nat → Int32), itr (un3 (b_X8_layPages_6 t_roomMany t_lawMany t_laws t_state)) n (v1_3, t_pages_4, t_work_5) = some (x1_27, t_pages_28, t_work_29) → ∀ (H : Heap) (locs : List Loc) (ls : Array Slot), va_P g.1 vwCl [oX8 t_q t_state_q t_roomMany t_doorMany t_stringLong t_laws_q t_lawMany t_readPage_q t_readLaws_q t_readRooms t_readDoors t_readString t_readLawMany t_toldOnce t_highRoom t_highDoor t_tape_q t_taped t_fault t_broken t_brokenAt t_spot t_here t_token t_value t_cuts_q t_letters_q t_work_q t_pages_q t_canBe_q t_leadsOn_q t_seen_q t_seenMany t_heard_q t_heardMany t_isKept_q t_lanes_q t_lengths_q t_cells_q t_torn, aI g t_laws_q 18 t_laws, aI g t_pages_q 750 t_pages_4, aI g t_state_q 196 t_state, aI g t_work_q 30 t_work_5] H → va_S A s.heap H locs → lv_has ls 3 [(0, .ref t_q), (1, .int v1_3)] → W p l e rmX8_layPages s m args below meth c H locs 0 0 Q (F0 m 6 ls []) := by
    refine itr_ind3 ?_
    intro v1_3 t_pages_4 t_work_5 z_6 hf hrec hex H locs ls hP hS hl
    unfold b_X8_layPages_6 at hf
    refine lv_iload_n hx hb dX8_layPages_6 rfl (lv_at hl 1 rfl) ?_
    refine lv_bipush (v := (24 : Int32)) hx hb dX8_layPages_7 (by decide) ?_
    refine lv_icmp_gt (tgt := 77) hx hb dX8_layPages_9 (by decide) (fun c_7 => ?_) (fun c_7 => ?_)
    · have hf := ite_t hf c_7
      exact K_6 v1_3 t_pages_4 t_work_5 (congrArg (fun t => t.1) (hex _ (Option.some.inj hf).symm).symm) (congrArg (fun t => t.2.1) (hex _ (Option.some.inj hf).symm).symm) (congrArg (fun t => t.2.2) (hex _ (Option.some.inj hf).symm).symm) _ _ _ hP hS (lv_sub hl [] rfl)
    · have hf := ite_f hf c_7
      refine lv_iconst (v := (0 : Int32)) hx hb dX8_layPages_12 (by decide) ?_
      refine lv_istore_n (lv' := [(2, .int (0 : Int32)), (0, .ref t_q), (1, .int v1_3)]) hx hb dX8_layPages_13 rfl hl (by decide) rfl (fun ls hl => ?_)
      obtain ⟨x2_16, t_pages_17, ho_10, hf⟩ := ob2_e hf
      have K_10 : ∀ (x2_16y : Int32) (t_pages_17y : Nat → Int32), x2_16 = x2_16y → t_pages_17 = t_pages_17y → ∀ (H : Heap) (locs : List Loc) (ls : Array Slot), va_P g.1 vwCl [oX8 t_q t_state_q t_roomMany t_doorMany t_stringLong t_laws_q t_lawMany t_readPage_q t_readLaws_q t_readRooms t_readDoors t_readString t_readLawMany t_toldOnce t_highRoom t_highDoor t_tape_q t_taped t_fault t_broken t_brokenAt t_spot t_here t_token t_value t_cuts_q t_letters_q t_work_q t_pages_q t_canBe_q t_leadsOn_q t_seen_q t_seenMany t_heard_q t_heardMany t_isKept_q t_lanes_q t_lengths_q t_cells_q t_torn, aI g t_laws_q 18 t_laws, aI g t_pages_q 750 t_pages_17y, aI g t_state_q 196 t_state, aI g t_work_q 30 t_work_5] H → va_S A s.heap H locs → lv_has ls 3 [(0, .ref t_q), (1, .int v1_3)] → W p l e rmX8_layPages s m args below meth c H locs 0 0 Q (F0 m 43 ls []) := by
        intro x2_16y t_pages_17y ey0 ey1 H locs ls hP hS hl
        subst ey0
        subst ey1
        refine lv_aload_n hx hb dX8_layPages_43 rfl (lv_at hl 0 rfl) ?_
        refine va_get (D := g.1) (ci := 8) (v := .ref t_state_q) (C := RX8) (T := TX8) (N := 39) hx hb hts inX8 hown hK hP 0 rfl rfl 0 (by decide) k7 (fun _ h9 => h9) rfl dX8_layPages_44 ?_
        refine lv_bipush (v := (47 : Int32)) hx hb dX8_layPages_47 (by decide) ?_
        obtain ⟨h_18, hf⟩ := gin_e hf
        refine va_iald hx hb hK hP 3 0 rfl rfl h_18 dX8_layPages_49 ?_
        refine lv_iload_n hx hb dX8_layPages_50 rfl (lv_at hl 1 rfl) ?_
        refine lv_iadd hx hb dX8_layPages_51 ?_
        refine lv_iconst (v := (1 : Int32)) hx hb dX8_layPages_52 (by decide) ?_
        refine lv_iadd hx hb dX8_layPages_53 ?_
        refine lv_aload_n hx hb dX8_layPages_54 rfl (lv_at hl 0 rfl) ?_
        refine va_get (D := g.1) (ci := 8) (v := .ref t_state_q) (C := RX8) (T := TX8) (N := 39) hx hb hts inX8 hown hK hP 0 rfl rfl 0 (by decide) k7 (fun _ h9 => h9) rfl dX8_layPages_55 ?_
        refine lv_bipush (v := (30 : Int32)) hx hb dX8_layPages_58 (by decide) ?_
        obtain ⟨h_19, hf⟩ := gin_e hf
        refine va_iald hx hb hK hP 3 0 rfl rfl h_19 dX8_layPages_60 ?_
        refine lv_iconst (v := (1 : Int32)) hx hb dX8_layPages_61 (by decide) ?_
        refine lv_iadd hx hb dX8_layPages_62 ?_
        obtain ⟨z_20, hf⟩ := gnz_e hf
        refine lv_irem hx hb dX8_layPages_63 z_20 ?_
        obtain ⟨j_22, hj_22, hf⟩ := jn1_e hf
        have J_22 : ∀ (t_work_21 : Nat → Int32), j_22 t_work_21 = some z_6 → ∀ (H : Heap) (locs : List Loc) (ls : Array Slot), va_P g.1 vwCl [oX8 t_q t_state_q t_roomMany t_doorMany t_stringLong t_laws_q t_lawMany t_readPage_q t_readLaws_q t_readRooms t_readDoors t_readString t_readLawMany t_toldOnce t_highRoom t_highDoor t_tape_q t_taped t_fault t_broken t_brokenAt t_spot t_here t_token t_value t_cuts_q t_letters_q t_work_q t_pages_q t_canBe_q t_leadsOn_q t_seen_q t_seenMany t_heard_q t_heardMany t_isKept_q t_lanes_q t_lengths_q t_cells_q t_torn, aI g t_laws_q 18 t_laws, aI g t_pages_q 750 t_pages_17, aI g t_state_q 196 t_state, aI g t_work_q 30 t_work_21] H → va_S A s.heap H locs → lv_has ls 3 [(0, .ref t_q), (1, .int v1_3)] → W p l e rmX8_layPages s m args below meth c H locs 0 0 Q (F0 m 71 ls []) := by
          intro t_work_21 hf H locs ls hP hS hl
          rw [hj_22] at hf
          obtain ⟨v1_23, ev1_23, hf⟩ := bnd_e hf
          refine lv_iinc (v := v1_23) (lv' := [(1, .int v1_23), (0, .ref t_q)]) hx hb dX8_layPages_71 hl (k := 1) rfl (by rw [ev1_23]; rfl) (by decide) rfl (fun ls hl => ?_)
          refine lv_goto (tgt := 6) hx hb dX8_layPages_74 (by decide) ?_
          exact hrec v1_23 t_pages_17 t_work_21 (Option.some.inj hf).symm _ _ _ hP hS (lv_sub hl [1, 0] rfl)
        refine lv_if_ne (tgt := 71) hx hb dX8_layPages_64 (by decide) (fun c_24 => ?_) (fun c_24 => ?_)
        · have hf := ite_f hf c_24
          exact J_22 t_work_5 hf _ _ _ hP hS (lv_sub hl [0, 1] rfl)
        · have hf := ite_t hf c_24
          refine lv_aload_n hx hb dX8_layPages_67 rfl (lv_at hl 0 rfl) ?_
          obtain ⟨t_work_25, hc_26, hf⟩ := ob1_e hf
          refine kV_v (wn := [oX8 t_q t_state_q t_roomMany t_doorMany t_stringLong t_laws_q t_lawMany t_readPage_q t_readLaws_q t_readRooms t_readDoors t_readString t_readLawMany t_toldOnce t_highRoom t_highDoor t_tape_q t_taped t_fault t_broken t_brokenAt t_spot t_here t_token t_value t_cuts_q t_letters_q t_work_q t_pages_q t_canBe_q t_leadsOn_q t_seen_q t_seenMany t_heard_q t_heardMany t_isKept_q t_lanes_q t_lengths_q t_cells_q t_torn, aI g t_laws_q 18 t_laws, aI g t_pages_q 750 t_pages_17, aI g t_state_q 196 t_state, aI g t_work_q 30 t_work_25]) (As := []) (rest := []) (c_X8_dusks l g _ t_q t_state_q t_laws_q t_readPage_q t_readLaws_q t_tape_q t_cuts_q t_letters_q t_work_q t_pages_q t_canBe_q t_leadsOn_q t_seen_q t_heard_q t_isKept_q t_lanes_q t_lengths_q t_cells_q t_roomMany t_doorMany t_stringLong t_lawMany t_readRooms t_readDoors t_readString t_readLawMany t_toldOnce t_highRoom t_highDoor t_taped t_fault t_broken t_brokenAt t_spot t_here t_token t_value t_seenMany t_heardMany t_torn t_laws t_work_5 t_work_25 hc_26) ⟨hx, hb, hml, hown, hts⟩ (cwV 0 hts gX8_layPages_X8_dusks rfl rfl rfl (by decide +kernel) ⟨by decide, by decide⟩) hK hz hk hP (hD.re rfl) hS hA [0, 1, 4] rfl rfl rfl rfl rfl rfl rfl hl.1 rfl (Nat.le_of_ble_eq_true rfl) dX8_layPages_68 (fun H locs hP hS => ?_)
          exact J_22 t_work_25 hf _ _ _ hP hS (lv_sub hl [0, 1] rfl)
      have L_10 : ∀ (n : Nat) (v2_8 : Int32) (t_pages_9 : Nat → Int32), itr (un2 (b_X8_layPages_14 v1_3 t_work_5)) n (v2_8, t_pages_9) = some (x2_16, t_pages_17) → ∀ (H : Heap) (locs : List Loc) (ls : Array Slot), va_P g.1 vwCl [oX8 t_q t_state_q t_roomMany t_doorMany t_stringLong t_laws_q t_lawMany t_readPage_q t_readLaws_q t_readRooms t_readDoors t_readString t_readLawMany t_toldOnce t_highRoom t_highDoor t_tape_q t_taped t_fault t_broken t_brokenAt t_spot t_here t_token t_value t_cuts_q t_letters_q t_work_q t_pages_q t_canBe_q t_leadsOn_q t_seen_q t_seenMany t_heard_q t_heardMany t_isKept_q t_lanes_q t_lengths_q t_cells_q t_torn, aI g t_laws_q 18 t_laws, aI g t_pages_q 750 t_pages_9, aI g t_state_q 196 t_state, aI g t_work_q 30 t_work_5] H → va_S A s.heap H locs → lv_has ls 3 [(0, .ref t_q), (1, .int v1_3), (2, .int v2_8)] → W p l e rmX8_layPages s m args below meth c H locs 0 0 Q (F0 m 14 ls []) := by
        refine itr_ind2 ?_
        intro v2_8 t_pages_9 z_10 hf hrec hex H locs ls hP hS hl
        unfold b_X8_layPages_14 at hf
        refine lv_iload_n hx hb dX8_layPages_14 rfl (lv_at hl 2 rfl) ?_
        refine lv_bipush (v := (30 : Int32)) hx hb dX8_layPages_15 (by decide) ?_
        refine lv_icmp_ge (tgt := 43) hx hb dX8_layPages_17 (by decide) (fun c_11 => ?_) (fun c_11 => ?_)
        · have hf := ite_t hf c_11
          exact K_10 v2_8 t_pages_9 (congrArg (fun t => t.1) (hex _ (Option.some.inj hf).symm).symm) (congrArg (fun t => t.2) (hex _ (Option.some.inj hf).symm).symm) _ _ _ hP hS (lv_sub hl [0, 1] rfl)
        · have hf := ite_f hf c_11
          refine lv_aload_n hx hb dX8_layPages_20 rfl (lv_at hl 0 rfl) ?_
          refine va_get (D := g.1) (ci := 8) (v := .ref t_pages_q) (C := RX8) (T := TX8) (N := 39) hx hb hts inX8 hown hK hP 0 rfl rfl 27 (by decide) k41 (fun _ h9 => h9) rfl dX8_layPages_21 ?_
          refine lv_bipush (v := (30 : Int32)) hx hb dX8_layPages_24 (by decide) ?_
          refine lv_iload_n hx hb dX8_layPages_26 rfl (lv_at hl 1 rfl) ?_
          refine lv_imul hx hb dX8_layPages_27 ?_
          refine lv_iload_n hx hb dX8_layPages_28 rfl (lv_at hl 2 rfl) ?_
          refine lv_iadd hx hb dX8_layPages_29 ?_
          refine lv_aload_n hx hb dX8_layPages_30 rfl (lv_at hl 0 rfl) ?_
          refine va_get (D := g.1) (ci := 8) (v := .ref t_work_q) (C := RX8) (T := TX8) (N := 39) hx hb hts inX8 hown hK hP 0 rfl rfl 26 (by decide) k38 (fun _ h9 => h9) rfl dX8_layPages_31 ?_
          refine lv_iload_n hx hb dX8_layPages_34 rfl (lv_at hl 2 rfl) ?_
          obtain ⟨h_12, hf⟩ := gin_e hf
          refine va_iald hx hb hK hP 4 0 rfl rfl h_12 dX8_layPages_35 ?_
          obtain ⟨h_13, hf⟩ := gin_e hf
          obtain ⟨t_pages_14, et_pages_14, hf⟩ := bnd_e hf
          refine va_iast hx hb hK hP (hD.re rfl) hS 2 0 rfl rfl h_13 dX8_layPages_36 (fun H locs hP _ hS => ?_)
          have hP : va_P g.1 vwCl [oX8 t_q t_state_q t_roomMany t_doorMany t_stringLong t_laws_q t_lawMany t_readPage_q t_readLaws_q t_readRooms t_readDoors t_readString t_readLawMany t_toldOnce t_highRoom t_highDoor t_tape_q t_taped t_fault t_broken t_brokenAt t_spot t_here t_token t_value t_cuts_q t_letters_q t_work_q t_pages_q t_canBe_q t_leadsOn_q t_seen_q t_seenMany t_heard_q t_heardMany t_isKept_q t_lanes_q t_lengths_q t_cells_q t_torn, aI g t_laws_q 18 t_laws, aI g t_pages_q 750 t_pages_14, aI g t_state_q 196 t_state, aI g t_work_q 30 t_work_5] H := by rw [et_pages_14]; exact hP
          obtain ⟨v2_15, ev2_15, hf⟩ := bnd_e hf
          refine lv_iinc (v := v2_15) (lv' := [(2, .int v2_15), (0, .ref t_q), (1, .int v1_3)]) hx hb dX8_layPages_37 hl (k := 2) rfl (by rw [ev2_15]; rfl) (by decide) rfl (fun ls hl => ?_)
          refine lv_goto (tgt := 14) hx hb dX8_layPages_40 (by decide) ?_
          exact hrec v2_15 t_pages_14 (Option.some.inj hf).symm _ _ _ hP hS (lv_sub hl [1, 2, 0] rfl)
      exact L_10 FU (0 : Int32) t_pages_4 ho_10 _ _ _ hP hS (lv_sub hl [1, 2, 0] rfl)
  exact L_6 FU (0 : Int32) t_pages t_work_1 ho_6 _ _ _ hP hS (lv_sub hl [1, 0] rfl)

def f_X8_beastNow (t_state : Nat → Int32) : Option (Int32) :=
 (gin (32 : Int32) 196 (if (t_state (32 : Int32).toNatClampNeg) = (0 : Int32) then
 (some (-4 : Int32))
 else (gin (32 : Int32) 196 (some ((t_state (32 : Int32).toNatClampNeg) - (1 : Int32))))))
abbrev rmX8_beastNow : Room := { frames := 0, cells := 0, slots := 0, locals := 0 }
set_option maxHeartbeats 4000000 in
set_option maxRecDepth 100000 in
theorem c_X8_beastNow (l : Launch) (g : Gh) (sz : Nat) (t_q t_state_q t_laws_q t_readPage_q t_readLaws_q t_tape_q t_cuts_q t_letters_q t_work_q t_pages_q t_canBe_q t_leadsOn_q t_seen_q t_heard_q t_isKept_q t_lanes_q t_lengths_q t_cells_q : Nat) (t_roomMany : Int32) (t_doorMany : Int32) (t_stringLong : Int32) (t_lawMany : Int32) (t_readRooms : Int32) (t_readDoors : Int32) (t_readString : Int32) (t_readLawMany : Int32) (t_toldOnce : Int32) (t_highRoom : Int32) (t_highDoor : Int32) (t_taped : Int32) (t_fault : Int32) (t_broken : Int32) (t_brokenAt : Int32) (t_spot : Int32) (t_here : Int32) (t_token : Int32) (t_value : Int32) (t_seenMany : Int32) (t_heardMany : Int32) (t_torn : Int32) (t_state : Nat → Int32) (rr : Int32) (hf : f_X8_beastNow t_state = some rr) : CI l yX8_beastNow wsX8_beastNow rmX8_beastNow [.ref t_q] g sz [oX8 t_q t_state_q t_roomMany t_doorMany t_stringLong t_laws_q t_lawMany t_readPage_q t_readLaws_q t_readRooms t_readDoors t_readString t_readLawMany t_toldOnce t_highRoom t_highDoor t_tape_q t_taped t_fault t_broken t_brokenAt t_spot t_here t_token t_value t_cuts_q t_letters_q t_work_q t_pages_q t_canBe_q t_leadsOn_q t_seen_q t_seenMany t_heard_q t_heardMany t_isKept_q t_lanes_q t_lengths_q t_cells_q t_torn, aI g t_state_q 196 t_state] [oX8 t_q t_state_q t_roomMany t_doorMany t_stringLong t_laws_q t_lawMany t_readPage_q t_readLaws_q t_readRooms t_readDoors t_readString t_readLawMany t_toldOnce t_highRoom t_highDoor t_tape_q t_taped t_fault t_broken t_brokenAt t_spot t_here t_token t_value t_cuts_q t_letters_q t_work_q t_pages_q t_canBe_q t_leadsOn_q t_seen_q t_seenMany t_heard_q t_heardMany t_isKept_q t_lanes_q t_lengths_q t_cells_q t_torn, aI g t_state_q 196 t_state] rr := by
  refine ent_i (cc := cX8_beastNow) (maxL := 1) (by decide) rfl (Nat.le_of_ble_eq_true rfl) ?_
  intro p e s m args below meth c A Q hx hb hml hown hts hK hz hk hA hD hP hS hret ls hl
  have hown : s.vm.findClass RX8 = some m.cls := hown
  have inX8 : ∀ w ∈ u_ws RX8 TX8 39, w ∈ wsX8_beastNow := by decide +kernel
  have k7 := hts (.fieldLink RX8 7 "ThreadMovedModel" "state" "[I") (by decide +kernel)
  have hl : lv_has ls 1 [(0, .ref t_q)] := hl
  have hret : ∀ (rrz : Int32), rrz = rr → ∀ (H : Heap) (locs : List Loc) (pc : Nat) (ls : Array Slot), va_P g.1 vwCl [oX8 t_q t_state_q t_roomMany t_doorMany t_stringLong t_laws_q t_lawMany t_readPage_q t_readLaws_q t_readRooms t_readDoors t_readString t_readLawMany t_toldOnce t_highRoom t_highDoor t_tape_q t_taped t_fault t_broken t_brokenAt t_spot t_here t_token t_value t_cuts_q t_letters_q t_work_q t_pages_q t_canBe_q t_leadsOn_q t_seen_q t_seenMany t_heard_q t_heardMany t_isKept_q t_lanes_q t_lengths_q t_cells_q t_torn, aI g t_state_q 196 t_state] H → va_S A s.heap H locs → decode cX8_beastNow pc = .ok (.ireturn, 1) → W p l e rmX8_beastNow s m args below meth c H locs 0 0 Q (F0 m pc ls [.int rrz]) := by
    intro rrz he H locs pc ls hP hS hd
    cases he
    exact hret H locs pc ls hP hS hd
  unfold f_X8_beastNow at hf
  refine lv_aload_n hx hb dX8_beastNow_0 rfl (lv_at hl 0 rfl) ?_
  refine va_get (D := g.1) (ci := 8) (v := .ref t_state_q) (C := RX8) (T := TX8) (N := 39) hx hb hts inX8 hown hK hP 0 rfl rfl 0 (by decide) k7 (fun _ h9 => h9) rfl dX8_beastNow_1 ?_
  refine lv_bipush (v := (32 : Int32)) hx hb dX8_beastNow_4 (by decide) ?_
  obtain ⟨h_1, hf⟩ := gin_e hf
  refine va_iald hx hb hK hP 1 0 rfl rfl h_1 dX8_beastNow_6 ?_
  refine lv_if_ne (tgt := 15) hx hb dX8_beastNow_7 (by decide) (fun c_2 => ?_) (fun c_2 => ?_)
  · have hf := ite_f hf c_2
    refine lv_aload_n hx hb dX8_beastNow_15 rfl (lv_at hl 0 rfl) ?_
    refine va_get (D := g.1) (ci := 8) (v := .ref t_state_q) (C := RX8) (T := TX8) (N := 39) hx hb hts inX8 hown hK hP 0 rfl rfl 0 (by decide) k7 (fun _ h9 => h9) rfl dX8_beastNow_16 ?_
    refine lv_bipush (v := (32 : Int32)) hx hb dX8_beastNow_19 (by decide) ?_
    obtain ⟨h_3, hf⟩ := gin_e hf
    refine va_iald hx hb hK hP 1 0 rfl rfl h_3 dX8_beastNow_21 ?_
    refine lv_iconst (v := (1 : Int32)) hx hb dX8_beastNow_22 (by decide) ?_
    refine lv_isub hx hb dX8_beastNow_23 ?_
    exact hret ((t_state (32 : Int32).toNatClampNeg) - (1 : Int32)) (Option.some.inj hf) _ _ _ _ hP hS dX8_beastNow_24
  · have hf := ite_t hf c_2
    refine lv_bipush (v := (-4 : Int32)) hx hb dX8_beastNow_10 (by decide) ?_
    refine lv_goto (tgt := 24) hx hb dX8_beastNow_12 (by decide) ?_
    exact hret (-4 : Int32) (Option.some.inj hf) _ _ _ _ hP hS dX8_beastNow_24

def f_X8_at (p0 : Int32) (p1 : Int32) (p2 : Int32) : Option (Int32) :=
 (if p2 = (-4 : Int32) then
 (some ((((56 : Int32) * p0) + ((8 : Int32) * p1)) + (0 : Int32)))
 else (some ((((56 : Int32) * p0) + ((8 : Int32) * p1)) + (p2 + (1 : Int32)))))
abbrev rmX8_at : Room := { frames := 0, cells := 0, slots := 0, locals := 0 }
set_option maxHeartbeats 4000000 in
set_option maxRecDepth 100000 in
theorem c_X8_at (l : Launch) (g : Gh) (sz : Nat) (p0 : Int32) (p1 : Int32) (p2 : Int32) (rr : Int32) (hf : f_X8_at p0 p1 p2 = some rr) : CI l yX8_at wsX8_at rmX8_at [.int p0, .int p1, .int p2] g sz [] [] rr := by
  refine ent_i (cc := cX8_at) (maxL := 3) (by decide) rfl (Nat.le_of_ble_eq_true rfl) ?_
  intro p e s m args below meth c A Q hx hb hml hown hts hK hz hk hA hD hP hS hret ls hl
  have hown : s.vm.findClass RX8 = some m.cls := hown
  have hl : lv_has ls 3 [(0, .int p0), (1, .int p1), (2, .int p2)] := hl
  have hret : ∀ (rrz : Int32), rrz = rr → ∀ (H : Heap) (locs : List Loc) (pc : Nat) (ls : Array Slot), va_P g.1 vwCl [] H → va_S A s.heap H locs → decode cX8_at pc = .ok (.ireturn, 1) → W p l e rmX8_at s m args below meth c H locs 0 0 Q (F0 m pc ls [.int rrz]) := by
    intro rrz he H locs pc ls hP hS hd
    cases he
    exact hret H locs pc ls hP hS hd
  unfold f_X8_at at hf
  refine lv_bipush (v := (56 : Int32)) hx hb dX8_at_0 (by decide) ?_
  refine lv_iload_n hx hb dX8_at_2 rfl (lv_at hl 0 rfl) ?_
  refine lv_imul hx hb dX8_at_3 ?_
  refine lv_bipush (v := (8 : Int32)) hx hb dX8_at_4 (by decide) ?_
  refine lv_iload_n hx hb dX8_at_6 rfl (lv_at hl 1 rfl) ?_
  refine lv_imul hx hb dX8_at_7 ?_
  refine lv_iadd hx hb dX8_at_8 ?_
  refine lv_iload_n hx hb dX8_at_9 rfl (lv_at hl 2 rfl) ?_
  refine lv_bipush (v := (-4 : Int32)) hx hb dX8_at_10 (by decide) ?_
  refine lv_icmp_ne (tgt := 19) hx hb dX8_at_12 (by decide) (fun c_1 => ?_) (fun c_1 => ?_)
  · have hf := ite_f hf c_1
    refine lv_iload_n hx hb dX8_at_19 rfl (lv_at hl 2 rfl) ?_
    refine lv_iconst (v := (1 : Int32)) hx hb dX8_at_20 (by decide) ?_
    refine lv_iadd hx hb dX8_at_21 ?_
    refine lv_iadd hx hb dX8_at_22 ?_
    exact hret ((((56 : Int32) * p0) + ((8 : Int32) * p1)) + (p2 + (1 : Int32))) (Option.some.inj hf) _ _ _ _ hP hS dX8_at_23
  · have hf := ite_t hf c_1
    refine lv_iconst (v := (0 : Int32)) hx hb dX8_at_15 (by decide) ?_
    refine lv_goto (tgt := 22) hx hb dX8_at_16 (by decide) ?_
    refine lv_iadd hx hb dX8_at_22 ?_
    exact hret ((((56 : Int32) * p0) + ((8 : Int32) * p1)) + (0 : Int32)) (Option.some.inj hf) _ _ _ _ hP hS dX8_at_23
