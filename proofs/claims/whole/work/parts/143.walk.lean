def b_X8_laws_26 (t_roomMany : Int32) (t_doorMany : Int32) (t_seenMany : Int32) (t_seen : Nat → Int32) (t_state : Nat → Int32) (v2_4 : Int32) (v3_5 : Int32) (v4_6 : Int32) (v5_7 : Int32) (t_work_8 : Nat → Int32) : Option ((Int32 × Int32 × Int32 × Int32 × (Nat → Int32)) ⊕ (Int32 × Int32 × Int32 × Int32 × (Nat → Int32))) :=
 (if (210 : Int32) ≤ v5_7 then
 (some (.inr (v2_4, v3_5, v4_6, v5_7, t_work_8)))
 else (ob2 (f_X8_isLawSo t_roomMany t_doorMany t_seenMany t_seen t_state t_work_8 v5_7) (fun r_11 t_work_12 =>
 (jn3 (fun (v2_14 : Int32) (v3_15 : Int32) (v4_16 : Int32) => (bnd (v5_7 + (1 : Int32)) (fun v5_18 =>
 (some (.inl (v2_14, v3_15, v4_16, v5_18, t_work_12)))))) (fun j_17 =>
 (if r_11 = (0 : Int32) then
 (j_17 v2_4 v3_5 v4_6)
 else (jn1 (fun (s_20 : Int32) => (bnd (v2_4 + (1 : Int32)) (fun v2_22 =>
 (j_17 v2_22 s_20 v5_7)))) (fun j_21 =>
 (if v2_4 = (0 : Int32) then
 (j_21 v5_7)
 else (j_21 v3_5))))))))))
def f_X8_laws (t_roomMany : Int32) (t_doorMany : Int32) (t_seenMany : Int32) (t_seen : Nat → Int32) (t_state : Nat → Int32) (t_work : Nat → Int32) (p1 : Int32) : Option (Int32 × (Nat → Int32)) :=
 (ob1 (f_X8_in (p1.toInt64) (0 : Int64) (2 : Int64)) (fun r_1 =>
 (if r_1 = (0 : Int32) then
 (some ((-1 : Int32), t_work))
 else (ob5 (itr (un5 (b_X8_laws_26 t_roomMany t_doorMany t_seenMany t_seen t_state)) FU ((0 : Int32), (-4 : Int32), (-4 : Int32), (0 : Int32), t_work)) (fun x2_24 x3_25 x4_26 x5_27 t_work_28 =>
 (if p1 = (0 : Int32) then
 (some (x2_24, t_work_28))
 else (if p1 = (1 : Int32) then
 (some (x3_25, t_work_28))
 else (some (x4_26, t_work_28)))))))))
abbrev rmX8_laws : Room := { frames := 4, cells := 0, slots := 0, locals := 92 }
set_option maxHeartbeats 4000000 in
set_option maxRecDepth 100000 in
theorem c_X8_laws (l : Launch) (g : Gh) (sz : Nat) (t_q t_state_q t_laws_q t_readPage_q t_readLaws_q t_tape_q t_cuts_q t_letters_q t_work_q t_pages_q t_canBe_q t_leadsOn_q t_seen_q t_heard_q t_isKept_q t_lanes_q t_lengths_q t_cells_q : Nat) (t_roomMany : Int32) (t_doorMany : Int32) (t_stringLong : Int32) (t_lawMany : Int32) (t_readRooms : Int32) (t_readDoors : Int32) (t_readString : Int32) (t_readLawMany : Int32) (t_toldOnce : Int32) (t_highRoom : Int32) (t_highDoor : Int32) (t_taped : Int32) (t_fault : Int32) (t_broken : Int32) (t_brokenAt : Int32) (t_spot : Int32) (t_here : Int32) (t_token : Int32) (t_value : Int32) (t_seenMany : Int32) (t_heardMany : Int32) (t_torn : Int32) (t_seen : Nat → Int32) (t_state : Nat → Int32) (t_work : Nat → Int32) (p1 : Int32) (rr : Int32) (t_work' : Nat → Int32) (hf : f_X8_laws t_roomMany t_doorMany t_seenMany t_seen t_state t_work p1 = some (rr, t_work')) : CI l yX8_laws wsX8_laws rmX8_laws [.ref t_q, .int p1] g sz [oX8 t_q t_state_q t_roomMany t_doorMany t_stringLong t_laws_q t_lawMany t_readPage_q t_readLaws_q t_readRooms t_readDoors t_readString t_readLawMany t_toldOnce t_highRoom t_highDoor t_tape_q t_taped t_fault t_broken t_brokenAt t_spot t_here t_token t_value t_cuts_q t_letters_q t_work_q t_pages_q t_canBe_q t_leadsOn_q t_seen_q t_seenMany t_heard_q t_heardMany t_isKept_q t_lanes_q t_lengths_q t_cells_q t_torn, aI g t_seen_q 18 t_seen, aI g t_state_q 196 t_state, aI g t_work_q 30 t_work] [oX8 t_q t_state_q t_roomMany t_doorMany t_stringLong t_laws_q t_lawMany t_readPage_q t_readLaws_q t_readRooms t_readDoors t_readString t_readLawMany t_toldOnce t_highRoom t_highDoor t_tape_q t_taped t_fault t_broken t_brokenAt t_spot t_here t_token t_value t_cuts_q t_letters_q t_work_q t_pages_q t_canBe_q t_leadsOn_q t_seen_q t_seenMany t_heard_q t_heardMany t_isKept_q t_lanes_q t_lengths_q t_cells_q t_torn, aI g t_seen_q 18 t_seen, aI g t_state_q 196 t_state, aI g t_work_q 30 t_work'] rr := by
  refine ent_i (cc := cX8_laws) (maxL := 6) (by decide) rfl (Nat.le_of_ble_eq_true rfl) ?_
  intro p e s m args below meth c A Q hx hb hml hown hts hK hz hk hA hD hP hS hret ls hl
  have hown : s.vm.findClass RX8 = some m.cls := hown
  have q194 := hts (.constantLong RX8 194 (2)) (by decide +kernel)
  have hl : lv_has ls 6 [(0, .ref t_q), (1, .int p1)] := hl
  have hret : ∀ (rrz : Int32) (t_workz : Nat → Int32), (rrz, t_workz) = (rr, t_work') → ∀ (H : Heap) (locs : List Loc) (pc : Nat) (ls : Array Slot), va_P g.1 vwCl [oX8 t_q t_state_q t_roomMany t_doorMany t_stringLong t_laws_q t_lawMany t_readPage_q t_readLaws_q t_readRooms t_readDoors t_readString t_readLawMany t_toldOnce t_highRoom t_highDoor t_tape_q t_taped t_fault t_broken t_brokenAt t_spot t_here t_token t_value t_cuts_q t_letters_q t_work_q t_pages_q t_canBe_q t_leadsOn_q t_seen_q t_seenMany t_heard_q t_heardMany t_isKept_q t_lanes_q t_lengths_q t_cells_q t_torn, aI g t_seen_q 18 t_seen, aI g t_state_q 196 t_state, aI g t_work_q 30 t_workz] H → va_S A s.heap H locs → decode cX8_laws pc = .ok (.ireturn, 1) → W p l e rmX8_laws s m args below meth c H locs 0 0 Q (F0 m pc ls [.int rrz]) := by
    intro rrz t_workz he H locs pc ls hP hS hd
    cases he
    exact hret H locs pc ls hP hS hd
  unfold f_X8_laws at hf
  refine lv_iload_n hx hb dX8_laws_0 rfl (lv_at hl 1 rfl) ?_
  refine lv_i2l hx hb dX8_laws_1 rfl ?_
  refine lv_lconst (v := (0 : Int64)) hx hb dX8_laws_2 (by decide) ?_
  refine lv_ldc2 hx hb hown q194 dX8_laws_3 ?_
  obtain ⟨r_1, hc_2, hf⟩ := ob1_e hf
  refine kS_i (wn := [oX8 t_q t_state_q t_roomMany t_doorMany t_stringLong t_laws_q t_lawMany t_readPage_q t_readLaws_q t_readRooms t_readDoors t_readString t_readLawMany t_toldOnce t_highRoom t_highDoor t_tape_q t_taped t_fault t_broken t_brokenAt t_spot t_here t_token t_value t_cuts_q t_letters_q t_work_q t_pages_q t_canBe_q t_leadsOn_q t_seen_q t_seenMany t_heard_q t_heardMany t_isKept_q t_lanes_q t_lengths_q t_cells_q t_torn, aI g t_seen_q 18 t_seen, aI g t_state_q 196 t_state, aI g t_work_q 30 t_work]) (As := [.long (p1.toInt64), .long (0 : Int64), .long (2 : Int64)]) (rest := []) (c_X8_in l g _ (p1.toInt64) (0 : Int64) (2 : Int64) r_1 hc_2) ⟨hx, hb, hml, hown, hts⟩ (va_cwS 3 hts gX8_laws_X8_in rfl rfl rfl (by decide +kernel) ⟨by decide, by decide⟩) hK hz hk hP (hD.re rfl) hS hA [] rfl rfl rfl rfl rfl hl.1 rfl (Nat.le_of_ble_eq_true rfl) dX8_laws_6 (fun H locs hP hS => ?_)
  refine lv_if_ne (tgt := 14) hx hb dX8_laws_9 (by decide) (fun c_3 => ?_) (fun c_3 => ?_)
  · have hf := ite_f hf c_3
    refine lv_iconst (v := (0 : Int32)) hx hb dX8_laws_14 (by decide) ?_
    refine lv_istore_n (lv' := [(2, .int (0 : Int32)), (0, .ref t_q), (1, .int p1)]) hx hb dX8_laws_15 rfl hl (by decide) rfl (fun ls hl => ?_)
    refine lv_bipush (v := (-4 : Int32)) hx hb dX8_laws_16 (by decide) ?_
    refine lv_istore_n (lv' := [(3, .int (-4 : Int32)), (2, .int (0 : Int32)), (0, .ref t_q), (1, .int p1)]) hx hb dX8_laws_18 rfl hl (by decide) rfl (fun ls hl => ?_)
    refine lv_bipush (v := (-4 : Int32)) hx hb dX8_laws_19 (by decide) ?_
    refine lv_istore (lv' := [(4, .int (-4 : Int32)), (3, .int (-4 : Int32)), (2, .int (0 : Int32)), (0, .ref t_q), (1, .int p1)]) hx hb dX8_laws_21 hl (by decide) rfl (fun ls hl => ?_)
    refine lv_iconst (v := (0 : Int32)) hx hb dX8_laws_23 (by decide) ?_
    refine lv_istore (lv' := [(5, .int (0 : Int32)), (4, .int (-4 : Int32)), (3, .int (-4 : Int32)), (2, .int (0 : Int32)), (0, .ref t_q), (1, .int p1)]) hx hb dX8_laws_24 hl (by decide) rfl (fun ls hl => ?_)
    obtain ⟨x2_24, x3_25, x4_26, x5_27, t_work_28, ho_9, hf⟩ := ob5_e hf
    have K_9 : ∀ (x2_24y : Int32) (x3_25y : Int32) (x4_26y : Int32) (x5_27y : Int32) (t_work_28y : Nat → Int32), x2_24 = x2_24y → x3_25 = x3_25y → x4_26 = x4_26y → x5_27 = x5_27y → t_work_28 = t_work_28y → ∀ (H : Heap) (locs : List Loc) (ls : Array Slot), va_P g.1 vwCl [oX8 t_q t_state_q t_roomMany t_doorMany t_stringLong t_laws_q t_lawMany t_readPage_q t_readLaws_q t_readRooms t_readDoors t_readString t_readLawMany t_toldOnce t_highRoom t_highDoor t_tape_q t_taped t_fault t_broken t_brokenAt t_spot t_here t_token t_value t_cuts_q t_letters_q t_work_q t_pages_q t_canBe_q t_leadsOn_q t_seen_q t_seenMany t_heard_q t_heardMany t_isKept_q t_lanes_q t_lengths_q t_cells_q t_torn, aI g t_seen_q 18 t_seen, aI g t_state_q 196 t_state, aI g t_work_q 30 t_work_28y] H → va_S A s.heap H locs → lv_has ls 6 [(1, .int p1), (2, .int x2_24y), (3, .int x3_25y), (4, .int x4_26y)] → W p l e rmX8_laws s m args below meth c H locs 0 0 Q (F0 m 67 ls []) := by
      intro x2_24y x3_25y x4_26y x5_27y t_work_28y ey0 ey1 ey2 ey3 ey4 H locs ls hP hS hl
      subst ey0
      subst ey1
      subst ey2
      subst ey3
      subst ey4
      refine lv_iload_n hx hb dX8_laws_67 rfl (lv_at hl 0 rfl) ?_
      refine lv_if_ne (tgt := 75) hx hb dX8_laws_68 (by decide) (fun c_29 => ?_) (fun c_29 => ?_)
      · have hf := ite_f hf c_29
        refine lv_iload_n hx hb dX8_laws_75 rfl (lv_at hl 0 rfl) ?_
        refine lv_iconst (v := (1 : Int32)) hx hb dX8_laws_76 (by decide) ?_
        refine lv_icmp_ne (tgt := 84) hx hb dX8_laws_77 (by decide) (fun c_30 => ?_) (fun c_30 => ?_)
        · have hf := ite_f hf c_30
          refine lv_iload hx hb dX8_laws_84 (lv_at hl 3 rfl) ?_
          exact hret x4_26 t_work_28 (Option.some.inj hf) _ _ _ _ hP hS dX8_laws_86
        · have hf := ite_t hf c_30
          refine lv_iload_n hx hb dX8_laws_80 rfl (lv_at hl 2 rfl) ?_
          refine lv_goto (tgt := 86) hx hb dX8_laws_81 (by decide) ?_
          exact hret x3_25 t_work_28 (Option.some.inj hf) _ _ _ _ hP hS dX8_laws_86
      · have hf := ite_t hf c_29
        refine lv_iload_n hx hb dX8_laws_71 rfl (lv_at hl 1 rfl) ?_
        refine lv_goto (tgt := 86) hx hb dX8_laws_72 (by decide) ?_
        exact hret x2_24 t_work_28 (Option.some.inj hf) _ _ _ _ hP hS dX8_laws_86
    have L_9 : ∀ (n : Nat) (v2_4 : Int32) (v3_5 : Int32) (v4_6 : Int32) (v5_7 : Int32) (t_work_8 : Nat → Int32), itr (un5 (b_X8_laws_26 t_roomMany t_doorMany t_seenMany t_seen t_state)) n (v2_4, v3_5, v4_6, v5_7, t_work_8) = some (x2_24, x3_25, x4_26, x5_27, t_work_28) → ∀ (H : Heap) (locs : List Loc) (ls : Array Slot), va_P g.1 vwCl [oX8 t_q t_state_q t_roomMany t_doorMany t_stringLong t_laws_q t_lawMany t_readPage_q t_readLaws_q t_readRooms t_readDoors t_readString t_readLawMany t_toldOnce t_highRoom t_highDoor t_tape_q t_taped t_fault t_broken t_brokenAt t_spot t_here t_token t_value t_cuts_q t_letters_q t_work_q t_pages_q t_canBe_q t_leadsOn_q t_seen_q t_seenMany t_heard_q t_heardMany t_isKept_q t_lanes_q t_lengths_q t_cells_q t_torn, aI g t_seen_q 18 t_seen, aI g t_state_q 196 t_state, aI g t_work_q 30 t_work_8] H → va_S A s.heap H locs → lv_has ls 6 [(0, .ref t_q), (1, .int p1), (2, .int v2_4), (3, .int v3_5), (4, .int v4_6), (5, .int v5_7)] → W p l e rmX8_laws s m args below meth c H locs 0 0 Q (F0 m 26 ls []) := by
      refine itr_ind5 ?_
      intro v2_4 v3_5 v4_6 v5_7 t_work_8 z_9 hf hrec hex H locs ls hP hS hl
      unfold b_X8_laws_26 at hf
      refine lv_iload hx hb dX8_laws_26 (lv_at hl 5 rfl) ?_
      refine lv_sipush (v := (210 : Int32)) hx hb dX8_laws_28 (by decide) ?_
      refine lv_icmp_ge (tgt := 67) hx hb dX8_laws_31 (by decide) (fun c_10 => ?_) (fun c_10 => ?_)
      · have hf := ite_t hf c_10
        exact K_9 v2_4 v3_5 v4_6 v5_7 t_work_8 (congrArg (fun t => t.1) (hex _ (Option.some.inj hf).symm).symm) (congrArg (fun t => t.2.1) (hex _ (Option.some.inj hf).symm).symm) (congrArg (fun t => t.2.2.1) (hex _ (Option.some.inj hf).symm).symm) (congrArg (fun t => t.2.2.2.1) (hex _ (Option.some.inj hf).symm).symm) (congrArg (fun t => t.2.2.2.2) (hex _ (Option.some.inj hf).symm).symm) _ _ _ hP hS (lv_sub hl [1, 2, 3, 4] rfl)
      · have hf := ite_f hf c_10
        refine lv_aload_n hx hb dX8_laws_34 rfl (lv_at hl 0 rfl) ?_
        refine lv_iload hx hb dX8_laws_35 (lv_at hl 5 rfl) ?_
        obtain ⟨r_11, t_work_12, hc_13, hf⟩ := ob2_e hf
        refine kV_i (wn := [oX8 t_q t_state_q t_roomMany t_doorMany t_stringLong t_laws_q t_lawMany t_readPage_q t_readLaws_q t_readRooms t_readDoors t_readString t_readLawMany t_toldOnce t_highRoom t_highDoor t_tape_q t_taped t_fault t_broken t_brokenAt t_spot t_here t_token t_value t_cuts_q t_letters_q t_work_q t_pages_q t_canBe_q t_leadsOn_q t_seen_q t_seenMany t_heard_q t_heardMany t_isKept_q t_lanes_q t_lengths_q t_cells_q t_torn, aI g t_seen_q 18 t_seen, aI g t_state_q 196 t_state, aI g t_work_q 30 t_work_12]) (As := [.int v5_7]) (rest := []) (c_X8_isLawSo l g _ t_q t_state_q t_laws_q t_readPage_q t_readLaws_q t_tape_q t_cuts_q t_letters_q t_work_q t_pages_q t_canBe_q t_leadsOn_q t_seen_q t_heard_q t_isKept_q t_lanes_q t_lengths_q t_cells_q t_roomMany t_doorMany t_stringLong t_lawMany t_readRooms t_readDoors t_readString t_readLawMany t_toldOnce t_highRoom t_highDoor t_taped t_fault t_broken t_brokenAt t_spot t_here t_token t_value t_seenMany t_heardMany t_torn t_seen t_state t_work_8 v5_7 r_11 t_work_12 hc_13) ⟨hx, hb, hml, hown, hts⟩ (cwV 1 hts gX8_laws_X8_isLawSo rfl rfl rfl (by decide +kernel) ⟨by decide, by decide⟩) hK hz hk hP (hD.re rfl) hS hA [0, 1, 2, 3] rfl rfl rfl rfl rfl rfl rfl hl.1 rfl (Nat.le_of_ble_eq_true rfl) dX8_laws_37 (fun H locs hP hS => ?_)
        obtain ⟨j_17, hj_17, hf⟩ := jn3_e hf
        have J_17 : ∀ (v2_14 : Int32) (v3_15 : Int32) (v4_16 : Int32), j_17 v2_14 v3_15 v4_16 = some z_9 → ∀ (H : Heap) (locs : List Loc) (ls : Array Slot), va_P g.1 vwCl [oX8 t_q t_state_q t_roomMany t_doorMany t_stringLong t_laws_q t_lawMany t_readPage_q t_readLaws_q t_readRooms t_readDoors t_readString t_readLawMany t_toldOnce t_highRoom t_highDoor t_tape_q t_taped t_fault t_broken t_brokenAt t_spot t_here t_token t_value t_cuts_q t_letters_q t_work_q t_pages_q t_canBe_q t_leadsOn_q t_seen_q t_seenMany t_heard_q t_heardMany t_isKept_q t_lanes_q t_lengths_q t_cells_q t_torn, aI g t_seen_q 18 t_seen, aI g t_state_q 196 t_state, aI g t_work_q 30 t_work_12] H → va_S A s.heap H locs → lv_has ls 6 [(0, .ref t_q), (1, .int p1), (2, .int v2_14), (3, .int v3_15), (4, .int v4_16), (5, .int v5_7)] → W p l e rmX8_laws s m args below meth c H locs 0 0 Q (F0 m 61 ls []) := by
          intro v2_14 v3_15 v4_16 hf H locs ls hP hS hl
          rw [hj_17] at hf
          obtain ⟨v5_18, ev5_18, hf⟩ := bnd_e hf
          refine lv_iinc (v := v5_18) (lv' := [(5, .int v5_18), (0, .ref t_q), (1, .int p1), (2, .int v2_14), (3, .int v3_15), (4, .int v4_16)]) hx hb dX8_laws_61 hl (k := 5) rfl (by rw [ev5_18]; rfl) (by decide) rfl (fun ls hl => ?_)
          refine lv_goto (tgt := 26) hx hb dX8_laws_64 (by decide) ?_
          exact hrec v2_14 v3_15 v4_16 v5_18 t_work_12 (Option.some.inj hf).symm _ _ _ hP hS (lv_sub hl [1, 2, 3, 4, 5, 0] rfl)
        refine lv_if_eq (tgt := 61) hx hb dX8_laws_40 (by decide) (fun c_19 => ?_) (fun c_19 => ?_)
        · have hf := ite_t hf c_19
          exact J_17 v2_4 v3_5 v4_6 hf _ _ _ hP hS (lv_sub hl [0, 1, 2, 3, 4, 5] rfl)
        · have hf := ite_f hf c_19
          refine lv_iload_n hx hb dX8_laws_43 rfl (lv_at hl 2 rfl) ?_
          obtain ⟨j_21, hj_21, hf⟩ := jn1_e hf
          have J_21 : ∀ (s_20 : Int32), j_21 s_20 = some z_9 → ∀ (H : Heap) (locs : List Loc) (ls : Array Slot), va_P g.1 vwCl [oX8 t_q t_state_q t_roomMany t_doorMany t_stringLong t_laws_q t_lawMany t_readPage_q t_readLaws_q t_readRooms t_readDoors t_readString t_readLawMany t_toldOnce t_highRoom t_highDoor t_tape_q t_taped t_fault t_broken t_brokenAt t_spot t_here t_token t_value t_cuts_q t_letters_q t_work_q t_pages_q t_canBe_q t_leadsOn_q t_seen_q t_seenMany t_heard_q t_heardMany t_isKept_q t_lanes_q t_lengths_q t_cells_q t_torn, aI g t_seen_q 18 t_seen, aI g t_state_q 196 t_state, aI g t_work_q 30 t_work_12] H → va_S A s.heap H locs → lv_has ls 6 [(0, .ref t_q), (1, .int p1), (2, .int v2_4), (5, .int v5_7)] → W p l e rmX8_laws s m args below meth c H locs 0 0 Q (F0 m 53 ls [.int s_20]) := by
            intro s_20 hf H locs ls hP hS hl
            rw [hj_21] at hf
            refine lv_istore_n (lv' := [(3, .int s_20), (0, .ref t_q), (1, .int p1), (2, .int v2_4), (5, .int v5_7)]) hx hb dX8_laws_53 rfl hl (by decide) rfl (fun ls hl => ?_)
            refine lv_iload hx hb dX8_laws_54 (lv_at hl 4 rfl) ?_
            refine lv_istore (lv' := [(4, .int v5_7), (3, .int s_20), (0, .ref t_q), (1, .int p1), (2, .int v2_4), (5, .int v5_7)]) hx hb dX8_laws_56 hl (by decide) rfl (fun ls hl => ?_)
            obtain ⟨v2_22, ev2_22, hf⟩ := bnd_e hf
            refine lv_iinc (v := v2_22) (lv' := [(2, .int v2_22), (4, .int v5_7), (3, .int s_20), (0, .ref t_q), (1, .int p1), (5, .int v5_7)]) hx hb dX8_laws_58 hl (k := 4) rfl (by rw [ev2_22]; rfl) (by decide) rfl (fun ls hl => ?_)
            exact J_17 v2_22 s_20 v5_7 hf _ _ _ hP hS (lv_sub hl [3, 4, 0, 2, 1, 5] rfl)
          refine lv_if_ne (tgt := 52) hx hb dX8_laws_44 (by decide) (fun c_23 => ?_) (fun c_23 => ?_)
          · have hf := ite_f hf c_23
            refine lv_iload_n hx hb dX8_laws_52 rfl (lv_at hl 3 rfl) ?_
            exact J_21 v3_5 hf _ _ _ hP hS (lv_sub hl [0, 1, 2, 5] rfl)
          · have hf := ite_t hf c_23
            refine lv_iload hx hb dX8_laws_47 (lv_at hl 5 rfl) ?_
            refine lv_goto (tgt := 53) hx hb dX8_laws_49 (by decide) ?_
            exact J_21 v5_7 hf _ _ _ hP hS (lv_sub hl [0, 1, 2, 5] rfl)
    exact L_9 FU (0 : Int32) (-4 : Int32) (-4 : Int32) (0 : Int32) t_work ho_9 _ _ _ hP hS (lv_sub hl [4, 5, 3, 2, 1, 0] rfl)
  · have hf := ite_t hf c_3
    refine lv_iconst (v := (-1 : Int32)) hx hb dX8_laws_12 (by decide) ?_
    exact hret (-1 : Int32) t_work (Option.some.inj hf) _ _ _ _ hP hS dX8_laws_13

def f_X8_lay (t_cells : Nat → Int32) (t_lanes : Nat → Int32) (t_lengths : Nat → Int32) (p1 : Int32) (p2 : Int32) (p3 : Int32) : Option (Int32 × (Nat → Int32)) :=
 (ob1 (f_X8_in (p1.toInt64) (0 : Int64) (3 : Int64)) (fun r_1 =>
 (if r_1 = (0 : Int32) then
 (some ((-1 : Int32), t_cells))
 else (gin p1 4 (if (t_lanes p1.toNatClampNeg) = (-4 : Int32) then
 (some ((-11 : Int32), t_cells))
 else (gin p1 4 (ob1 (f_X8_in (p2.toInt64) (0 : Int64) (((t_lengths p1.toNatClampNeg) - (1 : Int32)).toInt64)) (fun r_7 =>
 (if r_7 = (0 : Int32) then
 (some ((-12 : Int32), t_cells))
 else (gin p1 4 (jn1 (fun (s_11 : Int32) => (gin (((40 : Int32) * p1) + p2) 160 (bnd (upd t_cells (((40 : Int32) * p1) + p2).toNatClampNeg s_11) (fun t_cells_14 =>
 (some ((1 : Int32), t_cells_14)))))) (fun j_12 =>
 (if (t_lanes p1.toNatClampNeg) = (0 : Int32) then
 (j_12 ((p3 <<< ((24 : Int32) &&& 31)) >>> ((24 : Int32) &&& 31)))
 else (gin p1 4 (if (t_lanes p1.toNatClampNeg) = (1 : Int32) then
 (j_12 ((p3 <<< ((16 : Int32) &&& 31)) >>> ((16 : Int32) &&& 31)))
 else (j_12 p3))))))))))))))))
abbrev rmX8_lay : Room := { frames := 1, cells := 0, slots := 0, locals := 25 }
set_option maxHeartbeats 4000000 in
set_option maxRecDepth 100000 in
theorem c_X8_lay (l : Launch) (g : Gh) (sz : Nat) (t_q t_state_q t_laws_q t_readPage_q t_readLaws_q t_tape_q t_cuts_q t_letters_q t_work_q t_pages_q t_canBe_q t_leadsOn_q t_seen_q t_heard_q t_isKept_q t_lanes_q t_lengths_q t_cells_q : Nat) (t_roomMany : Int32) (t_doorMany : Int32) (t_stringLong : Int32) (t_lawMany : Int32) (t_readRooms : Int32) (t_readDoors : Int32) (t_readString : Int32) (t_readLawMany : Int32) (t_toldOnce : Int32) (t_highRoom : Int32) (t_highDoor : Int32) (t_taped : Int32) (t_fault : Int32) (t_broken : Int32) (t_brokenAt : Int32) (t_spot : Int32) (t_here : Int32) (t_token : Int32) (t_value : Int32) (t_seenMany : Int32) (t_heardMany : Int32) (t_torn : Int32) (t_cells : Nat → Int32) (t_lanes : Nat → Int32) (t_lengths : Nat → Int32) (p1 : Int32) (p2 : Int32) (p3 : Int32) (rr : Int32) (t_cells' : Nat → Int32) (hf : f_X8_lay t_cells t_lanes t_lengths p1 p2 p3 = some (rr, t_cells')) : CI l yX8_lay wsX8_lay rmX8_lay [.ref t_q, .int p1, .int p2, .int p3] g sz [oX8 t_q t_state_q t_roomMany t_doorMany t_stringLong t_laws_q t_lawMany t_readPage_q t_readLaws_q t_readRooms t_readDoors t_readString t_readLawMany t_toldOnce t_highRoom t_highDoor t_tape_q t_taped t_fault t_broken t_brokenAt t_spot t_here t_token t_value t_cuts_q t_letters_q t_work_q t_pages_q t_canBe_q t_leadsOn_q t_seen_q t_seenMany t_heard_q t_heardMany t_isKept_q t_lanes_q t_lengths_q t_cells_q t_torn, aI g t_cells_q 160 t_cells, aI g t_lanes_q 4 t_lanes, aI g t_lengths_q 4 t_lengths] [oX8 t_q t_state_q t_roomMany t_doorMany t_stringLong t_laws_q t_lawMany t_readPage_q t_readLaws_q t_readRooms t_readDoors t_readString t_readLawMany t_toldOnce t_highRoom t_highDoor t_tape_q t_taped t_fault t_broken t_brokenAt t_spot t_here t_token t_value t_cuts_q t_letters_q t_work_q t_pages_q t_canBe_q t_leadsOn_q t_seen_q t_seenMany t_heard_q t_heardMany t_isKept_q t_lanes_q t_lengths_q t_cells_q t_torn, aI g t_cells_q 160 t_cells', aI g t_lanes_q 4 t_lanes, aI g t_lengths_q 4 t_lengths] rr := by
  refine ent_i (cc := cX8_lay) (maxL := 4) (by decide) rfl (Nat.le_of_ble_eq_true rfl) ?_
  intro p e s m args below meth c A Q hx hb hml hown hts hK hz hk hA hD hP hS hret ls hl
  have hown : s.vm.findClass RX8 = some m.cls := hown
  have inX8 : ∀ w ∈ u_ws RX8 TX8 39, w ∈ wsX8_lay := by decide +kernel
  have k60 := hts (.fieldLink RX8 60 "ThreadMovedModel" "lanes" "[I") (by decide +kernel)
  have k63 := hts (.fieldLink RX8 63 "ThreadMovedModel" "lengths" "[I") (by decide +kernel)
  have k66 := hts (.fieldLink RX8 66 "ThreadMovedModel" "cells" "[I") (by decide +kernel)
  have q150 := hts (.constantLong RX8 150 (3)) (by decide +kernel)
  have hl : lv_has ls 4 [(0, .ref t_q), (1, .int p1), (2, .int p2), (3, .int p3)] := hl
  have hret : ∀ (rrz : Int32) (t_cellsz : Nat → Int32), (rrz, t_cellsz) = (rr, t_cells') → ∀ (H : Heap) (locs : List Loc) (pc : Nat) (ls : Array Slot), va_P g.1 vwCl [oX8 t_q t_state_q t_roomMany t_doorMany t_stringLong t_laws_q t_lawMany t_readPage_q t_readLaws_q t_readRooms t_readDoors t_readString t_readLawMany t_toldOnce t_highRoom t_highDoor t_tape_q t_taped t_fault t_broken t_brokenAt t_spot t_here t_token t_value t_cuts_q t_letters_q t_work_q t_pages_q t_canBe_q t_leadsOn_q t_seen_q t_seenMany t_heard_q t_heardMany t_isKept_q t_lanes_q t_lengths_q t_cells_q t_torn, aI g t_cells_q 160 t_cellsz, aI g t_lanes_q 4 t_lanes, aI g t_lengths_q 4 t_lengths] H → va_S A s.heap H locs → decode cX8_lay pc = .ok (.ireturn, 1) → W p l e rmX8_lay s m args below meth c H locs 0 0 Q (F0 m pc ls [.int rrz]) := by
    intro rrz t_cellsz he H locs pc ls hP hS hd
    cases he
    exact hret H locs pc ls hP hS hd
  unfold f_X8_lay at hf
  refine lv_iload_n hx hb dX8_lay_0 rfl (lv_at hl 1 rfl) ?_
  refine lv_i2l hx hb dX8_lay_1 rfl ?_
  refine lv_lconst (v := (0 : Int64)) hx hb dX8_lay_2 (by decide) ?_
  refine lv_ldc2 hx hb hown q150 dX8_lay_3 ?_
  obtain ⟨r_1, hc_2, hf⟩ := ob1_e hf
  refine kS_i (wn := [oX8 t_q t_state_q t_roomMany t_doorMany t_stringLong t_laws_q t_lawMany t_readPage_q t_readLaws_q t_readRooms t_readDoors t_readString t_readLawMany t_toldOnce t_highRoom t_highDoor t_tape_q t_taped t_fault t_broken t_brokenAt t_spot t_here t_token t_value t_cuts_q t_letters_q t_work_q t_pages_q t_canBe_q t_leadsOn_q t_seen_q t_seenMany t_heard_q t_heardMany t_isKept_q t_lanes_q t_lengths_q t_cells_q t_torn, aI g t_cells_q 160 t_cells, aI g t_lanes_q 4 t_lanes, aI g t_lengths_q 4 t_lengths]) (As := [.long (p1.toInt64), .long (0 : Int64), .long (3 : Int64)]) (rest := []) (c_X8_in l g _ (p1.toInt64) (0 : Int64) (3 : Int64) r_1 hc_2) ⟨hx, hb, hml, hown, hts⟩ (va_cwS 3 hts gX8_lay_X8_in rfl rfl rfl (by decide +kernel) ⟨by decide, by decide⟩) hK hz hk hP (hD.re rfl) hS hA [] rfl rfl rfl rfl rfl hl.1 rfl (Nat.le_of_ble_eq_true rfl) dX8_lay_6 (fun H locs hP hS => ?_)
  refine lv_if_ne (tgt := 14) hx hb dX8_lay_9 (by decide) (fun c_3 => ?_) (fun c_3 => ?_)
  · have hf := ite_f hf c_3
    refine lv_aload_n hx hb dX8_lay_14 rfl (lv_at hl 0 rfl) ?_
    refine va_get (D := g.1) (ci := 8) (v := .ref t_lanes_q) (C := RX8) (T := TX8) (N := 39) hx hb hts inX8 hown hK hP 0 rfl rfl 35 (by decide) k60 (fun _ h9 => h9) rfl dX8_lay_15 ?_
    refine lv_iload_n hx hb dX8_lay_18 rfl (lv_at hl 1 rfl) ?_
    obtain ⟨h_4, hf⟩ := gin_e hf
    refine va_iald hx hb hK hP 2 0 rfl rfl h_4 dX8_lay_19 ?_
    refine lv_bipush (v := (-4 : Int32)) hx hb dX8_lay_20 (by decide) ?_
    refine lv_icmp_ne (tgt := 28) hx hb dX8_lay_22 (by decide) (fun c_5 => ?_) (fun c_5 => ?_)
    · have hf := ite_f hf c_5
      refine lv_iload_n hx hb dX8_lay_28 rfl (lv_at hl 2 rfl) ?_
      refine lv_i2l hx hb dX8_lay_29 rfl ?_
      refine lv_lconst (v := (0 : Int64)) hx hb dX8_lay_30 (by decide) ?_
      refine lv_aload_n hx hb dX8_lay_31 rfl (lv_at hl 0 rfl) ?_
      refine va_get (D := g.1) (ci := 8) (v := .ref t_lengths_q) (C := RX8) (T := TX8) (N := 39) hx hb hts inX8 hown hK hP 0 rfl rfl 36 (by decide) k63 (fun _ h9 => h9) rfl dX8_lay_32 ?_
      refine lv_iload_n hx hb dX8_lay_35 rfl (lv_at hl 1 rfl) ?_
      obtain ⟨h_6, hf⟩ := gin_e hf
      refine va_iald hx hb hK hP 3 0 rfl rfl h_6 dX8_lay_36 ?_
      refine lv_iconst (v := (1 : Int32)) hx hb dX8_lay_37 (by decide) ?_
      refine lv_isub hx hb dX8_lay_38 ?_
      refine lv_i2l hx hb dX8_lay_39 rfl ?_
      obtain ⟨r_7, hc_8, hf⟩ := ob1_e hf
      refine kS_i (wn := [oX8 t_q t_state_q t_roomMany t_doorMany t_stringLong t_laws_q t_lawMany t_readPage_q t_readLaws_q t_readRooms t_readDoors t_readString t_readLawMany t_toldOnce t_highRoom t_highDoor t_tape_q t_taped t_fault t_broken t_brokenAt t_spot t_here t_token t_value t_cuts_q t_letters_q t_work_q t_pages_q t_canBe_q t_leadsOn_q t_seen_q t_seenMany t_heard_q t_heardMany t_isKept_q t_lanes_q t_lengths_q t_cells_q t_torn, aI g t_cells_q 160 t_cells, aI g t_lanes_q 4 t_lanes, aI g t_lengths_q 4 t_lengths]) (As := [.long (p2.toInt64), .long (0 : Int64), .long (((t_lengths p1.toNatClampNeg) - (1 : Int32)).toInt64)]) (rest := []) (c_X8_in l g _ (p2.toInt64) (0 : Int64) (((t_lengths p1.toNatClampNeg) - (1 : Int32)).toInt64) r_7 hc_8) ⟨hx, hb, hml, hown, hts⟩ (va_cwS 3 hts gX8_lay_X8_in rfl rfl rfl (by decide +kernel) ⟨by decide, by decide⟩) hK hz hk hP (hD.re rfl) hS hA [] rfl rfl rfl rfl rfl hl.1 rfl (Nat.le_of_ble_eq_true rfl) dX8_lay_40 (fun H locs hP hS => ?_)
      refine lv_if_ne (tgt := 49) hx hb dX8_lay_43 (by decide) (fun c_9 => ?_) (fun c_9 => ?_)
      · have hf := ite_f hf c_9
        refine lv_aload_n hx hb dX8_lay_49 rfl (lv_at hl 0 rfl) ?_
        refine va_get (D := g.1) (ci := 8) (v := .ref t_cells_q) (C := RX8) (T := TX8) (N := 39) hx hb hts inX8 hown hK hP 0 rfl rfl 37 (by decide) k66 (fun _ h9 => h9) rfl dX8_lay_50 ?_
        refine lv_bipush (v := (40 : Int32)) hx hb dX8_lay_53 (by decide) ?_
        refine lv_iload_n hx hb dX8_lay_55 rfl (lv_at hl 1 rfl) ?_
        refine lv_imul hx hb dX8_lay_56 ?_
        refine lv_iload_n hx hb dX8_lay_57 rfl (lv_at hl 2 rfl) ?_
        refine lv_iadd hx hb dX8_lay_58 ?_
        refine lv_aload_n hx hb dX8_lay_59 rfl (lv_at hl 0 rfl) ?_
        refine va_get (D := g.1) (ci := 8) (v := .ref t_lanes_q) (C := RX8) (T := TX8) (N := 39) hx hb hts inX8 hown hK hP 0 rfl rfl 35 (by decide) k60 (fun _ h9 => h9) rfl dX8_lay_60 ?_
        refine lv_iload_n hx hb dX8_lay_63 rfl (lv_at hl 1 rfl) ?_
        obtain ⟨h_10, hf⟩ := gin_e hf
        refine va_iald hx hb hK hP 2 0 rfl rfl h_10 dX8_lay_64 ?_
        obtain ⟨j_12, hj_12, hf⟩ := jn1_e hf
        have J_12 : ∀ (s_11 : Int32), j_12 s_11 = some (rr, t_cells') → ∀ (H : Heap) (locs : List Loc) (ls : Array Slot), va_P g.1 vwCl [oX8 t_q t_state_q t_roomMany t_doorMany t_stringLong t_laws_q t_lawMany t_readPage_q t_readLaws_q t_readRooms t_readDoors t_readString t_readLawMany t_toldOnce t_highRoom t_highDoor t_tape_q t_taped t_fault t_broken t_brokenAt t_spot t_here t_token t_value t_cuts_q t_letters_q t_work_q t_pages_q t_canBe_q t_leadsOn_q t_seen_q t_seenMany t_heard_q t_heardMany t_isKept_q t_lanes_q t_lengths_q t_cells_q t_torn, aI g t_cells_q 160 t_cells, aI g t_lanes_q 4 t_lanes, aI g t_lengths_q 4 t_lengths] H → va_S A s.heap H locs → lv_has ls 4 [] → W p l e rmX8_lay s m args below meth c H locs 0 0 Q (F0 m 99 ls [.int s_11, .int (((40 : Int32) * p1) + p2), .ref t_cells_q]) := by
          intro s_11 hf H locs ls hP hS hl
          rw [hj_12] at hf
          obtain ⟨h_13, hf⟩ := gin_e hf
          obtain ⟨t_cells_14, et_cells_14, hf⟩ := bnd_e hf
          refine va_iast hx hb hK hP (hD.re rfl) hS 1 0 rfl rfl h_13 dX8_lay_99 (fun H locs hP _ hS => ?_)
          have hP : va_P g.1 vwCl [oX8 t_q t_state_q t_roomMany t_doorMany t_stringLong t_laws_q t_lawMany t_readPage_q t_readLaws_q t_readRooms t_readDoors t_readString t_readLawMany t_toldOnce t_highRoom t_highDoor t_tape_q t_taped t_fault t_broken t_brokenAt t_spot t_here t_token t_value t_cuts_q t_letters_q t_work_q t_pages_q t_canBe_q t_leadsOn_q t_seen_q t_seenMany t_heard_q t_heardMany t_isKept_q t_lanes_q t_lengths_q t_cells_q t_torn, aI g t_cells_q 160 t_cells_14, aI g t_lanes_q 4 t_lanes, aI g t_lengths_q 4 t_lengths] H := by rw [et_cells_14]; exact hP
          refine lv_iconst (v := (1 : Int32)) hx hb dX8_lay_100 (by decide) ?_
          exact hret (1 : Int32) t_cells_14 (Option.some.inj hf) _ _ _ _ hP hS dX8_lay_101
        refine lv_if_ne (tgt := 78) hx hb dX8_lay_65 (by decide) (fun c_15 => ?_) (fun c_15 => ?_)
        · have hf := ite_f hf c_15
          refine lv_aload_n hx hb dX8_lay_78 rfl (lv_at hl 0 rfl) ?_
          refine va_get (D := g.1) (ci := 8) (v := .ref t_lanes_q) (C := RX8) (T := TX8) (N := 39) hx hb hts inX8 hown hK hP 0 rfl rfl 35 (by decide) k60 (fun _ h9 => h9) rfl dX8_lay_79 ?_
          refine lv_iload_n hx hb dX8_lay_82 rfl (lv_at hl 1 rfl) ?_
          obtain ⟨h_16, hf⟩ := gin_e hf
          refine va_iald hx hb hK hP 2 0 rfl rfl h_16 dX8_lay_83 ?_
          refine lv_iconst (v := (1 : Int32)) hx hb dX8_lay_84 (by decide) ?_
          refine lv_icmp_ne (tgt := 98) hx hb dX8_lay_85 (by decide) (fun c_17 => ?_) (fun c_17 => ?_)
          · have hf := ite_f hf c_17
            refine lv_iload_n hx hb dX8_lay_98 rfl (lv_at hl 3 rfl) ?_
            exact J_12 p3 hf _ _ _ hP hS (lv_sub hl [] rfl)
          · have hf := ite_t hf c_17
            refine lv_iload_n hx hb dX8_lay_88 rfl (lv_at hl 3 rfl) ?_
            refine lv_bipush (v := (16 : Int32)) hx hb dX8_lay_89 (by decide) ?_
            refine lv_ishl hx hb dX8_lay_91 ?_
            refine lv_bipush (v := (16 : Int32)) hx hb dX8_lay_92 (by decide) ?_
            refine lv_ishr hx hb dX8_lay_94 ?_
            refine lv_goto (tgt := 99) hx hb dX8_lay_95 (by decide) ?_
            exact J_12 ((p3 <<< ((16 : Int32) &&& 31)) >>> ((16 : Int32) &&& 31)) hf _ _ _ hP hS (lv_sub hl [] rfl)
        · have hf := ite_t hf c_15
          refine lv_iload_n hx hb dX8_lay_68 rfl (lv_at hl 3 rfl) ?_
          refine lv_bipush (v := (24 : Int32)) hx hb dX8_lay_69 (by decide) ?_
          refine lv_ishl hx hb dX8_lay_71 ?_
          refine lv_bipush (v := (24 : Int32)) hx hb dX8_lay_72 (by decide) ?_
          refine lv_ishr hx hb dX8_lay_74 ?_
          refine lv_goto (tgt := 99) hx hb dX8_lay_75 (by decide) ?_
          exact J_12 ((p3 <<< ((24 : Int32) &&& 31)) >>> ((24 : Int32) &&& 31)) hf _ _ _ hP hS (lv_sub hl [] rfl)
      · have hf := ite_t hf c_9
        refine lv_bipush (v := (-12 : Int32)) hx hb dX8_lay_46 (by decide) ?_
        exact hret (-12 : Int32) t_cells (Option.some.inj hf) _ _ _ _ hP hS dX8_lay_48
    · have hf := ite_t hf c_5
      refine lv_bipush (v := (-11 : Int32)) hx hb dX8_lay_25 (by decide) ?_
      exact hret (-11 : Int32) t_cells (Option.some.inj hf) _ _ _ _ hP hS dX8_lay_27
  · have hf := ite_t hf c_3
    refine lv_iconst (v := (-1 : Int32)) hx hb dX8_lay_12 (by decide) ?_
    exact hret (-1 : Int32) t_cells (Option.some.inj hf) _ _ _ _ hP hS dX8_lay_13
