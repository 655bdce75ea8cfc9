def b_X8_wall_37 (t_roomMany : Int32) (t_doorMany : Int32) (t_state : Nat → Int32) (t_pages_7 : Nat → Int32) (v2_10 : Int32) (v3_11 : Int32) (v4_12 : Int32) : Option ((Int32 × Int32 × Int32) ⊕ (Int32 × Int32 × Int32)) :=
 (if ((1 : Int32) <<< (t_doorMany &&& 31)) ≤ v4_12 then
 (some (.inr (v2_10, v3_11, v4_12)))
 else (ob1 (f_X8_bitsOf v4_12) (fun r_15 =>
 (jn2 (fun (v2_17 : Int32) (v3_18 : Int32) => (bnd (v4_12 + (1 : Int32)) (fun v4_20 =>
 (some (.inl (v2_17, v3_18, v4_20)))))) (fun j_19 =>
 (if (3 : Int32) < r_15 then
 (j_19 v2_10 v3_11)
 else (jn0 (ob1 (f_X8_isFree t_roomMany t_doorMany t_pages_7 t_state v4_12) (fun r_23 =>
 (if r_23 = (0 : Int32) then
 (j_19 v2_10 v3_11)
 else (j_19 r_15 v4_12)))) (fun j_22 =>
 (if v2_10 = (-4 : Int32) then
 (j_22)
 else (if v2_10 ≤ r_15 then
 (j_19 v2_10 v3_11)
 else (j_22)))))))))))
def f_X8_wall (t_roomMany : Int32) (t_doorMany : Int32) (t_lawMany : Int32) (t_laws : Nat → Int32) (t_pages : Nat → Int32) (t_state : Nat → Int32) (t_work : Nat → Int32) (p1 : Int32) : Option (Int32 × (Nat → Int32) × (Nat → Int32)) :=
 (ob1 (f_X8_in (p1.toInt64) (0 : Int64) (1 : Int64)) (fun r_1 =>
 (if r_1 = (0 : Int32) then
 (some ((-1 : Int32), t_pages, t_work))
 else (ob1 (f_X8_beastNow t_state) (fun r_4 =>
 (if r_4 = (-4 : Int32) then
 (some ((-2 : Int32), t_pages, t_work))
 else (ob2 (f_X8_layPages t_roomMany t_lawMany t_laws t_pages t_state t_work) (fun t_pages_7 t_work_8 =>
 (ob3 (itr (un3 (b_X8_wall_37 t_roomMany t_doorMany t_state t_pages_7)) FU ((-4 : Int32), (-4 : Int32), (0 : Int32))) (fun x2_28 x3_29 x4_30 =>
 (if p1 = (0 : Int32) then
 (some (x2_28, t_pages_7, t_work_8))
 else (some (x3_29, t_pages_7, t_work_8)))))))))))))
abbrev rmX8_wall : Room := { frames := 3, cells := 0, slots := 0, locals := 67 }
set_option maxHeartbeats 4000000 in
set_option maxRecDepth 100000 in
theorem c_X8_wall (l : Launch) (g : Gh) (sz : Nat) (t_q t_state_q t_laws_q t_readPage_q t_readLaws_q t_tape_q t_cuts_q t_letters_q t_work_q t_pages_q t_canBe_q t_leadsOn_q t_seen_q t_heard_q t_isKept_q t_lanes_q t_lengths_q t_cells_q : Nat) (t_roomMany : Int32) (t_doorMany : Int32) (t_stringLong : Int32) (t_lawMany : Int32) (t_readRooms : Int32) (t_readDoors : Int32) (t_readString : Int32) (t_readLawMany : Int32) (t_toldOnce : Int32) (t_highRoom : Int32) (t_highDoor : Int32) (t_taped : Int32) (t_fault : Int32) (t_broken : Int32) (t_brokenAt : Int32) (t_spot : Int32) (t_here : Int32) (t_token : Int32) (t_value : Int32) (t_seenMany : Int32) (t_heardMany : Int32) (t_torn : Int32) (t_laws : Nat → Int32) (t_pages : Nat → Int32) (t_state : Nat → Int32) (t_work : Nat → Int32) (p1 : Int32) (rr : Int32) (t_pages' : Nat → Int32) (t_work' : Nat → Int32) (hf : f_X8_wall t_roomMany t_doorMany t_lawMany t_laws t_pages t_state t_work p1 = some (rr, t_pages', t_work')) : CI l yX8_wall wsX8_wall rmX8_wall [.ref t_q, .int p1] g sz [oX8 t_q t_state_q t_roomMany t_doorMany t_stringLong t_laws_q t_lawMany t_readPage_q t_readLaws_q t_readRooms t_readDoors t_readString t_readLawMany t_toldOnce t_highRoom t_highDoor t_tape_q t_taped t_fault t_broken t_brokenAt t_spot t_here t_token t_value t_cuts_q t_letters_q t_work_q t_pages_q t_canBe_q t_leadsOn_q t_seen_q t_seenMany t_heard_q t_heardMany t_isKept_q t_lanes_q t_lengths_q t_cells_q t_torn, aI g t_laws_q 18 t_laws, aI g t_pages_q 750 t_pages, aI g t_state_q 196 t_state, aI g t_work_q 30 t_work] [oX8 t_q t_state_q t_roomMany t_doorMany t_stringLong t_laws_q t_lawMany t_readPage_q t_readLaws_q t_readRooms t_readDoors t_readString t_readLawMany t_toldOnce t_highRoom t_highDoor t_tape_q t_taped t_fault t_broken t_brokenAt t_spot t_here t_token t_value t_cuts_q t_letters_q t_work_q t_pages_q t_canBe_q t_leadsOn_q t_seen_q t_seenMany t_heard_q t_heardMany t_isKept_q t_lanes_q t_lengths_q t_cells_q t_torn, aI g t_laws_q 18 t_laws, aI g t_pages_q 750 t_pages', aI g t_state_q 196 t_state, aI g t_work_q 30 t_work'] rr := by
  refine ent_i (cc := cX8_wall) (maxL := 6) (by decide) rfl (Nat.le_of_ble_eq_true rfl) ?_
  intro p e s m args below meth c A Q hx hb hml hown hts hK hz hk hA hD hP hS hret ls hl
  have hown : s.vm.findClass RX8 = some m.cls := hown
  have inX8 : ∀ w ∈ u_ws RX8 TX8 39, w ∈ wsX8_wall := by decide +kernel
  have k175 := hts (.fieldLink RX8 175 "ThreadMovedModel" "doorMany" "I") (by decide +kernel)
  have hl : lv_has ls 6 [(0, .ref t_q), (1, .int p1)] := hl
  have hret : ∀ (rrz : Int32) (t_pagesz : Nat → Int32) (t_workz : Nat → Int32), (rrz, t_pagesz, t_workz) = (rr, t_pages', t_work') → ∀ (H : Heap) (locs : List Loc) (pc : Nat) (ls : Array Slot), va_P g.1 vwCl [oX8 t_q t_state_q t_roomMany t_doorMany t_stringLong t_laws_q t_lawMany t_readPage_q t_readLaws_q t_readRooms t_readDoors t_readString t_readLawMany t_toldOnce t_highRoom t_highDoor t_tape_q t_taped t_fault t_broken t_brokenAt t_spot t_here t_token t_value t_cuts_q t_letters_q t_work_q t_pages_q t_canBe_q t_leadsOn_q t_seen_q t_seenMany t_heard_q t_heardMany t_isKept_q t_lanes_q t_lengths_q t_cells_q t_torn, aI g t_laws_q 18 t_laws, aI g t_pages_q 750 t_pagesz, aI g t_state_q 196 t_state, aI g t_work_q 30 t_workz] H → va_S A s.heap H locs → decode cX8_wall pc = .ok (.ireturn, 1) → W p l e rmX8_wall s m args below meth c H locs 0 0 Q (F0 m pc ls [.int rrz]) := by
    intro rrz t_pagesz t_workz he H locs pc ls hP hS hd
    cases he
    exact hret H locs pc ls hP hS hd
  unfold f_X8_wall at hf
  refine lv_iload_n hx hb dX8_wall_0 rfl (lv_at hl 1 rfl) ?_
  refine lv_i2l hx hb dX8_wall_1 rfl ?_
  refine lv_lconst (v := (0 : Int64)) hx hb dX8_wall_2 (by decide) ?_
  refine lv_lconst (v := (1 : Int64)) hx hb dX8_wall_3 (by decide) ?_
  obtain ⟨r_1, hc_2, hf⟩ := ob1_e hf
  refine kS_i (wn := [oX8 t_q t_state_q t_roomMany t_doorMany t_stringLong t_laws_q t_lawMany t_readPage_q t_readLaws_q t_readRooms t_readDoors t_readString t_readLawMany t_toldOnce t_highRoom t_highDoor t_tape_q t_taped t_fault t_broken t_brokenAt t_spot t_here t_token t_value t_cuts_q t_letters_q t_work_q t_pages_q t_canBe_q t_leadsOn_q t_seen_q t_seenMany t_heard_q t_heardMany t_isKept_q t_lanes_q t_lengths_q t_cells_q t_torn, aI g t_laws_q 18 t_laws, aI g t_pages_q 750 t_pages, aI g t_state_q 196 t_state, aI g t_work_q 30 t_work]) (As := [.long (p1.toInt64), .long (0 : Int64), .long (1 : Int64)]) (rest := []) (c_X8_in l g _ (p1.toInt64) (0 : Int64) (1 : Int64) r_1 hc_2) ⟨hx, hb, hml, hown, hts⟩ (va_cwS 3 hts gX8_wall_X8_in rfl rfl rfl (by decide +kernel) ⟨by decide, by decide⟩) hK hz hk hP (hD.re rfl) hS hA [] rfl rfl rfl rfl rfl hl.1 rfl (Nat.le_of_ble_eq_true rfl) dX8_wall_4 (fun H locs hP hS => ?_)
  refine lv_if_ne (tgt := 12) hx hb dX8_wall_7 (by decide) (fun c_3 => ?_) (fun c_3 => ?_)
  · have hf := ite_f hf c_3
    refine lv_aload_n hx hb dX8_wall_12 rfl (lv_at hl 0 rfl) ?_
    obtain ⟨r_4, hc_5, hf⟩ := ob1_e hf
    refine kV_i (wn := [oX8 t_q t_state_q t_roomMany t_doorMany t_stringLong t_laws_q t_lawMany t_readPage_q t_readLaws_q t_readRooms t_readDoors t_readString t_readLawMany t_toldOnce t_highRoom t_highDoor t_tape_q t_taped t_fault t_broken t_brokenAt t_spot t_here t_token t_value t_cuts_q t_letters_q t_work_q t_pages_q t_canBe_q t_leadsOn_q t_seen_q t_seenMany t_heard_q t_heardMany t_isKept_q t_lanes_q t_lengths_q t_cells_q t_torn, aI g t_laws_q 18 t_laws, aI g t_pages_q 750 t_pages, aI g t_state_q 196 t_state, aI g t_work_q 30 t_work]) (As := []) (rest := []) (c_X8_beastNow l g _ t_q t_state_q t_laws_q t_readPage_q t_readLaws_q t_tape_q t_cuts_q t_letters_q t_work_q t_pages_q t_canBe_q t_leadsOn_q t_seen_q t_heard_q t_isKept_q t_lanes_q t_lengths_q t_cells_q t_roomMany t_doorMany t_stringLong t_lawMany t_readRooms t_readDoors t_readString t_readLawMany t_toldOnce t_highRoom t_highDoor t_taped t_fault t_broken t_brokenAt t_spot t_here t_token t_value t_seenMany t_heardMany t_torn t_state r_4 hc_5) ⟨hx, hb, hml, hown, hts⟩ (cwV 0 hts gX8_wall_X8_beastNow rfl rfl rfl (by decide +kernel) ⟨by decide, by decide⟩) hK hz hk hP (hD.re rfl) hS hA [0, 3] rfl rfl rfl rfl rfl rfl rfl hl.1 rfl (Nat.le_of_ble_eq_true rfl) dX8_wall_13 (fun H locs hP hS => ?_)
    refine lv_bipush (v := (-4 : Int32)) hx hb dX8_wall_16 (by decide) ?_
    refine lv_icmp_ne (tgt := 24) hx hb dX8_wall_18 (by decide) (fun c_6 => ?_) (fun c_6 => ?_)
    · have hf := ite_f hf c_6
      refine lv_aload_n hx hb dX8_wall_24 rfl (lv_at hl 0 rfl) ?_
      obtain ⟨t_pages_7, t_work_8, hc_9, hf⟩ := ob2_e hf
      refine kV_v (wn := [oX8 t_q t_state_q t_roomMany t_doorMany t_stringLong t_laws_q t_lawMany t_readPage_q t_readLaws_q t_readRooms t_readDoors t_readString t_readLawMany t_toldOnce t_highRoom t_highDoor t_tape_q t_taped t_fault t_broken t_brokenAt t_spot t_here t_token t_value t_cuts_q t_letters_q t_work_q t_pages_q t_canBe_q t_leadsOn_q t_seen_q t_seenMany t_heard_q t_heardMany t_isKept_q t_lanes_q t_lengths_q t_cells_q t_torn, aI g t_laws_q 18 t_laws, aI g t_pages_q 750 t_pages_7, aI g t_state_q 196 t_state, aI g t_work_q 30 t_work_8]) (As := []) (rest := []) (c_X8_layPages l g _ t_q t_state_q t_laws_q t_readPage_q t_readLaws_q t_tape_q t_cuts_q t_letters_q t_work_q t_pages_q t_canBe_q t_leadsOn_q t_seen_q t_heard_q t_isKept_q t_lanes_q t_lengths_q t_cells_q t_roomMany t_doorMany t_stringLong t_lawMany t_readRooms t_readDoors t_readString t_readLawMany t_toldOnce t_highRoom t_highDoor t_taped t_fault t_broken t_brokenAt t_spot t_here t_token t_value t_seenMany t_heardMany t_torn t_laws t_pages t_state t_work t_pages_7 t_work_8 hc_9) ⟨hx, hb, hml, hown, hts⟩ (cwV 0 hts gX8_wall_X8_layPages rfl rfl rfl (by decide +kernel) ⟨by decide, by decide⟩) hK hz hk hP (hD.re rfl) hS hA [0, 1, 2, 3, 4] rfl rfl rfl rfl rfl rfl rfl hl.1 rfl (Nat.le_of_ble_eq_true rfl) dX8_wall_25 (fun H locs hP hS => ?_)
      refine lv_bipush (v := (-4 : Int32)) hx hb dX8_wall_28 (by decide) ?_
      refine lv_istore_n (lv' := [(2, .int (-4 : Int32)), (0, .ref t_q), (1, .int p1)]) hx hb dX8_wall_30 rfl hl (by decide) rfl (fun ls hl => ?_)
      refine lv_bipush (v := (-4 : Int32)) hx hb dX8_wall_31 (by decide) ?_
      refine lv_istore_n (lv' := [(3, .int (-4 : Int32)), (2, .int (-4 : Int32)), (0, .ref t_q), (1, .int p1)]) hx hb dX8_wall_33 rfl hl (by decide) rfl (fun ls hl => ?_)
      refine lv_iconst (v := (0 : Int32)) hx hb dX8_wall_34 (by decide) ?_
      refine lv_istore (lv' := [(4, .int (0 : Int32)), (3, .int (-4 : Int32)), (2, .int (-4 : Int32)), (0, .ref t_q), (1, .int p1)]) hx hb dX8_wall_35 hl (by decide) rfl (fun ls hl => ?_)
      obtain ⟨x2_28, x3_29, x4_30, ho_13, hf⟩ := ob3_e hf
      have K_13 : ∀ (x2_28y : Int32) (x3_29y : Int32) (x4_30y : Int32), x2_28 = x2_28y → x3_29 = x3_29y → x4_30 = x4_30y → ∀ (H : Heap) (locs : List Loc) (ls : Array Slot), va_P g.1 vwCl [oX8 t_q t_state_q t_roomMany t_doorMany t_stringLong t_laws_q t_lawMany t_readPage_q t_readLaws_q t_readRooms t_readDoors t_readString t_readLawMany t_toldOnce t_highRoom t_highDoor t_tape_q t_taped t_fault t_broken t_brokenAt t_spot t_here t_token t_value t_cuts_q t_letters_q t_work_q t_pages_q t_canBe_q t_leadsOn_q t_seen_q t_seenMany t_heard_q t_heardMany t_isKept_q t_lanes_q t_lengths_q t_cells_q t_torn, aI g t_laws_q 18 t_laws, aI g t_pages_q 750 t_pages_7, aI g t_state_q 196 t_state, aI g t_work_q 30 t_work_8] H → va_S A s.heap H locs → lv_has ls 6 [(1, .int p1), (2, .int x2_28y), (3, .int x3_29y)] → W p l e rmX8_wall s m args below meth c H locs 0 0 Q (F0 m 94 ls []) := by
        intro x2_28y x3_29y x4_30y ey0 ey1 ey2 H locs ls hP hS hl
        subst ey0
        subst ey1
        subst ey2
        refine lv_iload_n hx hb dX8_wall_94 rfl (lv_at hl 0 rfl) ?_
        refine lv_if_ne (tgt := 102) hx hb dX8_wall_95 (by decide) (fun c_31 => ?_) (fun c_31 => ?_)
        · have hf := ite_f hf c_31
          refine lv_iload_n hx hb dX8_wall_102 rfl (lv_at hl 2 rfl) ?_
          exact hret x3_29 t_pages_7 t_work_8 (Option.some.inj hf) _ _ _ _ hP hS dX8_wall_103
        · have hf := ite_t hf c_31
          refine lv_iload_n hx hb dX8_wall_98 rfl (lv_at hl 1 rfl) ?_
          refine lv_goto (tgt := 103) hx hb dX8_wall_99 (by decide) ?_
          exact hret x2_28 t_pages_7 t_work_8 (Option.some.inj hf) _ _ _ _ hP hS dX8_wall_103
      have L_13 : ∀ (n : Nat) (v2_10 : Int32) (v3_11 : Int32) (v4_12 : Int32), itr (un3 (b_X8_wall_37 t_roomMany t_doorMany t_state t_pages_7)) n (v2_10, v3_11, v4_12) = some (x2_28, x3_29, x4_30) → ∀ (H : Heap) (locs : List Loc) (ls : Array Slot), va_P g.1 vwCl [oX8 t_q t_state_q t_roomMany t_doorMany t_stringLong t_laws_q t_lawMany t_readPage_q t_readLaws_q t_readRooms t_readDoors t_readString t_readLawMany t_toldOnce t_highRoom t_highDoor t_tape_q t_taped t_fault t_broken t_brokenAt t_spot t_here t_token t_value t_cuts_q t_letters_q t_work_q t_pages_q t_canBe_q t_leadsOn_q t_seen_q t_seenMany t_heard_q t_heardMany t_isKept_q t_lanes_q t_lengths_q t_cells_q t_torn, aI g t_laws_q 18 t_laws, aI g t_pages_q 750 t_pages_7, aI g t_state_q 196 t_state, aI g t_work_q 30 t_work_8] H → va_S A s.heap H locs → lv_has ls 6 [(0, .ref t_q), (1, .int p1), (2, .int v2_10), (3, .int v3_11), (4, .int v4_12)] → W p l e rmX8_wall s m args below meth c H locs 0 0 Q (F0 m 37 ls []) := by
        refine itr_ind3 ?_
        intro v2_10 v3_11 v4_12 z_13 hf hrec hex H locs ls hP hS hl
        unfold b_X8_wall_37 at hf
        refine lv_iload hx hb dX8_wall_37 (lv_at hl 4 rfl) ?_
        refine lv_iconst (v := (1 : Int32)) hx hb dX8_wall_39 (by decide) ?_
        refine lv_aload_n hx hb dX8_wall_40 rfl (lv_at hl 0 rfl) ?_
        refine va_get (D := g.1) (ci := 8) (v := .int t_doorMany) (C := RX8) (T := TX8) (N := 39) hx hb hts inX8 hown hK hP 0 rfl rfl 2 (by decide) k175 (fun _ h9 => h9) rfl dX8_wall_41 ?_
        refine lv_ishl hx hb dX8_wall_44 ?_
        refine lv_icmp_ge (tgt := 94) hx hb dX8_wall_45 (by decide) (fun c_14 => ?_) (fun c_14 => ?_)
        · have hf := ite_t hf c_14
          exact K_13 v2_10 v3_11 v4_12 (congrArg (fun t => t.1) (hex _ (Option.some.inj hf).symm).symm) (congrArg (fun t => t.2.1) (hex _ (Option.some.inj hf).symm).symm) (congrArg (fun t => t.2.2) (hex _ (Option.some.inj hf).symm).symm) _ _ _ hP hS (lv_sub hl [1, 2, 3] rfl)
        · have hf := ite_f hf c_14
          refine lv_iload hx hb dX8_wall_48 (lv_at hl 4 rfl) ?_
          obtain ⟨r_15, hc_16, hf⟩ := ob1_e hf
          refine kS_i (wn := [oX8 t_q t_state_q t_roomMany t_doorMany t_stringLong t_laws_q t_lawMany t_readPage_q t_readLaws_q t_readRooms t_readDoors t_readString t_readLawMany t_toldOnce t_highRoom t_highDoor t_tape_q t_taped t_fault t_broken t_brokenAt t_spot t_here t_token t_value t_cuts_q t_letters_q t_work_q t_pages_q t_canBe_q t_leadsOn_q t_seen_q t_seenMany t_heard_q t_heardMany t_isKept_q t_lanes_q t_lengths_q t_cells_q t_torn, aI g t_laws_q 18 t_laws, aI g t_pages_q 750 t_pages_7, aI g t_state_q 196 t_state, aI g t_work_q 30 t_work_8]) (As := [.int v4_12]) (rest := []) (c_X8_bitsOf l g _ v4_12 r_15 hc_16) ⟨hx, hb, hml, hown, hts⟩ (va_cwS 1 hts gX8_wall_X8_bitsOf rfl rfl rfl (by decide +kernel) ⟨by decide, by decide⟩) hK hz hk hP (hD.re rfl) hS hA [] rfl rfl rfl rfl rfl hl.1 rfl (Nat.le_of_ble_eq_true rfl) dX8_wall_50 (fun H locs hP hS => ?_)
          refine lv_istore (lv' := [(5, .int r_15), (0, .ref t_q), (1, .int p1), (2, .int v2_10), (3, .int v3_11), (4, .int v4_12)]) hx hb dX8_wall_53 hl (by decide) rfl (fun ls hl => ?_)
          refine lv_iload hx hb dX8_wall_55 (lv_at hl 0 rfl) ?_
          refine lv_iconst (v := (3 : Int32)) hx hb dX8_wall_57 (by decide) ?_
          obtain ⟨j_19, hj_19, hf⟩ := jn2_e hf
          have J_19 : ∀ (v2_17 : Int32) (v3_18 : Int32), j_19 v2_17 v3_18 = some z_13 → ∀ (H : Heap) (locs : List Loc) (ls : Array Slot), va_P g.1 vwCl [oX8 t_q t_state_q t_roomMany t_doorMany t_stringLong t_laws_q t_lawMany t_readPage_q t_readLaws_q t_readRooms t_readDoors t_readString t_readLawMany t_toldOnce t_highRoom t_highDoor t_tape_q t_taped t_fault t_broken t_brokenAt t_spot t_here t_token t_value t_cuts_q t_letters_q t_work_q t_pages_q t_canBe_q t_leadsOn_q t_seen_q t_seenMany t_heard_q t_heardMany t_isKept_q t_lanes_q t_lengths_q t_cells_q t_torn, aI g t_laws_q 18 t_laws, aI g t_pages_q 750 t_pages_7, aI g t_state_q 196 t_state, aI g t_work_q 30 t_work_8] H → va_S A s.heap H locs → lv_has ls 6 [(0, .ref t_q), (1, .int p1), (2, .int v2_17), (3, .int v3_18), (4, .int v4_12)] → W p l e rmX8_wall s m args below meth c H locs 0 0 Q (F0 m 88 ls []) := by
            intro v2_17 v3_18 hf H locs ls hP hS hl
            rw [hj_19] at hf
            obtain ⟨v4_20, ev4_20, hf⟩ := bnd_e hf
            refine lv_iinc (v := v4_20) (lv' := [(4, .int v4_20), (0, .ref t_q), (1, .int p1), (2, .int v2_17), (3, .int v3_18)]) hx hb dX8_wall_88 hl (k := 4) rfl (by rw [ev4_20]; rfl) (by decide) rfl (fun ls hl => ?_)
            refine lv_goto (tgt := 37) hx hb dX8_wall_91 (by decide) ?_
            exact hrec v2_17 v3_18 v4_20 (Option.some.inj hf).symm _ _ _ hP hS (lv_sub hl [1, 2, 3, 4, 0] rfl)
          refine lv_icmp_gt (tgt := 88) hx hb dX8_wall_58 (by decide) (fun c_21 => ?_) (fun c_21 => ?_)
          · have hf := ite_t hf c_21
            exact J_19 v2_10 v3_11 hf _ _ _ hP hS (lv_sub hl [1, 2, 3, 4, 5] rfl)
          · have hf := ite_f hf c_21
            refine lv_iload_n hx hb dX8_wall_61 rfl (lv_at hl 3 rfl) ?_
            refine lv_bipush (v := (-4 : Int32)) hx hb dX8_wall_62 (by decide) ?_
            obtain ⟨j_22, hj_22, hf⟩ := jn0_e hf
            have J_22 : j_22 = some z_13 → ∀ (H : Heap) (locs : List Loc) (ls : Array Slot), va_P g.1 vwCl [oX8 t_q t_state_q t_roomMany t_doorMany t_stringLong t_laws_q t_lawMany t_readPage_q t_readLaws_q t_readRooms t_readDoors t_readString t_readLawMany t_toldOnce t_highRoom t_highDoor t_tape_q t_taped t_fault t_broken t_brokenAt t_spot t_here t_token t_value t_cuts_q t_letters_q t_work_q t_pages_q t_canBe_q t_leadsOn_q t_seen_q t_seenMany t_heard_q t_heardMany t_isKept_q t_lanes_q t_lengths_q t_cells_q t_torn, aI g t_laws_q 18 t_laws, aI g t_pages_q 750 t_pages_7, aI g t_state_q 196 t_state, aI g t_work_q 30 t_work_8] H → va_S A s.heap H locs → lv_has ls 6 [(0, .ref t_q), (1, .int p1), (2, .int v2_10), (3, .int v3_11), (4, .int v4_12), (5, .int r_15)] → W p l e rmX8_wall s m args below meth c H locs 0 0 Q (F0 m 73 ls []) := by
              intro hf H locs ls hP hS hl
              rw [hj_22] at hf
              refine lv_aload_n hx hb dX8_wall_73 rfl (lv_at hl 0 rfl) ?_
              refine lv_iload hx hb dX8_wall_74 (lv_at hl 4 rfl) ?_
              obtain ⟨r_23, hc_24, hf⟩ := ob1_e hf
              refine kV_i (wn := [oX8 t_q t_state_q t_roomMany t_doorMany t_stringLong t_laws_q t_lawMany t_readPage_q t_readLaws_q t_readRooms t_readDoors t_readString t_readLawMany t_toldOnce t_highRoom t_highDoor t_tape_q t_taped t_fault t_broken t_brokenAt t_spot t_here t_token t_value t_cuts_q t_letters_q t_work_q t_pages_q t_canBe_q t_leadsOn_q t_seen_q t_seenMany t_heard_q t_heardMany t_isKept_q t_lanes_q t_lengths_q t_cells_q t_torn, aI g t_laws_q 18 t_laws, aI g t_pages_q 750 t_pages_7, aI g t_state_q 196 t_state, aI g t_work_q 30 t_work_8]) (As := [.int v4_12]) (rest := []) (c_X8_isFree l g _ t_q t_state_q t_laws_q t_readPage_q t_readLaws_q t_tape_q t_cuts_q t_letters_q t_work_q t_pages_q t_canBe_q t_leadsOn_q t_seen_q t_heard_q t_isKept_q t_lanes_q t_lengths_q t_cells_q t_roomMany t_doorMany t_stringLong t_lawMany t_readRooms t_readDoors t_readString t_readLawMany t_toldOnce t_highRoom t_highDoor t_taped t_fault t_broken t_brokenAt t_spot t_here t_token t_value t_seenMany t_heardMany t_torn t_pages_7 t_state v4_12 r_23 hc_24) ⟨hx, hb, hml, hown, hts⟩ (cwV 1 hts gX8_wall_X8_isFree rfl rfl rfl (by decide +kernel) ⟨by decide, by decide⟩) hK hz hk hP (hD.re rfl) hS hA [0, 2, 3] rfl rfl rfl rfl rfl rfl rfl hl.1 rfl (Nat.le_of_ble_eq_true rfl) dX8_wall_76 (fun H locs hP hS => ?_)
              refine lv_if_eq (tgt := 88) hx hb dX8_wall_79 (by decide) (fun c_25 => ?_) (fun c_25 => ?_)
              · have hf := ite_t hf c_25
                exact J_19 v2_10 v3_11 hf _ _ _ hP hS (lv_sub hl [0, 1, 2, 3, 4] rfl)
              · have hf := ite_f hf c_25
                refine lv_iload hx hb dX8_wall_82 (lv_at hl 5 rfl) ?_
                refine lv_istore_n (lv' := [(2, .int r_15), (0, .ref t_q), (1, .int p1), (3, .int v3_11), (4, .int v4_12), (5, .int r_15)]) hx hb dX8_wall_84 rfl hl (by decide) rfl (fun ls hl => ?_)
                refine lv_iload hx hb dX8_wall_85 (lv_at hl 4 rfl) ?_
                refine lv_istore_n (lv' := [(3, .int v4_12), (2, .int r_15), (0, .ref t_q), (1, .int p1), (4, .int v4_12), (5, .int r_15)]) hx hb dX8_wall_87 rfl hl (by decide) rfl (fun ls hl => ?_)
                exact J_19 r_15 v4_12 hf _ _ _ hP hS (lv_sub hl [2, 3, 1, 0, 4] rfl)
            refine lv_icmp_eq (tgt := 73) hx hb dX8_wall_64 (by decide) (fun c_26 => ?_) (fun c_26 => ?_)
            · have hf := ite_t hf c_26
              exact J_22 hf _ _ _ hP hS (lv_sub hl [1, 2, 3, 4, 5, 0] rfl)
            · have hf := ite_f hf c_26
              refine lv_iload hx hb dX8_wall_67 (lv_at hl 0 rfl) ?_
              refine lv_iload_n hx hb dX8_wall_69 rfl (lv_at hl 3 rfl) ?_
              refine lv_icmp_ge (tgt := 88) hx hb dX8_wall_70 (by decide) (fun c_27 => ?_) (fun c_27 => ?_)
              · have hf := ite_t hf c_27
                exact J_19 v2_10 v3_11 hf _ _ _ hP hS (lv_sub hl [1, 2, 3, 4, 5] rfl)
              · have hf := ite_f hf c_27
                exact J_22 hf _ _ _ hP hS (lv_sub hl [1, 2, 3, 4, 5, 0] rfl)
      exact L_13 FU (-4 : Int32) (-4 : Int32) (0 : Int32) ho_13 _ _ _ hP hS (lv_sub hl [3, 4, 2, 1, 0] rfl)
    · have hf := ite_t hf c_6
      refine lv_bipush (v := (-2 : Int32)) hx hb dX8_wall_21 (by decide) ?_
      exact hret (-2 : Int32) t_pages t_work (Option.some.inj hf) _ _ _ _ hP hS dX8_wall_23
  · have hf := ite_t hf c_3
    refine lv_iconst (v := (-1 : Int32)) hx hb dX8_wall_10 (by decide) ?_
    exact hret (-1 : Int32) t_pages t_work (Option.some.inj hf) _ _ _ _ hP hS dX8_wall_11
