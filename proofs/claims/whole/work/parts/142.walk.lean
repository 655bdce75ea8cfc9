def b_X8_mayLurk_65 (t_heardMany : Int32) (t_heard : Nat → Int32) (v6_7 : Int32) (r_11 : Int32) (v5_13 : Int32) (v7_14 : Int32) : Option ((Int32 × Int32) ⊕ (Int32 × Int32)) :=
 (if t_heardMany ≤ v7_14 then
 (some (.inr (v5_13, v7_14)))
 else (gin (((3 : Int32) * v7_14) + (1 : Int32)) 18 (jn1 (fun (s_18 : Int32) => (jn1 (fun (s_20 : Int32) => (bnd (v7_14 + (1 : Int32)) (fun v7_22 =>
 (some (.inl (s_20, v7_22)))))) (fun j_21 =>
 (jn0 (j_21 (0 : Int32)) (fun j_23 =>
 (if v5_13 = (0 : Int32) then
 (j_23)
 else (gin ((3 : Int32) * v7_14) 18 (jn0 (j_21 (1 : Int32)) (fun j_26 =>
 (if (t_heard ((3 : Int32) * v7_14).toNatClampNeg) = (v6_7 + (1 : Int32)) then
 (gin (((3 : Int32) * v7_14) + (2 : Int32)) 18 (jn1 (fun (s_29 : Int32) => (if s_18 = s_29 then
 (j_26)
 else (j_23))) (fun j_30 =>
 (if (t_heard (((3 : Int32) * v7_14) + (2 : Int32)).toNatClampNeg) = (1 : Int32) then
 (j_30 (1 : Int32))
 else (j_30 (0 : Int32))))))
 else (j_26))))))))))) (fun j_19 =>
 (if r_11 = (t_heard (((3 : Int32) * v7_14) + (1 : Int32)).toNatClampNeg) then
 (j_19 (1 : Int32))
 else (j_19 (0 : Int32)))))))
def b_X8_mayLurk_26 (t_doorMany : Int32) (t_heardMany : Int32) (t_heard : Nat → Int32) (t_pages : Nat → Int32) (t_state : Nat → Int32) (p2 : Int32) (v3_2 : Int32) (v4_5 : Int32) (v5_6 : Int32) (v6_7 : Int32) : Option ((Int32 × Int32 × Int32) ⊕ (Int32 × Int32 × Int32)) :=
 (if (12 : Int32) ≤ v6_7 then
 (some (.inr (v4_5, v5_6, v6_7)))
 else (gin (47 : Int32) 196 (ob1 (f_X8_goesTo t_doorMany 750 t_pages ((30 : Int32) * v6_7) v4_5 v3_2 p2 ((t_state (47 : Int32).toNatClampNeg) + v6_7)) (fun r_11 =>
 (ob2 (itr (un2 (b_X8_mayLurk_65 t_heardMany t_heard v6_7 r_11)) FU (v5_6, (0 : Int32))) (fun x5_34 x7_35 =>
 (bnd (v6_7 + (1 : Int32)) (fun v6_36 =>
 (some (.inl (r_11, x5_34, v6_36)))))))))))
def f_X8_mayLurk (t_doorMany : Int32) (t_heardMany : Int32) (t_heard : Nat → Int32) (t_pages : Nat → Int32) (t_state : Nat → Int32) (p1 : Int32) (p2 : Int32) : Option (Int32) :=
 (gin (31 : Int32) 196 (bnd (t_state (31 : Int32).toNatClampNeg) (fun v3_2 =>
 (jn1 (fun (s_3 : Int32) => (ob3 (itr (un3 (b_X8_mayLurk_26 t_doorMany t_heardMany t_heard t_pages t_state p2 v3_2)) FU (p1, s_3, (0 : Int32))) (fun x4_37 x5_38 x6_39 =>
 (gbl x5_38 (some x5_38))))) (fun j_4 =>
 (if p1 = v3_2 then
 (j_4 (0 : Int32))
 else (j_4 (1 : Int32))))))))
abbrev rmX8_mayLurk : Room := { frames := 3, cells := 0, slots := 0, locals := 80 }
set_option maxHeartbeats 4000000 in
set_option maxRecDepth 100000 in
theorem c_X8_mayLurk (l : Launch) (g : Gh) (sz : Nat) (t_q t_state_q t_laws_q t_readPage_q t_readLaws_q t_tape_q t_cuts_q t_letters_q t_work_q t_pages_q t_canBe_q t_leadsOn_q t_seen_q t_heard_q t_isKept_q t_lanes_q t_lengths_q t_cells_q : Nat) (t_roomMany : Int32) (t_doorMany : Int32) (t_stringLong : Int32) (t_lawMany : Int32) (t_readRooms : Int32) (t_readDoors : Int32) (t_readString : Int32) (t_readLawMany : Int32) (t_toldOnce : Int32) (t_highRoom : Int32) (t_highDoor : Int32) (t_taped : Int32) (t_fault : Int32) (t_broken : Int32) (t_brokenAt : Int32) (t_spot : Int32) (t_here : Int32) (t_token : Int32) (t_value : Int32) (t_seenMany : Int32) (t_heardMany : Int32) (t_torn : Int32) (t_heard : Nat → Int32) (t_pages : Nat → Int32) (t_state : Nat → Int32) (p1 : Int32) (p2 : Int32) (rr : Int32) (hf : f_X8_mayLurk t_doorMany t_heardMany t_heard t_pages t_state p1 p2 = some rr) : CI l yX8_mayLurk wsX8_mayLurk rmX8_mayLurk [.ref t_q, .int p1, .int p2] g sz [oX8 t_q t_state_q t_roomMany t_doorMany t_stringLong t_laws_q t_lawMany t_readPage_q t_readLaws_q t_readRooms t_readDoors t_readString t_readLawMany t_toldOnce t_highRoom t_highDoor t_tape_q t_taped t_fault t_broken t_brokenAt t_spot t_here t_token t_value t_cuts_q t_letters_q t_work_q t_pages_q t_canBe_q t_leadsOn_q t_seen_q t_seenMany t_heard_q t_heardMany t_isKept_q t_lanes_q t_lengths_q t_cells_q t_torn, aI g t_heard_q 18 t_heard, aI g t_pages_q 750 t_pages, aI g t_state_q 196 t_state] [oX8 t_q t_state_q t_roomMany t_doorMany t_stringLong t_laws_q t_lawMany t_readPage_q t_readLaws_q t_readRooms t_readDoors t_readString t_readLawMany t_toldOnce t_highRoom t_highDoor t_tape_q t_taped t_fault t_broken t_brokenAt t_spot t_here t_token t_value t_cuts_q t_letters_q t_work_q t_pages_q t_canBe_q t_leadsOn_q t_seen_q t_seenMany t_heard_q t_heardMany t_isKept_q t_lanes_q t_lengths_q t_cells_q t_torn, aI g t_heard_q 18 t_heard, aI g t_pages_q 750 t_pages, aI g t_state_q 196 t_state] rr := by
  refine ent_z (cc := cX8_mayLurk) (maxL := 9) (by decide) rfl (Nat.le_of_ble_eq_true rfl) ?_
  intro p e s m args below meth c A Q hx hb hml hown hts hK hz hk hA hD hP hS hret ls hl
  have hown : s.vm.findClass RX8 = some m.cls := hown
  have inX8 : ∀ w ∈ u_ws RX8 TX8 39, w ∈ wsX8_mayLurk := by decide +kernel
  have k7 := hts (.fieldLink RX8 7 "ThreadMovedModel" "state" "[I") (by decide +kernel)
  have k41 := hts (.fieldLink RX8 41 "ThreadMovedModel" "pages" "[I") (by decide +kernel)
  have k53 := hts (.fieldLink RX8 53 "ThreadMovedModel" "heard" "[I") (by decide +kernel)
  have k184 := hts (.fieldLink RX8 184 "ThreadMovedModel" "heardMany" "I") (by decide +kernel)
  have hl : lv_has ls 9 [(0, .ref t_q), (1, .int p1), (2, .int p2)] := hl
  have hret : ∀ (rrz : Int32), rrz = rr → narrow .boolean (.int rrz) = .int rrz → ∀ (H : Heap) (locs : List Loc) (pc : Nat) (ls : Array Slot), va_P g.1 vwCl [oX8 t_q t_state_q t_roomMany t_doorMany t_stringLong t_laws_q t_lawMany t_readPage_q t_readLaws_q t_readRooms t_readDoors t_readString t_readLawMany t_toldOnce t_highRoom t_highDoor t_tape_q t_taped t_fault t_broken t_brokenAt t_spot t_here t_token t_value t_cuts_q t_letters_q t_work_q t_pages_q t_canBe_q t_leadsOn_q t_seen_q t_seenMany t_heard_q t_heardMany t_isKept_q t_lanes_q t_lengths_q t_cells_q t_torn, aI g t_heard_q 18 t_heard, aI g t_pages_q 750 t_pages, aI g t_state_q 196 t_state] H → va_S A s.heap H locs → decode cX8_mayLurk pc = .ok (.ireturn, 1) → W p l e rmX8_mayLurk s m args below meth c H locs 0 0 Q (F0 m pc ls [.int rrz]) := by
    intro rrz he hzz H locs pc ls hP hS hd
    cases he
    exact hret H locs pc ls hzz hP hS hd
  unfold f_X8_mayLurk at hf
  refine lv_aload_n hx hb dX8_mayLurk_0 rfl (lv_at hl 0 rfl) ?_
  refine va_get (D := g.1) (ci := 8) (v := .ref t_state_q) (C := RX8) (T := TX8) (N := 39) hx hb hts inX8 hown hK hP 0 rfl rfl 0 (by decide) k7 (fun _ h9 => h9) rfl dX8_mayLurk_1 ?_
  refine lv_bipush (v := (31 : Int32)) hx hb dX8_mayLurk_4 (by decide) ?_
  obtain ⟨h_1, hf⟩ := gin_e hf
  refine va_iald hx hb hK hP 3 0 rfl rfl h_1 dX8_mayLurk_6 ?_
  obtain ⟨v3_2, ev3_2, hf⟩ := bnd_e hf
  refine tp_i ev3_2 ?_
  refine lv_istore_n (lv' := [(3, .int v3_2), (0, .ref t_q), (1, .int p1), (2, .int p2)]) hx hb dX8_mayLurk_7 rfl hl (by decide) rfl (fun ls hl => ?_)
  refine lv_iload_n hx hb dX8_mayLurk_8 rfl (lv_at hl 2 rfl) ?_
  refine lv_istore (lv' := [(4, .int p1), (3, .int v3_2), (0, .ref t_q), (1, .int p1), (2, .int p2)]) hx hb dX8_mayLurk_9 hl (by decide) rfl (fun ls hl => ?_)
  refine lv_iload_n hx hb dX8_mayLurk_11 rfl (lv_at hl 3 rfl) ?_
  refine lv_iload_n hx hb dX8_mayLurk_12 rfl (lv_at hl 1 rfl) ?_
  obtain ⟨j_4, hj_4, hf⟩ := jn1_e hf
  have J_4 : ∀ (s_3 : Int32), j_4 s_3 = some rr → ∀ (H : Heap) (locs : List Loc) (ls : Array Slot), va_P g.1 vwCl [oX8 t_q t_state_q t_roomMany t_doorMany t_stringLong t_laws_q t_lawMany t_readPage_q t_readLaws_q t_readRooms t_readDoors t_readString t_readLawMany t_toldOnce t_highRoom t_highDoor t_tape_q t_taped t_fault t_broken t_brokenAt t_spot t_here t_token t_value t_cuts_q t_letters_q t_work_q t_pages_q t_canBe_q t_leadsOn_q t_seen_q t_seenMany t_heard_q t_heardMany t_isKept_q t_lanes_q t_lengths_q t_cells_q t_torn, aI g t_heard_q 18 t_heard, aI g t_pages_q 750 t_pages, aI g t_state_q 196 t_state] H → va_S A s.heap H locs → lv_has ls 9 [(0, .ref t_q), (2, .int p2), (3, .int v3_2), (4, .int p1)] → W p l e rmX8_mayLurk s m args below meth c H locs 0 0 Q (F0 m 21 ls [.int s_3]) := by
    intro s_3 hf H locs ls hP hS hl
    rw [hj_4] at hf
    refine lv_istore (lv' := [(5, .int s_3), (0, .ref t_q), (2, .int p2), (3, .int v3_2), (4, .int p1)]) hx hb dX8_mayLurk_21 hl (by decide) rfl (fun ls hl => ?_)
    refine lv_iconst (v := (0 : Int32)) hx hb dX8_mayLurk_23 (by decide) ?_
    refine lv_istore (lv' := [(6, .int (0 : Int32)), (5, .int s_3), (0, .ref t_q), (2, .int p2), (3, .int v3_2), (4, .int p1)]) hx hb dX8_mayLurk_24 hl (by decide) rfl (fun ls hl => ?_)
    obtain ⟨x4_37, x5_38, x6_39, ho_8, hf⟩ := ob3_e hf
    have K_8 : ∀ (x4_37y : Int32) (x5_38y : Int32) (x6_39y : Int32), x4_37 = x4_37y → x5_38 = x5_38y → x6_39 = x6_39y → ∀ (H : Heap) (locs : List Loc) (ls : Array Slot), va_P g.1 vwCl [oX8 t_q t_state_q t_roomMany t_doorMany t_stringLong t_laws_q t_lawMany t_readPage_q t_readLaws_q t_readRooms t_readDoors t_readString t_readLawMany t_toldOnce t_highRoom t_highDoor t_tape_q t_taped t_fault t_broken t_brokenAt t_spot t_here t_token t_value t_cuts_q t_letters_q t_work_q t_pages_q t_canBe_q t_leadsOn_q t_seen_q t_seenMany t_heard_q t_heardMany t_isKept_q t_lanes_q t_lengths_q t_cells_q t_torn, aI g t_heard_q 18 t_heard, aI g t_pages_q 750 t_pages, aI g t_state_q 196 t_state] H → va_S A s.heap H locs → lv_has ls 9 [(5, .int x5_38y)] → W p l e rmX8_mayLurk s m args below meth c H locs 0 0 Q (F0 m 162 ls []) := by
      intro x4_37y x5_38y x6_39y ey0 ey1 ey2 H locs ls hP hS hl
      subst ey0
      subst ey1
      subst ey2
      refine lv_iload hx hb dX8_mayLurk_162 (lv_at hl 0 rfl) ?_
      obtain ⟨b_40, hf⟩ := gbl_e hf
      exact hret x5_38 (Option.some.inj hf) (bl_n b_40) _ _ _ _ hP hS dX8_mayLurk_164
    have L_8 : ∀ (n : Nat) (v4_5 : Int32) (v5_6 : Int32) (v6_7 : Int32), itr (un3 (b_X8_mayLurk_26 t_doorMany t_heardMany t_heard t_pages t_state p2 v3_2)) n (v4_5, v5_6, v6_7) = some (x4_37, x5_38, x6_39) → ∀ (H : Heap) (locs : List Loc) (ls : Array Slot), va_P g.1 vwCl [oX8 t_q t_state_q t_roomMany t_doorMany t_stringLong t_laws_q t_lawMany t_readPage_q t_readLaws_q t_readRooms t_readDoors t_readString t_readLawMany t_toldOnce t_highRoom t_highDoor t_tape_q t_taped t_fault t_broken t_brokenAt t_spot t_here t_token t_value t_cuts_q t_letters_q t_work_q t_pages_q t_canBe_q t_leadsOn_q t_seen_q t_seenMany t_heard_q t_heardMany t_isKept_q t_lanes_q t_lengths_q t_cells_q t_torn, aI g t_heard_q 18 t_heard, aI g t_pages_q 750 t_pages, aI g t_state_q 196 t_state] H → va_S A s.heap H locs → lv_has ls 9 [(0, .ref t_q), (2, .int p2), (3, .int v3_2), (4, .int v4_5), (5, .int v5_6), (6, .int v6_7)] → W p l e rmX8_mayLurk s m args below meth c H locs 0 0 Q (F0 m 26 ls []) := by
      refine itr_ind3 ?_
      intro v4_5 v5_6 v6_7 z_8 hf hrec hex H locs ls hP hS hl
      unfold b_X8_mayLurk_26 at hf
      refine lv_iload hx hb dX8_mayLurk_26 (lv_at hl 5 rfl) ?_
      refine lv_bipush (v := (12 : Int32)) hx hb dX8_mayLurk_28 (by decide) ?_
      refine lv_icmp_ge (tgt := 162) hx hb dX8_mayLurk_30 (by decide) (fun c_9 => ?_) (fun c_9 => ?_)
      · have hf := ite_t hf c_9
        exact K_8 v4_5 v5_6 v6_7 (congrArg (fun t => t.1) (hex _ (Option.some.inj hf).symm).symm) (congrArg (fun t => t.2.1) (hex _ (Option.some.inj hf).symm).symm) (congrArg (fun t => t.2.2) (hex _ (Option.some.inj hf).symm).symm) _ _ _ hP hS (lv_sub hl [4] rfl)
      · have hf := ite_f hf c_9
        refine lv_aload_n hx hb dX8_mayLurk_33 rfl (lv_at hl 0 rfl) ?_
        refine lv_aload_n hx hb dX8_mayLurk_34 rfl (lv_at hl 0 rfl) ?_
        refine va_get (D := g.1) (ci := 8) (v := .ref t_pages_q) (C := RX8) (T := TX8) (N := 39) hx hb hts inX8 hown hK hP 0 rfl rfl 27 (by decide) k41 (fun _ h9 => h9) rfl dX8_mayLurk_35 ?_
        refine lv_bipush (v := (30 : Int32)) hx hb dX8_mayLurk_38 (by decide) ?_
        refine lv_iload hx hb dX8_mayLurk_40 (lv_at hl 5 rfl) ?_
        refine lv_imul hx hb dX8_mayLurk_42 ?_
        refine lv_iload hx hb dX8_mayLurk_43 (lv_at hl 3 rfl) ?_
        refine lv_iload_n hx hb dX8_mayLurk_45 rfl (lv_at hl 2 rfl) ?_
        refine lv_iload_n hx hb dX8_mayLurk_46 rfl (lv_at hl 1 rfl) ?_
        refine lv_aload_n hx hb dX8_mayLurk_47 rfl (lv_at hl 0 rfl) ?_
        refine va_get (D := g.1) (ci := 8) (v := .ref t_state_q) (C := RX8) (T := TX8) (N := 39) hx hb hts inX8 hown hK hP 0 rfl rfl 0 (by decide) k7 (fun _ h9 => h9) rfl dX8_mayLurk_48 ?_
        refine lv_bipush (v := (47 : Int32)) hx hb dX8_mayLurk_51 (by decide) ?_
        obtain ⟨h_10, hf⟩ := gin_e hf
        refine va_iald hx hb hK hP 3 0 rfl rfl h_10 dX8_mayLurk_53 ?_
        refine lv_iload hx hb dX8_mayLurk_54 (lv_at hl 5 rfl) ?_
        refine lv_iadd hx hb dX8_mayLurk_56 ?_
        obtain ⟨r_11, hc_12, hf⟩ := ob1_e hf
        refine kV_i (wn := [oX8 t_q t_state_q t_roomMany t_doorMany t_stringLong t_laws_q t_lawMany t_readPage_q t_readLaws_q t_readRooms t_readDoors t_readString t_readLawMany t_toldOnce t_highRoom t_highDoor t_tape_q t_taped t_fault t_broken t_brokenAt t_spot t_here t_token t_value t_cuts_q t_letters_q t_work_q t_pages_q t_canBe_q t_leadsOn_q t_seen_q t_seenMany t_heard_q t_heardMany t_isKept_q t_lanes_q t_lengths_q t_cells_q t_torn, aI g t_heard_q 18 t_heard, aI g t_pages_q 750 t_pages, aI g t_state_q 196 t_state]) (As := [.ref t_pages_q, .int ((30 : Int32) * v6_7), .int v4_5, .int v3_2, .int p2, .int ((t_state (47 : Int32).toNatClampNeg) + v6_7)]) (rest := []) (c_X8_goesTo l g _ t_q t_state_q t_laws_q t_readPage_q t_readLaws_q t_tape_q t_cuts_q t_letters_q t_work_q t_pages_q t_canBe_q t_leadsOn_q t_seen_q t_heard_q t_isKept_q t_lanes_q t_lengths_q t_cells_q t_pages_q t_roomMany t_doorMany t_stringLong t_lawMany t_readRooms t_readDoors t_readString t_readLawMany t_toldOnce t_highRoom t_highDoor t_taped t_fault t_broken t_brokenAt t_spot t_here t_token t_value t_seenMany t_heardMany t_torn 750 t_pages ((30 : Int32) * v6_7) v4_5 v3_2 p2 ((t_state (47 : Int32).toNatClampNeg) + v6_7) r_11 hc_12) ⟨hx, hb, hml, hown, hts⟩ (cwV 6 hts gX8_mayLurk_X8_goesTo rfl rfl rfl (by decide +kernel) ⟨by decide, by decide⟩) hK hz hk hP (hD.re rfl) hS hA [0, 2] rfl rfl rfl rfl rfl rfl rfl hl.1 rfl (Nat.le_of_ble_eq_true rfl) dX8_mayLurk_57 (fun H locs hP hS => ?_)
        refine lv_istore (lv' := [(4, .int r_11), (0, .ref t_q), (2, .int p2), (3, .int v3_2), (5, .int v5_6), (6, .int v6_7)]) hx hb dX8_mayLurk_60 hl (by decide) rfl (fun ls hl => ?_)
        refine lv_iconst (v := (0 : Int32)) hx hb dX8_mayLurk_62 (by decide) ?_
        refine lv_istore (lv' := [(7, .int (0 : Int32)), (4, .int r_11), (0, .ref t_q), (2, .int p2), (3, .int v3_2), (5, .int v5_6), (6, .int v6_7)]) hx hb dX8_mayLurk_63 hl (by decide) rfl (fun ls hl => ?_)
        obtain ⟨x5_34, x7_35, ho_15, hf⟩ := ob2_e hf
        have K_15 : ∀ (x5_34y : Int32) (x7_35y : Int32), x5_34 = x5_34y → x7_35 = x7_35y → ∀ (H : Heap) (locs : List Loc) (ls : Array Slot), va_P g.1 vwCl [oX8 t_q t_state_q t_roomMany t_doorMany t_stringLong t_laws_q t_lawMany t_readPage_q t_readLaws_q t_readRooms t_readDoors t_readString t_readLawMany t_toldOnce t_highRoom t_highDoor t_tape_q t_taped t_fault t_broken t_brokenAt t_spot t_here t_token t_value t_cuts_q t_letters_q t_work_q t_pages_q t_canBe_q t_leadsOn_q t_seen_q t_seenMany t_heard_q t_heardMany t_isKept_q t_lanes_q t_lengths_q t_cells_q t_torn, aI g t_heard_q 18 t_heard, aI g t_pages_q 750 t_pages, aI g t_state_q 196 t_state] H → va_S A s.heap H locs → lv_has ls 9 [(0, .ref t_q), (2, .int p2), (3, .int v3_2), (4, .int r_11), (5, .int x5_34y), (6, .int v6_7)] → W p l e rmX8_mayLurk s m args below meth c H locs 0 0 Q (F0 m 156 ls []) := by
          intro x5_34y x7_35y ey0 ey1 H locs ls hP hS hl
          subst ey0
          subst ey1
          obtain ⟨v6_36, ev6_36, hf⟩ := bnd_e hf
          refine lv_iinc (v := v6_36) (lv' := [(6, .int v6_36), (0, .ref t_q), (2, .int p2), (3, .int v3_2), (4, .int r_11), (5, .int x5_34)]) hx hb dX8_mayLurk_156 hl (k := 5) rfl (by rw [ev6_36]; rfl) (by decide) rfl (fun ls hl => ?_)
          refine lv_goto (tgt := 26) hx hb dX8_mayLurk_159 (by decide) ?_
          exact hrec r_11 x5_34 v6_36 (Option.some.inj hf).symm _ _ _ hP hS (lv_sub hl [1, 2, 3, 4, 5, 0] rfl)
        have L_15 : ∀ (n : Nat) (v5_13 : Int32) (v7_14 : Int32), itr (un2 (b_X8_mayLurk_65 t_heardMany t_heard v6_7 r_11)) n (v5_13, v7_14) = some (x5_34, x7_35) → ∀ (H : Heap) (locs : List Loc) (ls : Array Slot), va_P g.1 vwCl [oX8 t_q t_state_q t_roomMany t_doorMany t_stringLong t_laws_q t_lawMany t_readPage_q t_readLaws_q t_readRooms t_readDoors t_readString t_readLawMany t_toldOnce t_highRoom t_highDoor t_tape_q t_taped t_fault t_broken t_brokenAt t_spot t_here t_token t_value t_cuts_q t_letters_q t_work_q t_pages_q t_canBe_q t_leadsOn_q t_seen_q t_seenMany t_heard_q t_heardMany t_isKept_q t_lanes_q t_lengths_q t_cells_q t_torn, aI g t_heard_q 18 t_heard, aI g t_pages_q 750 t_pages, aI g t_state_q 196 t_state] H → va_S A s.heap H locs → lv_has ls 9 [(0, .ref t_q), (2, .int p2), (3, .int v3_2), (4, .int r_11), (5, .int v5_13), (6, .int v6_7), (7, .int v7_14)] → W p l e rmX8_mayLurk s m args below meth c H locs 0 0 Q (F0 m 65 ls []) := by
          refine itr_ind2 ?_
          intro v5_13 v7_14 z_15 hf hrec hex H locs ls hP hS hl
          unfold b_X8_mayLurk_65 at hf
          refine lv_iload hx hb dX8_mayLurk_65 (lv_at hl 6 rfl) ?_
          refine lv_aload_n hx hb dX8_mayLurk_67 rfl (lv_at hl 0 rfl) ?_
          refine va_get (D := g.1) (ci := 8) (v := .int t_heardMany) (C := RX8) (T := TX8) (N := 39) hx hb hts inX8 hown hK hP 0 rfl rfl 33 (by decide) k184 (fun _ h9 => h9) rfl dX8_mayLurk_68 ?_
          refine lv_icmp_ge (tgt := 156) hx hb dX8_mayLurk_71 (by decide) (fun c_16 => ?_) (fun c_16 => ?_)
          · have hf := ite_t hf c_16
            exact K_15 v5_13 v7_14 (congrArg (fun t => t.1) (hex _ (Option.some.inj hf).symm).symm) (congrArg (fun t => t.2) (hex _ (Option.some.inj hf).symm).symm) _ _ _ hP hS (lv_sub hl [0, 1, 2, 3, 4, 5] rfl)
          · have hf := ite_f hf c_16
            refine lv_iload hx hb dX8_mayLurk_74 (lv_at hl 3 rfl) ?_
            refine lv_aload_n hx hb dX8_mayLurk_76 rfl (lv_at hl 0 rfl) ?_
            refine va_get (D := g.1) (ci := 8) (v := .ref t_heard_q) (C := RX8) (T := TX8) (N := 39) hx hb hts inX8 hown hK hP 0 rfl rfl 32 (by decide) k53 (fun _ h9 => h9) rfl dX8_mayLurk_77 ?_
            refine lv_iconst (v := (3 : Int32)) hx hb dX8_mayLurk_80 (by decide) ?_
            refine lv_iload hx hb dX8_mayLurk_81 (lv_at hl 6 rfl) ?_
            refine lv_imul hx hb dX8_mayLurk_83 ?_
            refine lv_iconst (v := (1 : Int32)) hx hb dX8_mayLurk_84 (by decide) ?_
            refine lv_iadd hx hb dX8_mayLurk_85 ?_
            obtain ⟨h_17, hf⟩ := gin_e hf
            refine va_iald hx hb hK hP 1 0 rfl rfl h_17 dX8_mayLurk_86 ?_
            obtain ⟨j_19, hj_19, hf⟩ := jn1_e hf
            have J_19 : ∀ (s_18 : Int32), j_19 s_18 = some z_15 → ∀ (H : Heap) (locs : List Loc) (ls : Array Slot), va_P g.1 vwCl [oX8 t_q t_state_q t_roomMany t_doorMany t_stringLong t_laws_q t_lawMany t_readPage_q t_readLaws_q t_readRooms t_readDoors t_readString t_readLawMany t_toldOnce t_highRoom t_highDoor t_tape_q t_taped t_fault t_broken t_brokenAt t_spot t_here t_token t_value t_cuts_q t_letters_q t_work_q t_pages_q t_canBe_q t_leadsOn_q t_seen_q t_seenMany t_heard_q t_heardMany t_isKept_q t_lanes_q t_lengths_q t_cells_q t_torn, aI g t_heard_q 18 t_heard, aI g t_pages_q 750 t_pages, aI g t_state_q 196 t_state] H → va_S A s.heap H locs → lv_has ls 9 [(0, .ref t_q), (2, .int p2), (3, .int v3_2), (4, .int r_11), (5, .int v5_13), (6, .int v6_7), (7, .int v7_14)] → W p l e rmX8_mayLurk s m args below meth c H locs 0 0 Q (F0 m 95 ls [.int s_18]) := by
              intro s_18 hf H locs ls hP hS hl
              rw [hj_19] at hf
              refine lv_istore (lv' := [(8, .int s_18), (0, .ref t_q), (2, .int p2), (3, .int v3_2), (4, .int r_11), (5, .int v5_13), (6, .int v6_7), (7, .int v7_14)]) hx hb dX8_mayLurk_95 hl (by decide) rfl (fun ls hl => ?_)
              refine lv_iload hx hb dX8_mayLurk_97 (lv_at hl 5 rfl) ?_
              obtain ⟨j_21, hj_21, hf⟩ := jn1_e hf
              have J_21 : ∀ (s_20 : Int32), j_21 s_20 = some z_15 → ∀ (H : Heap) (locs : List Loc) (ls : Array Slot), va_P g.1 vwCl [oX8 t_q t_state_q t_roomMany t_doorMany t_stringLong t_laws_q t_lawMany t_readPage_q t_readLaws_q t_readRooms t_readDoors t_readString t_readLawMany t_toldOnce t_highRoom t_highDoor t_tape_q t_taped t_fault t_broken t_brokenAt t_spot t_here t_token t_value t_cuts_q t_letters_q t_work_q t_pages_q t_canBe_q t_leadsOn_q t_seen_q t_seenMany t_heard_q t_heardMany t_isKept_q t_lanes_q t_lengths_q t_cells_q t_torn, aI g t_heard_q 18 t_heard, aI g t_pages_q 750 t_pages, aI g t_state_q 196 t_state] H → va_S A s.heap H locs → lv_has ls 9 [(0, .ref t_q), (2, .int p2), (3, .int v3_2), (4, .int r_11), (6, .int v6_7), (7, .int v7_14)] → W p l e rmX8_mayLurk s m args below meth c H locs 0 0 Q (F0 m 148 ls [.int s_20]) := by
                intro s_20 hf H locs ls hP hS hl
                rw [hj_21] at hf
                refine lv_istore (lv' := [(5, .int s_20), (0, .ref t_q), (2, .int p2), (3, .int v3_2), (4, .int r_11), (6, .int v6_7), (7, .int v7_14)]) hx hb dX8_mayLurk_148 hl (by decide) rfl (fun ls hl => ?_)
                obtain ⟨v7_22, ev7_22, hf⟩ := bnd_e hf
                refine lv_iinc (v := v7_22) (lv' := [(7, .int v7_22), (5, .int s_20), (0, .ref t_q), (2, .int p2), (3, .int v3_2), (4, .int r_11), (6, .int v6_7)]) hx hb dX8_mayLurk_150 hl (k := 6) rfl (by rw [ev7_22]; rfl) (by decide) rfl (fun ls hl => ?_)
                refine lv_goto (tgt := 65) hx hb dX8_mayLurk_153 (by decide) ?_
                exact hrec s_20 v7_22 (Option.some.inj hf).symm _ _ _ hP hS (lv_sub hl [2, 3, 4, 5, 1, 6, 0] rfl)
              obtain ⟨j_23, hj_23, hf⟩ := jn0_e hf
              have J_23 : j_23 = some z_15 → ∀ (H : Heap) (locs : List Loc) (ls : Array Slot), va_P g.1 vwCl [oX8 t_q t_state_q t_roomMany t_doorMany t_stringLong t_laws_q t_lawMany t_readPage_q t_readLaws_q t_readRooms t_readDoors t_readString t_readLawMany t_toldOnce t_highRoom t_highDoor t_tape_q t_taped t_fault t_broken t_brokenAt t_spot t_here t_token t_value t_cuts_q t_letters_q t_work_q t_pages_q t_canBe_q t_leadsOn_q t_seen_q t_seenMany t_heard_q t_heardMany t_isKept_q t_lanes_q t_lengths_q t_cells_q t_torn, aI g t_heard_q 18 t_heard, aI g t_pages_q 750 t_pages, aI g t_state_q 196 t_state] H → va_S A s.heap H locs → lv_has ls 9 [(0, .ref t_q), (2, .int p2), (3, .int v3_2), (4, .int r_11), (6, .int v6_7), (7, .int v7_14)] → W p l e rmX8_mayLurk s m args below meth c H locs 0 0 Q (F0 m 147 ls []) := by
                intro hf H locs ls hP hS hl
                rw [hj_23] at hf
                refine lv_iconst (v := (0 : Int32)) hx hb dX8_mayLurk_147 (by decide) ?_
                exact J_21 (0 : Int32) hf _ _ _ hP hS (lv_sub hl [0, 1, 2, 3, 4, 5] rfl)
              refine lv_if_eq (tgt := 147) hx hb dX8_mayLurk_99 (by decide) (fun c_24 => ?_) (fun c_24 => ?_)
              · have hf := ite_t hf c_24
                exact J_23 hf _ _ _ hP hS (lv_sub hl [1, 2, 3, 4, 6, 7] rfl)
              · have hf := ite_f hf c_24
                refine lv_aload_n hx hb dX8_mayLurk_102 rfl (lv_at hl 1 rfl) ?_
                refine va_get (D := g.1) (ci := 8) (v := .ref t_heard_q) (C := RX8) (T := TX8) (N := 39) hx hb hts inX8 hown hK hP 0 rfl rfl 32 (by decide) k53 (fun _ h9 => h9) rfl dX8_mayLurk_103 ?_
                refine lv_iconst (v := (3 : Int32)) hx hb dX8_mayLurk_106 (by decide) ?_
                refine lv_iload hx hb dX8_mayLurk_107 (lv_at hl 7 rfl) ?_
                refine lv_imul hx hb dX8_mayLurk_109 ?_
                obtain ⟨h_25, hf⟩ := gin_e hf
                refine va_iald hx hb hK hP 1 0 rfl rfl h_25 dX8_mayLurk_110 ?_
                refine lv_iload hx hb dX8_mayLurk_111 (lv_at hl 6 rfl) ?_
                refine lv_iconst (v := (1 : Int32)) hx hb dX8_mayLurk_113 (by decide) ?_
                refine lv_iadd hx hb dX8_mayLurk_114 ?_
                obtain ⟨j_26, hj_26, hf⟩ := jn0_e hf
                have J_26 : j_26 = some z_15 → ∀ (H : Heap) (locs : List Loc) (ls : Array Slot), va_P g.1 vwCl [oX8 t_q t_state_q t_roomMany t_doorMany t_stringLong t_laws_q t_lawMany t_readPage_q t_readLaws_q t_readRooms t_readDoors t_readString t_readLawMany t_toldOnce t_highRoom t_highDoor t_tape_q t_taped t_fault t_broken t_brokenAt t_spot t_here t_token t_value t_cuts_q t_letters_q t_work_q t_pages_q t_canBe_q t_leadsOn_q t_seen_q t_seenMany t_heard_q t_heardMany t_isKept_q t_lanes_q t_lengths_q t_cells_q t_torn, aI g t_heard_q 18 t_heard, aI g t_pages_q 750 t_pages, aI g t_state_q 196 t_state] H → va_S A s.heap H locs → lv_has ls 9 [(0, .ref t_q), (2, .int p2), (3, .int v3_2), (4, .int r_11), (6, .int v6_7), (7, .int v7_14)] → W p l e rmX8_mayLurk s m args below meth c H locs 0 0 Q (F0 m 143 ls []) := by
                  intro hf H locs ls hP hS hl
                  rw [hj_26] at hf
                  refine lv_iconst (v := (1 : Int32)) hx hb dX8_mayLurk_143 (by decide) ?_
                  refine lv_goto (tgt := 148) hx hb dX8_mayLurk_144 (by decide) ?_
                  exact J_21 (1 : Int32) hf _ _ _ hP hS (lv_sub hl [0, 1, 2, 3, 4, 5] rfl)
                refine lv_icmp_ne (tgt := 143) hx hb dX8_mayLurk_115 (by decide) (fun c_27 => ?_) (fun c_27 => ?_)
                · have hf := ite_f hf c_27
                  exact J_26 hf _ _ _ hP hS (lv_sub hl [1, 2, 3, 4, 6, 7] rfl)
                · have hf := ite_t hf c_27
                  refine lv_iload hx hb dX8_mayLurk_118 (lv_at hl 0 rfl) ?_
                  refine lv_aload_n hx hb dX8_mayLurk_120 rfl (lv_at hl 1 rfl) ?_
                  refine va_get (D := g.1) (ci := 8) (v := .ref t_heard_q) (C := RX8) (T := TX8) (N := 39) hx hb hts inX8 hown hK hP 0 rfl rfl 32 (by decide) k53 (fun _ h9 => h9) rfl dX8_mayLurk_121 ?_
                  refine lv_iconst (v := (3 : Int32)) hx hb dX8_mayLurk_124 (by decide) ?_
                  refine lv_iload hx hb dX8_mayLurk_125 (lv_at hl 7 rfl) ?_
                  refine lv_imul hx hb dX8_mayLurk_127 ?_
                  refine lv_iconst (v := (2 : Int32)) hx hb dX8_mayLurk_128 (by decide) ?_
                  refine lv_iadd hx hb dX8_mayLurk_129 ?_
                  obtain ⟨h_28, hf⟩ := gin_e hf
                  refine va_iald hx hb hK hP 1 0 rfl rfl h_28 dX8_mayLurk_130 ?_
                  refine lv_iconst (v := (1 : Int32)) hx hb dX8_mayLurk_131 (by decide) ?_
                  obtain ⟨j_30, hj_30, hf⟩ := jn1_e hf
                  have J_30 : ∀ (s_29 : Int32), j_30 s_29 = some z_15 → ∀ (H : Heap) (locs : List Loc) (ls : Array Slot), va_P g.1 vwCl [oX8 t_q t_state_q t_roomMany t_doorMany t_stringLong t_laws_q t_lawMany t_readPage_q t_readLaws_q t_readRooms t_readDoors t_readString t_readLawMany t_toldOnce t_highRoom t_highDoor t_tape_q t_taped t_fault t_broken t_brokenAt t_spot t_here t_token t_value t_cuts_q t_letters_q t_work_q t_pages_q t_canBe_q t_leadsOn_q t_seen_q t_seenMany t_heard_q t_heardMany t_isKept_q t_lanes_q t_lengths_q t_cells_q t_torn, aI g t_heard_q 18 t_heard, aI g t_pages_q 750 t_pages, aI g t_state_q 196 t_state] H → va_S A s.heap H locs → lv_has ls 9 [(0, .ref t_q), (2, .int p2), (3, .int v3_2), (4, .int r_11), (6, .int v6_7), (7, .int v7_14)] → W p l e rmX8_mayLurk s m args below meth c H locs 0 0 Q (F0 m 140 ls [.int s_29, .int s_18]) := by
                    intro s_29 hf H locs ls hP hS hl
                    rw [hj_30] at hf
                    refine lv_icmp_ne (tgt := 147) hx hb dX8_mayLurk_140 (by decide) (fun c_31 => ?_) (fun c_31 => ?_)
                    · have hf := ite_f hf c_31
                      exact J_23 hf _ _ _ hP hS (lv_sub hl [0, 1, 2, 3, 4, 5] rfl)
                    · have hf := ite_t hf c_31
                      exact J_26 hf _ _ _ hP hS (lv_sub hl [0, 1, 2, 3, 4, 5] rfl)
                  refine lv_icmp_ne (tgt := 139) hx hb dX8_mayLurk_132 (by decide) (fun c_32 => ?_) (fun c_32 => ?_)
                  · have hf := ite_f hf c_32
                    refine lv_iconst (v := (0 : Int32)) hx hb dX8_mayLurk_139 (by decide) ?_
                    exact J_30 (0 : Int32) hf _ _ _ hP hS (lv_sub hl [1, 2, 3, 4, 6, 7] rfl)
                  · have hf := ite_t hf c_32
                    refine lv_iconst (v := (1 : Int32)) hx hb dX8_mayLurk_135 (by decide) ?_
                    refine lv_goto (tgt := 140) hx hb dX8_mayLurk_136 (by decide) ?_
                    exact J_30 (1 : Int32) hf _ _ _ hP hS (lv_sub hl [1, 2, 3, 4, 6, 7] rfl)
            refine lv_icmp_ne (tgt := 94) hx hb dX8_mayLurk_87 (by decide) (fun c_33 => ?_) (fun c_33 => ?_)
            · have hf := ite_f hf c_33
              refine lv_iconst (v := (0 : Int32)) hx hb dX8_mayLurk_94 (by decide) ?_
              exact J_19 (0 : Int32) hf _ _ _ hP hS (lv_sub hl [0, 1, 2, 3, 4, 5, 6] rfl)
            · have hf := ite_t hf c_33
              refine lv_iconst (v := (1 : Int32)) hx hb dX8_mayLurk_90 (by decide) ?_
              refine lv_goto (tgt := 95) hx hb dX8_mayLurk_91 (by decide) ?_
              exact J_19 (1 : Int32) hf _ _ _ hP hS (lv_sub hl [0, 1, 2, 3, 4, 5, 6] rfl)
        exact L_15 FU v5_6 (0 : Int32) ho_15 _ _ _ hP hS (lv_sub hl [2, 3, 4, 1, 5, 6, 0] rfl)
    exact L_8 FU p1 s_3 (0 : Int32) ho_8 _ _ _ hP hS (lv_sub hl [2, 3, 4, 5, 1, 0] rfl)
  refine lv_icmp_eq (tgt := 20) hx hb dX8_mayLurk_13 (by decide) (fun c_41 => ?_) (fun c_41 => ?_)
  · have hf := ite_t hf c_41
    refine lv_iconst (v := (0 : Int32)) hx hb dX8_mayLurk_20 (by decide) ?_
    exact J_4 (0 : Int32) hf _ _ _ hP hS (lv_sub hl [2, 4, 1, 0] rfl)
  · have hf := ite_f hf c_41
    refine lv_iconst (v := (1 : Int32)) hx hb dX8_mayLurk_16 (by decide) ?_
    refine lv_goto (tgt := 21) hx hb dX8_mayLurk_17 (by decide) ?_
    exact J_4 (1 : Int32) hf _ _ _ hP hS (lv_sub hl [2, 4, 1, 0] rfl)

def b_X8_lair_22 (t_roomMany : Int32) (t_doorMany : Int32) (t_heardMany : Int32) (t_heard : Nat → Int32) (t_state : Nat → Int32) (p1 : Int32) (t_pages_4 : Nat → Int32) (v2_7 : Int32) (v3_8 : Int32) : Option ((Int32 × Int32) ⊕ (Int32 × Int32)) :=
 (if t_roomMany ≤ v3_8 then
 (some (.inr (v2_7, v3_8)))
 else (ob1 (f_X8_mayLurk t_doorMany t_heardMany t_heard t_pages_4 t_state v3_8 p1) (fun r_11 =>
 (jn1 (fun (s_13 : Int32) => (bnd (v2_7 ||| s_13) (fun v2_15 =>
 (bnd (v3_8 + (1 : Int32)) (fun v3_16 =>
 (some (.inl (v2_15, v3_16)))))))) (fun j_14 =>
 (if r_11 = (0 : Int32) then
 (j_14 (0 : Int32))
 else (j_14 ((1 : Int32) <<< (v3_8 &&& 31)))))))))
def f_X8_lair (t_roomMany : Int32) (t_doorMany : Int32) (t_lawMany : Int32) (t_heardMany : Int32) (t_heard : Nat → Int32) (t_laws : Nat → Int32) (t_pages : Nat → Int32) (t_state : Nat → Int32) (t_work : Nat → Int32) (p1 : Int32) : Option (Int32 × (Nat → Int32) × (Nat → Int32)) :=
 (ob1 (f_X8_in (p1.toInt64) (0 : Int64) (3 : Int64)) (fun r_1 =>
 (if r_1 = (0 : Int32) then
 (some ((-1 : Int32), t_pages, t_work))
 else (ob2 (f_X8_layPages t_roomMany t_lawMany t_laws t_pages t_state t_work) (fun t_pages_4 t_work_5 =>
 (ob2 (itr (un2 (b_X8_lair_22 t_roomMany t_doorMany t_heardMany t_heard t_state p1 t_pages_4)) FU ((0 : Int32), (0 : Int32))) (fun x2_18 x3_19 =>
 (some (x2_18, t_pages_4, t_work_5)))))))))
abbrev rmX8_lair : Room := { frames := 4, cells := 0, slots := 0, locals := 108 }
set_option maxHeartbeats 4000000 in
set_option maxRecDepth 100000 in
theorem c_X8_lair (l : Launch) (g : Gh) (sz : Nat) (t_q t_state_q t_laws_q t_readPage_q t_readLaws_q t_tape_q t_cuts_q t_letters_q t_work_q t_pages_q t_canBe_q t_leadsOn_q t_seen_q t_heard_q t_isKept_q t_lanes_q t_lengths_q t_cells_q : Nat) (t_roomMany : Int32) (t_doorMany : Int32) (t_stringLong : Int32) (t_lawMany : Int32) (t_readRooms : Int32) (t_readDoors : Int32) (t_readString : Int32) (t_readLawMany : Int32) (t_toldOnce : Int32) (t_highRoom : Int32) (t_highDoor : Int32) (t_taped : Int32) (t_fault : Int32) (t_broken : Int32) (t_brokenAt : Int32) (t_spot : Int32) (t_here : Int32) (t_token : Int32) (t_value : Int32) (t_seenMany : Int32) (t_heardMany : Int32) (t_torn : Int32) (t_heard : Nat → Int32) (t_laws : Nat → Int32) (t_pages : Nat → Int32) (t_state : Nat → Int32) (t_work : Nat → Int32) (p1 : Int32) (rr : Int32) (t_pages' : Nat → Int32) (t_work' : Nat → Int32) (hf : f_X8_lair t_roomMany t_doorMany t_lawMany t_heardMany t_heard t_laws t_pages t_state t_work p1 = some (rr, t_pages', t_work')) : CI l yX8_lair wsX8_lair rmX8_lair [.ref t_q, .int p1] g sz [oX8 t_q t_state_q t_roomMany t_doorMany t_stringLong t_laws_q t_lawMany t_readPage_q t_readLaws_q t_readRooms t_readDoors t_readString t_readLawMany t_toldOnce t_highRoom t_highDoor t_tape_q t_taped t_fault t_broken t_brokenAt t_spot t_here t_token t_value t_cuts_q t_letters_q t_work_q t_pages_q t_canBe_q t_leadsOn_q t_seen_q t_seenMany t_heard_q t_heardMany t_isKept_q t_lanes_q t_lengths_q t_cells_q t_torn, aI g t_heard_q 18 t_heard, aI g t_laws_q 18 t_laws, aI g t_pages_q 750 t_pages, aI g t_state_q 196 t_state, aI g t_work_q 30 t_work] [oX8 t_q t_state_q t_roomMany t_doorMany t_stringLong t_laws_q t_lawMany t_readPage_q t_readLaws_q t_readRooms t_readDoors t_readString t_readLawMany t_toldOnce t_highRoom t_highDoor t_tape_q t_taped t_fault t_broken t_brokenAt t_spot t_here t_token t_value t_cuts_q t_letters_q t_work_q t_pages_q t_canBe_q t_leadsOn_q t_seen_q t_seenMany t_heard_q t_heardMany t_isKept_q t_lanes_q t_lengths_q t_cells_q t_torn, aI g t_heard_q 18 t_heard, aI g t_laws_q 18 t_laws, aI g t_pages_q 750 t_pages', aI g t_state_q 196 t_state, aI g t_work_q 30 t_work'] rr := by
  refine ent_i (cc := cX8_lair) (maxL := 4) (by decide) rfl (Nat.le_of_ble_eq_true rfl) ?_
  intro p e s m args below meth c A Q hx hb hml hown hts hK hz hk hA hD hP hS hret ls hl
  have hown : s.vm.findClass RX8 = some m.cls := hown
  have inX8 : ∀ w ∈ u_ws RX8 TX8 39, w ∈ wsX8_lair := by decide +kernel
  have k13 := hts (.fieldLink RX8 13 "ThreadMovedModel" "roomMany" "I") (by decide +kernel)
  have q150 := hts (.constantLong RX8 150 (3)) (by decide +kernel)
  have hl : lv_has ls 4 [(0, .ref t_q), (1, .int p1)] := hl
  have hret : ∀ (rrz : Int32) (t_pagesz : Nat → Int32) (t_workz : Nat → Int32), (rrz, t_pagesz, t_workz) = (rr, t_pages', t_work') → ∀ (H : Heap) (locs : List Loc) (pc : Nat) (ls : Array Slot), va_P g.1 vwCl [oX8 t_q t_state_q t_roomMany t_doorMany t_stringLong t_laws_q t_lawMany t_readPage_q t_readLaws_q t_readRooms t_readDoors t_readString t_readLawMany t_toldOnce t_highRoom t_highDoor t_tape_q t_taped t_fault t_broken t_brokenAt t_spot t_here t_token t_value t_cuts_q t_letters_q t_work_q t_pages_q t_canBe_q t_leadsOn_q t_seen_q t_seenMany t_heard_q t_heardMany t_isKept_q t_lanes_q t_lengths_q t_cells_q t_torn, aI g t_heard_q 18 t_heard, aI g t_laws_q 18 t_laws, aI g t_pages_q 750 t_pagesz, aI g t_state_q 196 t_state, aI g t_work_q 30 t_workz] H → va_S A s.heap H locs → decode cX8_lair pc = .ok (.ireturn, 1) → W p l e rmX8_lair s m args below meth c H locs 0 0 Q (F0 m pc ls [.int rrz]) := by
    intro rrz t_pagesz t_workz he H locs pc ls hP hS hd
    cases he
    exact hret H locs pc ls hP hS hd
  unfold f_X8_lair at hf
  refine lv_iload_n hx hb dX8_lair_0 rfl (lv_at hl 1 rfl) ?_
  refine lv_i2l hx hb dX8_lair_1 rfl ?_
  refine lv_lconst (v := (0 : Int64)) hx hb dX8_lair_2 (by decide) ?_
  refine lv_ldc2 hx hb hown q150 dX8_lair_3 ?_
  obtain ⟨r_1, hc_2, hf⟩ := ob1_e hf
  refine kS_i (wn := [oX8 t_q t_state_q t_roomMany t_doorMany t_stringLong t_laws_q t_lawMany t_readPage_q t_readLaws_q t_readRooms t_readDoors t_readString t_readLawMany t_toldOnce t_highRoom t_highDoor t_tape_q t_taped t_fault t_broken t_brokenAt t_spot t_here t_token t_value t_cuts_q t_letters_q t_work_q t_pages_q t_canBe_q t_leadsOn_q t_seen_q t_seenMany t_heard_q t_heardMany t_isKept_q t_lanes_q t_lengths_q t_cells_q t_torn, aI g t_heard_q 18 t_heard, aI g t_laws_q 18 t_laws, aI g t_pages_q 750 t_pages, aI g t_state_q 196 t_state, aI g t_work_q 30 t_work]) (As := [.long (p1.toInt64), .long (0 : Int64), .long (3 : Int64)]) (rest := []) (c_X8_in l g _ (p1.toInt64) (0 : Int64) (3 : Int64) r_1 hc_2) ⟨hx, hb, hml, hown, hts⟩ (va_cwS 3 hts gX8_lair_X8_in rfl rfl rfl (by decide +kernel) ⟨by decide, by decide⟩) hK hz hk hP (hD.re rfl) hS hA [] rfl rfl rfl rfl rfl hl.1 rfl (Nat.le_of_ble_eq_true rfl) dX8_lair_6 (fun H locs hP hS => ?_)
  refine lv_if_ne (tgt := 14) hx hb dX8_lair_9 (by decide) (fun c_3 => ?_) (fun c_3 => ?_)
  · have hf := ite_f hf c_3
    refine lv_aload_n hx hb dX8_lair_14 rfl (lv_at hl 0 rfl) ?_
    obtain ⟨t_pages_4, t_work_5, hc_6, hf⟩ := ob2_e hf
    refine kV_v (wn := [oX8 t_q t_state_q t_roomMany t_doorMany t_stringLong t_laws_q t_lawMany t_readPage_q t_readLaws_q t_readRooms t_readDoors t_readString t_readLawMany t_toldOnce t_highRoom t_highDoor t_tape_q t_taped t_fault t_broken t_brokenAt t_spot t_here t_token t_value t_cuts_q t_letters_q t_work_q t_pages_q t_canBe_q t_leadsOn_q t_seen_q t_seenMany t_heard_q t_heardMany t_isKept_q t_lanes_q t_lengths_q t_cells_q t_torn, aI g t_heard_q 18 t_heard, aI g t_laws_q 18 t_laws, aI g t_pages_q 750 t_pages_4, aI g t_state_q 196 t_state, aI g t_work_q 30 t_work_5]) (As := []) (rest := []) (c_X8_layPages l g _ t_q t_state_q t_laws_q t_readPage_q t_readLaws_q t_tape_q t_cuts_q t_letters_q t_work_q t_pages_q t_canBe_q t_leadsOn_q t_seen_q t_heard_q t_isKept_q t_lanes_q t_lengths_q t_cells_q t_roomMany t_doorMany t_stringLong t_lawMany t_readRooms t_readDoors t_readString t_readLawMany t_toldOnce t_highRoom t_highDoor t_taped t_fault t_broken t_brokenAt t_spot t_here t_token t_value t_seenMany t_heardMany t_torn t_laws t_pages t_state t_work t_pages_4 t_work_5 hc_6) ⟨hx, hb, hml, hown, hts⟩ (cwV 0 hts gX8_lair_X8_layPages rfl rfl rfl (by decide +kernel) ⟨by decide, by decide⟩) hK hz hk hP (hD.re rfl) hS hA [0, 2, 3, 4, 5] rfl rfl rfl rfl rfl rfl rfl hl.1 rfl (Nat.le_of_ble_eq_true rfl) dX8_lair_15 (fun H locs hP hS => ?_)
    refine lv_iconst (v := (0 : Int32)) hx hb dX8_lair_18 (by decide) ?_
    refine lv_istore_n (lv' := [(2, .int (0 : Int32)), (0, .ref t_q), (1, .int p1)]) hx hb dX8_lair_19 rfl hl (by decide) rfl (fun ls hl => ?_)
    refine lv_iconst (v := (0 : Int32)) hx hb dX8_lair_20 (by decide) ?_
    refine lv_istore_n (lv' := [(3, .int (0 : Int32)), (2, .int (0 : Int32)), (0, .ref t_q), (1, .int p1)]) hx hb dX8_lair_21 rfl hl (by decide) rfl (fun ls hl => ?_)
    obtain ⟨x2_18, x3_19, ho_9, hf⟩ := ob2_e hf
    have K_9 : ∀ (x2_18y : Int32) (x3_19y : Int32), x2_18 = x2_18y → x3_19 = x3_19y → ∀ (H : Heap) (locs : List Loc) (ls : Array Slot), va_P g.1 vwCl [oX8 t_q t_state_q t_roomMany t_doorMany t_stringLong t_laws_q t_lawMany t_readPage_q t_readLaws_q t_readRooms t_readDoors t_readString t_readLawMany t_toldOnce t_highRoom t_highDoor t_tape_q t_taped t_fault t_broken t_brokenAt t_spot t_here t_token t_value t_cuts_q t_letters_q t_work_q t_pages_q t_canBe_q t_leadsOn_q t_seen_q t_seenMany t_heard_q t_heardMany t_isKept_q t_lanes_q t_lengths_q t_cells_q t_torn, aI g t_heard_q 18 t_heard, aI g t_laws_q 18 t_laws, aI g t_pages_q 750 t_pages_4, aI g t_state_q 196 t_state, aI g t_work_q 30 t_work_5] H → va_S A s.heap H locs → lv_has ls 4 [(2, .int x2_18y)] → W p l e rmX8_lair s m args below meth c H locs 0 0 Q (F0 m 55 ls []) := by
      intro x2_18y x3_19y ey0 ey1 H locs ls hP hS hl
      subst ey0
      subst ey1
      refine lv_iload_n hx hb dX8_lair_55 rfl (lv_at hl 0 rfl) ?_
      exact hret x2_18 t_pages_4 t_work_5 (Option.some.inj hf) _ _ _ _ hP hS dX8_lair_56
    have L_9 : ∀ (n : Nat) (v2_7 : Int32) (v3_8 : Int32), itr (un2 (b_X8_lair_22 t_roomMany t_doorMany t_heardMany t_heard t_state p1 t_pages_4)) n (v2_7, v3_8) = some (x2_18, x3_19) → ∀ (H : Heap) (locs : List Loc) (ls : Array Slot), va_P g.1 vwCl [oX8 t_q t_state_q t_roomMany t_doorMany t_stringLong t_laws_q t_lawMany t_readPage_q t_readLaws_q t_readRooms t_readDoors t_readString t_readLawMany t_toldOnce t_highRoom t_highDoor t_tape_q t_taped t_fault t_broken t_brokenAt t_spot t_here t_token t_value t_cuts_q t_letters_q t_work_q t_pages_q t_canBe_q t_leadsOn_q t_seen_q t_seenMany t_heard_q t_heardMany t_isKept_q t_lanes_q t_lengths_q t_cells_q t_torn, aI g t_heard_q 18 t_heard, aI g t_laws_q 18 t_laws, aI g t_pages_q 750 t_pages_4, aI g t_state_q 196 t_state, aI g t_work_q 30 t_work_5] H → va_S A s.heap H locs → lv_has ls 4 [(0, .ref t_q), (1, .int p1), (2, .int v2_7), (3, .int v3_8)] → W p l e rmX8_lair s m args below meth c H locs 0 0 Q (F0 m 22 ls []) := by
      refine itr_ind2 ?_
      intro v2_7 v3_8 z_9 hf hrec hex H locs ls hP hS hl
      unfold b_X8_lair_22 at hf
      refine lv_iload_n hx hb dX8_lair_22 rfl (lv_at hl 3 rfl) ?_
      refine lv_aload_n hx hb dX8_lair_23 rfl (lv_at hl 0 rfl) ?_
      refine va_get (D := g.1) (ci := 8) (v := .int t_roomMany) (C := RX8) (T := TX8) (N := 39) hx hb hts inX8 hown hK hP 0 rfl rfl 1 (by decide) k13 (fun _ h9 => h9) rfl dX8_lair_24 ?_
      refine lv_icmp_ge (tgt := 55) hx hb dX8_lair_27 (by decide) (fun c_10 => ?_) (fun c_10 => ?_)
      · have hf := ite_t hf c_10
        exact K_9 v2_7 v3_8 (congrArg (fun t => t.1) (hex _ (Option.some.inj hf).symm).symm) (congrArg (fun t => t.2) (hex _ (Option.some.inj hf).symm).symm) _ _ _ hP hS (lv_sub hl [2] rfl)
      · have hf := ite_f hf c_10
        refine lv_iload_n hx hb dX8_lair_30 rfl (lv_at hl 2 rfl) ?_
        refine lv_aload_n hx hb dX8_lair_31 rfl (lv_at hl 0 rfl) ?_
        refine lv_iload_n hx hb dX8_lair_32 rfl (lv_at hl 3 rfl) ?_
        refine lv_iload_n hx hb dX8_lair_33 rfl (lv_at hl 1 rfl) ?_
        obtain ⟨r_11, hc_12, hf⟩ := ob1_e hf
        refine kV_i (wn := [oX8 t_q t_state_q t_roomMany t_doorMany t_stringLong t_laws_q t_lawMany t_readPage_q t_readLaws_q t_readRooms t_readDoors t_readString t_readLawMany t_toldOnce t_highRoom t_highDoor t_tape_q t_taped t_fault t_broken t_brokenAt t_spot t_here t_token t_value t_cuts_q t_letters_q t_work_q t_pages_q t_canBe_q t_leadsOn_q t_seen_q t_seenMany t_heard_q t_heardMany t_isKept_q t_lanes_q t_lengths_q t_cells_q t_torn, aI g t_heard_q 18 t_heard, aI g t_laws_q 18 t_laws, aI g t_pages_q 750 t_pages_4, aI g t_state_q 196 t_state, aI g t_work_q 30 t_work_5]) (As := [.int v3_8, .int p1]) (rest := [.int v2_7]) (c_X8_mayLurk l g _ t_q t_state_q t_laws_q t_readPage_q t_readLaws_q t_tape_q t_cuts_q t_letters_q t_work_q t_pages_q t_canBe_q t_leadsOn_q t_seen_q t_heard_q t_isKept_q t_lanes_q t_lengths_q t_cells_q t_roomMany t_doorMany t_stringLong t_lawMany t_readRooms t_readDoors t_readString t_readLawMany t_toldOnce t_highRoom t_highDoor t_taped t_fault t_broken t_brokenAt t_spot t_here t_token t_value t_seenMany t_heardMany t_torn t_heard t_pages_4 t_state v3_8 p1 r_11 hc_12) ⟨hx, hb, hml, hown, hts⟩ (cwV 2 hts gX8_lair_X8_mayLurk rfl rfl rfl (by decide +kernel) ⟨by decide, by decide⟩) hK hz hk hP (hD.re rfl) hS hA [0, 1, 3, 4] rfl rfl rfl rfl rfl rfl rfl hl.1 rfl (Nat.le_of_ble_eq_true rfl) dX8_lair_34 (fun H locs hP hS => ?_)
        obtain ⟨j_14, hj_14, hf⟩ := jn1_e hf
        have J_14 : ∀ (s_13 : Int32), j_14 s_13 = some z_9 → ∀ (H : Heap) (locs : List Loc) (ls : Array Slot), va_P g.1 vwCl [oX8 t_q t_state_q t_roomMany t_doorMany t_stringLong t_laws_q t_lawMany t_readPage_q t_readLaws_q t_readRooms t_readDoors t_readString t_readLawMany t_toldOnce t_highRoom t_highDoor t_tape_q t_taped t_fault t_broken t_brokenAt t_spot t_here t_token t_value t_cuts_q t_letters_q t_work_q t_pages_q t_canBe_q t_leadsOn_q t_seen_q t_seenMany t_heard_q t_heardMany t_isKept_q t_lanes_q t_lengths_q t_cells_q t_torn, aI g t_heard_q 18 t_heard, aI g t_laws_q 18 t_laws, aI g t_pages_q 750 t_pages_4, aI g t_state_q 196 t_state, aI g t_work_q 30 t_work_5] H → va_S A s.heap H locs → lv_has ls 4 [(0, .ref t_q), (1, .int p1), (3, .int v3_8)] → W p l e rmX8_lair s m args below meth c H locs 0 0 Q (F0 m 47 ls [.int s_13, .int v2_7]) := by
          intro s_13 hf H locs ls hP hS hl
          rw [hj_14] at hf
          refine lv_ior hx hb dX8_lair_47 ?_
          obtain ⟨v2_15, ev2_15, hf⟩ := bnd_e hf
          refine tp_i ev2_15 ?_
          refine lv_istore_n (lv' := [(2, .int v2_15), (0, .ref t_q), (1, .int p1), (3, .int v3_8)]) hx hb dX8_lair_48 rfl hl (by decide) rfl (fun ls hl => ?_)
          obtain ⟨v3_16, ev3_16, hf⟩ := bnd_e hf
          refine lv_iinc (v := v3_16) (lv' := [(3, .int v3_16), (2, .int v2_15), (0, .ref t_q), (1, .int p1)]) hx hb dX8_lair_49 hl (k := 3) rfl (by rw [ev3_16]; rfl) (by decide) rfl (fun ls hl => ?_)
          refine lv_goto (tgt := 22) hx hb dX8_lair_52 (by decide) ?_
          exact hrec v2_15 v3_16 (Option.some.inj hf).symm _ _ _ hP hS (lv_sub hl [2, 3, 1, 0] rfl)
        refine lv_if_eq (tgt := 46) hx hb dX8_lair_37 (by decide) (fun c_17 => ?_) (fun c_17 => ?_)
        · have hf := ite_t hf c_17
          refine lv_iconst (v := (0 : Int32)) hx hb dX8_lair_46 (by decide) ?_
          exact J_14 (0 : Int32) hf _ _ _ hP hS (lv_sub hl [0, 1, 3] rfl)
        · have hf := ite_f hf c_17
          refine lv_iconst (v := (1 : Int32)) hx hb dX8_lair_40 (by decide) ?_
          refine lv_iload_n hx hb dX8_lair_41 rfl (lv_at hl 3 rfl) ?_
          refine lv_ishl hx hb dX8_lair_42 ?_
          refine lv_goto (tgt := 47) hx hb dX8_lair_43 (by decide) ?_
          exact J_14 ((1 : Int32) <<< (v3_8 &&& 31)) hf _ _ _ hP hS (lv_sub hl [0, 1, 3] rfl)
    exact L_9 FU (0 : Int32) (0 : Int32) ho_9 _ _ _ hP hS (lv_sub hl [2, 3, 1, 0] rfl)
  · have hf := ite_t hf c_3
    refine lv_iconst (v := (-1 : Int32)) hx hb dX8_lair_12 (by decide) ?_
    exact hret (-1 : Int32) t_pages t_work (Option.some.inj hf) _ _ _ _ hP hS dX8_lair_13

def f_X8_law (t_lawMany : Int32) (t_laws : Nat → Int32) (p1 : Int32) : Option (Int32) :=
 (ob1 (f_X8_in (p1.toInt64) (0 : Int64) ((t_lawMany - (1 : Int32)).toInt64)) (fun r_1 =>
 (if r_1 = (0 : Int32) then
 (some (-1 : Int32))
 else (gin ((3 : Int32) * p1) 18 (bnd (t_laws ((3 : Int32) * p1).toNatClampNeg) (fun v2_5 =>
 (if v2_5 = (2 : Int32) then
 (gin (((3 : Int32) * p1) + (1 : Int32)) 18 (some (((100 : Int32) * v2_5) + (t_laws (((3 : Int32) * p1) + (1 : Int32)).toNatClampNeg))))
 else (gin (((3 : Int32) * p1) + (1 : Int32)) 18 (gin (((3 : Int32) * p1) + (2 : Int32)) 18 (some (((100 : Int32) * v2_5) + (((10 : Int32) * (t_laws (((3 : Int32) * p1) + (1 : Int32)).toNatClampNeg)) + (t_laws (((3 : Int32) * p1) + (2 : Int32)).toNatClampNeg)))))))))))))
abbrev rmX8_law : Room := { frames := 1, cells := 0, slots := 0, locals := 25 }
set_option maxHeartbeats 4000000 in
set_option maxRecDepth 100000 in
theorem c_X8_law (l : Launch) (g : Gh) (sz : Nat) (t_q t_state_q t_laws_q t_readPage_q t_readLaws_q t_tape_q t_cuts_q t_letters_q t_work_q t_pages_q t_canBe_q t_leadsOn_q t_seen_q t_heard_q t_isKept_q t_lanes_q t_lengths_q t_cells_q : Nat) (t_roomMany : Int32) (t_doorMany : Int32) (t_stringLong : Int32) (t_lawMany : Int32) (t_readRooms : Int32) (t_readDoors : Int32) (t_readString : Int32) (t_readLawMany : Int32) (t_toldOnce : Int32) (t_highRoom : Int32) (t_highDoor : Int32) (t_taped : Int32) (t_fault : Int32) (t_broken : Int32) (t_brokenAt : Int32) (t_spot : Int32) (t_here : Int32) (t_token : Int32) (t_value : Int32) (t_seenMany : Int32) (t_heardMany : Int32) (t_torn : Int32) (t_laws : Nat → Int32) (p1 : Int32) (rr : Int32) (hf : f_X8_law t_lawMany t_laws p1 = some rr) : CI l yX8_law wsX8_law rmX8_law [.ref t_q, .int p1] g sz [oX8 t_q t_state_q t_roomMany t_doorMany t_stringLong t_laws_q t_lawMany t_readPage_q t_readLaws_q t_readRooms t_readDoors t_readString t_readLawMany t_toldOnce t_highRoom t_highDoor t_tape_q t_taped t_fault t_broken t_brokenAt t_spot t_here t_token t_value t_cuts_q t_letters_q t_work_q t_pages_q t_canBe_q t_leadsOn_q t_seen_q t_seenMany t_heard_q t_heardMany t_isKept_q t_lanes_q t_lengths_q t_cells_q t_torn, aI g t_laws_q 18 t_laws] [oX8 t_q t_state_q t_roomMany t_doorMany t_stringLong t_laws_q t_lawMany t_readPage_q t_readLaws_q t_readRooms t_readDoors t_readString t_readLawMany t_toldOnce t_highRoom t_highDoor t_tape_q t_taped t_fault t_broken t_brokenAt t_spot t_here t_token t_value t_cuts_q t_letters_q t_work_q t_pages_q t_canBe_q t_leadsOn_q t_seen_q t_seenMany t_heard_q t_heardMany t_isKept_q t_lanes_q t_lengths_q t_cells_q t_torn, aI g t_laws_q 18 t_laws] rr := by
  refine ent_i (cc := cX8_law) (maxL := 3) (by decide) rfl (Nat.le_of_ble_eq_true rfl) ?_
  intro p e s m args below meth c A Q hx hb hml hown hts hK hz hk hA hD hP hS hret ls hl
  have hown : s.vm.findClass RX8 = some m.cls := hown
  have inX8 : ∀ w ∈ u_ws RX8 TX8 39, w ∈ wsX8_law := by decide +kernel
  have k20 := hts (.fieldLink RX8 20 "ThreadMovedModel" "laws" "[I") (by decide +kernel)
  have k178 := hts (.fieldLink RX8 178 "ThreadMovedModel" "lawMany" "I") (by decide +kernel)
  have hl : lv_has ls 3 [(0, .ref t_q), (1, .int p1)] := hl
  have hret : ∀ (rrz : Int32), rrz = rr → ∀ (H : Heap) (locs : List Loc) (pc : Nat) (ls : Array Slot), va_P g.1 vwCl [oX8 t_q t_state_q t_roomMany t_doorMany t_stringLong t_laws_q t_lawMany t_readPage_q t_readLaws_q t_readRooms t_readDoors t_readString t_readLawMany t_toldOnce t_highRoom t_highDoor t_tape_q t_taped t_fault t_broken t_brokenAt t_spot t_here t_token t_value t_cuts_q t_letters_q t_work_q t_pages_q t_canBe_q t_leadsOn_q t_seen_q t_seenMany t_heard_q t_heardMany t_isKept_q t_lanes_q t_lengths_q t_cells_q t_torn, aI g t_laws_q 18 t_laws] H → va_S A s.heap H locs → decode cX8_law pc = .ok (.ireturn, 1) → W p l e rmX8_law s m args below meth c H locs 0 0 Q (F0 m pc ls [.int rrz]) := by
    intro rrz he H locs pc ls hP hS hd
    cases he
    exact hret H locs pc ls hP hS hd
  unfold f_X8_law at hf
  refine lv_iload_n hx hb dX8_law_0 rfl (lv_at hl 1 rfl) ?_
  refine lv_i2l hx hb dX8_law_1 rfl ?_
  refine lv_lconst (v := (0 : Int64)) hx hb dX8_law_2 (by decide) ?_
  refine lv_aload_n hx hb dX8_law_3 rfl (lv_at hl 0 rfl) ?_
  refine va_get (D := g.1) (ci := 8) (v := .int t_lawMany) (C := RX8) (T := TX8) (N := 39) hx hb hts inX8 hown hK hP 0 rfl rfl 5 (by decide) k178 (fun _ h9 => h9) rfl dX8_law_4 ?_
  refine lv_iconst (v := (1 : Int32)) hx hb dX8_law_7 (by decide) ?_
  refine lv_isub hx hb dX8_law_8 ?_
  refine lv_i2l hx hb dX8_law_9 rfl ?_
  obtain ⟨r_1, hc_2, hf⟩ := ob1_e hf
  refine kS_i (wn := [oX8 t_q t_state_q t_roomMany t_doorMany t_stringLong t_laws_q t_lawMany t_readPage_q t_readLaws_q t_readRooms t_readDoors t_readString t_readLawMany t_toldOnce t_highRoom t_highDoor t_tape_q t_taped t_fault t_broken t_brokenAt t_spot t_here t_token t_value t_cuts_q t_letters_q t_work_q t_pages_q t_canBe_q t_leadsOn_q t_seen_q t_seenMany t_heard_q t_heardMany t_isKept_q t_lanes_q t_lengths_q t_cells_q t_torn, aI g t_laws_q 18 t_laws]) (As := [.long (p1.toInt64), .long (0 : Int64), .long ((t_lawMany - (1 : Int32)).toInt64)]) (rest := []) (c_X8_in l g _ (p1.toInt64) (0 : Int64) ((t_lawMany - (1 : Int32)).toInt64) r_1 hc_2) ⟨hx, hb, hml, hown, hts⟩ (va_cwS 3 hts gX8_law_X8_in rfl rfl rfl (by decide +kernel) ⟨by decide, by decide⟩) hK hz hk hP (hD.re rfl) hS hA [] rfl rfl rfl rfl rfl hl.1 rfl (Nat.le_of_ble_eq_true rfl) dX8_law_10 (fun H locs hP hS => ?_)
  refine lv_if_ne (tgt := 18) hx hb dX8_law_13 (by decide) (fun c_3 => ?_) (fun c_3 => ?_)
  · have hf := ite_f hf c_3
    refine lv_aload_n hx hb dX8_law_18 rfl (lv_at hl 0 rfl) ?_
    refine va_get (D := g.1) (ci := 8) (v := .ref t_laws_q) (C := RX8) (T := TX8) (N := 39) hx hb hts inX8 hown hK hP 0 rfl rfl 4 (by decide) k20 (fun _ h9 => h9) rfl dX8_law_19 ?_
    refine lv_iconst (v := (3 : Int32)) hx hb dX8_law_22 (by decide) ?_
    refine lv_iload_n hx hb dX8_law_23 rfl (lv_at hl 1 rfl) ?_
    refine lv_imul hx hb dX8_law_24 ?_
    obtain ⟨h_4, hf⟩ := gin_e hf
    refine va_iald hx hb hK hP 1 0 rfl rfl h_4 dX8_law_25 ?_
    obtain ⟨v2_5, ev2_5, hf⟩ := bnd_e hf
    refine tp_i ev2_5 ?_
    refine lv_istore_n (lv' := [(2, .int v2_5), (0, .ref t_q), (1, .int p1)]) hx hb dX8_law_26 rfl hl (by decide) rfl (fun ls hl => ?_)
    refine lv_bipush (v := (100 : Int32)) hx hb dX8_law_27 (by decide) ?_
    refine lv_iload_n hx hb dX8_law_29 rfl (lv_at hl 0 rfl) ?_
    refine lv_imul hx hb dX8_law_30 ?_
    refine lv_iload_n hx hb dX8_law_31 rfl (lv_at hl 0 rfl) ?_
    refine lv_iconst (v := (2 : Int32)) hx hb dX8_law_32 (by decide) ?_
    refine lv_icmp_ne (tgt := 49) hx hb dX8_law_33 (by decide) (fun c_6 => ?_) (fun c_6 => ?_)
    · have hf := ite_f hf c_6
      refine lv_bipush (v := (10 : Int32)) hx hb dX8_law_49 (by decide) ?_
      refine lv_aload_n hx hb dX8_law_51 rfl (lv_at hl 1 rfl) ?_
      refine va_get (D := g.1) (ci := 8) (v := .ref t_laws_q) (C := RX8) (T := TX8) (N := 39) hx hb hts inX8 hown hK hP 0 rfl rfl 4 (by decide) k20 (fun _ h9 => h9) rfl dX8_law_52 ?_
      refine lv_iconst (v := (3 : Int32)) hx hb dX8_law_55 (by decide) ?_
      refine lv_iload_n hx hb dX8_law_56 rfl (lv_at hl 2 rfl) ?_
      refine lv_imul hx hb dX8_law_57 ?_
      refine lv_iconst (v := (1 : Int32)) hx hb dX8_law_58 (by decide) ?_
      refine lv_iadd hx hb dX8_law_59 ?_
      obtain ⟨h_7, hf⟩ := gin_e hf
      refine va_iald hx hb hK hP 1 0 rfl rfl h_7 dX8_law_60 ?_
      refine lv_imul hx hb dX8_law_61 ?_
      refine lv_aload_n hx hb dX8_law_62 rfl (lv_at hl 1 rfl) ?_
      refine va_get (D := g.1) (ci := 8) (v := .ref t_laws_q) (C := RX8) (T := TX8) (N := 39) hx hb hts inX8 hown hK hP 0 rfl rfl 4 (by decide) k20 (fun _ h9 => h9) rfl dX8_law_63 ?_
      refine lv_iconst (v := (3 : Int32)) hx hb dX8_law_66 (by decide) ?_
      refine lv_iload_n hx hb dX8_law_67 rfl (lv_at hl 2 rfl) ?_
      refine lv_imul hx hb dX8_law_68 ?_
      refine lv_iconst (v := (2 : Int32)) hx hb dX8_law_69 (by decide) ?_
      refine lv_iadd hx hb dX8_law_70 ?_
      obtain ⟨h_8, hf⟩ := gin_e hf
      refine va_iald hx hb hK hP 1 0 rfl rfl h_8 dX8_law_71 ?_
      refine lv_iadd hx hb dX8_law_72 ?_
      refine lv_iadd hx hb dX8_law_73 ?_
      exact hret (((100 : Int32) * v2_5) + (((10 : Int32) * (t_laws (((3 : Int32) * p1) + (1 : Int32)).toNatClampNeg)) + (t_laws (((3 : Int32) * p1) + (2 : Int32)).toNatClampNeg))) (Option.some.inj hf) _ _ _ _ hP hS dX8_law_74
    · have hf := ite_t hf c_6
      refine lv_aload_n hx hb dX8_law_36 rfl (lv_at hl 1 rfl) ?_
      refine va_get (D := g.1) (ci := 8) (v := .ref t_laws_q) (C := RX8) (T := TX8) (N := 39) hx hb hts inX8 hown hK hP 0 rfl rfl 4 (by decide) k20 (fun _ h9 => h9) rfl dX8_law_37 ?_
      refine lv_iconst (v := (3 : Int32)) hx hb dX8_law_40 (by decide) ?_
      refine lv_iload_n hx hb dX8_law_41 rfl (lv_at hl 2 rfl) ?_
      refine lv_imul hx hb dX8_law_42 ?_
      refine lv_iconst (v := (1 : Int32)) hx hb dX8_law_43 (by decide) ?_
      refine lv_iadd hx hb dX8_law_44 ?_
      obtain ⟨h_9, hf⟩ := gin_e hf
      refine va_iald hx hb hK hP 1 0 rfl rfl h_9 dX8_law_45 ?_
      refine lv_goto (tgt := 73) hx hb dX8_law_46 (by decide) ?_
      refine lv_iadd hx hb dX8_law_73 ?_
      exact hret (((100 : Int32) * v2_5) + (t_laws (((3 : Int32) * p1) + (1 : Int32)).toNatClampNeg)) (Option.some.inj hf) _ _ _ _ hP hS dX8_law_74
  · have hf := ite_t hf c_3
    refine lv_iconst (v := (-1 : Int32)) hx hb dX8_law_16 (by decide) ?_
    exact hret (-1 : Int32) (Option.some.inj hf) _ _ _ _ hP hS dX8_law_17
