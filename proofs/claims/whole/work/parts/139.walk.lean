def b_X8_stepsBy_166 (t_work_27 : Nat → Int32) (v4_29 : Int32) (t_state_30 : Nat → Int32) : Option ((Int32 × (Nat → Int32)) ⊕ (Int32 × (Nat → Int32))) :=
 (if (30 : Int32) ≤ v4_29 then
 (some (.inr (v4_29, t_state_30)))
 else (gin v4_29 30 (gin v4_29 196 (bnd (upd t_state_30 v4_29.toNatClampNeg (t_work_27 v4_29.toNatClampNeg)) (fun t_state_35 =>
 (bnd (v4_29 + (1 : Int32)) (fun v4_36 =>
 (some (.inl (v4_36, t_state_35))))))))))
def f_X8_stepsBy (t_roomMany : Int32) (t_doorMany : Int32) (t_stringLong : Int32) (t_lawMany : Int32) (t_laws : Nat → Int32) (t_state : Nat → Int32) (t_work : Nat → Int32) (p1 : Int32) (p2 : Int32) : Option (Int32 × (Nat → Int32) × (Nat → Int32)) :=
 (jn1 (fun (t_state_1 : Nat → Int32) => (ob1 (f_X8_beastNow t_state_1) (fun r_3 =>
 (jn2 (fun (v3_5 : Int32) (t_state_6 : Nat → Int32) => (gin (31 : Int32) 196 (bnd (upd t_state_6 (31 : Int32).toNatClampNeg p2) (fun t_state_9 =>
 (jn1 (fun (s_10 : Int32) => (gin (48 : Int32) 196 (bnd (upd t_state_9 (48 : Int32).toNatClampNeg s_10) (fun t_state_13 =>
 (gin (47 : Int32) 196 (gin (47 : Int32) 196 (bnd (upd t_state_13 (47 : Int32).toNatClampNeg ((t_state_13 (47 : Int32).toNatClampNeg) + (1 : Int32))) (fun t_state_16 =>
 (gin (47 : Int32) 196 (gin (30 : Int32) 196 (gnz ((t_state_16 (30 : Int32).toNatClampNeg) + (1 : Int32)) (jn2 (fun (t_state_20 : Nat → Int32) (t_work_21 : Nat → Int32) => (if v3_5 = p2 then
 (some ((p2 + (10 : Int32)), t_state_20, t_work_21))
 else (some ((p2 + (0 : Int32)), t_state_20, t_work_21)))) (fun j_22 =>
 (if ((t_state_16 (47 : Int32).toNatClampNeg) - (t_state_16 (47 : Int32).toNatClampNeg) / ((t_state_16 (30 : Int32).toNatClampNeg) + (1 : Int32)) * ((t_state_16 (30 : Int32).toNatClampNeg) + (1 : Int32))) = (0 : Int32) then
 (ob1 (f_X8_worksNow t_state_16 t_work) (fun t_work_25 =>
 (ob1 (f_X8_dusks t_roomMany t_lawMany t_laws t_work_25) (fun t_work_27 =>
 (ob2 (itr (un2 (b_X8_stepsBy_166 t_work_27)) FU ((0 : Int32), t_state_16)) (fun x4_37 t_state_38 =>
 (j_22 t_state_38 t_work_27)))))))
 else (j_22 t_state_16 t_work))))))))))))))) (fun j_11 =>
 (if v3_5 = p2 then
 (j_11 (1 : Int32))
 else (j_11 (0 : Int32))))))))) (fun j_7 =>
 (if r_3 = (-4 : Int32) then
 (j_7 r_3 t_state_1)
 else (if r_3 = p2 then
 (j_7 r_3 t_state_1)
 else (gin (33 : Int32) 196 (gin (47 : Int32) 196 (ob1 (f_X8_goesTo t_doorMany 196 t_state_1 (0 : Int32) r_3 p2 (t_state_1 (33 : Int32).toNatClampNeg) (t_state_1 (47 : Int32).toNatClampNeg)) (fun r_44 =>
 (gin (32 : Int32) 196 (bnd (upd t_state_1 (32 : Int32).toNatClampNeg (r_44 + (1 : Int32))) (fun t_state_47 =>
 (j_7 r_44 t_state_47))))))))))))))) (fun j_2 =>
 (if p1 = (10 : Int32) then
 (j_2 t_state)
 else (gin (46 : Int32) 196 (if t_stringLong ≤ (t_state (46 : Int32).toNatClampNeg) then
 (j_2 t_state)
 else (gin (46 : Int32) 196 (gin ((34 : Int32) + (t_state (46 : Int32).toNatClampNeg)) 196 (bnd (upd t_state ((34 : Int32) + (t_state (46 : Int32).toNatClampNeg)).toNatClampNeg p1) (fun t_state_53 =>
 (gin (46 : Int32) 196 (gin (46 : Int32) 196 (bnd (upd t_state_53 (46 : Int32).toNatClampNeg ((t_state_53 (46 : Int32).toNatClampNeg) + (1 : Int32))) (fun t_state_56 =>
 (j_2 t_state_56))))))))))))))
abbrev rmX8_stepsBy : Room := { frames := 3, cells := 0, slots := 0, locals := 80 }
set_option maxHeartbeats 4000000 in
set_option maxRecDepth 100000 in
theorem c_X8_stepsBy (l : Launch) (g : Gh) (sz : Nat) (t_q t_state_q t_laws_q t_readPage_q t_readLaws_q t_tape_q t_cuts_q t_letters_q t_work_q t_pages_q t_canBe_q t_leadsOn_q t_seen_q t_heard_q t_isKept_q t_lanes_q t_lengths_q t_cells_q : Nat) (t_roomMany : Int32) (t_doorMany : Int32) (t_stringLong : Int32) (t_lawMany : Int32) (t_readRooms : Int32) (t_readDoors : Int32) (t_readString : Int32) (t_readLawMany : Int32) (t_toldOnce : Int32) (t_highRoom : Int32) (t_highDoor : Int32) (t_taped : Int32) (t_fault : Int32) (t_broken : Int32) (t_brokenAt : Int32) (t_spot : Int32) (t_here : Int32) (t_token : Int32) (t_value : Int32) (t_seenMany : Int32) (t_heardMany : Int32) (t_torn : Int32) (t_laws : Nat → Int32) (t_state : Nat → Int32) (t_work : Nat → Int32) (p1 : Int32) (p2 : Int32) (rr : Int32) (t_state' : Nat → Int32) (t_work' : Nat → Int32) (hf : f_X8_stepsBy t_roomMany t_doorMany t_stringLong t_lawMany t_laws t_state t_work p1 p2 = some (rr, t_state', t_work')) : CI l yX8_stepsBy wsX8_stepsBy rmX8_stepsBy [.ref t_q, .int p1, .int p2] g sz [oX8 t_q t_state_q t_roomMany t_doorMany t_stringLong t_laws_q t_lawMany t_readPage_q t_readLaws_q t_readRooms t_readDoors t_readString t_readLawMany t_toldOnce t_highRoom t_highDoor t_tape_q t_taped t_fault t_broken t_brokenAt t_spot t_here t_token t_value t_cuts_q t_letters_q t_work_q t_pages_q t_canBe_q t_leadsOn_q t_seen_q t_seenMany t_heard_q t_heardMany t_isKept_q t_lanes_q t_lengths_q t_cells_q t_torn, aI g t_laws_q 18 t_laws, aI g t_state_q 196 t_state, aI g t_work_q 30 t_work] [oX8 t_q t_state_q t_roomMany t_doorMany t_stringLong t_laws_q t_lawMany t_readPage_q t_readLaws_q t_readRooms t_readDoors t_readString t_readLawMany t_toldOnce t_highRoom t_highDoor t_tape_q t_taped t_fault t_broken t_brokenAt t_spot t_here t_token t_value t_cuts_q t_letters_q t_work_q t_pages_q t_canBe_q t_leadsOn_q t_seen_q t_seenMany t_heard_q t_heardMany t_isKept_q t_lanes_q t_lengths_q t_cells_q t_torn, aI g t_laws_q 18 t_laws, aI g t_state_q 196 t_state', aI g t_work_q 30 t_work'] rr := by
  refine ent_i (cc := cX8_stepsBy) (maxL := 5) (by decide) rfl (Nat.le_of_ble_eq_true rfl) ?_
  intro p e s m args below meth c A Q hx hb hml hown hts hK hz hk hA hD hP hS hret ls hl
  have hown : s.vm.findClass RX8 = some m.cls := hown
  have inX8 : ∀ w ∈ u_ws RX8 TX8 39, w ∈ wsX8_stepsBy := by decide +kernel
  have k7 := hts (.fieldLink RX8 7 "ThreadMovedModel" "state" "[I") (by decide +kernel)
  have k17 := hts (.fieldLink RX8 17 "ThreadMovedModel" "stringLong" "I") (by decide +kernel)
  have k38 := hts (.fieldLink RX8 38 "ThreadMovedModel" "work" "[I") (by decide +kernel)
  have hl : lv_has ls 5 [(0, .ref t_q), (1, .int p1), (2, .int p2)] := hl
  have hret : ∀ (rrz : Int32) (t_statez : Nat → Int32) (t_workz : Nat → Int32), (rrz, t_statez, t_workz) = (rr, t_state', t_work') → ∀ (H : Heap) (locs : List Loc) (pc : Nat) (ls : Array Slot), va_P g.1 vwCl [oX8 t_q t_state_q t_roomMany t_doorMany t_stringLong t_laws_q t_lawMany t_readPage_q t_readLaws_q t_readRooms t_readDoors t_readString t_readLawMany t_toldOnce t_highRoom t_highDoor t_tape_q t_taped t_fault t_broken t_brokenAt t_spot t_here t_token t_value t_cuts_q t_letters_q t_work_q t_pages_q t_canBe_q t_leadsOn_q t_seen_q t_seenMany t_heard_q t_heardMany t_isKept_q t_lanes_q t_lengths_q t_cells_q t_torn, aI g t_laws_q 18 t_laws, aI g t_state_q 196 t_statez, aI g t_work_q 30 t_workz] H → va_S A s.heap H locs → decode cX8_stepsBy pc = .ok (.ireturn, 1) → W p l e rmX8_stepsBy s m args below meth c H locs 0 0 Q (F0 m pc ls [.int rrz]) := by
    intro rrz t_statez t_workz he H locs pc ls hP hS hd
    cases he
    exact hret H locs pc ls hP hS hd
  unfold f_X8_stepsBy at hf
  refine lv_iload_n hx hb dX8_stepsBy_0 rfl (lv_at hl 1 rfl) ?_
  refine lv_bipush (v := (10 : Int32)) hx hb dX8_stepsBy_1 (by decide) ?_
  obtain ⟨j_2, hj_2, hf⟩ := jn1_e hf
  have J_2 : ∀ (t_state_1 : Nat → Int32), j_2 t_state_1 = some (rr, t_state', t_work') → ∀ (H : Heap) (locs : List Loc) (ls : Array Slot), va_P g.1 vwCl [oX8 t_q t_state_q t_roomMany t_doorMany t_stringLong t_laws_q t_lawMany t_readPage_q t_readLaws_q t_readRooms t_readDoors t_readString t_readLawMany t_toldOnce t_highRoom t_highDoor t_tape_q t_taped t_fault t_broken t_brokenAt t_spot t_here t_token t_value t_cuts_q t_letters_q t_work_q t_pages_q t_canBe_q t_leadsOn_q t_seen_q t_seenMany t_heard_q t_heardMany t_isKept_q t_lanes_q t_lengths_q t_cells_q t_torn, aI g t_laws_q 18 t_laws, aI g t_state_q 196 t_state_1, aI g t_work_q 30 t_work] H → va_S A s.heap H locs → lv_has ls 5 [(0, .ref t_q), (2, .int p2)] → W p l e rmX8_stepsBy s m args below meth c H locs 0 0 Q (F0 m 47 ls []) := by
    intro t_state_1 hf H locs ls hP hS hl
    rw [hj_2] at hf
    refine lv_aload_n hx hb dX8_stepsBy_47 rfl (lv_at hl 0 rfl) ?_
    obtain ⟨r_3, hc_4, hf⟩ := ob1_e hf
    refine kV_i (wn := [oX8 t_q t_state_q t_roomMany t_doorMany t_stringLong t_laws_q t_lawMany t_readPage_q t_readLaws_q t_readRooms t_readDoors t_readString t_readLawMany t_toldOnce t_highRoom t_highDoor t_tape_q t_taped t_fault t_broken t_brokenAt t_spot t_here t_token t_value t_cuts_q t_letters_q t_work_q t_pages_q t_canBe_q t_leadsOn_q t_seen_q t_seenMany t_heard_q t_heardMany t_isKept_q t_lanes_q t_lengths_q t_cells_q t_torn, aI g t_laws_q 18 t_laws, aI g t_state_q 196 t_state_1, aI g t_work_q 30 t_work]) (As := []) (rest := []) (c_X8_beastNow l g _ t_q t_state_q t_laws_q t_readPage_q t_readLaws_q t_tape_q t_cuts_q t_letters_q t_work_q t_pages_q t_canBe_q t_leadsOn_q t_seen_q t_heard_q t_isKept_q t_lanes_q t_lengths_q t_cells_q t_roomMany t_doorMany t_stringLong t_lawMany t_readRooms t_readDoors t_readString t_readLawMany t_toldOnce t_highRoom t_highDoor t_taped t_fault t_broken t_brokenAt t_spot t_here t_token t_value t_seenMany t_heardMany t_torn t_state_1 r_3 hc_4) ⟨hx, hb, hml, hown, hts⟩ (cwV 0 hts gX8_stepsBy_X8_beastNow rfl rfl rfl (by decide +kernel) ⟨by decide, by decide⟩) hK hz hk hP (hD.re rfl) hS hA [0, 2] rfl rfl rfl rfl rfl rfl rfl hl.1 rfl (Nat.le_of_ble_eq_true rfl) dX8_stepsBy_48 (fun H locs hP hS => ?_)
    refine lv_istore_n (lv' := [(3, .int r_3), (0, .ref t_q), (2, .int p2)]) hx hb dX8_stepsBy_51 rfl hl (by decide) rfl (fun ls hl => ?_)
    refine lv_iload_n hx hb dX8_stepsBy_52 rfl (lv_at hl 0 rfl) ?_
    refine lv_bipush (v := (-4 : Int32)) hx hb dX8_stepsBy_53 (by decide) ?_
    obtain ⟨j_7, hj_7, hf⟩ := jn2_e hf
    have J_7 : ∀ (v3_5 : Int32) (t_state_6 : Nat → Int32), j_7 v3_5 t_state_6 = some (rr, t_state', t_work') → ∀ (H : Heap) (locs : List Loc) (ls : Array Slot), va_P g.1 vwCl [oX8 t_q t_state_q t_roomMany t_doorMany t_stringLong t_laws_q t_lawMany t_readPage_q t_readLaws_q t_readRooms t_readDoors t_readString t_readLawMany t_toldOnce t_highRoom t_highDoor t_tape_q t_taped t_fault t_broken t_brokenAt t_spot t_here t_token t_value t_cuts_q t_letters_q t_work_q t_pages_q t_canBe_q t_leadsOn_q t_seen_q t_seenMany t_heard_q t_heardMany t_isKept_q t_lanes_q t_lengths_q t_cells_q t_torn, aI g t_laws_q 18 t_laws, aI g t_state_q 196 t_state_6, aI g t_work_q 30 t_work] H → va_S A s.heap H locs → lv_has ls 5 [(0, .ref t_q), (2, .int p2), (3, .int v3_5)] → W p l e rmX8_stepsBy s m args below meth c H locs 0 0 Q (F0 m 99 ls []) := by
      intro v3_5 t_state_6 hf H locs ls hP hS hl
      rw [hj_7] at hf
      refine lv_aload_n hx hb dX8_stepsBy_99 rfl (lv_at hl 0 rfl) ?_
      refine va_get (D := g.1) (ci := 8) (v := .ref t_state_q) (C := RX8) (T := TX8) (N := 39) hx hb hts inX8 hown hK hP 0 rfl rfl 0 (by decide) k7 (fun _ h9 => h9) rfl dX8_stepsBy_100 ?_
      refine lv_bipush (v := (31 : Int32)) hx hb dX8_stepsBy_103 (by decide) ?_
      refine lv_iload_n hx hb dX8_stepsBy_105 rfl (lv_at hl 1 rfl) ?_
      obtain ⟨h_8, hf⟩ := gin_e hf
      obtain ⟨t_state_9, et_state_9, hf⟩ := bnd_e hf
      refine va_iast hx hb hK hP (hD.re rfl) hS 2 0 rfl rfl h_8 dX8_stepsBy_106 (fun H locs hP _ hS => ?_)
      have hP : va_P g.1 vwCl [oX8 t_q t_state_q t_roomMany t_doorMany t_stringLong t_laws_q t_lawMany t_readPage_q t_readLaws_q t_readRooms t_readDoors t_readString t_readLawMany t_toldOnce t_highRoom t_highDoor t_tape_q t_taped t_fault t_broken t_brokenAt t_spot t_here t_token t_value t_cuts_q t_letters_q t_work_q t_pages_q t_canBe_q t_leadsOn_q t_seen_q t_seenMany t_heard_q t_heardMany t_isKept_q t_lanes_q t_lengths_q t_cells_q t_torn, aI g t_laws_q 18 t_laws, aI g t_state_q 196 t_state_9, aI g t_work_q 30 t_work] H := by rw [et_state_9]; exact hP
      refine lv_aload_n hx hb dX8_stepsBy_107 rfl (lv_at hl 0 rfl) ?_
      refine va_get (D := g.1) (ci := 8) (v := .ref t_state_q) (C := RX8) (T := TX8) (N := 39) hx hb hts inX8 hown hK hP 0 rfl rfl 0 (by decide) k7 (fun _ h9 => h9) rfl dX8_stepsBy_108 ?_
      refine lv_bipush (v := (48 : Int32)) hx hb dX8_stepsBy_111 (by decide) ?_
      refine lv_iload_n hx hb dX8_stepsBy_113 rfl (lv_at hl 2 rfl) ?_
      refine lv_iload_n hx hb dX8_stepsBy_114 rfl (lv_at hl 1 rfl) ?_
      obtain ⟨j_11, hj_11, hf⟩ := jn1_e hf
      have J_11 : ∀ (s_10 : Int32), j_11 s_10 = some (rr, t_state', t_work') → ∀ (H : Heap) (locs : List Loc) (ls : Array Slot), va_P g.1 vwCl [oX8 t_q t_state_q t_roomMany t_doorMany t_stringLong t_laws_q t_lawMany t_readPage_q t_readLaws_q t_readRooms t_readDoors t_readString t_readLawMany t_toldOnce t_highRoom t_highDoor t_tape_q t_taped t_fault t_broken t_brokenAt t_spot t_here t_token t_value t_cuts_q t_letters_q t_work_q t_pages_q t_canBe_q t_leadsOn_q t_seen_q t_seenMany t_heard_q t_heardMany t_isKept_q t_lanes_q t_lengths_q t_cells_q t_torn, aI g t_laws_q 18 t_laws, aI g t_state_q 196 t_state_9, aI g t_work_q 30 t_work] H → va_S A s.heap H locs → lv_has ls 5 [(0, .ref t_q), (2, .int p2), (3, .int v3_5)] → W p l e rmX8_stepsBy s m args below meth c H locs 0 0 Q (F0 m 123 ls [.int s_10, .int (48 : Int32), .ref t_state_q]) := by
        intro s_10 hf H locs ls hP hS hl
        rw [hj_11] at hf
        obtain ⟨h_12, hf⟩ := gin_e hf
        obtain ⟨t_state_13, et_state_13, hf⟩ := bnd_e hf
        refine va_iast hx hb hK hP (hD.re rfl) hS 2 0 rfl rfl h_12 dX8_stepsBy_123 (fun H locs hP _ hS => ?_)
        have hP : va_P g.1 vwCl [oX8 t_q t_state_q t_roomMany t_doorMany t_stringLong t_laws_q t_lawMany t_readPage_q t_readLaws_q t_readRooms t_readDoors t_readString t_readLawMany t_toldOnce t_highRoom t_highDoor t_tape_q t_taped t_fault t_broken t_brokenAt t_spot t_here t_token t_value t_cuts_q t_letters_q t_work_q t_pages_q t_canBe_q t_leadsOn_q t_seen_q t_seenMany t_heard_q t_heardMany t_isKept_q t_lanes_q t_lengths_q t_cells_q t_torn, aI g t_laws_q 18 t_laws, aI g t_state_q 196 t_state_13, aI g t_work_q 30 t_work] H := by rw [et_state_13]; exact hP
        refine lv_aload_n hx hb dX8_stepsBy_124 rfl (lv_at hl 0 rfl) ?_
        refine va_get (D := g.1) (ci := 8) (v := .ref t_state_q) (C := RX8) (T := TX8) (N := 39) hx hb hts inX8 hown hK hP 0 rfl rfl 0 (by decide) k7 (fun _ h9 => h9) rfl dX8_stepsBy_125 ?_
        refine lv_bipush (v := (47 : Int32)) hx hb dX8_stepsBy_128 (by decide) ?_
        refine lv_dup2_11 hx hb dX8_stepsBy_130 rfl rfl ?_
        obtain ⟨h_14, hf⟩ := gin_e hf
        refine va_iald hx hb hK hP 2 0 rfl rfl h_14 dX8_stepsBy_131 ?_
        refine lv_iconst (v := (1 : Int32)) hx hb dX8_stepsBy_132 (by decide) ?_
        refine lv_iadd hx hb dX8_stepsBy_133 ?_
        obtain ⟨h_15, hf⟩ := gin_e hf
        obtain ⟨t_state_16, et_state_16, hf⟩ := bnd_e hf
        refine va_iast hx hb hK hP (hD.re rfl) hS 2 0 rfl rfl h_15 dX8_stepsBy_134 (fun H locs hP _ hS => ?_)
        have hP : va_P g.1 vwCl [oX8 t_q t_state_q t_roomMany t_doorMany t_stringLong t_laws_q t_lawMany t_readPage_q t_readLaws_q t_readRooms t_readDoors t_readString t_readLawMany t_toldOnce t_highRoom t_highDoor t_tape_q t_taped t_fault t_broken t_brokenAt t_spot t_here t_token t_value t_cuts_q t_letters_q t_work_q t_pages_q t_canBe_q t_leadsOn_q t_seen_q t_seenMany t_heard_q t_heardMany t_isKept_q t_lanes_q t_lengths_q t_cells_q t_torn, aI g t_laws_q 18 t_laws, aI g t_state_q 196 t_state_16, aI g t_work_q 30 t_work] H := by rw [et_state_16]; exact hP
        refine lv_aload_n hx hb dX8_stepsBy_135 rfl (lv_at hl 0 rfl) ?_
        refine va_get (D := g.1) (ci := 8) (v := .ref t_state_q) (C := RX8) (T := TX8) (N := 39) hx hb hts inX8 hown hK hP 0 rfl rfl 0 (by decide) k7 (fun _ h9 => h9) rfl dX8_stepsBy_136 ?_
        refine lv_bipush (v := (47 : Int32)) hx hb dX8_stepsBy_139 (by decide) ?_
        obtain ⟨h_17, hf⟩ := gin_e hf
        refine va_iald hx hb hK hP 2 0 rfl rfl h_17 dX8_stepsBy_141 ?_
        refine lv_aload_n hx hb dX8_stepsBy_142 rfl (lv_at hl 0 rfl) ?_
        refine va_get (D := g.1) (ci := 8) (v := .ref t_state_q) (C := RX8) (T := TX8) (N := 39) hx hb hts inX8 hown hK hP 0 rfl rfl 0 (by decide) k7 (fun _ h9 => h9) rfl dX8_stepsBy_143 ?_
        refine lv_bipush (v := (30 : Int32)) hx hb dX8_stepsBy_146 (by decide) ?_
        obtain ⟨h_18, hf⟩ := gin_e hf
        refine va_iald hx hb hK hP 2 0 rfl rfl h_18 dX8_stepsBy_148 ?_
        refine lv_iconst (v := (1 : Int32)) hx hb dX8_stepsBy_149 (by decide) ?_
        refine lv_iadd hx hb dX8_stepsBy_150 ?_
        obtain ⟨z_19, hf⟩ := gnz_e hf
        refine lv_irem hx hb dX8_stepsBy_151 z_19 ?_
        obtain ⟨j_22, hj_22, hf⟩ := jn2_e hf
        have J_22 : ∀ (t_state_20 : Nat → Int32) (t_work_21 : Nat → Int32), j_22 t_state_20 t_work_21 = some (rr, t_state', t_work') → ∀ (H : Heap) (locs : List Loc) (ls : Array Slot), va_P g.1 vwCl [oX8 t_q t_state_q t_roomMany t_doorMany t_stringLong t_laws_q t_lawMany t_readPage_q t_readLaws_q t_readRooms t_readDoors t_readString t_readLawMany t_toldOnce t_highRoom t_highDoor t_tape_q t_taped t_fault t_broken t_brokenAt t_spot t_here t_token t_value t_cuts_q t_letters_q t_work_q t_pages_q t_canBe_q t_leadsOn_q t_seen_q t_seenMany t_heard_q t_heardMany t_isKept_q t_lanes_q t_lengths_q t_cells_q t_torn, aI g t_laws_q 18 t_laws, aI g t_state_q 196 t_state_20, aI g t_work_q 30 t_work_21] H → va_S A s.heap H locs → lv_has ls 5 [(2, .int p2), (3, .int v3_5)] → W p l e rmX8_stepsBy s m args below meth c H locs 0 0 Q (F0 m 193 ls []) := by
          intro t_state_20 t_work_21 hf H locs ls hP hS hl
          rw [hj_22] at hf
          refine lv_iload_n hx hb dX8_stepsBy_193 rfl (lv_at hl 0 rfl) ?_
          refine lv_iload_n hx hb dX8_stepsBy_194 rfl (lv_at hl 1 rfl) ?_
          refine lv_iload_n hx hb dX8_stepsBy_195 rfl (lv_at hl 0 rfl) ?_
          refine lv_icmp_ne (tgt := 204) hx hb dX8_stepsBy_196 (by decide) (fun c_23 => ?_) (fun c_23 => ?_)
          · have hf := ite_f hf c_23
            refine lv_iconst (v := (0 : Int32)) hx hb dX8_stepsBy_204 (by decide) ?_
            refine lv_iadd hx hb dX8_stepsBy_205 ?_
            exact hret (p2 + (0 : Int32)) t_state_20 t_work_21 (Option.some.inj hf) _ _ _ _ hP hS dX8_stepsBy_206
          · have hf := ite_t hf c_23
            refine lv_bipush (v := (10 : Int32)) hx hb dX8_stepsBy_199 (by decide) ?_
            refine lv_goto (tgt := 205) hx hb dX8_stepsBy_201 (by decide) ?_
            refine lv_iadd hx hb dX8_stepsBy_205 ?_
            exact hret (p2 + (10 : Int32)) t_state_20 t_work_21 (Option.some.inj hf) _ _ _ _ hP hS dX8_stepsBy_206
        refine lv_if_ne (tgt := 193) hx hb dX8_stepsBy_152 (by decide) (fun c_24 => ?_) (fun c_24 => ?_)
        · have hf := ite_f hf c_24
          exact J_22 t_state_16 t_work hf _ _ _ hP hS (lv_sub hl [1, 2] rfl)
        · have hf := ite_t hf c_24
          refine lv_aload_n hx hb dX8_stepsBy_155 rfl (lv_at hl 0 rfl) ?_
          obtain ⟨t_work_25, hc_26, hf⟩ := ob1_e hf
          refine kV_v (wn := [oX8 t_q t_state_q t_roomMany t_doorMany t_stringLong t_laws_q t_lawMany t_readPage_q t_readLaws_q t_readRooms t_readDoors t_readString t_readLawMany t_toldOnce t_highRoom t_highDoor t_tape_q t_taped t_fault t_broken t_brokenAt t_spot t_here t_token t_value t_cuts_q t_letters_q t_work_q t_pages_q t_canBe_q t_leadsOn_q t_seen_q t_seenMany t_heard_q t_heardMany t_isKept_q t_lanes_q t_lengths_q t_cells_q t_torn, aI g t_laws_q 18 t_laws, aI g t_state_q 196 t_state_16, aI g t_work_q 30 t_work_25]) (As := []) (rest := []) (c_X8_worksNow l g _ t_q t_state_q t_laws_q t_readPage_q t_readLaws_q t_tape_q t_cuts_q t_letters_q t_work_q t_pages_q t_canBe_q t_leadsOn_q t_seen_q t_heard_q t_isKept_q t_lanes_q t_lengths_q t_cells_q t_roomMany t_doorMany t_stringLong t_lawMany t_readRooms t_readDoors t_readString t_readLawMany t_toldOnce t_highRoom t_highDoor t_taped t_fault t_broken t_brokenAt t_spot t_here t_token t_value t_seenMany t_heardMany t_torn t_state_16 t_work t_work_25 hc_26) ⟨hx, hb, hml, hown, hts⟩ (cwV 0 hts gX8_stepsBy_X8_worksNow rfl rfl rfl (by decide +kernel) ⟨by decide, by decide⟩) hK hz hk hP (hD.re rfl) hS hA [0, 2, 3] rfl rfl rfl rfl rfl rfl rfl hl.1 rfl (Nat.le_of_ble_eq_true rfl) dX8_stepsBy_156 (fun H locs hP hS => ?_)
          refine lv_aload_n hx hb dX8_stepsBy_159 rfl (lv_at hl 0 rfl) ?_
          obtain ⟨t_work_27, hc_28, hf⟩ := ob1_e hf
          refine kV_v (wn := [oX8 t_q t_state_q t_roomMany t_doorMany t_stringLong t_laws_q t_lawMany t_readPage_q t_readLaws_q t_readRooms t_readDoors t_readString t_readLawMany t_toldOnce t_highRoom t_highDoor t_tape_q t_taped t_fault t_broken t_brokenAt t_spot t_here t_token t_value t_cuts_q t_letters_q t_work_q t_pages_q t_canBe_q t_leadsOn_q t_seen_q t_seenMany t_heard_q t_heardMany t_isKept_q t_lanes_q t_lengths_q t_cells_q t_torn, aI g t_laws_q 18 t_laws, aI g t_state_q 196 t_state_16, aI g t_work_q 30 t_work_27]) (As := []) (rest := []) (c_X8_dusks l g _ t_q t_state_q t_laws_q t_readPage_q t_readLaws_q t_tape_q t_cuts_q t_letters_q t_work_q t_pages_q t_canBe_q t_leadsOn_q t_seen_q t_heard_q t_isKept_q t_lanes_q t_lengths_q t_cells_q t_roomMany t_doorMany t_stringLong t_lawMany t_readRooms t_readDoors t_readString t_readLawMany t_toldOnce t_highRoom t_highDoor t_taped t_fault t_broken t_brokenAt t_spot t_here t_token t_value t_seenMany t_heardMany t_torn t_laws t_work_25 t_work_27 hc_28) ⟨hx, hb, hml, hown, hts⟩ (cwV 0 hts gX8_stepsBy_X8_dusks rfl rfl rfl (by decide +kernel) ⟨by decide, by decide⟩) hK hz hk hP (hD.re rfl) hS hA [0, 1, 3] rfl rfl rfl rfl rfl rfl rfl hl.1 rfl (Nat.le_of_ble_eq_true rfl) dX8_stepsBy_160 (fun H locs hP hS => ?_)
          refine lv_iconst (v := (0 : Int32)) hx hb dX8_stepsBy_163 (by decide) ?_
          refine lv_istore (lv' := [(4, .int (0 : Int32)), (0, .ref t_q), (2, .int p2), (3, .int v3_5)]) hx hb dX8_stepsBy_164 hl (by decide) rfl (fun ls hl => ?_)
          obtain ⟨x4_37, t_state_38, ho_31, hf⟩ := ob2_e hf
          have K_31 : ∀ (x4_37y : Int32) (t_state_38y : Nat → Int32), x4_37 = x4_37y → t_state_38 = t_state_38y → ∀ (H : Heap) (locs : List Loc) (ls : Array Slot), va_P g.1 vwCl [oX8 t_q t_state_q t_roomMany t_doorMany t_stringLong t_laws_q t_lawMany t_readPage_q t_readLaws_q t_readRooms t_readDoors t_readString t_readLawMany t_toldOnce t_highRoom t_highDoor t_tape_q t_taped t_fault t_broken t_brokenAt t_spot t_here t_token t_value t_cuts_q t_letters_q t_work_q t_pages_q t_canBe_q t_leadsOn_q t_seen_q t_seenMany t_heard_q t_heardMany t_isKept_q t_lanes_q t_lengths_q t_cells_q t_torn, aI g t_laws_q 18 t_laws, aI g t_state_q 196 t_state_38y, aI g t_work_q 30 t_work_27] H → va_S A s.heap H locs → lv_has ls 5 [(2, .int p2), (3, .int v3_5)] → W p l e rmX8_stepsBy s m args below meth c H locs 0 0 Q (F0 m 193 ls []) := by
            intro x4_37y t_state_38y ey0 ey1 H locs ls hP hS hl
            subst ey0
            subst ey1
            exact J_22 t_state_38 t_work_27 hf _ _ _ hP hS (lv_sub hl [0, 1] rfl)
          have L_31 : ∀ (n : Nat) (v4_29 : Int32) (t_state_30 : Nat → Int32), itr (un2 (b_X8_stepsBy_166 t_work_27)) n (v4_29, t_state_30) = some (x4_37, t_state_38) → ∀ (H : Heap) (locs : List Loc) (ls : Array Slot), va_P g.1 vwCl [oX8 t_q t_state_q t_roomMany t_doorMany t_stringLong t_laws_q t_lawMany t_readPage_q t_readLaws_q t_readRooms t_readDoors t_readString t_readLawMany t_toldOnce t_highRoom t_highDoor t_tape_q t_taped t_fault t_broken t_brokenAt t_spot t_here t_token t_value t_cuts_q t_letters_q t_work_q t_pages_q t_canBe_q t_leadsOn_q t_seen_q t_seenMany t_heard_q t_heardMany t_isKept_q t_lanes_q t_lengths_q t_cells_q t_torn, aI g t_laws_q 18 t_laws, aI g t_state_q 196 t_state_30, aI g t_work_q 30 t_work_27] H → va_S A s.heap H locs → lv_has ls 5 [(0, .ref t_q), (2, .int p2), (3, .int v3_5), (4, .int v4_29)] → W p l e rmX8_stepsBy s m args below meth c H locs 0 0 Q (F0 m 166 ls []) := by
            refine itr_ind2 ?_
            intro v4_29 t_state_30 z_31 hf hrec hex H locs ls hP hS hl
            unfold b_X8_stepsBy_166 at hf
            refine lv_iload hx hb dX8_stepsBy_166 (lv_at hl 3 rfl) ?_
            refine lv_bipush (v := (30 : Int32)) hx hb dX8_stepsBy_168 (by decide) ?_
            refine lv_icmp_ge (tgt := 193) hx hb dX8_stepsBy_170 (by decide) (fun c_32 => ?_) (fun c_32 => ?_)
            · have hf := ite_t hf c_32
              exact K_31 v4_29 t_state_30 (congrArg (fun t => t.1) (hex _ (Option.some.inj hf).symm).symm) (congrArg (fun t => t.2) (hex _ (Option.some.inj hf).symm).symm) _ _ _ hP hS (lv_sub hl [1, 2] rfl)
            · have hf := ite_f hf c_32
              refine lv_aload_n hx hb dX8_stepsBy_173 rfl (lv_at hl 0 rfl) ?_
              refine va_get (D := g.1) (ci := 8) (v := .ref t_state_q) (C := RX8) (T := TX8) (N := 39) hx hb hts inX8 hown hK hP 0 rfl rfl 0 (by decide) k7 (fun _ h9 => h9) rfl dX8_stepsBy_174 ?_
              refine lv_iload hx hb dX8_stepsBy_177 (lv_at hl 3 rfl) ?_
              refine lv_aload_n hx hb dX8_stepsBy_179 rfl (lv_at hl 0 rfl) ?_
              refine va_get (D := g.1) (ci := 8) (v := .ref t_work_q) (C := RX8) (T := TX8) (N := 39) hx hb hts inX8 hown hK hP 0 rfl rfl 26 (by decide) k38 (fun _ h9 => h9) rfl dX8_stepsBy_180 ?_
              refine lv_iload hx hb dX8_stepsBy_183 (lv_at hl 3 rfl) ?_
              obtain ⟨h_33, hf⟩ := gin_e hf
              refine va_iald hx hb hK hP 3 0 rfl rfl h_33 dX8_stepsBy_185 ?_
              obtain ⟨h_34, hf⟩ := gin_e hf
              obtain ⟨t_state_35, et_state_35, hf⟩ := bnd_e hf
              refine va_iast hx hb hK hP (hD.re rfl) hS 2 0 rfl rfl h_34 dX8_stepsBy_186 (fun H locs hP _ hS => ?_)
              have hP : va_P g.1 vwCl [oX8 t_q t_state_q t_roomMany t_doorMany t_stringLong t_laws_q t_lawMany t_readPage_q t_readLaws_q t_readRooms t_readDoors t_readString t_readLawMany t_toldOnce t_highRoom t_highDoor t_tape_q t_taped t_fault t_broken t_brokenAt t_spot t_here t_token t_value t_cuts_q t_letters_q t_work_q t_pages_q t_canBe_q t_leadsOn_q t_seen_q t_seenMany t_heard_q t_heardMany t_isKept_q t_lanes_q t_lengths_q t_cells_q t_torn, aI g t_laws_q 18 t_laws, aI g t_state_q 196 t_state_35, aI g t_work_q 30 t_work_27] H := by rw [et_state_35]; exact hP
              obtain ⟨v4_36, ev4_36, hf⟩ := bnd_e hf
              refine lv_iinc (v := v4_36) (lv' := [(4, .int v4_36), (0, .ref t_q), (2, .int p2), (3, .int v3_5)]) hx hb dX8_stepsBy_187 hl (k := 3) rfl (by rw [ev4_36]; rfl) (by decide) rfl (fun ls hl => ?_)
              refine lv_goto (tgt := 166) hx hb dX8_stepsBy_190 (by decide) ?_
              exact hrec v4_36 t_state_35 (Option.some.inj hf).symm _ _ _ hP hS (lv_sub hl [1, 2, 3, 0] rfl)
          exact L_31 FU (0 : Int32) t_state_16 ho_31 _ _ _ hP hS (lv_sub hl [1, 2, 3, 0] rfl)
      refine lv_icmp_ne (tgt := 122) hx hb dX8_stepsBy_115 (by decide) (fun c_39 => ?_) (fun c_39 => ?_)
      · have hf := ite_f hf c_39
        refine lv_iconst (v := (0 : Int32)) hx hb dX8_stepsBy_122 (by decide) ?_
        exact J_11 (0 : Int32) hf _ _ _ hP hS (lv_sub hl [0, 1, 2] rfl)
      · have hf := ite_t hf c_39
        refine lv_iconst (v := (1 : Int32)) hx hb dX8_stepsBy_118 (by decide) ?_
        refine lv_goto (tgt := 123) hx hb dX8_stepsBy_119 (by decide) ?_
        exact J_11 (1 : Int32) hf _ _ _ hP hS (lv_sub hl [0, 1, 2] rfl)
    refine lv_icmp_eq (tgt := 99) hx hb dX8_stepsBy_55 (by decide) (fun c_40 => ?_) (fun c_40 => ?_)
    · have hf := ite_t hf c_40
      exact J_7 r_3 t_state_1 hf _ _ _ hP hS (lv_sub hl [1, 2, 0] rfl)
    · have hf := ite_f hf c_40
      refine lv_iload_n hx hb dX8_stepsBy_58 rfl (lv_at hl 0 rfl) ?_
      refine lv_iload_n hx hb dX8_stepsBy_59 rfl (lv_at hl 2 rfl) ?_
      refine lv_icmp_eq (tgt := 99) hx hb dX8_stepsBy_60 (by decide) (fun c_41 => ?_) (fun c_41 => ?_)
      · have hf := ite_t hf c_41
        exact J_7 r_3 t_state_1 hf _ _ _ hP hS (lv_sub hl [1, 2, 0] rfl)
      · have hf := ite_f hf c_41
        refine lv_aload_n hx hb dX8_stepsBy_63 rfl (lv_at hl 1 rfl) ?_
        refine lv_aload_n hx hb dX8_stepsBy_64 rfl (lv_at hl 1 rfl) ?_
        refine va_get (D := g.1) (ci := 8) (v := .ref t_state_q) (C := RX8) (T := TX8) (N := 39) hx hb hts inX8 hown hK hP 0 rfl rfl 0 (by decide) k7 (fun _ h9 => h9) rfl dX8_stepsBy_65 ?_
        refine lv_iconst (v := (0 : Int32)) hx hb dX8_stepsBy_68 (by decide) ?_
        refine lv_iload_n hx hb dX8_stepsBy_69 rfl (lv_at hl 0 rfl) ?_
        refine lv_iload_n hx hb dX8_stepsBy_70 rfl (lv_at hl 2 rfl) ?_
        refine lv_aload_n hx hb dX8_stepsBy_71 rfl (lv_at hl 1 rfl) ?_
        refine va_get (D := g.1) (ci := 8) (v := .ref t_state_q) (C := RX8) (T := TX8) (N := 39) hx hb hts inX8 hown hK hP 0 rfl rfl 0 (by decide) k7 (fun _ h9 => h9) rfl dX8_stepsBy_72 ?_
        refine lv_bipush (v := (33 : Int32)) hx hb dX8_stepsBy_75 (by decide) ?_
        obtain ⟨h_42, hf⟩ := gin_e hf
        refine va_iald hx hb hK hP 2 0 rfl rfl h_42 dX8_stepsBy_77 ?_
        refine lv_aload_n hx hb dX8_stepsBy_78 rfl (lv_at hl 1 rfl) ?_
        refine va_get (D := g.1) (ci := 8) (v := .ref t_state_q) (C := RX8) (T := TX8) (N := 39) hx hb hts inX8 hown hK hP 0 rfl rfl 0 (by decide) k7 (fun _ h9 => h9) rfl dX8_stepsBy_79 ?_
        refine lv_bipush (v := (47 : Int32)) hx hb dX8_stepsBy_82 (by decide) ?_
        obtain ⟨h_43, hf⟩ := gin_e hf
        refine va_iald hx hb hK hP 2 0 rfl rfl h_43 dX8_stepsBy_84 ?_
        obtain ⟨r_44, hc_45, hf⟩ := ob1_e hf
        refine kV_i (wn := [oX8 t_q t_state_q t_roomMany t_doorMany t_stringLong t_laws_q t_lawMany t_readPage_q t_readLaws_q t_readRooms t_readDoors t_readString t_readLawMany t_toldOnce t_highRoom t_highDoor t_tape_q t_taped t_fault t_broken t_brokenAt t_spot t_here t_token t_value t_cuts_q t_letters_q t_work_q t_pages_q t_canBe_q t_leadsOn_q t_seen_q t_seenMany t_heard_q t_heardMany t_isKept_q t_lanes_q t_lengths_q t_cells_q t_torn, aI g t_laws_q 18 t_laws, aI g t_state_q 196 t_state_1, aI g t_work_q 30 t_work]) (As := [.ref t_state_q, .int (0 : Int32), .int r_3, .int p2, .int (t_state_1 (33 : Int32).toNatClampNeg), .int (t_state_1 (47 : Int32).toNatClampNeg)]) (rest := []) (c_X8_goesTo l g _ t_q t_state_q t_laws_q t_readPage_q t_readLaws_q t_tape_q t_cuts_q t_letters_q t_work_q t_pages_q t_canBe_q t_leadsOn_q t_seen_q t_heard_q t_isKept_q t_lanes_q t_lengths_q t_cells_q t_state_q t_roomMany t_doorMany t_stringLong t_lawMany t_readRooms t_readDoors t_readString t_readLawMany t_toldOnce t_highRoom t_highDoor t_taped t_fault t_broken t_brokenAt t_spot t_here t_token t_value t_seenMany t_heardMany t_torn 196 t_state_1 (0 : Int32) r_3 p2 (t_state_1 (33 : Int32).toNatClampNeg) (t_state_1 (47 : Int32).toNatClampNeg) r_44 hc_45) ⟨hx, hb, hml, hown, hts⟩ (cwV 6 hts gX8_stepsBy_X8_goesTo rfl rfl rfl (by decide +kernel) ⟨by decide, by decide⟩) hK hz hk hP (hD.re rfl) hS hA [0, 2] rfl rfl rfl rfl rfl rfl rfl hl.1 rfl (Nat.le_of_ble_eq_true rfl) dX8_stepsBy_85 (fun H locs hP hS => ?_)
        refine lv_istore_n (lv' := [(3, .int r_44), (0, .ref t_q), (2, .int p2)]) hx hb dX8_stepsBy_88 rfl hl (by decide) rfl (fun ls hl => ?_)
        refine lv_aload_n hx hb dX8_stepsBy_89 rfl (lv_at hl 1 rfl) ?_
        refine va_get (D := g.1) (ci := 8) (v := .ref t_state_q) (C := RX8) (T := TX8) (N := 39) hx hb hts inX8 hown hK hP 0 rfl rfl 0 (by decide) k7 (fun _ h9 => h9) rfl dX8_stepsBy_90 ?_
        refine lv_bipush (v := (32 : Int32)) hx hb dX8_stepsBy_93 (by decide) ?_
        refine lv_iload_n hx hb dX8_stepsBy_95 rfl (lv_at hl 0 rfl) ?_
        refine lv_iconst (v := (1 : Int32)) hx hb dX8_stepsBy_96 (by decide) ?_
        refine lv_iadd hx hb dX8_stepsBy_97 ?_
        obtain ⟨h_46, hf⟩ := gin_e hf
        obtain ⟨t_state_47, et_state_47, hf⟩ := bnd_e hf
        refine va_iast hx hb hK hP (hD.re rfl) hS 2 0 rfl rfl h_46 dX8_stepsBy_98 (fun H locs hP _ hS => ?_)
        have hP : va_P g.1 vwCl [oX8 t_q t_state_q t_roomMany t_doorMany t_stringLong t_laws_q t_lawMany t_readPage_q t_readLaws_q t_readRooms t_readDoors t_readString t_readLawMany t_toldOnce t_highRoom t_highDoor t_tape_q t_taped t_fault t_broken t_brokenAt t_spot t_here t_token t_value t_cuts_q t_letters_q t_work_q t_pages_q t_canBe_q t_leadsOn_q t_seen_q t_seenMany t_heard_q t_heardMany t_isKept_q t_lanes_q t_lengths_q t_cells_q t_torn, aI g t_laws_q 18 t_laws, aI g t_state_q 196 t_state_47, aI g t_work_q 30 t_work] H := by rw [et_state_47]; exact hP
        exact J_7 r_44 t_state_47 hf _ _ _ hP hS (lv_sub hl [1, 2, 0] rfl)
  refine lv_icmp_eq (tgt := 47) hx hb dX8_stepsBy_3 (by decide) (fun c_48 => ?_) (fun c_48 => ?_)
  · have hf := ite_t hf c_48
    exact J_2 t_state hf _ _ _ hP hS (lv_sub hl [0, 2] rfl)
  · have hf := ite_f hf c_48
    refine lv_aload_n hx hb dX8_stepsBy_6 rfl (lv_at hl 0 rfl) ?_
    refine va_get (D := g.1) (ci := 8) (v := .ref t_state_q) (C := RX8) (T := TX8) (N := 39) hx hb hts inX8 hown hK hP 0 rfl rfl 0 (by decide) k7 (fun _ h9 => h9) rfl dX8_stepsBy_7 ?_
    refine lv_bipush (v := (46 : Int32)) hx hb dX8_stepsBy_10 (by decide) ?_
    obtain ⟨h_49, hf⟩ := gin_e hf
    refine va_iald hx hb hK hP 2 0 rfl rfl h_49 dX8_stepsBy_12 ?_
    refine lv_aload_n hx hb dX8_stepsBy_13 rfl (lv_at hl 0 rfl) ?_
    refine va_get (D := g.1) (ci := 8) (v := .int t_stringLong) (C := RX8) (T := TX8) (N := 39) hx hb hts inX8 hown hK hP 0 rfl rfl 3 (by decide) k17 (fun _ h9 => h9) rfl dX8_stepsBy_14 ?_
    refine lv_icmp_ge (tgt := 47) hx hb dX8_stepsBy_17 (by decide) (fun c_50 => ?_) (fun c_50 => ?_)
    · have hf := ite_t hf c_50
      exact J_2 t_state hf _ _ _ hP hS (lv_sub hl [0, 2] rfl)
    · have hf := ite_f hf c_50
      refine lv_aload_n hx hb dX8_stepsBy_20 rfl (lv_at hl 0 rfl) ?_
      refine va_get (D := g.1) (ci := 8) (v := .ref t_state_q) (C := RX8) (T := TX8) (N := 39) hx hb hts inX8 hown hK hP 0 rfl rfl 0 (by decide) k7 (fun _ h9 => h9) rfl dX8_stepsBy_21 ?_
      refine lv_bipush (v := (34 : Int32)) hx hb dX8_stepsBy_24 (by decide) ?_
      refine lv_aload_n hx hb dX8_stepsBy_26 rfl (lv_at hl 0 rfl) ?_
      refine va_get (D := g.1) (ci := 8) (v := .ref t_state_q) (C := RX8) (T := TX8) (N := 39) hx hb hts inX8 hown hK hP 0 rfl rfl 0 (by decide) k7 (fun _ h9 => h9) rfl dX8_stepsBy_27 ?_
      refine lv_bipush (v := (46 : Int32)) hx hb dX8_stepsBy_30 (by decide) ?_
      obtain ⟨h_51, hf⟩ := gin_e hf
      refine va_iald hx hb hK hP 2 0 rfl rfl h_51 dX8_stepsBy_32 ?_
      refine lv_iadd hx hb dX8_stepsBy_33 ?_
      refine lv_iload_n hx hb dX8_stepsBy_34 rfl (lv_at hl 1 rfl) ?_
      obtain ⟨h_52, hf⟩ := gin_e hf
      obtain ⟨t_state_53, et_state_53, hf⟩ := bnd_e hf
      refine va_iast hx hb hK hP (hD.re rfl) hS 2 0 rfl rfl h_52 dX8_stepsBy_35 (fun H locs hP _ hS => ?_)
      have hP : va_P g.1 vwCl [oX8 t_q t_state_q t_roomMany t_doorMany t_stringLong t_laws_q t_lawMany t_readPage_q t_readLaws_q t_readRooms t_readDoors t_readString t_readLawMany t_toldOnce t_highRoom t_highDoor t_tape_q t_taped t_fault t_broken t_brokenAt t_spot t_here t_token t_value t_cuts_q t_letters_q t_work_q t_pages_q t_canBe_q t_leadsOn_q t_seen_q t_seenMany t_heard_q t_heardMany t_isKept_q t_lanes_q t_lengths_q t_cells_q t_torn, aI g t_laws_q 18 t_laws, aI g t_state_q 196 t_state_53, aI g t_work_q 30 t_work] H := by rw [et_state_53]; exact hP
      refine lv_aload_n hx hb dX8_stepsBy_36 rfl (lv_at hl 0 rfl) ?_
      refine va_get (D := g.1) (ci := 8) (v := .ref t_state_q) (C := RX8) (T := TX8) (N := 39) hx hb hts inX8 hown hK hP 0 rfl rfl 0 (by decide) k7 (fun _ h9 => h9) rfl dX8_stepsBy_37 ?_
      refine lv_bipush (v := (46 : Int32)) hx hb dX8_stepsBy_40 (by decide) ?_
      refine lv_dup2_11 hx hb dX8_stepsBy_42 rfl rfl ?_
      obtain ⟨h_54, hf⟩ := gin_e hf
      refine va_iald hx hb hK hP 2 0 rfl rfl h_54 dX8_stepsBy_43 ?_
      refine lv_iconst (v := (1 : Int32)) hx hb dX8_stepsBy_44 (by decide) ?_
      refine lv_iadd hx hb dX8_stepsBy_45 ?_
      obtain ⟨h_55, hf⟩ := gin_e hf
      obtain ⟨t_state_56, et_state_56, hf⟩ := bnd_e hf
      refine va_iast hx hb hK hP (hD.re rfl) hS 2 0 rfl rfl h_55 dX8_stepsBy_46 (fun H locs hP _ hS => ?_)
      have hP : va_P g.1 vwCl [oX8 t_q t_state_q t_roomMany t_doorMany t_stringLong t_laws_q t_lawMany t_readPage_q t_readLaws_q t_readRooms t_readDoors t_readString t_readLawMany t_toldOnce t_highRoom t_highDoor t_tape_q t_taped t_fault t_broken t_brokenAt t_spot t_here t_token t_value t_cuts_q t_letters_q t_work_q t_pages_q t_canBe_q t_leadsOn_q t_seen_q t_seenMany t_heard_q t_heardMany t_isKept_q t_lanes_q t_lengths_q t_cells_q t_torn, aI g t_laws_q 18 t_laws, aI g t_state_q 196 t_state_56, aI g t_work_q 30 t_work] H := by rw [et_state_56]; exact hP
      exact J_2 t_state_56 hf _ _ _ hP hS (lv_sub hl [0, 2] rfl)

def f_X8_goes (t_roomMany : Int32) (t_doorMany : Int32) (t_stringLong : Int32) (t_lawMany : Int32) (t_laws : Nat → Int32) (t_state : Nat → Int32) (t_work : Nat → Int32) (p1 : Int32) : Option (Int32 × (Nat → Int32) × (Nat → Int32)) :=
 (ob1 (f_X8_isDoor t_doorMany p1) (fun r_1 =>
 (jn0 (gin (31 : Int32) 196 (bnd (t_state (31 : Int32).toNatClampNeg) (fun v2_5 =>
 (jn1 (fun (s_6 : Int32) => (gin (48 : Int32) 196 (if (t_state (48 : Int32).toNatClampNeg) = (1 : Int32) then
 (some ((-2 : Int32), t_state, t_work))
 else (if s_6 = (-4 : Int32) then
 (some ((-2 : Int32), t_state, t_work))
 else (gin (47 : Int32) 196 (if (t_state (47 : Int32).toNatClampNeg) = (999 : Int32) then
 (some ((-3 : Int32), t_state, t_work))
 else (ob3 (f_X8_stepsBy t_roomMany t_doorMany t_stringLong t_lawMany t_laws t_state t_work p1 s_6) (fun r_13 t_state_14 t_work_15 =>
 (some (r_13, t_state_14, t_work_15)))))))))) (fun j_7 =>
 (if p1 = (10 : Int32) then
 (j_7 v2_5)
 else (ob1 (f_X8_leadsTo 196 t_state (0 : Int32) p1 v2_5) (fun r_18 =>
 (j_7 r_18))))))))) (fun j_3 =>
 (if r_1 = (0 : Int32) then
 (if p1 = (10 : Int32) then
 (j_3)
 else (some ((-1 : Int32), t_state, t_work)))
 else (j_3))))))
abbrev rmX8_goes : Room := { frames := 4, cells := 0, slots := 0, locals := 104 }
set_option maxHeartbeats 4000000 in
set_option maxRecDepth 100000 in
theorem c_X8_goes (l : Launch) (g : Gh) (sz : Nat) (t_q t_state_q t_laws_q t_readPage_q t_readLaws_q t_tape_q t_cuts_q t_letters_q t_work_q t_pages_q t_canBe_q t_leadsOn_q t_seen_q t_heard_q t_isKept_q t_lanes_q t_lengths_q t_cells_q : Nat) (t_roomMany : Int32) (t_doorMany : Int32) (t_stringLong : Int32) (t_lawMany : Int32) (t_readRooms : Int32) (t_readDoors : Int32) (t_readString : Int32) (t_readLawMany : Int32) (t_toldOnce : Int32) (t_highRoom : Int32) (t_highDoor : Int32) (t_taped : Int32) (t_fault : Int32) (t_broken : Int32) (t_brokenAt : Int32) (t_spot : Int32) (t_here : Int32) (t_token : Int32) (t_value : Int32) (t_seenMany : Int32) (t_heardMany : Int32) (t_torn : Int32) (t_laws : Nat → Int32) (t_state : Nat → Int32) (t_work : Nat → Int32) (p1 : Int32) (rr : Int32) (t_state' : Nat → Int32) (t_work' : Nat → Int32) (hf : f_X8_goes t_roomMany t_doorMany t_stringLong t_lawMany t_laws t_state t_work p1 = some (rr, t_state', t_work')) : CI l yX8_goes wsX8_goes rmX8_goes [.ref t_q, .int p1] g sz [oX8 t_q t_state_q t_roomMany t_doorMany t_stringLong t_laws_q t_lawMany t_readPage_q t_readLaws_q t_readRooms t_readDoors t_readString t_readLawMany t_toldOnce t_highRoom t_highDoor t_tape_q t_taped t_fault t_broken t_brokenAt t_spot t_here t_token t_value t_cuts_q t_letters_q t_work_q t_pages_q t_canBe_q t_leadsOn_q t_seen_q t_seenMany t_heard_q t_heardMany t_isKept_q t_lanes_q t_lengths_q t_cells_q t_torn, aI g t_laws_q 18 t_laws, aI g t_state_q 196 t_state, aI g t_work_q 30 t_work] [oX8 t_q t_state_q t_roomMany t_doorMany t_stringLong t_laws_q t_lawMany t_readPage_q t_readLaws_q t_readRooms t_readDoors t_readString t_readLawMany t_toldOnce t_highRoom t_highDoor t_tape_q t_taped t_fault t_broken t_brokenAt t_spot t_here t_token t_value t_cuts_q t_letters_q t_work_q t_pages_q t_canBe_q t_leadsOn_q t_seen_q t_seenMany t_heard_q t_heardMany t_isKept_q t_lanes_q t_lengths_q t_cells_q t_torn, aI g t_laws_q 18 t_laws, aI g t_state_q 196 t_state', aI g t_work_q 30 t_work'] rr := by
  refine ent_i (cc := cX8_goes) (maxL := 4) (by decide) rfl (Nat.le_of_ble_eq_true rfl) ?_
  intro p e s m args below meth c A Q hx hb hml hown hts hK hz hk hA hD hP hS hret ls hl
  have hown : s.vm.findClass RX8 = some m.cls := hown
  have inX8 : ∀ w ∈ u_ws RX8 TX8 39, w ∈ wsX8_goes := by decide +kernel
  have k7 := hts (.fieldLink RX8 7 "ThreadMovedModel" "state" "[I") (by decide +kernel)
  have hl : lv_has ls 4 [(0, .ref t_q), (1, .int p1)] := hl
  have hret : ∀ (rrz : Int32) (t_statez : Nat → Int32) (t_workz : Nat → Int32), (rrz, t_statez, t_workz) = (rr, t_state', t_work') → ∀ (H : Heap) (locs : List Loc) (pc : Nat) (ls : Array Slot), va_P g.1 vwCl [oX8 t_q t_state_q t_roomMany t_doorMany t_stringLong t_laws_q t_lawMany t_readPage_q t_readLaws_q t_readRooms t_readDoors t_readString t_readLawMany t_toldOnce t_highRoom t_highDoor t_tape_q t_taped t_fault t_broken t_brokenAt t_spot t_here t_token t_value t_cuts_q t_letters_q t_work_q t_pages_q t_canBe_q t_leadsOn_q t_seen_q t_seenMany t_heard_q t_heardMany t_isKept_q t_lanes_q t_lengths_q t_cells_q t_torn, aI g t_laws_q 18 t_laws, aI g t_state_q 196 t_statez, aI g t_work_q 30 t_workz] H → va_S A s.heap H locs → decode cX8_goes pc = .ok (.ireturn, 1) → W p l e rmX8_goes s m args below meth c H locs 0 0 Q (F0 m pc ls [.int rrz]) := by
    intro rrz t_statez t_workz he H locs pc ls hP hS hd
    cases he
    exact hret H locs pc ls hP hS hd
  unfold f_X8_goes at hf
  refine lv_aload_n hx hb dX8_goes_0 rfl (lv_at hl 0 rfl) ?_
  refine lv_iload_n hx hb dX8_goes_1 rfl (lv_at hl 1 rfl) ?_
  obtain ⟨r_1, hc_2, hf⟩ := ob1_e hf
  refine kV_i (wn := [oX8 t_q t_state_q t_roomMany t_doorMany t_stringLong t_laws_q t_lawMany t_readPage_q t_readLaws_q t_readRooms t_readDoors t_readString t_readLawMany t_toldOnce t_highRoom t_highDoor t_tape_q t_taped t_fault t_broken t_brokenAt t_spot t_here t_token t_value t_cuts_q t_letters_q t_work_q t_pages_q t_canBe_q t_leadsOn_q t_seen_q t_seenMany t_heard_q t_heardMany t_isKept_q t_lanes_q t_lengths_q t_cells_q t_torn, aI g t_laws_q 18 t_laws, aI g t_state_q 196 t_state, aI g t_work_q 30 t_work]) (As := [.int p1]) (rest := []) (c_X8_isDoor l g _ t_q t_state_q t_laws_q t_readPage_q t_readLaws_q t_tape_q t_cuts_q t_letters_q t_work_q t_pages_q t_canBe_q t_leadsOn_q t_seen_q t_heard_q t_isKept_q t_lanes_q t_lengths_q t_cells_q t_roomMany t_doorMany t_stringLong t_lawMany t_readRooms t_readDoors t_readString t_readLawMany t_toldOnce t_highRoom t_highDoor t_taped t_fault t_broken t_brokenAt t_spot t_here t_token t_value t_seenMany t_heardMany t_torn p1 r_1 hc_2) ⟨hx, hb, hml, hown, hts⟩ (cwV 1 hts gX8_goes_X8_isDoor rfl rfl rfl (by decide +kernel) ⟨by decide, by decide⟩) hK hz hk hP (hD.re rfl) hS hA [0] rfl rfl rfl rfl rfl rfl rfl hl.1 rfl (Nat.le_of_ble_eq_true rfl) dX8_goes_2 (fun H locs hP hS => ?_)
  obtain ⟨j_3, hj_3, hf⟩ := jn0_e hf
  have J_3 : j_3 = some (rr, t_state', t_work') → ∀ (H : Heap) (locs : List Loc) (ls : Array Slot), va_P g.1 vwCl [oX8 t_q t_state_q t_roomMany t_doorMany t_stringLong t_laws_q t_lawMany t_readPage_q t_readLaws_q t_readRooms t_readDoors t_readString t_readLawMany t_toldOnce t_highRoom t_highDoor t_tape_q t_taped t_fault t_broken t_brokenAt t_spot t_here t_token t_value t_cuts_q t_letters_q t_work_q t_pages_q t_canBe_q t_leadsOn_q t_seen_q t_seenMany t_heard_q t_heardMany t_isKept_q t_lanes_q t_lengths_q t_cells_q t_torn, aI g t_laws_q 18 t_laws, aI g t_state_q 196 t_state, aI g t_work_q 30 t_work] H → va_S A s.heap H locs → lv_has ls 4 [(0, .ref t_q), (1, .int p1)] → W p l e rmX8_goes s m args below meth c H locs 0 0 Q (F0 m 16 ls []) := by
    intro hf H locs ls hP hS hl
    rw [hj_3] at hf
    refine lv_aload_n hx hb dX8_goes_16 rfl (lv_at hl 0 rfl) ?_
    refine va_get (D := g.1) (ci := 8) (v := .ref t_state_q) (C := RX8) (T := TX8) (N := 39) hx hb hts inX8 hown hK hP 0 rfl rfl 0 (by decide) k7 (fun _ h9 => h9) rfl dX8_goes_17 ?_
    refine lv_bipush (v := (31 : Int32)) hx hb dX8_goes_20 (by decide) ?_
    obtain ⟨h_4, hf⟩ := gin_e hf
    refine va_iald hx hb hK hP 2 0 rfl rfl h_4 dX8_goes_22 ?_
    obtain ⟨v2_5, ev2_5, hf⟩ := bnd_e hf
    refine tp_i ev2_5 ?_
    refine lv_istore_n (lv' := [(2, .int v2_5), (0, .ref t_q), (1, .int p1)]) hx hb dX8_goes_23 rfl hl (by decide) rfl (fun ls hl => ?_)
    refine lv_iload_n hx hb dX8_goes_24 rfl (lv_at hl 2 rfl) ?_
    refine lv_bipush (v := (10 : Int32)) hx hb dX8_goes_25 (by decide) ?_
    obtain ⟨j_7, hj_7, hf⟩ := jn1_e hf
    have J_7 : ∀ (s_6 : Int32), j_7 s_6 = some (rr, t_state', t_work') → ∀ (H : Heap) (locs : List Loc) (ls : Array Slot), va_P g.1 vwCl [oX8 t_q t_state_q t_roomMany t_doorMany t_stringLong t_laws_q t_lawMany t_readPage_q t_readLaws_q t_readRooms t_readDoors t_readString t_readLawMany t_toldOnce t_highRoom t_highDoor t_tape_q t_taped t_fault t_broken t_brokenAt t_spot t_here t_token t_value t_cuts_q t_letters_q t_work_q t_pages_q t_canBe_q t_leadsOn_q t_seen_q t_seenMany t_heard_q t_heardMany t_isKept_q t_lanes_q t_lengths_q t_cells_q t_torn, aI g t_laws_q 18 t_laws, aI g t_state_q 196 t_state, aI g t_work_q 30 t_work] H → va_S A s.heap H locs → lv_has ls 4 [(0, .ref t_q), (1, .int p1)] → W p l e rmX8_goes s m args below meth c H locs 0 0 Q (F0 m 45 ls [.int s_6]) := by
      intro s_6 hf H locs ls hP hS hl
      rw [hj_7] at hf
      refine lv_istore_n (lv' := [(3, .int s_6), (0, .ref t_q), (1, .int p1)]) hx hb dX8_goes_45 rfl hl (by decide) rfl (fun ls hl => ?_)
      refine lv_aload_n hx hb dX8_goes_46 rfl (lv_at hl 1 rfl) ?_
      refine va_get (D := g.1) (ci := 8) (v := .ref t_state_q) (C := RX8) (T := TX8) (N := 39) hx hb hts inX8 hown hK hP 0 rfl rfl 0 (by decide) k7 (fun _ h9 => h9) rfl dX8_goes_47 ?_
      refine lv_bipush (v := (48 : Int32)) hx hb dX8_goes_50 (by decide) ?_
      obtain ⟨h_8, hf⟩ := gin_e hf
      refine va_iald hx hb hK hP 2 0 rfl rfl h_8 dX8_goes_52 ?_
      refine lv_iconst (v := (1 : Int32)) hx hb dX8_goes_53 (by decide) ?_
      refine lv_icmp_eq (tgt := 63) hx hb dX8_goes_54 (by decide) (fun c_9 => ?_) (fun c_9 => ?_)
      · have hf := ite_t hf c_9
        refine lv_bipush (v := (-2 : Int32)) hx hb dX8_goes_63 (by decide) ?_
        exact hret (-2 : Int32) t_state t_work (Option.some.inj hf) _ _ _ _ hP hS dX8_goes_65
      · have hf := ite_f hf c_9
        refine lv_iload_n hx hb dX8_goes_57 rfl (lv_at hl 0 rfl) ?_
        refine lv_bipush (v := (-4 : Int32)) hx hb dX8_goes_58 (by decide) ?_
        refine lv_icmp_ne (tgt := 66) hx hb dX8_goes_60 (by decide) (fun c_10 => ?_) (fun c_10 => ?_)
        · have hf := ite_f hf c_10
          refine lv_aload_n hx hb dX8_goes_66 rfl (lv_at hl 1 rfl) ?_
          refine va_get (D := g.1) (ci := 8) (v := .ref t_state_q) (C := RX8) (T := TX8) (N := 39) hx hb hts inX8 hown hK hP 0 rfl rfl 0 (by decide) k7 (fun _ h9 => h9) rfl dX8_goes_67 ?_
          refine lv_bipush (v := (47 : Int32)) hx hb dX8_goes_70 (by decide) ?_
          obtain ⟨h_11, hf⟩ := gin_e hf
          refine va_iald hx hb hK hP 2 0 rfl rfl h_11 dX8_goes_72 ?_
          refine lv_sipush (v := (999 : Int32)) hx hb dX8_goes_73 (by decide) ?_
          refine lv_icmp_ne (tgt := 84) hx hb dX8_goes_76 (by decide) (fun c_12 => ?_) (fun c_12 => ?_)
          · have hf := ite_f hf c_12
            refine lv_aload_n hx hb dX8_goes_84 rfl (lv_at hl 1 rfl) ?_
            refine lv_iload_n hx hb dX8_goes_85 rfl (lv_at hl 2 rfl) ?_
            refine lv_iload_n hx hb dX8_goes_86 rfl (lv_at hl 0 rfl) ?_
            obtain ⟨r_13, t_state_14, t_work_15, hc_16, hf⟩ := ob3_e hf
            refine kV_i (wn := [oX8 t_q t_state_q t_roomMany t_doorMany t_stringLong t_laws_q t_lawMany t_readPage_q t_readLaws_q t_readRooms t_readDoors t_readString t_readLawMany t_toldOnce t_highRoom t_highDoor t_tape_q t_taped t_fault t_broken t_brokenAt t_spot t_here t_token t_value t_cuts_q t_letters_q t_work_q t_pages_q t_canBe_q t_leadsOn_q t_seen_q t_seenMany t_heard_q t_heardMany t_isKept_q t_lanes_q t_lengths_q t_cells_q t_torn, aI g t_laws_q 18 t_laws, aI g t_state_q 196 t_state_14, aI g t_work_q 30 t_work_15]) (As := [.int p1, .int s_6]) (rest := []) (c_X8_stepsBy l g _ t_q t_state_q t_laws_q t_readPage_q t_readLaws_q t_tape_q t_cuts_q t_letters_q t_work_q t_pages_q t_canBe_q t_leadsOn_q t_seen_q t_heard_q t_isKept_q t_lanes_q t_lengths_q t_cells_q t_roomMany t_doorMany t_stringLong t_lawMany t_readRooms t_readDoors t_readString t_readLawMany t_toldOnce t_highRoom t_highDoor t_taped t_fault t_broken t_brokenAt t_spot t_here t_token t_value t_seenMany t_heardMany t_torn t_laws t_state t_work p1 s_6 r_13 t_state_14 t_work_15 hc_16) ⟨hx, hb, hml, hown, hts⟩ (cwV 2 hts gX8_goes_X8_stepsBy rfl rfl rfl (by decide +kernel) ⟨by decide, by decide⟩) hK hz hk hP (hD.re rfl) hS hA [0, 1, 2, 3] rfl rfl rfl rfl rfl rfl rfl hl.1 rfl (Nat.le_of_ble_eq_true rfl) dX8_goes_87 (fun H locs hP hS => ?_)
            exact hret r_13 t_state_14 t_work_15 (Option.some.inj hf) _ _ _ _ hP hS dX8_goes_90
          · have hf := ite_t hf c_12
            refine lv_bipush (v := (-3 : Int32)) hx hb dX8_goes_79 (by decide) ?_
            refine lv_goto (tgt := 90) hx hb dX8_goes_81 (by decide) ?_
            exact hret (-3 : Int32) t_state t_work (Option.some.inj hf) _ _ _ _ hP hS dX8_goes_90
        · have hf := ite_t hf c_10
          refine lv_bipush (v := (-2 : Int32)) hx hb dX8_goes_63 (by decide) ?_
          exact hret (-2 : Int32) t_state t_work (Option.some.inj hf) _ _ _ _ hP hS dX8_goes_65
    refine lv_icmp_ne (tgt := 34) hx hb dX8_goes_27 (by decide) (fun c_17 => ?_) (fun c_17 => ?_)
    · have hf := ite_f hf c_17
      refine lv_aload_n hx hb dX8_goes_34 rfl (lv_at hl 1 rfl) ?_
      refine lv_aload_n hx hb dX8_goes_35 rfl (lv_at hl 1 rfl) ?_
      refine va_get (D := g.1) (ci := 8) (v := .ref t_state_q) (C := RX8) (T := TX8) (N := 39) hx hb hts inX8 hown hK hP 0 rfl rfl 0 (by decide) k7 (fun _ h9 => h9) rfl dX8_goes_36 ?_
      refine lv_iconst (v := (0 : Int32)) hx hb dX8_goes_39 (by decide) ?_
      refine lv_iload_n hx hb dX8_goes_40 rfl (lv_at hl 2 rfl) ?_
      refine lv_iload_n hx hb dX8_goes_41 rfl (lv_at hl 0 rfl) ?_
      obtain ⟨r_18, hc_19, hf⟩ := ob1_e hf
      refine kV_i (wn := [oX8 t_q t_state_q t_roomMany t_doorMany t_stringLong t_laws_q t_lawMany t_readPage_q t_readLaws_q t_readRooms t_readDoors t_readString t_readLawMany t_toldOnce t_highRoom t_highDoor t_tape_q t_taped t_fault t_broken t_brokenAt t_spot t_here t_token t_value t_cuts_q t_letters_q t_work_q t_pages_q t_canBe_q t_leadsOn_q t_seen_q t_seenMany t_heard_q t_heardMany t_isKept_q t_lanes_q t_lengths_q t_cells_q t_torn, aI g t_laws_q 18 t_laws, aI g t_state_q 196 t_state, aI g t_work_q 30 t_work]) (As := [.ref t_state_q, .int (0 : Int32), .int p1, .int v2_5]) (rest := []) (c_X8_leadsTo l g _ t_q t_state_q t_laws_q t_readPage_q t_readLaws_q t_tape_q t_cuts_q t_letters_q t_work_q t_pages_q t_canBe_q t_leadsOn_q t_seen_q t_heard_q t_isKept_q t_lanes_q t_lengths_q t_cells_q t_state_q t_roomMany t_doorMany t_stringLong t_lawMany t_readRooms t_readDoors t_readString t_readLawMany t_toldOnce t_highRoom t_highDoor t_taped t_fault t_broken t_brokenAt t_spot t_here t_token t_value t_seenMany t_heardMany t_torn 196 t_state (0 : Int32) p1 v2_5 r_18 hc_19) ⟨hx, hb, hml, hown, hts⟩ (cwV 4 hts gX8_goes_X8_leadsTo rfl rfl rfl (by decide +kernel) ⟨by decide, by decide⟩) hK hz hk hP (hD.re rfl) hS hA [0, 2] rfl rfl rfl rfl rfl rfl rfl hl.1 rfl (Nat.le_of_ble_eq_true rfl) dX8_goes_42 (fun H locs hP hS => ?_)
      exact J_7 r_18 hf _ _ _ hP hS (lv_sub hl [1, 2] rfl)
    · have hf := ite_t hf c_17
      refine lv_iload_n hx hb dX8_goes_30 rfl (lv_at hl 0 rfl) ?_
      refine lv_goto (tgt := 45) hx hb dX8_goes_31 (by decide) ?_
      exact J_7 v2_5 hf _ _ _ hP hS (lv_sub hl [1, 2] rfl)
  refine lv_if_ne (tgt := 16) hx hb dX8_goes_5 (by decide) (fun c_20 => ?_) (fun c_20 => ?_)
  · have hf := ite_f hf c_20
    exact J_3 hf _ _ _ hP hS (lv_sub hl [0, 1] rfl)
  · have hf := ite_t hf c_20
    refine lv_iload_n hx hb dX8_goes_8 rfl (lv_at hl 1 rfl) ?_
    refine lv_bipush (v := (10 : Int32)) hx hb dX8_goes_9 (by decide) ?_
    refine lv_icmp_eq (tgt := 16) hx hb dX8_goes_11 (by decide) (fun c_21 => ?_) (fun c_21 => ?_)
    · have hf := ite_t hf c_21
      exact J_3 hf _ _ _ hP hS (lv_sub hl [0, 1] rfl)
    · have hf := ite_f hf c_21
      refine lv_iconst (v := (-1 : Int32)) hx hb dX8_goes_14 (by decide) ?_
      exact hret (-1 : Int32) t_state t_work (Option.some.inj hf) _ _ _ _ hP hS dX8_goes_15

def f_X8_go (t_roomMany : Int32) (t_doorMany : Int32) (t_stringLong : Int32) (t_lawMany : Int32) (t_laws : Nat → Int32) (t_state : Nat → Int32) (t_work : Nat → Int32) (p1 : Int32) : Option (Int32 × (Nat → Int32) × (Nat → Int32)) :=
 (ob3 (f_X8_goes t_roomMany t_doorMany t_stringLong t_lawMany t_laws t_state t_work p1) (fun r_1 t_state_2 t_work_3 =>
 (some (r_1, t_state_2, t_work_3))))
abbrev rmX8_go : Room := { frames := 5, cells := 0, slots := 0, locals := 127 }
set_option maxHeartbeats 4000000 in
set_option maxRecDepth 100000 in
theorem c_X8_go (l : Launch) (g : Gh) (sz : Nat) (t_q t_state_q t_laws_q t_readPage_q t_readLaws_q t_tape_q t_cuts_q t_letters_q t_work_q t_pages_q t_canBe_q t_leadsOn_q t_seen_q t_heard_q t_isKept_q t_lanes_q t_lengths_q t_cells_q : Nat) (t_roomMany : Int32) (t_doorMany : Int32) (t_stringLong : Int32) (t_lawMany : Int32) (t_readRooms : Int32) (t_readDoors : Int32) (t_readString : Int32) (t_readLawMany : Int32) (t_toldOnce : Int32) (t_highRoom : Int32) (t_highDoor : Int32) (t_taped : Int32) (t_fault : Int32) (t_broken : Int32) (t_brokenAt : Int32) (t_spot : Int32) (t_here : Int32) (t_token : Int32) (t_value : Int32) (t_seenMany : Int32) (t_heardMany : Int32) (t_torn : Int32) (t_laws : Nat → Int32) (t_state : Nat → Int32) (t_work : Nat → Int32) (p1 : Int32) (rr : Int32) (t_state' : Nat → Int32) (t_work' : Nat → Int32) (hf : f_X8_go t_roomMany t_doorMany t_stringLong t_lawMany t_laws t_state t_work p1 = some (rr, t_state', t_work')) : CI l yX8_go wsX8_go rmX8_go [.ref t_q, .int p1] g sz [oX8 t_q t_state_q t_roomMany t_doorMany t_stringLong t_laws_q t_lawMany t_readPage_q t_readLaws_q t_readRooms t_readDoors t_readString t_readLawMany t_toldOnce t_highRoom t_highDoor t_tape_q t_taped t_fault t_broken t_brokenAt t_spot t_here t_token t_value t_cuts_q t_letters_q t_work_q t_pages_q t_canBe_q t_leadsOn_q t_seen_q t_seenMany t_heard_q t_heardMany t_isKept_q t_lanes_q t_lengths_q t_cells_q t_torn, aI g t_laws_q 18 t_laws, aI g t_state_q 196 t_state, aI g t_work_q 30 t_work] [oX8 t_q t_state_q t_roomMany t_doorMany t_stringLong t_laws_q t_lawMany t_readPage_q t_readLaws_q t_readRooms t_readDoors t_readString t_readLawMany t_toldOnce t_highRoom t_highDoor t_tape_q t_taped t_fault t_broken t_brokenAt t_spot t_here t_token t_value t_cuts_q t_letters_q t_work_q t_pages_q t_canBe_q t_leadsOn_q t_seen_q t_seenMany t_heard_q t_heardMany t_isKept_q t_lanes_q t_lengths_q t_cells_q t_torn, aI g t_laws_q 18 t_laws, aI g t_state_q 196 t_state', aI g t_work_q 30 t_work'] rr := by
  refine ent_i (cc := cX8_go) (maxL := 2) (by decide) rfl (Nat.le_of_ble_eq_true rfl) ?_
  intro p e s m args below meth c A Q hx hb hml hown hts hK hz hk hA hD hP hS hret ls hl
  have hown : s.vm.findClass RX8 = some m.cls := hown
  have hl : lv_has ls 2 [(0, .ref t_q), (1, .int p1)] := hl
  have hret : ∀ (rrz : Int32) (t_statez : Nat → Int32) (t_workz : Nat → Int32), (rrz, t_statez, t_workz) = (rr, t_state', t_work') → ∀ (H : Heap) (locs : List Loc) (pc : Nat) (ls : Array Slot), va_P g.1 vwCl [oX8 t_q t_state_q t_roomMany t_doorMany t_stringLong t_laws_q t_lawMany t_readPage_q t_readLaws_q t_readRooms t_readDoors t_readString t_readLawMany t_toldOnce t_highRoom t_highDoor t_tape_q t_taped t_fault t_broken t_brokenAt t_spot t_here t_token t_value t_cuts_q t_letters_q t_work_q t_pages_q t_canBe_q t_leadsOn_q t_seen_q t_seenMany t_heard_q t_heardMany t_isKept_q t_lanes_q t_lengths_q t_cells_q t_torn, aI g t_laws_q 18 t_laws, aI g t_state_q 196 t_statez, aI g t_work_q 30 t_workz] H → va_S A s.heap H locs → decode cX8_go pc = .ok (.ireturn, 1) → W p l e rmX8_go s m args below meth c H locs 0 0 Q (F0 m pc ls [.int rrz]) := by
    intro rrz t_statez t_workz he H locs pc ls hP hS hd
    cases he
    exact hret H locs pc ls hP hS hd
  unfold f_X8_go at hf
  refine lv_aload_n hx hb dX8_go_0 rfl (lv_at hl 0 rfl) ?_
  refine lv_iload_n hx hb dX8_go_1 rfl (lv_at hl 1 rfl) ?_
  obtain ⟨r_1, t_state_2, t_work_3, hc_4, hf⟩ := ob3_e hf
  refine kV_i (wn := [oX8 t_q t_state_q t_roomMany t_doorMany t_stringLong t_laws_q t_lawMany t_readPage_q t_readLaws_q t_readRooms t_readDoors t_readString t_readLawMany t_toldOnce t_highRoom t_highDoor t_tape_q t_taped t_fault t_broken t_brokenAt t_spot t_here t_token t_value t_cuts_q t_letters_q t_work_q t_pages_q t_canBe_q t_leadsOn_q t_seen_q t_seenMany t_heard_q t_heardMany t_isKept_q t_lanes_q t_lengths_q t_cells_q t_torn, aI g t_laws_q 18 t_laws, aI g t_state_q 196 t_state_2, aI g t_work_q 30 t_work_3]) (As := [.int p1]) (rest := []) (c_X8_goes l g _ t_q t_state_q t_laws_q t_readPage_q t_readLaws_q t_tape_q t_cuts_q t_letters_q t_work_q t_pages_q t_canBe_q t_leadsOn_q t_seen_q t_heard_q t_isKept_q t_lanes_q t_lengths_q t_cells_q t_roomMany t_doorMany t_stringLong t_lawMany t_readRooms t_readDoors t_readString t_readLawMany t_toldOnce t_highRoom t_highDoor t_taped t_fault t_broken t_brokenAt t_spot t_here t_token t_value t_seenMany t_heardMany t_torn t_laws t_state t_work p1 r_1 t_state_2 t_work_3 hc_4) ⟨hx, hb, hml, hown, hts⟩ (cwV 1 hts gX8_go_X8_goes rfl rfl rfl (by decide +kernel) ⟨by decide, by decide⟩) hK hz hk hP (hD.re rfl) hS hA [0, 1, 2, 3] rfl rfl rfl rfl rfl rfl rfl hl.1 rfl (Nat.le_of_ble_eq_true rfl) dX8_go_2 (fun H locs hP hS => ?_)
  exact hret r_1 t_state_2 t_work_3 (Option.some.inj hf) _ _ _ _ hP hS dX8_go_5
