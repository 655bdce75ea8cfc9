def b_X8_layAlive_6 (v1_4 : Int32) (t_canBe_5 : Nat → Int32) : Option ((Int32 × (Nat → Int32)) ⊕ (Int32 × (Nat → Int32))) :=
 (if (1400 : Int32) ≤ v1_4 then
 (some (.inr (v1_4, t_canBe_5)))
 else (gin v1_4 1400 (bnd (upd t_canBe_5 v1_4.toNatClampNeg (0 : Int32)) (fun t_canBe_9 =>
 (bnd (v1_4 + (1 : Int32)) (fun v1_10 =>
 (some (.inl (v1_10, t_canBe_9)))))))))
def b_X8_layAlive_92 (t_doorMany : Int32) (t_state : Nat → Int32) (t_pages_1 : Nat → Int32) (v1_20 : Int32) (v2_24 : Int32) (v3_25 : Int32) (s_26 : Int32) (v5_28 : Int32) (t_canBe_29 : Nat → Int32) : Option ((Int32 × (Nat → Int32)) ⊕ (Int32 × (Nat → Int32))) :=
 (if (10 : Int32) < v5_28 then
 (some (.inr (v5_28, t_canBe_29)))
 else (gin v1_20 1400 (if (t_canBe_29 v1_20.toNatClampNeg) = (1 : Int32) then
 (ob1 (f_X8_after t_doorMany t_pages_1 t_state v2_24 v3_25 s_26 v5_28) (fun r_34 =>
 (jn1 (fun (t_canBe_36 : Nat → Int32) => (bnd (v5_28 + (1 : Int32)) (fun v5_38 =>
 (some (.inl (v5_38, t_canBe_36)))))) (fun j_37 =>
 (if r_34 = (-4 : Int32) then
 (j_37 t_canBe_29)
 else (gin ((((56 : Int32) * (v2_24 + (1 : Int32))) + ((8 : Int32) * (r_34 - r_34 / (10 : Int32) * (10 : Int32)))) + (r_34 / (10 : Int32))) 1400 (bnd (upd t_canBe_29 ((((56 : Int32) * (v2_24 + (1 : Int32))) + ((8 : Int32) * (r_34 - r_34 / (10 : Int32) * (10 : Int32)))) + (r_34 / (10 : Int32))).toNatClampNeg (1 : Int32)) (fun t_canBe_41 =>
 (j_37 t_canBe_41)))))))))
 else (some (.inr (v5_28, t_canBe_29))))))
def b_X8_layAlive_49 (t_doorMany : Int32) (t_state : Nat → Int32) (t_pages_1 : Nat → Int32) (v1_20 : Int32) (t_canBe_21 : Nat → Int32) : Option ((Int32 × (Nat → Int32)) ⊕ (Int32 × (Nat → Int32))) :=
 (if (1344 : Int32) ≤ v1_20 then
 (some (.inr (v1_20, t_canBe_21)))
 else (bnd (v1_20 / (56 : Int32)) (fun v2_24 =>
 (bnd ((v1_20 - v1_20 / (56 : Int32) * (56 : Int32)) / (8 : Int32)) (fun v3_25 =>
 (jn1 (fun (s_26 : Int32) => (ob2 (itr (un2 (b_X8_layAlive_92 t_doorMany t_state t_pages_1 v1_20 v2_24 v3_25 s_26)) FU ((0 : Int32), t_canBe_21)) (fun x5_42 t_canBe_43 =>
 (bnd (v1_20 + (1 : Int32)) (fun v1_44 =>
 (some (.inl (v1_44, t_canBe_43)))))))) (fun j_27 =>
 (if (v1_20 - v1_20 / (8 : Int32) * (8 : Int32)) = (0 : Int32) then
 (j_27 (-4 : Int32))
 else (j_27 ((v1_20 - v1_20 / (8 : Int32) * (8 : Int32)) - (1 : Int32)))))))))))
def f_X8_layAlive (t_roomMany : Int32) (t_doorMany : Int32) (t_lawMany : Int32) (t_canBe : Nat → Int32) (t_laws : Nat → Int32) (t_pages : Nat → Int32) (t_state : Nat → Int32) (t_work : Nat → Int32) : Option ((Nat → Int32) × (Nat → Int32) × (Nat → Int32)) :=
 (ob2 (f_X8_layPages t_roomMany t_lawMany t_laws t_pages t_state t_work) (fun t_pages_1 t_work_2 =>
 (ob2 (itr (un2 b_X8_layAlive_6) FU ((0 : Int32), t_canBe)) (fun x1_11 t_canBe_12 =>
 (gin (31 : Int32) 196 (ob1 (f_X8_beastNow t_state) (fun r_14 =>
 (ob1 (f_X8_at (0 : Int32) (t_state (31 : Int32).toNatClampNeg) r_14) (fun r_16 =>
 (gin r_16 1400 (bnd (upd t_canBe_12 r_16.toNatClampNeg (1 : Int32)) (fun t_canBe_19 =>
 (ob2 (itr (un2 (b_X8_layAlive_49 t_doorMany t_state t_pages_1)) FU ((0 : Int32), t_canBe_19)) (fun x1_46 t_canBe_47 =>
 (some (t_canBe_47, t_pages_1, t_work_2))))))))))))))))
abbrev rmX8_layAlive : Room := { frames := 4, cells := 0, slots := 0, locals := 106 }
set_option maxHeartbeats 4000000 in
set_option maxRecDepth 100000 in
theorem c_X8_layAlive (l : Launch) (g : Gh) (sz : Nat) (t_q t_state_q t_laws_q t_readPage_q t_readLaws_q t_tape_q t_cuts_q t_letters_q t_work_q t_pages_q t_canBe_q t_leadsOn_q t_seen_q t_heard_q t_isKept_q t_lanes_q t_lengths_q t_cells_q : Nat) (t_roomMany : Int32) (t_doorMany : Int32) (t_stringLong : Int32) (t_lawMany : Int32) (t_readRooms : Int32) (t_readDoors : Int32) (t_readString : Int32) (t_readLawMany : Int32) (t_toldOnce : Int32) (t_highRoom : Int32) (t_highDoor : Int32) (t_taped : Int32) (t_fault : Int32) (t_broken : Int32) (t_brokenAt : Int32) (t_spot : Int32) (t_here : Int32) (t_token : Int32) (t_value : Int32) (t_seenMany : Int32) (t_heardMany : Int32) (t_torn : Int32) (t_canBe : Nat → Int32) (t_laws : Nat → Int32) (t_pages : Nat → Int32) (t_state : Nat → Int32) (t_work : Nat → Int32) (t_canBe' : Nat → Int32) (t_pages' : Nat → Int32) (t_work' : Nat → Int32) (hf : f_X8_layAlive t_roomMany t_doorMany t_lawMany t_canBe t_laws t_pages t_state t_work = some (t_canBe', t_pages', t_work')) : CV l yX8_layAlive wsX8_layAlive rmX8_layAlive [.ref t_q] g sz [oX8 t_q t_state_q t_roomMany t_doorMany t_stringLong t_laws_q t_lawMany t_readPage_q t_readLaws_q t_readRooms t_readDoors t_readString t_readLawMany t_toldOnce t_highRoom t_highDoor t_tape_q t_taped t_fault t_broken t_brokenAt t_spot t_here t_token t_value t_cuts_q t_letters_q t_work_q t_pages_q t_canBe_q t_leadsOn_q t_seen_q t_seenMany t_heard_q t_heardMany t_isKept_q t_lanes_q t_lengths_q t_cells_q t_torn, aI g t_canBe_q 1400 t_canBe, aI g t_laws_q 18 t_laws, aI g t_pages_q 750 t_pages, aI g t_state_q 196 t_state, aI g t_work_q 30 t_work] [oX8 t_q t_state_q t_roomMany t_doorMany t_stringLong t_laws_q t_lawMany t_readPage_q t_readLaws_q t_readRooms t_readDoors t_readString t_readLawMany t_toldOnce t_highRoom t_highDoor t_tape_q t_taped t_fault t_broken t_brokenAt t_spot t_here t_token t_value t_cuts_q t_letters_q t_work_q t_pages_q t_canBe_q t_leadsOn_q t_seen_q t_seenMany t_heard_q t_heardMany t_isKept_q t_lanes_q t_lengths_q t_cells_q t_torn, aI g t_canBe_q 1400 t_canBe', aI g t_laws_q 18 t_laws, aI g t_pages_q 750 t_pages', aI g t_state_q 196 t_state, aI g t_work_q 30 t_work'] := by
  refine ent_v (cc := cX8_layAlive) (maxL := 7) (by decide) rfl (Nat.le_of_ble_eq_true rfl) ?_
  intro p e s m args below meth c A Q hx hb hml hown hts hK hz hk hA hD hP hS hret ls hl
  have hown : s.vm.findClass RX8 = some m.cls := hown
  have inX8 : ∀ w ∈ u_ws RX8 TX8 39, w ∈ wsX8_layAlive := by decide +kernel
  have k7 := hts (.fieldLink RX8 7 "ThreadMovedModel" "state" "[I") (by decide +kernel)
  have k44 := hts (.fieldLink RX8 44 "ThreadMovedModel" "canBe" "[I") (by decide +kernel)
  have hl : lv_has ls 7 [(0, .ref t_q)] := hl
  have hret : ∀ (t_canBez : Nat → Int32) (t_pagesz : Nat → Int32) (t_workz : Nat → Int32), (t_canBez, t_pagesz, t_workz) = (t_canBe', t_pages', t_work') → ∀ (H : Heap) (locs : List Loc) (pc : Nat) (ls : Array Slot), va_P g.1 vwCl [oX8 t_q t_state_q t_roomMany t_doorMany t_stringLong t_laws_q t_lawMany t_readPage_q t_readLaws_q t_readRooms t_readDoors t_readString t_readLawMany t_toldOnce t_highRoom t_highDoor t_tape_q t_taped t_fault t_broken t_brokenAt t_spot t_here t_token t_value t_cuts_q t_letters_q t_work_q t_pages_q t_canBe_q t_leadsOn_q t_seen_q t_seenMany t_heard_q t_heardMany t_isKept_q t_lanes_q t_lengths_q t_cells_q t_torn, aI g t_canBe_q 1400 t_canBez, aI g t_laws_q 18 t_laws, aI g t_pages_q 750 t_pagesz, aI g t_state_q 196 t_state, aI g t_work_q 30 t_workz] H → va_S A s.heap H locs → decode cX8_layAlive pc = .ok (.return_, 1) → W p l e rmX8_layAlive s m args below meth c H locs 0 0 Q (F0 m pc ls []) := by
    intro t_canBez t_pagesz t_workz he H locs pc ls hP hS hd
    cases he
    exact hret H locs pc ls hP hS hd
  unfold f_X8_layAlive at hf
  refine lv_aload_n hx hb dX8_layAlive_0 rfl (lv_at hl 0 rfl) ?_
  obtain ⟨t_pages_1, t_work_2, hc_3, hf⟩ := ob2_e hf
  refine kV_v (wn := [oX8 t_q t_state_q t_roomMany t_doorMany t_stringLong t_laws_q t_lawMany t_readPage_q t_readLaws_q t_readRooms t_readDoors t_readString t_readLawMany t_toldOnce t_highRoom t_highDoor t_tape_q t_taped t_fault t_broken t_brokenAt t_spot t_here t_token t_value t_cuts_q t_letters_q t_work_q t_pages_q t_canBe_q t_leadsOn_q t_seen_q t_seenMany t_heard_q t_heardMany t_isKept_q t_lanes_q t_lengths_q t_cells_q t_torn, aI g t_canBe_q 1400 t_canBe, aI g t_laws_q 18 t_laws, aI g t_pages_q 750 t_pages_1, aI g t_state_q 196 t_state, aI g t_work_q 30 t_work_2]) (As := []) (rest := []) (c_X8_layPages l g _ t_q t_state_q t_laws_q t_readPage_q t_readLaws_q t_tape_q t_cuts_q t_letters_q t_work_q t_pages_q t_canBe_q t_leadsOn_q t_seen_q t_heard_q t_isKept_q t_lanes_q t_lengths_q t_cells_q t_roomMany t_doorMany t_stringLong t_lawMany t_readRooms t_readDoors t_readString t_readLawMany t_toldOnce t_highRoom t_highDoor t_taped t_fault t_broken t_brokenAt t_spot t_here t_token t_value t_seenMany t_heardMany t_torn t_laws t_pages t_state t_work t_pages_1 t_work_2 hc_3) ⟨hx, hb, hml, hown, hts⟩ (cwV 0 hts gX8_layAlive_X8_layPages rfl rfl rfl (by decide +kernel) ⟨by decide, by decide⟩) hK hz hk hP (hD.re rfl) hS hA [0, 2, 3, 4, 5] rfl rfl rfl rfl rfl rfl rfl hl.1 rfl (Nat.le_of_ble_eq_true rfl) dX8_layAlive_1 (fun H locs hP hS => ?_)
  refine lv_iconst (v := (0 : Int32)) hx hb dX8_layAlive_4 (by decide) ?_
  refine lv_istore_n (lv' := [(1, .int (0 : Int32)), (0, .ref t_q)]) hx hb dX8_layAlive_5 rfl hl (by decide) rfl (fun ls hl => ?_)
  obtain ⟨x1_11, t_canBe_12, ho_6, hf⟩ := ob2_e hf
  have K_6 : ∀ (x1_11y : Int32) (t_canBe_12y : Nat → Int32), x1_11 = x1_11y → t_canBe_12 = t_canBe_12y → ∀ (H : Heap) (locs : List Loc) (ls : Array Slot), va_P g.1 vwCl [oX8 t_q t_state_q t_roomMany t_doorMany t_stringLong t_laws_q t_lawMany t_readPage_q t_readLaws_q t_readRooms t_readDoors t_readString t_readLawMany t_toldOnce t_highRoom t_highDoor t_tape_q t_taped t_fault t_broken t_brokenAt t_spot t_here t_token t_value t_cuts_q t_letters_q t_work_q t_pages_q t_canBe_q t_leadsOn_q t_seen_q t_seenMany t_heard_q t_heardMany t_isKept_q t_lanes_q t_lengths_q t_cells_q t_torn, aI g t_canBe_q 1400 t_canBe_12y, aI g t_laws_q 18 t_laws, aI g t_pages_q 750 t_pages_1, aI g t_state_q 196 t_state, aI g t_work_q 30 t_work_2] H → va_S A s.heap H locs → lv_has ls 7 [(0, .ref t_q)] → W p l e rmX8_layAlive s m args below meth c H locs 0 0 Q (F0 m 26 ls []) := by
    intro x1_11y t_canBe_12y ey0 ey1 H locs ls hP hS hl
    subst ey0
    subst ey1
    refine lv_aload_n hx hb dX8_layAlive_26 rfl (lv_at hl 0 rfl) ?_
    refine va_get (D := g.1) (ci := 8) (v := .ref t_canBe_q) (C := RX8) (T := TX8) (N := 39) hx hb hts inX8 hown hK hP 0 rfl rfl 28 (by decide) k44 (fun _ h9 => h9) rfl dX8_layAlive_27 ?_
    refine lv_iconst (v := (0 : Int32)) hx hb dX8_layAlive_30 (by decide) ?_
    refine lv_aload_n hx hb dX8_layAlive_31 rfl (lv_at hl 0 rfl) ?_
    refine va_get (D := g.1) (ci := 8) (v := .ref t_state_q) (C := RX8) (T := TX8) (N := 39) hx hb hts inX8 hown hK hP 0 rfl rfl 0 (by decide) k7 (fun _ h9 => h9) rfl dX8_layAlive_32 ?_
    refine lv_bipush (v := (31 : Int32)) hx hb dX8_layAlive_35 (by decide) ?_
    obtain ⟨h_13, hf⟩ := gin_e hf
    refine va_iald hx hb hK hP 4 0 rfl rfl h_13 dX8_layAlive_37 ?_
    refine lv_aload_n hx hb dX8_layAlive_38 rfl (lv_at hl 0 rfl) ?_
    obtain ⟨r_14, hc_15, hf⟩ := ob1_e hf
    refine kV_i (wn := [oX8 t_q t_state_q t_roomMany t_doorMany t_stringLong t_laws_q t_lawMany t_readPage_q t_readLaws_q t_readRooms t_readDoors t_readString t_readLawMany t_toldOnce t_highRoom t_highDoor t_tape_q t_taped t_fault t_broken t_brokenAt t_spot t_here t_token t_value t_cuts_q t_letters_q t_work_q t_pages_q t_canBe_q t_leadsOn_q t_seen_q t_seenMany t_heard_q t_heardMany t_isKept_q t_lanes_q t_lengths_q t_cells_q t_torn, aI g t_canBe_q 1400 t_canBe_12, aI g t_laws_q 18 t_laws, aI g t_pages_q 750 t_pages_1, aI g t_state_q 196 t_state, aI g t_work_q 30 t_work_2]) (As := []) (rest := [.int (t_state (31 : Int32).toNatClampNeg), .int (0 : Int32), .ref t_canBe_q]) (c_X8_beastNow l g _ t_q t_state_q t_laws_q t_readPage_q t_readLaws_q t_tape_q t_cuts_q t_letters_q t_work_q t_pages_q t_canBe_q t_leadsOn_q t_seen_q t_heard_q t_isKept_q t_lanes_q t_lengths_q t_cells_q t_roomMany t_doorMany t_stringLong t_lawMany t_readRooms t_readDoors t_readString t_readLawMany t_toldOnce t_highRoom t_highDoor t_taped t_fault t_broken t_brokenAt t_spot t_here t_token t_value t_seenMany t_heardMany t_torn t_state r_14 hc_15) ⟨hx, hb, hml, hown, hts⟩ (cwV 0 hts gX8_layAlive_X8_beastNow rfl rfl rfl (by decide +kernel) ⟨by decide, by decide⟩) hK hz hk hP (hD.re rfl) hS hA [0, 4] rfl rfl rfl rfl rfl rfl rfl hl.1 rfl (Nat.le_of_ble_eq_true rfl) dX8_layAlive_39 (fun H locs hP hS => ?_)
    obtain ⟨r_16, hc_17, hf⟩ := ob1_e hf
    refine kS_i (wn := [oX8 t_q t_state_q t_roomMany t_doorMany t_stringLong t_laws_q t_lawMany t_readPage_q t_readLaws_q t_readRooms t_readDoors t_readString t_readLawMany t_toldOnce t_highRoom t_highDoor t_tape_q t_taped t_fault t_broken t_brokenAt t_spot t_here t_token t_value t_cuts_q t_letters_q t_work_q t_pages_q t_canBe_q t_leadsOn_q t_seen_q t_seenMany t_heard_q t_heardMany t_isKept_q t_lanes_q t_lengths_q t_cells_q t_torn, aI g t_canBe_q 1400 t_canBe_12, aI g t_laws_q 18 t_laws, aI g t_pages_q 750 t_pages_1, aI g t_state_q 196 t_state, aI g t_work_q 30 t_work_2]) (As := [.int (0 : Int32), .int (t_state (31 : Int32).toNatClampNeg), .int r_14]) (rest := [.ref t_canBe_q]) (c_X8_at l g _ (0 : Int32) (t_state (31 : Int32).toNatClampNeg) r_14 r_16 hc_17) ⟨hx, hb, hml, hown, hts⟩ (va_cwS 3 hts gX8_layAlive_X8_at rfl rfl rfl (by decide +kernel) ⟨by decide, by decide⟩) hK hz hk hP (hD.re rfl) hS hA [] rfl rfl rfl rfl rfl hl.1 rfl (Nat.le_of_ble_eq_true rfl) dX8_layAlive_42 (fun H locs hP hS => ?_)
    refine lv_iconst (v := (1 : Int32)) hx hb dX8_layAlive_45 (by decide) ?_
    obtain ⟨h_18, hf⟩ := gin_e hf
    obtain ⟨t_canBe_19, et_canBe_19, hf⟩ := bnd_e hf
    refine va_iast hx hb hK hP (hD.re rfl) hS 1 0 rfl rfl h_18 dX8_layAlive_46 (fun H locs hP _ hS => ?_)
    have hP : va_P g.1 vwCl [oX8 t_q t_state_q t_roomMany t_doorMany t_stringLong t_laws_q t_lawMany t_readPage_q t_readLaws_q t_readRooms t_readDoors t_readString t_readLawMany t_toldOnce t_highRoom t_highDoor t_tape_q t_taped t_fault t_broken t_brokenAt t_spot t_here t_token t_value t_cuts_q t_letters_q t_work_q t_pages_q t_canBe_q t_leadsOn_q t_seen_q t_seenMany t_heard_q t_heardMany t_isKept_q t_lanes_q t_lengths_q t_cells_q t_torn, aI g t_canBe_q 1400 t_canBe_19, aI g t_laws_q 18 t_laws, aI g t_pages_q 750 t_pages_1, aI g t_state_q 196 t_state, aI g t_work_q 30 t_work_2] H := by rw [et_canBe_19]; exact hP
    refine lv_iconst (v := (0 : Int32)) hx hb dX8_layAlive_47 (by decide) ?_
    refine lv_istore_n (lv' := [(1, .int (0 : Int32)), (0, .ref t_q)]) hx hb dX8_layAlive_48 rfl hl (by decide) rfl (fun ls hl => ?_)
    obtain ⟨x1_46, t_canBe_47, ho_22, hf⟩ := ob2_e hf
    have K_22 : ∀ (x1_46y : Int32) (t_canBe_47y : Nat → Int32), x1_46 = x1_46y → t_canBe_47 = t_canBe_47y → ∀ (H : Heap) (locs : List Loc) (ls : Array Slot), va_P g.1 vwCl [oX8 t_q t_state_q t_roomMany t_doorMany t_stringLong t_laws_q t_lawMany t_readPage_q t_readLaws_q t_readRooms t_readDoors t_readString t_readLawMany t_toldOnce t_highRoom t_highDoor t_tape_q t_taped t_fault t_broken t_brokenAt t_spot t_here t_token t_value t_cuts_q t_letters_q t_work_q t_pages_q t_canBe_q t_leadsOn_q t_seen_q t_seenMany t_heard_q t_heardMany t_isKept_q t_lanes_q t_lengths_q t_cells_q t_torn, aI g t_canBe_q 1400 t_canBe_47y, aI g t_laws_q 18 t_laws, aI g t_pages_q 750 t_pages_1, aI g t_state_q 196 t_state, aI g t_work_q 30 t_work_2] H → va_S A s.heap H locs → lv_has ls 7 [] → W p l e rmX8_layAlive s m args below meth c H locs 0 0 Q (F0 m 167 ls []) := by
      intro x1_46y t_canBe_47y ey0 ey1 H locs ls hP hS hl
      subst ey0
      subst ey1
      exact hret t_canBe_47 t_pages_1 t_work_2 (Option.some.inj hf) _ _ _ _ hP hS dX8_layAlive_167
    have L_22 : ∀ (n : Nat) (v1_20 : Int32) (t_canBe_21 : Nat → Int32), itr (un2 (b_X8_layAlive_49 t_doorMany t_state t_pages_1)) n (v1_20, t_canBe_21) = some (x1_46, t_canBe_47) → ∀ (H : Heap) (locs : List Loc) (ls : Array Slot), va_P g.1 vwCl [oX8 t_q t_state_q t_roomMany t_doorMany t_stringLong t_laws_q t_lawMany t_readPage_q t_readLaws_q t_readRooms t_readDoors t_readString t_readLawMany t_toldOnce t_highRoom t_highDoor t_tape_q t_taped t_fault t_broken t_brokenAt t_spot t_here t_token t_value t_cuts_q t_letters_q t_work_q t_pages_q t_canBe_q t_leadsOn_q t_seen_q t_seenMany t_heard_q t_heardMany t_isKept_q t_lanes_q t_lengths_q t_cells_q t_torn, aI g t_canBe_q 1400 t_canBe_21, aI g t_laws_q 18 t_laws, aI g t_pages_q 750 t_pages_1, aI g t_state_q 196 t_state, aI g t_work_q 30 t_work_2] H → va_S A s.heap H locs → lv_has ls 7 [(0, .ref t_q), (1, .int v1_20)] → W p l e rmX8_layAlive s m args below meth c H locs 0 0 Q (F0 m 49 ls []) := by
      refine itr_ind2 ?_
      intro v1_20 t_canBe_21 z_22 hf hrec hex H locs ls hP hS hl
      unfold b_X8_layAlive_49 at hf
      refine lv_iload_n hx hb dX8_layAlive_49 rfl (lv_at hl 1 rfl) ?_
      refine lv_sipush (v := (1344 : Int32)) hx hb dX8_layAlive_50 (by decide) ?_
      refine lv_icmp_ge (tgt := 167) hx hb dX8_layAlive_53 (by decide) (fun c_23 => ?_) (fun c_23 => ?_)
      · have hf := ite_t hf c_23
        exact K_22 v1_20 t_canBe_21 (congrArg (fun t => t.1) (hex _ (Option.some.inj hf).symm).symm) (congrArg (fun t => t.2) (hex _ (Option.some.inj hf).symm).symm) _ _ _ hP hS (lv_sub hl [] rfl)
      · have hf := ite_f hf c_23
        refine lv_iload_n hx hb dX8_layAlive_56 rfl (lv_at hl 1 rfl) ?_
        refine lv_bipush (v := (56 : Int32)) hx hb dX8_layAlive_57 (by decide) ?_
        refine lv_idiv hx hb dX8_layAlive_59 (by decide) ?_
        obtain ⟨v2_24, ev2_24, hf⟩ := bnd_e hf
        refine tp_i ev2_24 ?_
        refine lv_istore_n (lv' := [(2, .int v2_24), (0, .ref t_q), (1, .int v1_20)]) hx hb dX8_layAlive_60 rfl hl (by decide) rfl (fun ls hl => ?_)
        refine lv_iload_n hx hb dX8_layAlive_61 rfl (lv_at hl 2 rfl) ?_
        refine lv_bipush (v := (56 : Int32)) hx hb dX8_layAlive_62 (by decide) ?_
        refine lv_irem hx hb dX8_layAlive_64 (by decide) ?_
        refine lv_bipush (v := (8 : Int32)) hx hb dX8_layAlive_65 (by decide) ?_
        refine lv_idiv hx hb dX8_layAlive_67 (by decide) ?_
        obtain ⟨v3_25, ev3_25, hf⟩ := bnd_e hf
        refine tp_i ev3_25 ?_
        refine lv_istore_n (lv' := [(3, .int v3_25), (2, .int v2_24), (0, .ref t_q), (1, .int v1_20)]) hx hb dX8_layAlive_68 rfl hl (by decide) rfl (fun ls hl => ?_)
        refine lv_iload_n hx hb dX8_layAlive_69 rfl (lv_at hl 3 rfl) ?_
        refine lv_bipush (v := (8 : Int32)) hx hb dX8_layAlive_70 (by decide) ?_
        refine lv_irem hx hb dX8_layAlive_72 (by decide) ?_
        obtain ⟨j_27, hj_27, hf⟩ := jn1_e hf
        have J_27 : ∀ (s_26 : Int32), j_27 s_26 = some z_22 → ∀ (H : Heap) (locs : List Loc) (ls : Array Slot), va_P g.1 vwCl [oX8 t_q t_state_q t_roomMany t_doorMany t_stringLong t_laws_q t_lawMany t_readPage_q t_readLaws_q t_readRooms t_readDoors t_readString t_readLawMany t_toldOnce t_highRoom t_highDoor t_tape_q t_taped t_fault t_broken t_brokenAt t_spot t_here t_token t_value t_cuts_q t_letters_q t_work_q t_pages_q t_canBe_q t_leadsOn_q t_seen_q t_seenMany t_heard_q t_heardMany t_isKept_q t_lanes_q t_lengths_q t_cells_q t_torn, aI g t_canBe_q 1400 t_canBe_21, aI g t_laws_q 18 t_laws, aI g t_pages_q 750 t_pages_1, aI g t_state_q 196 t_state, aI g t_work_q 30 t_work_2] H → va_S A s.heap H locs → lv_has ls 7 [(0, .ref t_q), (1, .int v1_20), (2, .int v2_24), (3, .int v3_25)] → W p l e rmX8_layAlive s m args below meth c H locs 0 0 Q (F0 m 87 ls [.int s_26]) := by
          intro s_26 hf H locs ls hP hS hl
          rw [hj_27] at hf
          refine lv_istore (lv' := [(4, .int s_26), (0, .ref t_q), (1, .int v1_20), (2, .int v2_24), (3, .int v3_25)]) hx hb dX8_layAlive_87 hl (by decide) rfl (fun ls hl => ?_)
          refine lv_iconst (v := (0 : Int32)) hx hb dX8_layAlive_89 (by decide) ?_
          refine lv_istore (lv' := [(5, .int (0 : Int32)), (4, .int s_26), (0, .ref t_q), (1, .int v1_20), (2, .int v2_24), (3, .int v3_25)]) hx hb dX8_layAlive_90 hl (by decide) rfl (fun ls hl => ?_)
          obtain ⟨x5_42, t_canBe_43, ho_30, hf⟩ := ob2_e hf
          have K_30 : ∀ (x5_42y : Int32) (t_canBe_43y : Nat → Int32), x5_42 = x5_42y → t_canBe_43 = t_canBe_43y → ∀ (H : Heap) (locs : List Loc) (ls : Array Slot), va_P g.1 vwCl [oX8 t_q t_state_q t_roomMany t_doorMany t_stringLong t_laws_q t_lawMany t_readPage_q t_readLaws_q t_readRooms t_readDoors t_readString t_readLawMany t_toldOnce t_highRoom t_highDoor t_tape_q t_taped t_fault t_broken t_brokenAt t_spot t_here t_token t_value t_cuts_q t_letters_q t_work_q t_pages_q t_canBe_q t_leadsOn_q t_seen_q t_seenMany t_heard_q t_heardMany t_isKept_q t_lanes_q t_lengths_q t_cells_q t_torn, aI g t_canBe_q 1400 t_canBe_43y, aI g t_laws_q 18 t_laws, aI g t_pages_q 750 t_pages_1, aI g t_state_q 196 t_state, aI g t_work_q 30 t_work_2] H → va_S A s.heap H locs → lv_has ls 7 [(0, .ref t_q), (1, .int v1_20)] → W p l e rmX8_layAlive s m args below meth c H locs 0 0 Q (F0 m 161 ls []) := by
            intro x5_42y t_canBe_43y ey0 ey1 H locs ls hP hS hl
            subst ey0
            subst ey1
            obtain ⟨v1_44, ev1_44, hf⟩ := bnd_e hf
            refine lv_iinc (v := v1_44) (lv' := [(1, .int v1_44), (0, .ref t_q)]) hx hb dX8_layAlive_161 hl (k := 1) rfl (by rw [ev1_44]; rfl) (by decide) rfl (fun ls hl => ?_)
            refine lv_goto (tgt := 49) hx hb dX8_layAlive_164 (by decide) ?_
            exact hrec v1_44 t_canBe_43 (Option.some.inj hf).symm _ _ _ hP hS (lv_sub hl [1, 0] rfl)
          have L_30 : ∀ (n : Nat) (v5_28 : Int32) (t_canBe_29 : Nat → Int32), itr (un2 (b_X8_layAlive_92 t_doorMany t_state t_pages_1 v1_20 v2_24 v3_25 s_26)) n (v5_28, t_canBe_29) = some (x5_42, t_canBe_43) → ∀ (H : Heap) (locs : List Loc) (ls : Array Slot), va_P g.1 vwCl [oX8 t_q t_state_q t_roomMany t_doorMany t_stringLong t_laws_q t_lawMany t_readPage_q t_readLaws_q t_readRooms t_readDoors t_readString t_readLawMany t_toldOnce t_highRoom t_highDoor t_tape_q t_taped t_fault t_broken t_brokenAt t_spot t_here t_token t_value t_cuts_q t_letters_q t_work_q t_pages_q t_canBe_q t_leadsOn_q t_seen_q t_seenMany t_heard_q t_heardMany t_isKept_q t_lanes_q t_lengths_q t_cells_q t_torn, aI g t_canBe_q 1400 t_canBe_29, aI g t_laws_q 18 t_laws, aI g t_pages_q 750 t_pages_1, aI g t_state_q 196 t_state, aI g t_work_q 30 t_work_2] H → va_S A s.heap H locs → lv_has ls 7 [(0, .ref t_q), (1, .int v1_20), (2, .int v2_24), (3, .int v3_25), (4, .int s_26), (5, .int v5_28)] → W p l e rmX8_layAlive s m args below meth c H locs 0 0 Q (F0 m 92 ls []) := by
            refine itr_ind2 ?_
            intro v5_28 t_canBe_29 z_30 hf hrec hex H locs ls hP hS hl
            unfold b_X8_layAlive_92 at hf
            refine lv_iload hx hb dX8_layAlive_92 (lv_at hl 5 rfl) ?_
            refine lv_bipush (v := (10 : Int32)) hx hb dX8_layAlive_94 (by decide) ?_
            refine lv_icmp_gt (tgt := 161) hx hb dX8_layAlive_96 (by decide) (fun c_31 => ?_) (fun c_31 => ?_)
            · have hf := ite_t hf c_31
              exact K_30 v5_28 t_canBe_29 (congrArg (fun t => t.1) (hex _ (Option.some.inj hf).symm).symm) (congrArg (fun t => t.2) (hex _ (Option.some.inj hf).symm).symm) _ _ _ hP hS (lv_sub hl [0, 1] rfl)
            · have hf := ite_f hf c_31
              refine lv_aload_n hx hb dX8_layAlive_99 rfl (lv_at hl 0 rfl) ?_
              refine va_get (D := g.1) (ci := 8) (v := .ref t_canBe_q) (C := RX8) (T := TX8) (N := 39) hx hb hts inX8 hown hK hP 0 rfl rfl 28 (by decide) k44 (fun _ h9 => h9) rfl dX8_layAlive_100 ?_
              refine lv_iload_n hx hb dX8_layAlive_103 rfl (lv_at hl 1 rfl) ?_
              obtain ⟨h_32, hf⟩ := gin_e hf
              refine va_iald hx hb hK hP 1 0 rfl rfl h_32 dX8_layAlive_104 ?_
              refine lv_iconst (v := (1 : Int32)) hx hb dX8_layAlive_105 (by decide) ?_
              refine lv_icmp_ne (tgt := 161) hx hb dX8_layAlive_106 (by decide) (fun c_33 => ?_) (fun c_33 => ?_)
              · have hf := ite_f hf c_33
                exact K_30 v5_28 t_canBe_29 (congrArg (fun t => t.1) (hex _ (Option.some.inj hf).symm).symm) (congrArg (fun t => t.2) (hex _ (Option.some.inj hf).symm).symm) _ _ _ hP hS (lv_sub hl [0, 1] rfl)
              · have hf := ite_t hf c_33
                refine lv_aload_n hx hb dX8_layAlive_109 rfl (lv_at hl 0 rfl) ?_
                refine lv_iload_n hx hb dX8_layAlive_110 rfl (lv_at hl 2 rfl) ?_
                refine lv_iload_n hx hb dX8_layAlive_111 rfl (lv_at hl 3 rfl) ?_
                refine lv_iload hx hb dX8_layAlive_112 (lv_at hl 4 rfl) ?_
                refine lv_iload hx hb dX8_layAlive_114 (lv_at hl 5 rfl) ?_
                obtain ⟨r_34, hc_35, hf⟩ := ob1_e hf
                refine kV_i (wn := [oX8 t_q t_state_q t_roomMany t_doorMany t_stringLong t_laws_q t_lawMany t_readPage_q t_readLaws_q t_readRooms t_readDoors t_readString t_readLawMany t_toldOnce t_highRoom t_highDoor t_tape_q t_taped t_fault t_broken t_brokenAt t_spot t_here t_token t_value t_cuts_q t_letters_q t_work_q t_pages_q t_canBe_q t_leadsOn_q t_seen_q t_seenMany t_heard_q t_heardMany t_isKept_q t_lanes_q t_lengths_q t_cells_q t_torn, aI g t_canBe_q 1400 t_canBe_29, aI g t_laws_q 18 t_laws, aI g t_pages_q 750 t_pages_1, aI g t_state_q 196 t_state, aI g t_work_q 30 t_work_2]) (As := [.int v2_24, .int v3_25, .int s_26, .int v5_28]) (rest := []) (c_X8_after l g _ t_q t_state_q t_laws_q t_readPage_q t_readLaws_q t_tape_q t_cuts_q t_letters_q t_work_q t_pages_q t_canBe_q t_leadsOn_q t_seen_q t_heard_q t_isKept_q t_lanes_q t_lengths_q t_cells_q t_roomMany t_doorMany t_stringLong t_lawMany t_readRooms t_readDoors t_readString t_readLawMany t_toldOnce t_highRoom t_highDoor t_taped t_fault t_broken t_brokenAt t_spot t_here t_token t_value t_seenMany t_heardMany t_torn t_pages_1 t_state v2_24 v3_25 s_26 v5_28 r_34 hc_35) ⟨hx, hb, hml, hown, hts⟩ (cwV 4 hts gX8_layAlive_X8_after rfl rfl rfl (by decide +kernel) ⟨by decide, by decide⟩) hK hz hk hP (hD.re rfl) hS hA [0, 3, 4] rfl rfl rfl rfl rfl rfl rfl hl.1 rfl (Nat.le_of_ble_eq_true rfl) dX8_layAlive_116 (fun H locs hP hS => ?_)
                refine lv_istore (lv' := [(6, .int r_34), (0, .ref t_q), (1, .int v1_20), (2, .int v2_24), (3, .int v3_25), (4, .int s_26), (5, .int v5_28)]) hx hb dX8_layAlive_119 hl (by decide) rfl (fun ls hl => ?_)
                refine lv_iload hx hb dX8_layAlive_121 (lv_at hl 0 rfl) ?_
                refine lv_bipush (v := (-4 : Int32)) hx hb dX8_layAlive_123 (by decide) ?_
                obtain ⟨j_37, hj_37, hf⟩ := jn1_e hf
                have J_37 : ∀ (t_canBe_36 : Nat → Int32), j_37 t_canBe_36 = some z_30 → ∀ (H : Heap) (locs : List Loc) (ls : Array Slot), va_P g.1 vwCl [oX8 t_q t_state_q t_roomMany t_doorMany t_stringLong t_laws_q t_lawMany t_readPage_q t_readLaws_q t_readRooms t_readDoors t_readString t_readLawMany t_toldOnce t_highRoom t_highDoor t_tape_q t_taped t_fault t_broken t_brokenAt t_spot t_here t_token t_value t_cuts_q t_letters_q t_work_q t_pages_q t_canBe_q t_leadsOn_q t_seen_q t_seenMany t_heard_q t_heardMany t_isKept_q t_lanes_q t_lengths_q t_cells_q t_torn, aI g t_canBe_q 1400 t_canBe_36, aI g t_laws_q 18 t_laws, aI g t_pages_q 750 t_pages_1, aI g t_state_q 196 t_state, aI g t_work_q 30 t_work_2] H → va_S A s.heap H locs → lv_has ls 7 [(0, .ref t_q), (1, .int v1_20), (2, .int v2_24), (3, .int v3_25), (4, .int s_26), (5, .int v5_28)] → W p l e rmX8_layAlive s m args below meth c H locs 0 0 Q (F0 m 155 ls []) := by
                  intro t_canBe_36 hf H locs ls hP hS hl
                  rw [hj_37] at hf
                  obtain ⟨v5_38, ev5_38, hf⟩ := bnd_e hf
                  refine lv_iinc (v := v5_38) (lv' := [(5, .int v5_38), (0, .ref t_q), (1, .int v1_20), (2, .int v2_24), (3, .int v3_25), (4, .int s_26)]) hx hb dX8_layAlive_155 hl (k := 5) rfl (by rw [ev5_38]; rfl) (by decide) rfl (fun ls hl => ?_)
                  refine lv_goto (tgt := 92) hx hb dX8_layAlive_158 (by decide) ?_
                  exact hrec v5_38 t_canBe_36 (Option.some.inj hf).symm _ _ _ hP hS (lv_sub hl [1, 2, 3, 4, 5, 0] rfl)
                refine lv_icmp_eq (tgt := 155) hx hb dX8_layAlive_125 (by decide) (fun c_39 => ?_) (fun c_39 => ?_)
                · have hf := ite_t hf c_39
                  exact J_37 t_canBe_29 hf _ _ _ hP hS (lv_sub hl [1, 2, 3, 4, 5, 6] rfl)
                · have hf := ite_f hf c_39
                  refine lv_aload_n hx hb dX8_layAlive_128 rfl (lv_at hl 1 rfl) ?_
                  refine va_get (D := g.1) (ci := 8) (v := .ref t_canBe_q) (C := RX8) (T := TX8) (N := 39) hx hb hts inX8 hown hK hP 0 rfl rfl 28 (by decide) k44 (fun _ h9 => h9) rfl dX8_layAlive_129 ?_
                  refine lv_bipush (v := (56 : Int32)) hx hb dX8_layAlive_132 (by decide) ?_
                  refine lv_iload_n hx hb dX8_layAlive_134 rfl (lv_at hl 3 rfl) ?_
                  refine lv_iconst (v := (1 : Int32)) hx hb dX8_layAlive_135 (by decide) ?_
                  refine lv_iadd hx hb dX8_layAlive_136 ?_
                  refine lv_imul hx hb dX8_layAlive_137 ?_
                  refine lv_bipush (v := (8 : Int32)) hx hb dX8_layAlive_138 (by decide) ?_
                  refine lv_iload hx hb dX8_layAlive_140 (lv_at hl 0 rfl) ?_
                  refine lv_bipush (v := (10 : Int32)) hx hb dX8_layAlive_142 (by decide) ?_
                  refine lv_irem hx hb dX8_layAlive_144 (by decide) ?_
                  refine lv_imul hx hb dX8_layAlive_145 ?_
                  refine lv_iadd hx hb dX8_layAlive_146 ?_
                  refine lv_iload hx hb dX8_layAlive_147 (lv_at hl 0 rfl) ?_
                  refine lv_bipush (v := (10 : Int32)) hx hb dX8_layAlive_149 (by decide) ?_
                  refine lv_idiv hx hb dX8_layAlive_151 (by decide) ?_
                  refine lv_iadd hx hb dX8_layAlive_152 ?_
                  refine lv_iconst (v := (1 : Int32)) hx hb dX8_layAlive_153 (by decide) ?_
                  obtain ⟨h_40, hf⟩ := gin_e hf
                  obtain ⟨t_canBe_41, et_canBe_41, hf⟩ := bnd_e hf
                  refine va_iast hx hb hK hP (hD.re rfl) hS 1 0 rfl rfl h_40 dX8_layAlive_154 (fun H locs hP _ hS => ?_)
                  have hP : va_P g.1 vwCl [oX8 t_q t_state_q t_roomMany t_doorMany t_stringLong t_laws_q t_lawMany t_readPage_q t_readLaws_q t_readRooms t_readDoors t_readString t_readLawMany t_toldOnce t_highRoom t_highDoor t_tape_q t_taped t_fault t_broken t_brokenAt t_spot t_here t_token t_value t_cuts_q t_letters_q t_work_q t_pages_q t_canBe_q t_leadsOn_q t_seen_q t_seenMany t_heard_q t_heardMany t_isKept_q t_lanes_q t_lengths_q t_cells_q t_torn, aI g t_canBe_q 1400 t_canBe_41, aI g t_laws_q 18 t_laws, aI g t_pages_q 750 t_pages_1, aI g t_state_q 196 t_state, aI g t_work_q 30 t_work_2] H := by rw [et_canBe_41]; exact hP
                  exact J_37 t_canBe_41 hf _ _ _ hP hS (lv_sub hl [1, 2, 3, 4, 5, 6] rfl)
          exact L_30 FU (0 : Int32) t_canBe_21 ho_30 _ _ _ hP hS (lv_sub hl [2, 3, 4, 5, 1, 0] rfl)
        refine lv_if_ne (tgt := 81) hx hb dX8_layAlive_73 (by decide) (fun c_45 => ?_) (fun c_45 => ?_)
        · have hf := ite_f hf c_45
          refine lv_iload_n hx hb dX8_layAlive_81 rfl (lv_at hl 3 rfl) ?_
          refine lv_bipush (v := (8 : Int32)) hx hb dX8_layAlive_82 (by decide) ?_
          refine lv_irem hx hb dX8_layAlive_84 (by decide) ?_
          refine lv_iconst (v := (1 : Int32)) hx hb dX8_layAlive_85 (by decide) ?_
          refine lv_isub hx hb dX8_layAlive_86 ?_
          exact J_27 ((v1_20 - v1_20 / (8 : Int32) * (8 : Int32)) - (1 : Int32)) hf _ _ _ hP hS (lv_sub hl [2, 3, 1, 0] rfl)
        · have hf := ite_t hf c_45
          refine lv_bipush (v := (-4 : Int32)) hx hb dX8_layAlive_76 (by decide) ?_
          refine lv_goto (tgt := 87) hx hb dX8_layAlive_78 (by decide) ?_
          exact J_27 (-4 : Int32) hf _ _ _ hP hS (lv_sub hl [2, 3, 1, 0] rfl)
    exact L_22 FU (0 : Int32) t_canBe_19 ho_22 _ _ _ hP hS (lv_sub hl [1, 0] rfl)
  have L_6 : ∀ (n : Nat) (v1_4 : Int32) (t_canBe_5 : Nat → Int32), itr (un2 b_X8_layAlive_6) n (v1_4, t_canBe_5) = some (x1_11, t_canBe_12) → ∀ (H : Heap) (locs : List Loc) (ls : Array Slot), va_P g.1 vwCl [oX8 t_q t_state_q t_roomMany t_doorMany t_stringLong t_laws_q t_lawMany t_readPage_q t_readLaws_q t_readRooms t_readDoors t_readString t_readLawMany t_toldOnce t_highRoom t_highDoor t_tape_q t_taped t_fault t_broken t_brokenAt t_spot t_here t_token t_value t_cuts_q t_letters_q t_work_q t_pages_q t_canBe_q t_leadsOn_q t_seen_q t_seenMany t_heard_q t_heardMany t_isKept_q t_lanes_q t_lengths_q t_cells_q t_torn, aI g t_canBe_q 1400 t_canBe_5, aI g t_laws_q 18 t_laws, aI g t_pages_q 750 t_pages_1, aI g t_state_q 196 t_state, aI g t_work_q 30 t_work_2] H → va_S A s.heap H locs → lv_has ls 7 [(0, .ref t_q), (1, .int v1_4)] → W p l e rmX8_layAlive s m args below meth c H locs 0 0 Q (F0 m 6 ls []) := by
    refine itr_ind2 ?_
    intro v1_4 t_canBe_5 z_6 hf hrec hex H locs ls hP hS hl
    unfold b_X8_layAlive_6 at hf
    refine lv_iload_n hx hb dX8_layAlive_6 rfl (lv_at hl 1 rfl) ?_
    refine lv_sipush (v := (1400 : Int32)) hx hb dX8_layAlive_7 (by decide) ?_
    refine lv_icmp_ge (tgt := 26) hx hb dX8_layAlive_10 (by decide) (fun c_7 => ?_) (fun c_7 => ?_)
    · have hf := ite_t hf c_7
      exact K_6 v1_4 t_canBe_5 (congrArg (fun t => t.1) (hex _ (Option.some.inj hf).symm).symm) (congrArg (fun t => t.2) (hex _ (Option.some.inj hf).symm).symm) _ _ _ hP hS (lv_sub hl [0] rfl)
    · have hf := ite_f hf c_7
      refine lv_aload_n hx hb dX8_layAlive_13 rfl (lv_at hl 0 rfl) ?_
      refine va_get (D := g.1) (ci := 8) (v := .ref t_canBe_q) (C := RX8) (T := TX8) (N := 39) hx hb hts inX8 hown hK hP 0 rfl rfl 28 (by decide) k44 (fun _ h9 => h9) rfl dX8_layAlive_14 ?_
      refine lv_iload_n hx hb dX8_layAlive_17 rfl (lv_at hl 1 rfl) ?_
      refine lv_iconst (v := (0 : Int32)) hx hb dX8_layAlive_18 (by decide) ?_
      obtain ⟨h_8, hf⟩ := gin_e hf
      obtain ⟨t_canBe_9, et_canBe_9, hf⟩ := bnd_e hf
      refine va_iast hx hb hK hP (hD.re rfl) hS 1 0 rfl rfl h_8 dX8_layAlive_19 (fun H locs hP _ hS => ?_)
      have hP : va_P g.1 vwCl [oX8 t_q t_state_q t_roomMany t_doorMany t_stringLong t_laws_q t_lawMany t_readPage_q t_readLaws_q t_readRooms t_readDoors t_readString t_readLawMany t_toldOnce t_highRoom t_highDoor t_tape_q t_taped t_fault t_broken t_brokenAt t_spot t_here t_token t_value t_cuts_q t_letters_q t_work_q t_pages_q t_canBe_q t_leadsOn_q t_seen_q t_seenMany t_heard_q t_heardMany t_isKept_q t_lanes_q t_lengths_q t_cells_q t_torn, aI g t_canBe_q 1400 t_canBe_9, aI g t_laws_q 18 t_laws, aI g t_pages_q 750 t_pages_1, aI g t_state_q 196 t_state, aI g t_work_q 30 t_work_2] H := by rw [et_canBe_9]; exact hP
      obtain ⟨v1_10, ev1_10, hf⟩ := bnd_e hf
      refine lv_iinc (v := v1_10) (lv' := [(1, .int v1_10), (0, .ref t_q)]) hx hb dX8_layAlive_20 hl (k := 1) rfl (by rw [ev1_10]; rfl) (by decide) rfl (fun ls hl => ?_)
      refine lv_goto (tgt := 6) hx hb dX8_layAlive_23 (by decide) ?_
      exact hrec v1_10 t_canBe_9 (Option.some.inj hf).symm _ _ _ hP hS (lv_sub hl [1, 0] rfl)
  exact L_6 FU (0 : Int32) t_canBe ho_6 _ _ _ hP hS (lv_sub hl [1, 0] rfl)

def b_X8_isThere_5 (t_canBe : Nat → Int32) (p1 : Int32) (p2 : Int32) (v3_1 : Int32) (v4_2 : Int32) : Option ((Int32 × Int32) ⊕ (Int32 × Int32)) :=
 (if (8 : Int32) ≤ v4_2 then
 (some (.inr (v3_1, v4_2)))
 else (jn1 (fun (s_5 : Int32) => (bnd (v4_2 + (1 : Int32)) (fun v4_7 =>
 (some (.inl (s_5, v4_7)))))) (fun j_6 =>
 (jn0 (j_6 (1 : Int32)) (fun j_8 =>
 (if v3_1 = (0 : Int32) then
 (gin ((((56 : Int32) * p1) + ((8 : Int32) * p2)) + v4_2) 1400 (if (t_canBe ((((56 : Int32) * p1) + ((8 : Int32) * p2)) + v4_2).toNatClampNeg) = (1 : Int32) then
 (j_8)
 else (j_6 (0 : Int32))))
 else (j_8)))))))
def f_X8_isThere (t_canBe : Nat → Int32) (p1 : Int32) (p2 : Int32) : Option (Int32) :=
 (ob2 (itr (un2 (b_X8_isThere_5 t_canBe p1 p2)) FU ((0 : Int32), (0 : Int32))) (fun x3_12 x4_13 =>
 (gbl x3_12 (some x3_12))))
abbrev rmX8_isThere : Room := { frames := 0, cells := 0, slots := 0, locals := 0 }
set_option maxHeartbeats 4000000 in
set_option maxRecDepth 100000 in
theorem c_X8_isThere (l : Launch) (g : Gh) (sz : Nat) (t_q t_state_q t_laws_q t_readPage_q t_readLaws_q t_tape_q t_cuts_q t_letters_q t_work_q t_pages_q t_canBe_q t_leadsOn_q t_seen_q t_heard_q t_isKept_q t_lanes_q t_lengths_q t_cells_q : Nat) (t_roomMany : Int32) (t_doorMany : Int32) (t_stringLong : Int32) (t_lawMany : Int32) (t_readRooms : Int32) (t_readDoors : Int32) (t_readString : Int32) (t_readLawMany : Int32) (t_toldOnce : Int32) (t_highRoom : Int32) (t_highDoor : Int32) (t_taped : Int32) (t_fault : Int32) (t_broken : Int32) (t_brokenAt : Int32) (t_spot : Int32) (t_here : Int32) (t_token : Int32) (t_value : Int32) (t_seenMany : Int32) (t_heardMany : Int32) (t_torn : Int32) (t_canBe : Nat → Int32) (p1 : Int32) (p2 : Int32) (rr : Int32) (hf : f_X8_isThere t_canBe p1 p2 = some rr) : CI l yX8_isThere wsX8_isThere rmX8_isThere [.ref t_q, .int p1, .int p2] g sz [oX8 t_q t_state_q t_roomMany t_doorMany t_stringLong t_laws_q t_lawMany t_readPage_q t_readLaws_q t_readRooms t_readDoors t_readString t_readLawMany t_toldOnce t_highRoom t_highDoor t_tape_q t_taped t_fault t_broken t_brokenAt t_spot t_here t_token t_value t_cuts_q t_letters_q t_work_q t_pages_q t_canBe_q t_leadsOn_q t_seen_q t_seenMany t_heard_q t_heardMany t_isKept_q t_lanes_q t_lengths_q t_cells_q t_torn, aI g t_canBe_q 1400 t_canBe] [oX8 t_q t_state_q t_roomMany t_doorMany t_stringLong t_laws_q t_lawMany t_readPage_q t_readLaws_q t_readRooms t_readDoors t_readString t_readLawMany t_toldOnce t_highRoom t_highDoor t_tape_q t_taped t_fault t_broken t_brokenAt t_spot t_here t_token t_value t_cuts_q t_letters_q t_work_q t_pages_q t_canBe_q t_leadsOn_q t_seen_q t_seenMany t_heard_q t_heardMany t_isKept_q t_lanes_q t_lengths_q t_cells_q t_torn, aI g t_canBe_q 1400 t_canBe] rr := by
  refine ent_z (cc := cX8_isThere) (maxL := 5) (by decide) rfl (Nat.le_of_ble_eq_true rfl) ?_
  intro p e s m args below meth c A Q hx hb hml hown hts hK hz hk hA hD hP hS hret ls hl
  have hown : s.vm.findClass RX8 = some m.cls := hown
  have inX8 : ∀ w ∈ u_ws RX8 TX8 39, w ∈ wsX8_isThere := by decide +kernel
  have k44 := hts (.fieldLink RX8 44 "ThreadMovedModel" "canBe" "[I") (by decide +kernel)
  have hl : lv_has ls 5 [(0, .ref t_q), (1, .int p1), (2, .int p2)] := hl
  have hret : ∀ (rrz : Int32), rrz = rr → narrow .boolean (.int rrz) = .int rrz → ∀ (H : Heap) (locs : List Loc) (pc : Nat) (ls : Array Slot), va_P g.1 vwCl [oX8 t_q t_state_q t_roomMany t_doorMany t_stringLong t_laws_q t_lawMany t_readPage_q t_readLaws_q t_readRooms t_readDoors t_readString t_readLawMany t_toldOnce t_highRoom t_highDoor t_tape_q t_taped t_fault t_broken t_brokenAt t_spot t_here t_token t_value t_cuts_q t_letters_q t_work_q t_pages_q t_canBe_q t_leadsOn_q t_seen_q t_seenMany t_heard_q t_heardMany t_isKept_q t_lanes_q t_lengths_q t_cells_q t_torn, aI g t_canBe_q 1400 t_canBe] H → va_S A s.heap H locs → decode cX8_isThere pc = .ok (.ireturn, 1) → W p l e rmX8_isThere s m args below meth c H locs 0 0 Q (F0 m pc ls [.int rrz]) := by
    intro rrz he hzz H locs pc ls hP hS hd
    cases he
    exact hret H locs pc ls hzz hP hS hd
  unfold f_X8_isThere at hf
  refine lv_iconst (v := (0 : Int32)) hx hb dX8_isThere_0 (by decide) ?_
  refine lv_istore_n (lv' := [(3, .int (0 : Int32)), (0, .ref t_q), (1, .int p1), (2, .int p2)]) hx hb dX8_isThere_1 rfl hl (by decide) rfl (fun ls hl => ?_)
  refine lv_iconst (v := (0 : Int32)) hx hb dX8_isThere_2 (by decide) ?_
  refine lv_istore (lv' := [(4, .int (0 : Int32)), (3, .int (0 : Int32)), (0, .ref t_q), (1, .int p1), (2, .int p2)]) hx hb dX8_isThere_3 hl (by decide) rfl (fun ls hl => ?_)
  obtain ⟨x3_12, x4_13, ho_3, hf⟩ := ob2_e hf
  have K_3 : ∀ (x3_12y : Int32) (x4_13y : Int32), x3_12 = x3_12y → x4_13 = x4_13y → ∀ (H : Heap) (locs : List Loc) (ls : Array Slot), va_P g.1 vwCl [oX8 t_q t_state_q t_roomMany t_doorMany t_stringLong t_laws_q t_lawMany t_readPage_q t_readLaws_q t_readRooms t_readDoors t_readString t_readLawMany t_toldOnce t_highRoom t_highDoor t_tape_q t_taped t_fault t_broken t_brokenAt t_spot t_here t_token t_value t_cuts_q t_letters_q t_work_q t_pages_q t_canBe_q t_leadsOn_q t_seen_q t_seenMany t_heard_q t_heardMany t_isKept_q t_lanes_q t_lengths_q t_cells_q t_torn, aI g t_canBe_q 1400 t_canBe] H → va_S A s.heap H locs → lv_has ls 5 [(3, .int x3_12y)] → W p l e rmX8_isThere s m args below meth c H locs 0 0 Q (F0 m 49 ls []) := by
    intro x3_12y x4_13y ey0 ey1 H locs ls hP hS hl
    subst ey0
    subst ey1
    refine lv_iload_n hx hb dX8_isThere_49 rfl (lv_at hl 0 rfl) ?_
    obtain ⟨b_14, hf⟩ := gbl_e hf
    exact hret x3_12 (Option.some.inj hf) (bl_n b_14) _ _ _ _ hP hS dX8_isThere_50
  have L_3 : ∀ (n : Nat) (v3_1 : Int32) (v4_2 : Int32), itr (un2 (b_X8_isThere_5 t_canBe p1 p2)) n (v3_1, v4_2) = some (x3_12, x4_13) → ∀ (H : Heap) (locs : List Loc) (ls : Array Slot), va_P g.1 vwCl [oX8 t_q t_state_q t_roomMany t_doorMany t_stringLong t_laws_q t_lawMany t_readPage_q t_readLaws_q t_readRooms t_readDoors t_readString t_readLawMany t_toldOnce t_highRoom t_highDoor t_tape_q t_taped t_fault t_broken t_brokenAt t_spot t_here t_token t_value t_cuts_q t_letters_q t_work_q t_pages_q t_canBe_q t_leadsOn_q t_seen_q t_seenMany t_heard_q t_heardMany t_isKept_q t_lanes_q t_lengths_q t_cells_q t_torn, aI g t_canBe_q 1400 t_canBe] H → va_S A s.heap H locs → lv_has ls 5 [(0, .ref t_q), (1, .int p1), (2, .int p2), (3, .int v3_1), (4, .int v4_2)] → W p l e rmX8_isThere s m args below meth c H locs 0 0 Q (F0 m 5 ls []) := by
    refine itr_ind2 ?_
    intro v3_1 v4_2 z_3 hf hrec hex H locs ls hP hS hl
    unfold b_X8_isThere_5 at hf
    refine lv_iload hx hb dX8_isThere_5 (lv_at hl 4 rfl) ?_
    refine lv_bipush (v := (8 : Int32)) hx hb dX8_isThere_7 (by decide) ?_
    refine lv_icmp_ge (tgt := 49) hx hb dX8_isThere_9 (by decide) (fun c_4 => ?_) (fun c_4 => ?_)
    · have hf := ite_t hf c_4
      exact K_3 v3_1 v4_2 (congrArg (fun t => t.1) (hex _ (Option.some.inj hf).symm).symm) (congrArg (fun t => t.2) (hex _ (Option.some.inj hf).symm).symm) _ _ _ hP hS (lv_sub hl [3] rfl)
    · have hf := ite_f hf c_4
      refine lv_iload_n hx hb dX8_isThere_12 rfl (lv_at hl 3 rfl) ?_
      obtain ⟨j_6, hj_6, hf⟩ := jn1_e hf
      have J_6 : ∀ (s_5 : Int32), j_6 s_5 = some z_3 → ∀ (H : Heap) (locs : List Loc) (ls : Array Slot), va_P g.1 vwCl [oX8 t_q t_state_q t_roomMany t_doorMany t_stringLong t_laws_q t_lawMany t_readPage_q t_readLaws_q t_readRooms t_readDoors t_readString t_readLawMany t_toldOnce t_highRoom t_highDoor t_tape_q t_taped t_fault t_broken t_brokenAt t_spot t_here t_token t_value t_cuts_q t_letters_q t_work_q t_pages_q t_canBe_q t_leadsOn_q t_seen_q t_seenMany t_heard_q t_heardMany t_isKept_q t_lanes_q t_lengths_q t_cells_q t_torn, aI g t_canBe_q 1400 t_canBe] H → va_S A s.heap H locs → lv_has ls 5 [(0, .ref t_q), (1, .int p1), (2, .int p2), (4, .int v4_2)] → W p l e rmX8_isThere s m args below meth c H locs 0 0 Q (F0 m 42 ls [.int s_5]) := by
        intro s_5 hf H locs ls hP hS hl
        rw [hj_6] at hf
        refine lv_istore_n (lv' := [(3, .int s_5), (0, .ref t_q), (1, .int p1), (2, .int p2), (4, .int v4_2)]) hx hb dX8_isThere_42 rfl hl (by decide) rfl (fun ls hl => ?_)
        obtain ⟨v4_7, ev4_7, hf⟩ := bnd_e hf
        refine lv_iinc (v := v4_7) (lv' := [(4, .int v4_7), (3, .int s_5), (0, .ref t_q), (1, .int p1), (2, .int p2)]) hx hb dX8_isThere_43 hl (k := 4) rfl (by rw [ev4_7]; rfl) (by decide) rfl (fun ls hl => ?_)
        refine lv_goto (tgt := 5) hx hb dX8_isThere_46 (by decide) ?_
        exact hrec s_5 v4_7 (Option.some.inj hf).symm _ _ _ hP hS (lv_sub hl [2, 3, 4, 1, 0] rfl)
      obtain ⟨j_8, hj_8, hf⟩ := jn0_e hf
      have J_8 : j_8 = some z_3 → ∀ (H : Heap) (locs : List Loc) (ls : Array Slot), va_P g.1 vwCl [oX8 t_q t_state_q t_roomMany t_doorMany t_stringLong t_laws_q t_lawMany t_readPage_q t_readLaws_q t_readRooms t_readDoors t_readString t_readLawMany t_toldOnce t_highRoom t_highDoor t_tape_q t_taped t_fault t_broken t_brokenAt t_spot t_here t_token t_value t_cuts_q t_letters_q t_work_q t_pages_q t_canBe_q t_leadsOn_q t_seen_q t_seenMany t_heard_q t_heardMany t_isKept_q t_lanes_q t_lengths_q t_cells_q t_torn, aI g t_canBe_q 1400 t_canBe] H → va_S A s.heap H locs → lv_has ls 5 [(0, .ref t_q), (1, .int p1), (2, .int p2), (4, .int v4_2)] → W p l e rmX8_isThere s m args below meth c H locs 0 0 Q (F0 m 37 ls []) := by
        intro hf H locs ls hP hS hl
        rw [hj_8] at hf
        refine lv_iconst (v := (1 : Int32)) hx hb dX8_isThere_37 (by decide) ?_
        refine lv_goto (tgt := 42) hx hb dX8_isThere_38 (by decide) ?_
        exact J_6 (1 : Int32) hf _ _ _ hP hS (lv_sub hl [0, 1, 2, 3] rfl)
      refine lv_if_ne (tgt := 37) hx hb dX8_isThere_13 (by decide) (fun c_9 => ?_) (fun c_9 => ?_)
      · have hf := ite_f hf c_9
        exact J_8 hf _ _ _ hP hS (lv_sub hl [0, 1, 2, 4] rfl)
      · have hf := ite_t hf c_9
        refine lv_aload_n hx hb dX8_isThere_16 rfl (lv_at hl 0 rfl) ?_
        refine va_get (D := g.1) (ci := 8) (v := .ref t_canBe_q) (C := RX8) (T := TX8) (N := 39) hx hb hts inX8 hown hK hP 0 rfl rfl 28 (by decide) k44 (fun _ h9 => h9) rfl dX8_isThere_17 ?_
        refine lv_bipush (v := (56 : Int32)) hx hb dX8_isThere_20 (by decide) ?_
        refine lv_iload_n hx hb dX8_isThere_22 rfl (lv_at hl 1 rfl) ?_
        refine lv_imul hx hb dX8_isThere_23 ?_
        refine lv_bipush (v := (8 : Int32)) hx hb dX8_isThere_24 (by decide) ?_
        refine lv_iload_n hx hb dX8_isThere_26 rfl (lv_at hl 2 rfl) ?_
        refine lv_imul hx hb dX8_isThere_27 ?_
        refine lv_iadd hx hb dX8_isThere_28 ?_
        refine lv_iload hx hb dX8_isThere_29 (lv_at hl 4 rfl) ?_
        refine lv_iadd hx hb dX8_isThere_31 ?_
        obtain ⟨h_10, hf⟩ := gin_e hf
        refine va_iald hx hb hK hP 1 0 rfl rfl h_10 dX8_isThere_32 ?_
        refine lv_iconst (v := (1 : Int32)) hx hb dX8_isThere_33 (by decide) ?_
        refine lv_icmp_ne (tgt := 41) hx hb dX8_isThere_34 (by decide) (fun c_11 => ?_) (fun c_11 => ?_)
        · have hf := ite_f hf c_11
          refine lv_iconst (v := (0 : Int32)) hx hb dX8_isThere_41 (by decide) ?_
          exact J_6 (0 : Int32) hf _ _ _ hP hS (lv_sub hl [0, 1, 2, 4] rfl)
        · have hf := ite_t hf c_11
          exact J_8 hf _ _ _ hP hS (lv_sub hl [0, 1, 2, 4] rfl)
  exact L_3 FU (0 : Int32) (0 : Int32) ho_3 _ _ _ hP hS (lv_sub hl [2, 3, 4, 1, 0] rfl)
