def b_X8_dusksBy_6 (t_roomMany : Int32) (p1 : Int32) (p2 : Int32) (v3_3 : Int32) (t_work_4 : Nat → Int32) : Option ((Int32 × (Nat → Int32)) ⊕ (Int32 × (Nat → Int32))) :=
 (if p2 ≤ v3_3 then
 (some (.inr (v3_3, t_work_4)))
 else (jn1 (fun (s_7 : Int32) => (ob1 (f_X8_doesRule t_roomMany t_work_4 (p1 / (100 : Int32)) s_7 (p1 - p1 / (10 : Int32) * (10 : Int32))) (fun t_work_9 =>
 (bnd (v3_3 + (1 : Int32)) (fun v3_11 =>
 (some (.inl (v3_11, t_work_9)))))))) (fun j_8 =>
 (if (200 : Int32) ≤ p1 then
 (j_8 (p1 - p1 / (10 : Int32) * (10 : Int32)))
 else (j_8 ((p1 / (10 : Int32)) - (p1 / (10 : Int32)) / (10 : Int32) * (10 : Int32)))))))
def f_X8_dusksBy (t_roomMany : Int32) (t_state : Nat → Int32) (t_work : Nat → Int32) (p1 : Int32) (p2 : Int32) : Option ((Nat → Int32)) :=
 (ob1 (f_X8_worksNow t_state t_work) (fun t_work_1 =>
 (ob2 (itr (un2 (b_X8_dusksBy_6 t_roomMany p1 p2)) FU ((0 : Int32), t_work_1)) (fun x3_13 t_work_14 =>
 (some t_work_14)))))
abbrev rmX8_dusksBy : Room := { frames := 1, cells := 0, slots := 0, locals := 24 }
set_option maxHeartbeats 4000000 in
set_option maxRecDepth 100000 in
theorem c_X8_dusksBy (l : Launch) (g : Gh) (sz : Nat) (t_q t_state_q t_laws_q t_readPage_q t_readLaws_q t_tape_q t_cuts_q t_letters_q t_work_q t_pages_q t_canBe_q t_leadsOn_q t_seen_q t_heard_q t_isKept_q t_lanes_q t_lengths_q t_cells_q : Nat) (t_roomMany : Int32) (t_doorMany : Int32) (t_stringLong : Int32) (t_lawMany : Int32) (t_readRooms : Int32) (t_readDoors : Int32) (t_readString : Int32) (t_readLawMany : Int32) (t_toldOnce : Int32) (t_highRoom : Int32) (t_highDoor : Int32) (t_taped : Int32) (t_fault : Int32) (t_broken : Int32) (t_brokenAt : Int32) (t_spot : Int32) (t_here : Int32) (t_token : Int32) (t_value : Int32) (t_seenMany : Int32) (t_heardMany : Int32) (t_torn : Int32) (t_state : Nat → Int32) (t_work : Nat → Int32) (p1 : Int32) (p2 : Int32) (t_work' : Nat → Int32) (hf : f_X8_dusksBy t_roomMany t_state t_work p1 p2 = some t_work') : CV l yX8_dusksBy wsX8_dusksBy rmX8_dusksBy [.ref t_q, .int p1, .int p2] g sz [oX8 t_q t_state_q t_roomMany t_doorMany t_stringLong t_laws_q t_lawMany t_readPage_q t_readLaws_q t_readRooms t_readDoors t_readString t_readLawMany t_toldOnce t_highRoom t_highDoor t_tape_q t_taped t_fault t_broken t_brokenAt t_spot t_here t_token t_value t_cuts_q t_letters_q t_work_q t_pages_q t_canBe_q t_leadsOn_q t_seen_q t_seenMany t_heard_q t_heardMany t_isKept_q t_lanes_q t_lengths_q t_cells_q t_torn, aI g t_state_q 196 t_state, aI g t_work_q 30 t_work] [oX8 t_q t_state_q t_roomMany t_doorMany t_stringLong t_laws_q t_lawMany t_readPage_q t_readLaws_q t_readRooms t_readDoors t_readString t_readLawMany t_toldOnce t_highRoom t_highDoor t_tape_q t_taped t_fault t_broken t_brokenAt t_spot t_here t_token t_value t_cuts_q t_letters_q t_work_q t_pages_q t_canBe_q t_leadsOn_q t_seen_q t_seenMany t_heard_q t_heardMany t_isKept_q t_lanes_q t_lengths_q t_cells_q t_torn, aI g t_state_q 196 t_state, aI g t_work_q 30 t_work'] := by
  refine ent_v (cc := cX8_dusksBy) (maxL := 4) (by decide) rfl (Nat.le_of_ble_eq_true rfl) ?_
  intro p e s m args below meth c A Q hx hb hml hown hts hK hz hk hA hD hP hS hret ls hl
  have hown : s.vm.findClass RX8 = some m.cls := hown
  have hl : lv_has ls 4 [(0, .ref t_q), (1, .int p1), (2, .int p2)] := hl
  have hret : ∀ (t_workz : Nat → Int32), t_workz = t_work' → ∀ (H : Heap) (locs : List Loc) (pc : Nat) (ls : Array Slot), va_P g.1 vwCl [oX8 t_q t_state_q t_roomMany t_doorMany t_stringLong t_laws_q t_lawMany t_readPage_q t_readLaws_q t_readRooms t_readDoors t_readString t_readLawMany t_toldOnce t_highRoom t_highDoor t_tape_q t_taped t_fault t_broken t_brokenAt t_spot t_here t_token t_value t_cuts_q t_letters_q t_work_q t_pages_q t_canBe_q t_leadsOn_q t_seen_q t_seenMany t_heard_q t_heardMany t_isKept_q t_lanes_q t_lengths_q t_cells_q t_torn, aI g t_state_q 196 t_state, aI g t_work_q 30 t_workz] H → va_S A s.heap H locs → decode cX8_dusksBy pc = .ok (.return_, 1) → W p l e rmX8_dusksBy s m args below meth c H locs 0 0 Q (F0 m pc ls []) := by
    intro t_workz he H locs pc ls hP hS hd
    cases he
    exact hret H locs pc ls hP hS hd
  unfold f_X8_dusksBy at hf
  refine lv_aload_n hx hb dX8_dusksBy_0 rfl (lv_at hl 0 rfl) ?_
  obtain ⟨t_work_1, hc_2, hf⟩ := ob1_e hf
  refine kV_v (wn := [oX8 t_q t_state_q t_roomMany t_doorMany t_stringLong t_laws_q t_lawMany t_readPage_q t_readLaws_q t_readRooms t_readDoors t_readString t_readLawMany t_toldOnce t_highRoom t_highDoor t_tape_q t_taped t_fault t_broken t_brokenAt t_spot t_here t_token t_value t_cuts_q t_letters_q t_work_q t_pages_q t_canBe_q t_leadsOn_q t_seen_q t_seenMany t_heard_q t_heardMany t_isKept_q t_lanes_q t_lengths_q t_cells_q t_torn, aI g t_state_q 196 t_state, aI g t_work_q 30 t_work_1]) (As := []) (rest := []) (c_X8_worksNow l g _ t_q t_state_q t_laws_q t_readPage_q t_readLaws_q t_tape_q t_cuts_q t_letters_q t_work_q t_pages_q t_canBe_q t_leadsOn_q t_seen_q t_heard_q t_isKept_q t_lanes_q t_lengths_q t_cells_q t_roomMany t_doorMany t_stringLong t_lawMany t_readRooms t_readDoors t_readString t_readLawMany t_toldOnce t_highRoom t_highDoor t_taped t_fault t_broken t_brokenAt t_spot t_here t_token t_value t_seenMany t_heardMany t_torn t_state t_work t_work_1 hc_2) ⟨hx, hb, hml, hown, hts⟩ (cwV 0 hts gX8_dusksBy_X8_worksNow rfl rfl rfl (by decide +kernel) ⟨by decide, by decide⟩) hK hz hk hP (hD.re rfl) hS hA [0, 1, 2] rfl rfl rfl rfl rfl rfl rfl hl.1 rfl (Nat.le_of_ble_eq_true rfl) dX8_dusksBy_1 (fun H locs hP hS => ?_)
  refine lv_iconst (v := (0 : Int32)) hx hb dX8_dusksBy_4 (by decide) ?_
  refine lv_istore_n (lv' := [(3, .int (0 : Int32)), (0, .ref t_q), (1, .int p1), (2, .int p2)]) hx hb dX8_dusksBy_5 rfl hl (by decide) rfl (fun ls hl => ?_)
  obtain ⟨x3_13, t_work_14, ho_5, hf⟩ := ob2_e hf
  have K_5 : ∀ (x3_13y : Int32) (t_work_14y : Nat → Int32), x3_13 = x3_13y → t_work_14 = t_work_14y → ∀ (H : Heap) (locs : List Loc) (ls : Array Slot), va_P g.1 vwCl [oX8 t_q t_state_q t_roomMany t_doorMany t_stringLong t_laws_q t_lawMany t_readPage_q t_readLaws_q t_readRooms t_readDoors t_readString t_readLawMany t_toldOnce t_highRoom t_highDoor t_tape_q t_taped t_fault t_broken t_brokenAt t_spot t_here t_token t_value t_cuts_q t_letters_q t_work_q t_pages_q t_canBe_q t_leadsOn_q t_seen_q t_seenMany t_heard_q t_heardMany t_isKept_q t_lanes_q t_lengths_q t_cells_q t_torn, aI g t_state_q 196 t_state, aI g t_work_q 30 t_work_14y] H → va_S A s.heap H locs → lv_has ls 4 [] → W p l e rmX8_dusksBy s m args below meth c H locs 0 0 Q (F0 m 50 ls []) := by
    intro x3_13y t_work_14y ey0 ey1 H locs ls hP hS hl
    subst ey0
    subst ey1
    exact hret t_work_14 (Option.some.inj hf) _ _ _ _ hP hS dX8_dusksBy_50
  have L_5 : ∀ (n : Nat) (v3_3 : Int32) (t_work_4 : Nat → Int32), itr (un2 (b_X8_dusksBy_6 t_roomMany p1 p2)) n (v3_3, t_work_4) = some (x3_13, t_work_14) → ∀ (H : Heap) (locs : List Loc) (ls : Array Slot), va_P g.1 vwCl [oX8 t_q t_state_q t_roomMany t_doorMany t_stringLong t_laws_q t_lawMany t_readPage_q t_readLaws_q t_readRooms t_readDoors t_readString t_readLawMany t_toldOnce t_highRoom t_highDoor t_tape_q t_taped t_fault t_broken t_brokenAt t_spot t_here t_token t_value t_cuts_q t_letters_q t_work_q t_pages_q t_canBe_q t_leadsOn_q t_seen_q t_seenMany t_heard_q t_heardMany t_isKept_q t_lanes_q t_lengths_q t_cells_q t_torn, aI g t_state_q 196 t_state, aI g t_work_q 30 t_work_4] H → va_S A s.heap H locs → lv_has ls 4 [(0, .ref t_q), (1, .int p1), (2, .int p2), (3, .int v3_3)] → W p l e rmX8_dusksBy s m args below meth c H locs 0 0 Q (F0 m 6 ls []) := by
    refine itr_ind2 ?_
    intro v3_3 t_work_4 z_5 hf hrec hex H locs ls hP hS hl
    unfold b_X8_dusksBy_6 at hf
    refine lv_iload_n hx hb dX8_dusksBy_6 rfl (lv_at hl 3 rfl) ?_
    refine lv_iload_n hx hb dX8_dusksBy_7 rfl (lv_at hl 2 rfl) ?_
    refine lv_icmp_ge (tgt := 50) hx hb dX8_dusksBy_8 (by decide) (fun c_6 => ?_) (fun c_6 => ?_)
    · have hf := ite_t hf c_6
      exact K_5 v3_3 t_work_4 (congrArg (fun t => t.1) (hex _ (Option.some.inj hf).symm).symm) (congrArg (fun t => t.2) (hex _ (Option.some.inj hf).symm).symm) _ _ _ hP hS (lv_sub hl [] rfl)
    · have hf := ite_f hf c_6
      refine lv_aload_n hx hb dX8_dusksBy_11 rfl (lv_at hl 0 rfl) ?_
      refine lv_iload_n hx hb dX8_dusksBy_12 rfl (lv_at hl 1 rfl) ?_
      refine lv_bipush (v := (100 : Int32)) hx hb dX8_dusksBy_13 (by decide) ?_
      refine lv_idiv hx hb dX8_dusksBy_15 (by decide) ?_
      refine lv_iload_n hx hb dX8_dusksBy_16 rfl (lv_at hl 1 rfl) ?_
      refine lv_sipush (v := (200 : Int32)) hx hb dX8_dusksBy_17 (by decide) ?_
      obtain ⟨j_8, hj_8, hf⟩ := jn1_e hf
      have J_8 : ∀ (s_7 : Int32), j_8 s_7 = some z_5 → ∀ (H : Heap) (locs : List Loc) (ls : Array Slot), va_P g.1 vwCl [oX8 t_q t_state_q t_roomMany t_doorMany t_stringLong t_laws_q t_lawMany t_readPage_q t_readLaws_q t_readRooms t_readDoors t_readString t_readLawMany t_toldOnce t_highRoom t_highDoor t_tape_q t_taped t_fault t_broken t_brokenAt t_spot t_here t_token t_value t_cuts_q t_letters_q t_work_q t_pages_q t_canBe_q t_leadsOn_q t_seen_q t_seenMany t_heard_q t_heardMany t_isKept_q t_lanes_q t_lengths_q t_cells_q t_torn, aI g t_state_q 196 t_state, aI g t_work_q 30 t_work_4] H → va_S A s.heap H locs → lv_has ls 4 [(0, .ref t_q), (1, .int p1), (2, .int p2), (3, .int v3_3)] → W p l e rmX8_dusksBy s m args below meth c H locs 0 0 Q (F0 m 37 ls [.int s_7, .int (p1 / (100 : Int32)), .ref t_q]) := by
        intro s_7 hf H locs ls hP hS hl
        rw [hj_8] at hf
        refine lv_iload_n hx hb dX8_dusksBy_37 rfl (lv_at hl 1 rfl) ?_
        refine lv_bipush (v := (10 : Int32)) hx hb dX8_dusksBy_38 (by decide) ?_
        refine lv_irem hx hb dX8_dusksBy_40 (by decide) ?_
        obtain ⟨t_work_9, hc_10, hf⟩ := ob1_e hf
        refine kV_v (wn := [oX8 t_q t_state_q t_roomMany t_doorMany t_stringLong t_laws_q t_lawMany t_readPage_q t_readLaws_q t_readRooms t_readDoors t_readString t_readLawMany t_toldOnce t_highRoom t_highDoor t_tape_q t_taped t_fault t_broken t_brokenAt t_spot t_here t_token t_value t_cuts_q t_letters_q t_work_q t_pages_q t_canBe_q t_leadsOn_q t_seen_q t_seenMany t_heard_q t_heardMany t_isKept_q t_lanes_q t_lengths_q t_cells_q t_torn, aI g t_state_q 196 t_state, aI g t_work_q 30 t_work_9]) (As := [.int (p1 / (100 : Int32)), .int s_7, .int (p1 - p1 / (10 : Int32) * (10 : Int32))]) (rest := []) (c_X8_doesRule l g _ t_q t_state_q t_laws_q t_readPage_q t_readLaws_q t_tape_q t_cuts_q t_letters_q t_work_q t_pages_q t_canBe_q t_leadsOn_q t_seen_q t_heard_q t_isKept_q t_lanes_q t_lengths_q t_cells_q t_roomMany t_doorMany t_stringLong t_lawMany t_readRooms t_readDoors t_readString t_readLawMany t_toldOnce t_highRoom t_highDoor t_taped t_fault t_broken t_brokenAt t_spot t_here t_token t_value t_seenMany t_heardMany t_torn t_work_4 (p1 / (100 : Int32)) s_7 (p1 - p1 / (10 : Int32) * (10 : Int32)) t_work_9 hc_10) ⟨hx, hb, hml, hown, hts⟩ (cwV 3 hts gX8_dusksBy_X8_doesRule rfl rfl rfl (by decide +kernel) ⟨by decide, by decide⟩) hK hz hk hP (hD.re rfl) hS hA [0, 2] rfl rfl rfl rfl rfl rfl rfl hl.1 rfl (Nat.le_of_ble_eq_true rfl) dX8_dusksBy_41 (fun H locs hP hS => ?_)
        obtain ⟨v3_11, ev3_11, hf⟩ := bnd_e hf
        refine lv_iinc (v := v3_11) (lv' := [(3, .int v3_11), (0, .ref t_q), (1, .int p1), (2, .int p2)]) hx hb dX8_dusksBy_44 hl (k := 3) rfl (by rw [ev3_11]; rfl) (by decide) rfl (fun ls hl => ?_)
        refine lv_goto (tgt := 6) hx hb dX8_dusksBy_47 (by decide) ?_
        exact hrec v3_11 t_work_9 (Option.some.inj hf).symm _ _ _ hP hS (lv_sub hl [1, 2, 3, 0] rfl)
      refine lv_icmp_ge (tgt := 33) hx hb dX8_dusksBy_20 (by decide) (fun c_12 => ?_) (fun c_12 => ?_)
      · have hf := ite_t hf c_12
        refine lv_iload_n hx hb dX8_dusksBy_33 rfl (lv_at hl 1 rfl) ?_
        refine lv_bipush (v := (10 : Int32)) hx hb dX8_dusksBy_34 (by decide) ?_
        refine lv_irem hx hb dX8_dusksBy_36 (by decide) ?_
        exact J_8 (p1 - p1 / (10 : Int32) * (10 : Int32)) hf _ _ _ hP hS (lv_sub hl [0, 1, 2, 3] rfl)
      · have hf := ite_f hf c_12
        refine lv_iload_n hx hb dX8_dusksBy_23 rfl (lv_at hl 1 rfl) ?_
        refine lv_bipush (v := (10 : Int32)) hx hb dX8_dusksBy_24 (by decide) ?_
        refine lv_idiv hx hb dX8_dusksBy_26 (by decide) ?_
        refine lv_bipush (v := (10 : Int32)) hx hb dX8_dusksBy_27 (by decide) ?_
        refine lv_irem hx hb dX8_dusksBy_29 (by decide) ?_
        refine lv_goto (tgt := 37) hx hb dX8_dusksBy_30 (by decide) ?_
        exact J_8 ((p1 / (10 : Int32)) - (p1 / (10 : Int32)) / (10 : Int32) * (10 : Int32)) hf _ _ _ hP hS (lv_sub hl [0, 1, 2, 3] rfl)
  exact L_5 FU (0 : Int32) t_work_1 ho_5 _ _ _ hP hS (lv_sub hl [1, 2, 3, 0] rfl)

def f_X8_end (t_taped : Int32) (p1 : Int32) : Option (Int32 × Int32) :=
 (ob1 (f_X8_in (p1.toInt64) (0 : Int64) (t_taped.toInt64)) (fun r_1 =>
 (if r_1 = (0 : Int32) then
 (some ((-1 : Int32), t_taped))
 else (some (t_taped, p1)))))
abbrev rmX8_end : Room := { frames := 1, cells := 0, slots := 0, locals := 25 }
set_option maxHeartbeats 4000000 in
set_option maxRecDepth 100000 in
theorem c_X8_end (l : Launch) (g : Gh) (sz : Nat) (t_q t_state_q t_laws_q t_readPage_q t_readLaws_q t_tape_q t_cuts_q t_letters_q t_work_q t_pages_q t_canBe_q t_leadsOn_q t_seen_q t_heard_q t_isKept_q t_lanes_q t_lengths_q t_cells_q : Nat) (t_roomMany : Int32) (t_doorMany : Int32) (t_stringLong : Int32) (t_lawMany : Int32) (t_readRooms : Int32) (t_readDoors : Int32) (t_readString : Int32) (t_readLawMany : Int32) (t_toldOnce : Int32) (t_highRoom : Int32) (t_highDoor : Int32) (t_taped : Int32) (t_fault : Int32) (t_broken : Int32) (t_brokenAt : Int32) (t_spot : Int32) (t_here : Int32) (t_token : Int32) (t_value : Int32) (t_seenMany : Int32) (t_heardMany : Int32) (t_torn : Int32) (p1 : Int32) (rr : Int32) (t_taped' : Int32) (hf : f_X8_end t_taped p1 = some (rr, t_taped')) : CI l yX8_end wsX8_end rmX8_end [.ref t_q, .int p1] g sz [oX8 t_q t_state_q t_roomMany t_doorMany t_stringLong t_laws_q t_lawMany t_readPage_q t_readLaws_q t_readRooms t_readDoors t_readString t_readLawMany t_toldOnce t_highRoom t_highDoor t_tape_q t_taped t_fault t_broken t_brokenAt t_spot t_here t_token t_value t_cuts_q t_letters_q t_work_q t_pages_q t_canBe_q t_leadsOn_q t_seen_q t_seenMany t_heard_q t_heardMany t_isKept_q t_lanes_q t_lengths_q t_cells_q t_torn] [oX8 t_q t_state_q t_roomMany t_doorMany t_stringLong t_laws_q t_lawMany t_readPage_q t_readLaws_q t_readRooms t_readDoors t_readString t_readLawMany t_toldOnce t_highRoom t_highDoor t_tape_q t_taped' t_fault t_broken t_brokenAt t_spot t_here t_token t_value t_cuts_q t_letters_q t_work_q t_pages_q t_canBe_q t_leadsOn_q t_seen_q t_seenMany t_heard_q t_heardMany t_isKept_q t_lanes_q t_lengths_q t_cells_q t_torn] rr := by
  refine ent_i (cc := cX8_end) (maxL := 3) (by decide) rfl (Nat.le_of_ble_eq_true rfl) ?_
  intro p e s m args below meth c A Q hx hb hml hown hts hK hz hk hA hD hP hS hret ls hl
  have hown : s.vm.findClass RX8 = some m.cls := hown
  have inX8 : ∀ w ∈ u_ws RX8 TX8 39, w ∈ wsX8_end := by decide +kernel
  have k69 := hts (.fieldLink RX8 69 "ThreadMovedModel" "taped" "I") (by decide +kernel)
  have hl : lv_has ls 3 [(0, .ref t_q), (1, .int p1)] := hl
  have hret : ∀ (rrz : Int32) (t_tapedz : Int32), (rrz, t_tapedz) = (rr, t_taped') → ∀ (H : Heap) (locs : List Loc) (pc : Nat) (ls : Array Slot), va_P g.1 vwCl [oX8 t_q t_state_q t_roomMany t_doorMany t_stringLong t_laws_q t_lawMany t_readPage_q t_readLaws_q t_readRooms t_readDoors t_readString t_readLawMany t_toldOnce t_highRoom t_highDoor t_tape_q t_tapedz t_fault t_broken t_brokenAt t_spot t_here t_token t_value t_cuts_q t_letters_q t_work_q t_pages_q t_canBe_q t_leadsOn_q t_seen_q t_seenMany t_heard_q t_heardMany t_isKept_q t_lanes_q t_lengths_q t_cells_q t_torn] H → va_S A s.heap H locs → decode cX8_end pc = .ok (.ireturn, 1) → W p l e rmX8_end s m args below meth c H locs 0 0 Q (F0 m pc ls [.int rrz]) := by
    intro rrz t_tapedz he H locs pc ls hP hS hd
    cases he
    exact hret H locs pc ls hP hS hd
  unfold f_X8_end at hf
  refine lv_iload_n hx hb dX8_end_0 rfl (lv_at hl 1 rfl) ?_
  refine lv_i2l hx hb dX8_end_1 rfl ?_
  refine lv_lconst (v := (0 : Int64)) hx hb dX8_end_2 (by decide) ?_
  refine lv_aload_n hx hb dX8_end_3 rfl (lv_at hl 0 rfl) ?_
  refine va_get (D := g.1) (ci := 8) (v := .int t_taped) (C := RX8) (T := TX8) (N := 39) hx hb hts inX8 hown hK hP 0 rfl rfl 16 (by decide) k69 (fun _ h9 => h9) rfl dX8_end_4 ?_
  refine lv_i2l hx hb dX8_end_7 rfl ?_
  obtain ⟨r_1, hc_2, hf⟩ := ob1_e hf
  refine kS_i (wn := [oX8 t_q t_state_q t_roomMany t_doorMany t_stringLong t_laws_q t_lawMany t_readPage_q t_readLaws_q t_readRooms t_readDoors t_readString t_readLawMany t_toldOnce t_highRoom t_highDoor t_tape_q t_taped t_fault t_broken t_brokenAt t_spot t_here t_token t_value t_cuts_q t_letters_q t_work_q t_pages_q t_canBe_q t_leadsOn_q t_seen_q t_seenMany t_heard_q t_heardMany t_isKept_q t_lanes_q t_lengths_q t_cells_q t_torn]) (As := [.long (p1.toInt64), .long (0 : Int64), .long (t_taped.toInt64)]) (rest := []) (c_X8_in l g _ (p1.toInt64) (0 : Int64) (t_taped.toInt64) r_1 hc_2) ⟨hx, hb, hml, hown, hts⟩ (va_cwS 3 hts gX8_end_X8_in rfl rfl rfl (by decide +kernel) ⟨by decide, by decide⟩) hK hz hk hP (hD.re rfl) hS hA [] rfl rfl rfl rfl rfl hl.1 rfl (Nat.le_of_ble_eq_true rfl) dX8_end_8 (fun H locs hP hS => ?_)
  refine lv_if_ne (tgt := 16) hx hb dX8_end_11 (by decide) (fun c_3 => ?_) (fun c_3 => ?_)
  · have hf := ite_f hf c_3
    refine lv_aload_n hx hb dX8_end_16 rfl (lv_at hl 0 rfl) ?_
    refine va_get (D := g.1) (ci := 8) (v := .int t_taped) (C := RX8) (T := TX8) (N := 39) hx hb hts inX8 hown hK hP 0 rfl rfl 16 (by decide) k69 (fun _ h9 => h9) rfl dX8_end_17 ?_
    refine lv_istore_n (lv' := [(2, .int t_taped), (0, .ref t_q), (1, .int p1)]) hx hb dX8_end_20 rfl hl (by decide) rfl (fun ls hl => ?_)
    refine lv_aload_n hx hb dX8_end_21 rfl (lv_at hl 1 rfl) ?_
    refine lv_iload_n hx hb dX8_end_22 rfl (lv_at hl 2 rfl) ?_
    refine va_put (D := g.1) (ci := 8) (v := .int p1) (ty := .int) (C := RX8) (T := TX8) (N := 39) hx hb hts inX8 tyX8 tyX8_ok nmX8 hown hK hP (hD.re rfl) hS 0 rfl rfl 16 (by decide) k69 (fun _ h9 => h9) rfl (by decide +kernel) rfl rfl (Nat.le_of_ble_eq_true rfl) dX8_end_23 (fun H locs hP _ hS => ?_)
    have hP : va_P g.1 vwCl [oX8 t_q t_state_q t_roomMany t_doorMany t_stringLong t_laws_q t_lawMany t_readPage_q t_readLaws_q t_readRooms t_readDoors t_readString t_readLawMany t_toldOnce t_highRoom t_highDoor t_tape_q p1 t_fault t_broken t_brokenAt t_spot t_here t_token t_value t_cuts_q t_letters_q t_work_q t_pages_q t_canBe_q t_leadsOn_q t_seen_q t_seenMany t_heard_q t_heardMany t_isKept_q t_lanes_q t_lengths_q t_cells_q t_torn] H := hP
    refine lv_iload_n hx hb dX8_end_26 rfl (lv_at hl 0 rfl) ?_
    exact hret t_taped p1 (Option.some.inj hf) _ _ _ _ hP hS dX8_end_27
  · have hf := ite_t hf c_3
    refine lv_iconst (v := (-1 : Int32)) hx hb dX8_end_14 (by decide) ?_
    exact hret (-1 : Int32) t_taped (Option.some.inj hf) _ _ _ _ hP hS dX8_end_15

def f_X8_fault (t_fault : Int32) : Option (Int32) :=
 (some t_fault)
abbrev rmX8_fault : Room := { frames := 0, cells := 0, slots := 0, locals := 0 }
set_option maxHeartbeats 4000000 in
set_option maxRecDepth 100000 in
theorem c_X8_fault (l : Launch) (g : Gh) (sz : Nat) (t_q t_state_q t_laws_q t_readPage_q t_readLaws_q t_tape_q t_cuts_q t_letters_q t_work_q t_pages_q t_canBe_q t_leadsOn_q t_seen_q t_heard_q t_isKept_q t_lanes_q t_lengths_q t_cells_q : Nat) (t_roomMany : Int32) (t_doorMany : Int32) (t_stringLong : Int32) (t_lawMany : Int32) (t_readRooms : Int32) (t_readDoors : Int32) (t_readString : Int32) (t_readLawMany : Int32) (t_toldOnce : Int32) (t_highRoom : Int32) (t_highDoor : Int32) (t_taped : Int32) (t_fault : Int32) (t_broken : Int32) (t_brokenAt : Int32) (t_spot : Int32) (t_here : Int32) (t_token : Int32) (t_value : Int32) (t_seenMany : Int32) (t_heardMany : Int32) (t_torn : Int32) (rr : Int32) (hf : f_X8_fault t_fault = some rr) : CI l yX8_fault wsX8_fault rmX8_fault [.ref t_q] g sz [oX8 t_q t_state_q t_roomMany t_doorMany t_stringLong t_laws_q t_lawMany t_readPage_q t_readLaws_q t_readRooms t_readDoors t_readString t_readLawMany t_toldOnce t_highRoom t_highDoor t_tape_q t_taped t_fault t_broken t_brokenAt t_spot t_here t_token t_value t_cuts_q t_letters_q t_work_q t_pages_q t_canBe_q t_leadsOn_q t_seen_q t_seenMany t_heard_q t_heardMany t_isKept_q t_lanes_q t_lengths_q t_cells_q t_torn] [oX8 t_q t_state_q t_roomMany t_doorMany t_stringLong t_laws_q t_lawMany t_readPage_q t_readLaws_q t_readRooms t_readDoors t_readString t_readLawMany t_toldOnce t_highRoom t_highDoor t_tape_q t_taped t_fault t_broken t_brokenAt t_spot t_here t_token t_value t_cuts_q t_letters_q t_work_q t_pages_q t_canBe_q t_leadsOn_q t_seen_q t_seenMany t_heard_q t_heardMany t_isKept_q t_lanes_q t_lengths_q t_cells_q t_torn] rr := by
  refine ent_i (cc := cX8_fault) (maxL := 1) (by decide) rfl (Nat.le_of_ble_eq_true rfl) ?_
  intro p e s m args below meth c A Q hx hb hml hown hts hK hz hk hA hD hP hS hret ls hl
  have hown : s.vm.findClass RX8 = some m.cls := hown
  have inX8 : ∀ w ∈ u_ws RX8 TX8 39, w ∈ wsX8_fault := by decide +kernel
  have k172 := hts (.fieldLink RX8 172 "ThreadMovedModel" "fault" "I") (by decide +kernel)
  have hl : lv_has ls 1 [(0, .ref t_q)] := hl
  have hret : ∀ (rrz : Int32), rrz = rr → ∀ (H : Heap) (locs : List Loc) (pc : Nat) (ls : Array Slot), va_P g.1 vwCl [oX8 t_q t_state_q t_roomMany t_doorMany t_stringLong t_laws_q t_lawMany t_readPage_q t_readLaws_q t_readRooms t_readDoors t_readString t_readLawMany t_toldOnce t_highRoom t_highDoor t_tape_q t_taped t_fault t_broken t_brokenAt t_spot t_here t_token t_value t_cuts_q t_letters_q t_work_q t_pages_q t_canBe_q t_leadsOn_q t_seen_q t_seenMany t_heard_q t_heardMany t_isKept_q t_lanes_q t_lengths_q t_cells_q t_torn] H → va_S A s.heap H locs → decode cX8_fault pc = .ok (.ireturn, 1) → W p l e rmX8_fault s m args below meth c H locs 0 0 Q (F0 m pc ls [.int rrz]) := by
    intro rrz he H locs pc ls hP hS hd
    cases he
    exact hret H locs pc ls hP hS hd
  unfold f_X8_fault at hf
  refine lv_aload_n hx hb dX8_fault_0 rfl (lv_at hl 0 rfl) ?_
  refine va_get (D := g.1) (ci := 8) (v := .int t_fault) (C := RX8) (T := TX8) (N := 39) hx hb hts inX8 hown hK hP 0 rfl rfl 17 (by decide) k172 (fun _ h9 => h9) rfl dX8_fault_1 ?_
  exact hret t_fault (Option.some.inj hf) _ _ _ _ hP hS dX8_fault_4

def b_X8_feed_19 (p1 : Int64) (v3_2 : Int32) (t_taped_3 : Int32) (t_tape_4 : Nat → Int32) : Option ((Int32 × Int32 × (Nat → Int32)) ⊕ (Int32 × Int32 × (Nat → Int32))) :=
 (if v3_2 < (0 : Int32) then
 (some (.inr (v3_2, t_taped_3, t_tape_4)))
 else (gin t_taped_3 320 (bnd (upd t_tape_4 t_taped_3.toNatClampNeg (((p1 >>> (v3_2.toInt64 &&& 63)).toInt32) &&& (255 : Int32))) (fun t_tape_8 =>
 (bnd (t_taped_3 + (1 : Int32)) (fun t_taped_9 =>
 (bnd (v3_2 + (-8 : Int32)) (fun v3_10 =>
 (some (.inl (v3_10, t_taped_9, t_tape_8)))))))))))
def f_X8_feed (t_taped : Int32) (t_tape : Nat → Int32) (p1 : Int64) : Option (Int32 × Int32 × (Nat → Int32)) :=
 (if (t_taped + (8 : Int32)) ≤ (320 : Int32) then
 (ob3 (itr (un3 (b_X8_feed_19 p1)) FU ((56 : Int32), t_taped, t_tape)) (fun x3_11 t_taped_12 t_tape_13 =>
 (some (t_taped_12, t_taped_12, t_tape_13))))
 else (some ((-3 : Int32), t_taped, t_tape)))
abbrev rmX8_feed : Room := { frames := 0, cells := 0, slots := 0, locals := 0 }
set_option maxHeartbeats 4000000 in
set_option maxRecDepth 100000 in
theorem c_X8_feed (l : Launch) (g : Gh) (sz : Nat) (t_q t_state_q t_laws_q t_readPage_q t_readLaws_q t_tape_q t_cuts_q t_letters_q t_work_q t_pages_q t_canBe_q t_leadsOn_q t_seen_q t_heard_q t_isKept_q t_lanes_q t_lengths_q t_cells_q : Nat) (t_roomMany : Int32) (t_doorMany : Int32) (t_stringLong : Int32) (t_lawMany : Int32) (t_readRooms : Int32) (t_readDoors : Int32) (t_readString : Int32) (t_readLawMany : Int32) (t_toldOnce : Int32) (t_highRoom : Int32) (t_highDoor : Int32) (t_taped : Int32) (t_fault : Int32) (t_broken : Int32) (t_brokenAt : Int32) (t_spot : Int32) (t_here : Int32) (t_token : Int32) (t_value : Int32) (t_seenMany : Int32) (t_heardMany : Int32) (t_torn : Int32) (t_tape : Nat → Int32) (p1 : Int64) (rr : Int32) (t_taped' : Int32) (t_tape' : Nat → Int32) (hf : f_X8_feed t_taped t_tape p1 = some (rr, t_taped', t_tape')) : CI l yX8_feed wsX8_feed rmX8_feed [.ref t_q, .long p1] g sz [oX8 t_q t_state_q t_roomMany t_doorMany t_stringLong t_laws_q t_lawMany t_readPage_q t_readLaws_q t_readRooms t_readDoors t_readString t_readLawMany t_toldOnce t_highRoom t_highDoor t_tape_q t_taped t_fault t_broken t_brokenAt t_spot t_here t_token t_value t_cuts_q t_letters_q t_work_q t_pages_q t_canBe_q t_leadsOn_q t_seen_q t_seenMany t_heard_q t_heardMany t_isKept_q t_lanes_q t_lengths_q t_cells_q t_torn, aI g t_tape_q 320 t_tape] [oX8 t_q t_state_q t_roomMany t_doorMany t_stringLong t_laws_q t_lawMany t_readPage_q t_readLaws_q t_readRooms t_readDoors t_readString t_readLawMany t_toldOnce t_highRoom t_highDoor t_tape_q t_taped' t_fault t_broken t_brokenAt t_spot t_here t_token t_value t_cuts_q t_letters_q t_work_q t_pages_q t_canBe_q t_leadsOn_q t_seen_q t_seenMany t_heard_q t_heardMany t_isKept_q t_lanes_q t_lengths_q t_cells_q t_torn, aI g t_tape_q 320 t_tape'] rr := by
  refine ent_i (cc := cX8_feed) (maxL := 4) (by decide) rfl (Nat.le_of_ble_eq_true rfl) ?_
  intro p e s m args below meth c A Q hx hb hml hown hts hK hz hk hA hD hP hS hret ls hl
  have hown : s.vm.findClass RX8 = some m.cls := hown
  have inX8 : ∀ w ∈ u_ws RX8 TX8 39, w ∈ wsX8_feed := by decide +kernel
  have k29 := hts (.fieldLink RX8 29 "ThreadMovedModel" "tape" "[I") (by decide +kernel)
  have k69 := hts (.fieldLink RX8 69 "ThreadMovedModel" "taped" "I") (by decide +kernel)
  have hl : lv_has ls 4 [(0, .ref t_q), (1, .long p1)] := hl
  have hret : ∀ (rrz : Int32) (t_tapedz : Int32) (t_tapez : Nat → Int32), (rrz, t_tapedz, t_tapez) = (rr, t_taped', t_tape') → ∀ (H : Heap) (locs : List Loc) (pc : Nat) (ls : Array Slot), va_P g.1 vwCl [oX8 t_q t_state_q t_roomMany t_doorMany t_stringLong t_laws_q t_lawMany t_readPage_q t_readLaws_q t_readRooms t_readDoors t_readString t_readLawMany t_toldOnce t_highRoom t_highDoor t_tape_q t_tapedz t_fault t_broken t_brokenAt t_spot t_here t_token t_value t_cuts_q t_letters_q t_work_q t_pages_q t_canBe_q t_leadsOn_q t_seen_q t_seenMany t_heard_q t_heardMany t_isKept_q t_lanes_q t_lengths_q t_cells_q t_torn, aI g t_tape_q 320 t_tapez] H → va_S A s.heap H locs → decode cX8_feed pc = .ok (.ireturn, 1) → W p l e rmX8_feed s m args below meth c H locs 0 0 Q (F0 m pc ls [.int rrz]) := by
    intro rrz t_tapedz t_tapez he H locs pc ls hP hS hd
    cases he
    exact hret H locs pc ls hP hS hd
  unfold f_X8_feed at hf
  refine lv_aload_n hx hb dX8_feed_0 rfl (lv_at hl 0 rfl) ?_
  refine va_get (D := g.1) (ci := 8) (v := .int t_taped) (C := RX8) (T := TX8) (N := 39) hx hb hts inX8 hown hK hP 0 rfl rfl 16 (by decide) k69 (fun _ h9 => h9) rfl dX8_feed_1 ?_
  refine lv_bipush (v := (8 : Int32)) hx hb dX8_feed_4 (by decide) ?_
  refine lv_iadd hx hb dX8_feed_6 ?_
  refine lv_sipush (v := (320 : Int32)) hx hb dX8_feed_7 (by decide) ?_
  refine lv_icmp_le (tgt := 16) hx hb dX8_feed_10 (by decide) (fun c_1 => ?_) (fun c_1 => ?_)
  · have hf := ite_t hf c_1
    refine lv_bipush (v := (56 : Int32)) hx hb dX8_feed_16 (by decide) ?_
    refine lv_istore_n (lv' := [(3, .int (56 : Int32)), (0, .ref t_q), (1, .long p1)]) hx hb dX8_feed_18 rfl hl (by decide) rfl (fun ls hl => ?_)
    obtain ⟨x3_11, t_taped_12, t_tape_13, ho_5, hf⟩ := ob3_e hf
    have K_5 : ∀ (x3_11y : Int32) (t_taped_12y : Int32) (t_tape_13y : Nat → Int32), x3_11 = x3_11y → t_taped_12 = t_taped_12y → t_tape_13 = t_tape_13y → ∀ (H : Heap) (locs : List Loc) (ls : Array Slot), va_P g.1 vwCl [oX8 t_q t_state_q t_roomMany t_doorMany t_stringLong t_laws_q t_lawMany t_readPage_q t_readLaws_q t_readRooms t_readDoors t_readString t_readLawMany t_toldOnce t_highRoom t_highDoor t_tape_q t_taped_12y t_fault t_broken t_brokenAt t_spot t_here t_token t_value t_cuts_q t_letters_q t_work_q t_pages_q t_canBe_q t_leadsOn_q t_seen_q t_seenMany t_heard_q t_heardMany t_isKept_q t_lanes_q t_lengths_q t_cells_q t_torn, aI g t_tape_q 320 t_tape_13y] H → va_S A s.heap H locs → lv_has ls 4 [(0, .ref t_q)] → W p l e rmX8_feed s m args below meth c H locs 0 0 Q (F0 m 56 ls []) := by
      intro x3_11y t_taped_12y t_tape_13y ey0 ey1 ey2 H locs ls hP hS hl
      subst ey0
      subst ey1
      subst ey2
      refine lv_aload_n hx hb dX8_feed_56 rfl (lv_at hl 0 rfl) ?_
      refine va_get (D := g.1) (ci := 8) (v := .int t_taped_12) (C := RX8) (T := TX8) (N := 39) hx hb hts inX8 hown hK hP 0 rfl rfl 16 (by decide) k69 (fun _ h9 => h9) rfl dX8_feed_57 ?_
      exact hret t_taped_12 t_taped_12 t_tape_13 (Option.some.inj hf) _ _ _ _ hP hS dX8_feed_60
    have L_5 : ∀ (n : Nat) (v3_2 : Int32) (t_taped_3 : Int32) (t_tape_4 : Nat → Int32), itr (un3 (b_X8_feed_19 p1)) n (v3_2, t_taped_3, t_tape_4) = some (x3_11, t_taped_12, t_tape_13) → ∀ (H : Heap) (locs : List Loc) (ls : Array Slot), va_P g.1 vwCl [oX8 t_q t_state_q t_roomMany t_doorMany t_stringLong t_laws_q t_lawMany t_readPage_q t_readLaws_q t_readRooms t_readDoors t_readString t_readLawMany t_toldOnce t_highRoom t_highDoor t_tape_q t_taped_3 t_fault t_broken t_brokenAt t_spot t_here t_token t_value t_cuts_q t_letters_q t_work_q t_pages_q t_canBe_q t_leadsOn_q t_seen_q t_seenMany t_heard_q t_heardMany t_isKept_q t_lanes_q t_lengths_q t_cells_q t_torn, aI g t_tape_q 320 t_tape_4] H → va_S A s.heap H locs → lv_has ls 4 [(0, .ref t_q), (1, .long p1), (3, .int v3_2)] → W p l e rmX8_feed s m args below meth c H locs 0 0 Q (F0 m 19 ls []) := by
      refine itr_ind3 ?_
      intro v3_2 t_taped_3 t_tape_4 z_5 hf hrec hex H locs ls hP hS hl
      unfold b_X8_feed_19 at hf
      refine lv_iload_n hx hb dX8_feed_19 rfl (lv_at hl 2 rfl) ?_
      refine lv_if_lt (tgt := 56) hx hb dX8_feed_20 (by decide) (fun c_6 => ?_) (fun c_6 => ?_)
      · have hf := ite_t hf c_6
        exact K_5 v3_2 t_taped_3 t_tape_4 (congrArg (fun t => t.1) (hex _ (Option.some.inj hf).symm).symm) (congrArg (fun t => t.2.1) (hex _ (Option.some.inj hf).symm).symm) (congrArg (fun t => t.2.2) (hex _ (Option.some.inj hf).symm).symm) _ _ _ hP hS (lv_sub hl [0] rfl)
      · have hf := ite_f hf c_6
        refine lv_aload_n hx hb dX8_feed_23 rfl (lv_at hl 0 rfl) ?_
        refine va_get (D := g.1) (ci := 8) (v := .ref t_tape_q) (C := RX8) (T := TX8) (N := 39) hx hb hts inX8 hown hK hP 0 rfl rfl 15 (by decide) k29 (fun _ h9 => h9) rfl dX8_feed_24 ?_
        refine lv_aload_n hx hb dX8_feed_27 rfl (lv_at hl 0 rfl) ?_
        refine va_get (D := g.1) (ci := 8) (v := .int t_taped_3) (C := RX8) (T := TX8) (N := 39) hx hb hts inX8 hown hK hP 0 rfl rfl 16 (by decide) k69 (fun _ h9 => h9) rfl dX8_feed_28 ?_
        refine lv_lload_n hx hb dX8_feed_31 rfl (lv_at hl 1 rfl) ?_
        refine lv_iload_n hx hb dX8_feed_32 rfl (lv_at hl 2 rfl) ?_
        refine lv_lshr hx hb dX8_feed_33 rfl ?_
        refine lv_l2i hx hb dX8_feed_34 rfl ?_
        refine lv_sipush (v := (255 : Int32)) hx hb dX8_feed_35 (by decide) ?_
        refine lv_iand hx hb dX8_feed_38 ?_
        obtain ⟨h_7, hf⟩ := gin_e hf
        obtain ⟨t_tape_8, et_tape_8, hf⟩ := bnd_e hf
        refine va_iast hx hb hK hP (hD.re rfl) hS 1 0 rfl rfl h_7 dX8_feed_39 (fun H locs hP _ hS => ?_)
        have hP : va_P g.1 vwCl [oX8 t_q t_state_q t_roomMany t_doorMany t_stringLong t_laws_q t_lawMany t_readPage_q t_readLaws_q t_readRooms t_readDoors t_readString t_readLawMany t_toldOnce t_highRoom t_highDoor t_tape_q t_taped_3 t_fault t_broken t_brokenAt t_spot t_here t_token t_value t_cuts_q t_letters_q t_work_q t_pages_q t_canBe_q t_leadsOn_q t_seen_q t_seenMany t_heard_q t_heardMany t_isKept_q t_lanes_q t_lengths_q t_cells_q t_torn, aI g t_tape_q 320 t_tape_8] H := by rw [et_tape_8]; exact hP
        refine lv_aload_n hx hb dX8_feed_40 rfl (lv_at hl 0 rfl) ?_
        refine lv_dup hx hb dX8_feed_41 rfl ?_
        refine va_get (D := g.1) (ci := 8) (v := .int t_taped_3) (C := RX8) (T := TX8) (N := 39) hx hb hts inX8 hown hK hP 0 rfl rfl 16 (by decide) k69 (fun _ h9 => h9) rfl dX8_feed_42 ?_
        refine lv_iconst (v := (1 : Int32)) hx hb dX8_feed_45 (by decide) ?_
        refine lv_iadd hx hb dX8_feed_46 ?_
        obtain ⟨t_taped_9, et_taped_9, hf⟩ := bnd_e hf
        refine tp_i et_taped_9 ?_
        refine va_put (D := g.1) (ci := 8) (v := .int t_taped_9) (ty := .int) (C := RX8) (T := TX8) (N := 39) hx hb hts inX8 tyX8 tyX8_ok nmX8 hown hK hP (hD.re rfl) hS 0 rfl rfl 16 (by decide) k69 (fun _ h9 => h9) rfl (by decide +kernel) rfl rfl (Nat.le_of_ble_eq_true rfl) dX8_feed_47 (fun H locs hP _ hS => ?_)
        have hP : va_P g.1 vwCl [oX8 t_q t_state_q t_roomMany t_doorMany t_stringLong t_laws_q t_lawMany t_readPage_q t_readLaws_q t_readRooms t_readDoors t_readString t_readLawMany t_toldOnce t_highRoom t_highDoor t_tape_q t_taped_9 t_fault t_broken t_brokenAt t_spot t_here t_token t_value t_cuts_q t_letters_q t_work_q t_pages_q t_canBe_q t_leadsOn_q t_seen_q t_seenMany t_heard_q t_heardMany t_isKept_q t_lanes_q t_lengths_q t_cells_q t_torn, aI g t_tape_q 320 t_tape_8] H := hP
        obtain ⟨v3_10, ev3_10, hf⟩ := bnd_e hf
        refine lv_iinc (v := v3_10) (lv' := [(3, .int v3_10), (0, .ref t_q), (1, .long p1)]) hx hb dX8_feed_50 hl (k := 2) rfl (by rw [ev3_10]; rfl) (by decide) rfl (fun ls hl => ?_)
        refine lv_goto (tgt := 19) hx hb dX8_feed_53 (by decide) ?_
        exact hrec v3_10 t_taped_9 t_tape_8 (Option.some.inj hf).symm _ _ _ hP hS (lv_sub hl [1, 2, 0] rfl)
    exact L_5 FU (56 : Int32) t_taped t_tape ho_5 _ _ _ hP hS (lv_sub hl [1, 2, 0] rfl)
  · have hf := ite_f hf c_1
    refine lv_bipush (v := (-3 : Int32)) hx hb dX8_feed_13 (by decide) ?_
    exact hret (-3 : Int32) t_taped t_tape (Option.some.inj hf) _ _ _ _ hP hS dX8_feed_15

def f_X8_forget (t_seenMany : Int32) (p1 : Int32) : Option (Int32 × Int32) :=
 (ob1 (f_X8_in (p1.toInt64) (0 : Int64) (t_seenMany.toInt64)) (fun r_1 =>
 (if r_1 = (0 : Int32) then
 (some ((-1 : Int32), t_seenMany))
 else (some (t_seenMany, p1)))))
abbrev rmX8_forget : Room := { frames := 1, cells := 0, slots := 0, locals := 25 }
set_option maxHeartbeats 4000000 in
set_option maxRecDepth 100000 in
theorem c_X8_forget (l : Launch) (g : Gh) (sz : Nat) (t_q t_state_q t_laws_q t_readPage_q t_readLaws_q t_tape_q t_cuts_q t_letters_q t_work_q t_pages_q t_canBe_q t_leadsOn_q t_seen_q t_heard_q t_isKept_q t_lanes_q t_lengths_q t_cells_q : Nat) (t_roomMany : Int32) (t_doorMany : Int32) (t_stringLong : Int32) (t_lawMany : Int32) (t_readRooms : Int32) (t_readDoors : Int32) (t_readString : Int32) (t_readLawMany : Int32) (t_toldOnce : Int32) (t_highRoom : Int32) (t_highDoor : Int32) (t_taped : Int32) (t_fault : Int32) (t_broken : Int32) (t_brokenAt : Int32) (t_spot : Int32) (t_here : Int32) (t_token : Int32) (t_value : Int32) (t_seenMany : Int32) (t_heardMany : Int32) (t_torn : Int32) (p1 : Int32) (rr : Int32) (t_seenMany' : Int32) (hf : f_X8_forget t_seenMany p1 = some (rr, t_seenMany')) : CI l yX8_forget wsX8_forget rmX8_forget [.ref t_q, .int p1] g sz [oX8 t_q t_state_q t_roomMany t_doorMany t_stringLong t_laws_q t_lawMany t_readPage_q t_readLaws_q t_readRooms t_readDoors t_readString t_readLawMany t_toldOnce t_highRoom t_highDoor t_tape_q t_taped t_fault t_broken t_brokenAt t_spot t_here t_token t_value t_cuts_q t_letters_q t_work_q t_pages_q t_canBe_q t_leadsOn_q t_seen_q t_seenMany t_heard_q t_heardMany t_isKept_q t_lanes_q t_lengths_q t_cells_q t_torn] [oX8 t_q t_state_q t_roomMany t_doorMany t_stringLong t_laws_q t_lawMany t_readPage_q t_readLaws_q t_readRooms t_readDoors t_readString t_readLawMany t_toldOnce t_highRoom t_highDoor t_tape_q t_taped t_fault t_broken t_brokenAt t_spot t_here t_token t_value t_cuts_q t_letters_q t_work_q t_pages_q t_canBe_q t_leadsOn_q t_seen_q t_seenMany' t_heard_q t_heardMany t_isKept_q t_lanes_q t_lengths_q t_cells_q t_torn] rr := by
  refine ent_i (cc := cX8_forget) (maxL := 3) (by decide) rfl (Nat.le_of_ble_eq_true rfl) ?_
  intro p e s m args below meth c A Q hx hb hml hown hts hK hz hk hA hD hP hS hret ls hl
  have hown : s.vm.findClass RX8 = some m.cls := hown
  have inX8 : ∀ w ∈ u_ws RX8 TX8 39, w ∈ wsX8_forget := by decide +kernel
  have k181 := hts (.fieldLink RX8 181 "ThreadMovedModel" "seenMany" "I") (by decide +kernel)
  have hl : lv_has ls 3 [(0, .ref t_q), (1, .int p1)] := hl
  have hret : ∀ (rrz : Int32) (t_seenManyz : Int32), (rrz, t_seenManyz) = (rr, t_seenMany') → ∀ (H : Heap) (locs : List Loc) (pc : Nat) (ls : Array Slot), va_P g.1 vwCl [oX8 t_q t_state_q t_roomMany t_doorMany t_stringLong t_laws_q t_lawMany t_readPage_q t_readLaws_q t_readRooms t_readDoors t_readString t_readLawMany t_toldOnce t_highRoom t_highDoor t_tape_q t_taped t_fault t_broken t_brokenAt t_spot t_here t_token t_value t_cuts_q t_letters_q t_work_q t_pages_q t_canBe_q t_leadsOn_q t_seen_q t_seenManyz t_heard_q t_heardMany t_isKept_q t_lanes_q t_lengths_q t_cells_q t_torn] H → va_S A s.heap H locs → decode cX8_forget pc = .ok (.ireturn, 1) → W p l e rmX8_forget s m args below meth c H locs 0 0 Q (F0 m pc ls [.int rrz]) := by
    intro rrz t_seenManyz he H locs pc ls hP hS hd
    cases he
    exact hret H locs pc ls hP hS hd
  unfold f_X8_forget at hf
  refine lv_iload_n hx hb dX8_forget_0 rfl (lv_at hl 1 rfl) ?_
  refine lv_i2l hx hb dX8_forget_1 rfl ?_
  refine lv_lconst (v := (0 : Int64)) hx hb dX8_forget_2 (by decide) ?_
  refine lv_aload_n hx hb dX8_forget_3 rfl (lv_at hl 0 rfl) ?_
  refine va_get (D := g.1) (ci := 8) (v := .int t_seenMany) (C := RX8) (T := TX8) (N := 39) hx hb hts inX8 hown hK hP 0 rfl rfl 31 (by decide) k181 (fun _ h9 => h9) rfl dX8_forget_4 ?_
  refine lv_i2l hx hb dX8_forget_7 rfl ?_
  obtain ⟨r_1, hc_2, hf⟩ := ob1_e hf
  refine kS_i (wn := [oX8 t_q t_state_q t_roomMany t_doorMany t_stringLong t_laws_q t_lawMany t_readPage_q t_readLaws_q t_readRooms t_readDoors t_readString t_readLawMany t_toldOnce t_highRoom t_highDoor t_tape_q t_taped t_fault t_broken t_brokenAt t_spot t_here t_token t_value t_cuts_q t_letters_q t_work_q t_pages_q t_canBe_q t_leadsOn_q t_seen_q t_seenMany t_heard_q t_heardMany t_isKept_q t_lanes_q t_lengths_q t_cells_q t_torn]) (As := [.long (p1.toInt64), .long (0 : Int64), .long (t_seenMany.toInt64)]) (rest := []) (c_X8_in l g _ (p1.toInt64) (0 : Int64) (t_seenMany.toInt64) r_1 hc_2) ⟨hx, hb, hml, hown, hts⟩ (va_cwS 3 hts gX8_forget_X8_in rfl rfl rfl (by decide +kernel) ⟨by decide, by decide⟩) hK hz hk hP (hD.re rfl) hS hA [] rfl rfl rfl rfl rfl hl.1 rfl (Nat.le_of_ble_eq_true rfl) dX8_forget_8 (fun H locs hP hS => ?_)
  refine lv_if_ne (tgt := 16) hx hb dX8_forget_11 (by decide) (fun c_3 => ?_) (fun c_3 => ?_)
  · have hf := ite_f hf c_3
    refine lv_aload_n hx hb dX8_forget_16 rfl (lv_at hl 0 rfl) ?_
    refine va_get (D := g.1) (ci := 8) (v := .int t_seenMany) (C := RX8) (T := TX8) (N := 39) hx hb hts inX8 hown hK hP 0 rfl rfl 31 (by decide) k181 (fun _ h9 => h9) rfl dX8_forget_17 ?_
    refine lv_istore_n (lv' := [(2, .int t_seenMany), (0, .ref t_q), (1, .int p1)]) hx hb dX8_forget_20 rfl hl (by decide) rfl (fun ls hl => ?_)
    refine lv_aload_n hx hb dX8_forget_21 rfl (lv_at hl 1 rfl) ?_
    refine lv_iload_n hx hb dX8_forget_22 rfl (lv_at hl 2 rfl) ?_
    refine va_put (D := g.1) (ci := 8) (v := .int p1) (ty := .int) (C := RX8) (T := TX8) (N := 39) hx hb hts inX8 tyX8 tyX8_ok nmX8 hown hK hP (hD.re rfl) hS 0 rfl rfl 31 (by decide) k181 (fun _ h9 => h9) rfl (by decide +kernel) rfl rfl (Nat.le_of_ble_eq_true rfl) dX8_forget_23 (fun H locs hP _ hS => ?_)
    have hP : va_P g.1 vwCl [oX8 t_q t_state_q t_roomMany t_doorMany t_stringLong t_laws_q t_lawMany t_readPage_q t_readLaws_q t_readRooms t_readDoors t_readString t_readLawMany t_toldOnce t_highRoom t_highDoor t_tape_q t_taped t_fault t_broken t_brokenAt t_spot t_here t_token t_value t_cuts_q t_letters_q t_work_q t_pages_q t_canBe_q t_leadsOn_q t_seen_q p1 t_heard_q t_heardMany t_isKept_q t_lanes_q t_lengths_q t_cells_q t_torn] H := hP
    refine lv_iload_n hx hb dX8_forget_26 rfl (lv_at hl 0 rfl) ?_
    exact hret t_seenMany p1 (Option.some.inj hf) _ _ _ _ hP hS dX8_forget_27
  · have hf := ite_t hf c_3
    refine lv_iconst (v := (-1 : Int32)) hx hb dX8_forget_14 (by decide) ?_
    exact hret (-1 : Int32) t_seenMany (Option.some.inj hf) _ _ _ _ hP hS dX8_forget_15
