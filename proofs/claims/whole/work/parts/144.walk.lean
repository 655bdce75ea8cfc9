def b_X8_layBack_2 (p1 : Int32) (p2 : Int32) (v3_1 : Int32) (t_leadsOn_2 : Nat → Int32) : Option ((Int32 × (Nat → Int32)) ⊕ (Int32 × (Nat → Int32))) :=
 (if (56 : Int32) ≤ v3_1 then
 (some (.inr (v3_1, t_leadsOn_2)))
 else (jn1 (fun (s_5 : Int32) => (gin (((56 : Int32) * p1) + v3_1) 1400 (bnd (upd t_leadsOn_2 (((56 : Int32) * p1) + v3_1).toNatClampNeg s_5) (fun t_leadsOn_8 =>
 (bnd (v3_1 + (1 : Int32)) (fun v3_9 =>
 (some (.inl (v3_9, t_leadsOn_8))))))))) (fun j_6 =>
 (if (v3_1 / (8 : Int32)) = p2 then
 (j_6 (1 : Int32))
 else (j_6 (0 : Int32))))))
def b_X8_layBack_65 (t_doorMany : Int32) (t_pages : Nat → Int32) (t_state : Nat → Int32) (v3_14 : Int32) (v4_18 : Int32) (v5_21 : Int32) (t_leadsOn_22 : Nat → Int32) : Option ((Int32 × (Nat → Int32)) ⊕ (Int32 × (Nat → Int32))) :=
 (if (10 : Int32) < v5_21 then
 (some (.inr (v5_21, t_leadsOn_22)))
 else (jn1 (fun (s_25 : Int32) => (ob1 (f_X8_after t_doorMany t_pages t_state v4_18 ((v3_14 - v3_14 / (56 : Int32) * (56 : Int32)) / (8 : Int32)) s_25 v5_21) (fun r_27 =>
 (jn1 (fun (t_leadsOn_29 : Nat → Int32) => (bnd (v5_21 + (1 : Int32)) (fun v5_31 =>
 (some (.inl (v5_31, t_leadsOn_29)))))) (fun j_30 =>
 (if r_27 = (-4 : Int32) then
 (j_30 t_leadsOn_22)
 else (gin ((((56 : Int32) * (v4_18 + (1 : Int32))) + ((8 : Int32) * (r_27 - r_27 / (10 : Int32) * (10 : Int32)))) + (r_27 / (10 : Int32))) 1400 (if (t_leadsOn_22 ((((56 : Int32) * (v4_18 + (1 : Int32))) + ((8 : Int32) * (r_27 - r_27 / (10 : Int32) * (10 : Int32)))) + (r_27 / (10 : Int32))).toNatClampNeg) = (1 : Int32) then
 (gin v3_14 1400 (bnd (upd t_leadsOn_22 v3_14.toNatClampNeg (1 : Int32)) (fun t_leadsOn_36 =>
 (j_30 t_leadsOn_36))))
 else (j_30 t_leadsOn_22))))))))) (fun j_26 =>
 (if (v3_14 - v3_14 / (8 : Int32) * (8 : Int32)) = (0 : Int32) then
 (j_26 (-4 : Int32))
 else (j_26 ((v3_14 - v3_14 / (8 : Int32) * (8 : Int32)) - (1 : Int32)))))))
def b_X8_layBack_45 (t_doorMany : Int32) (t_pages : Nat → Int32) (t_state : Nat → Int32) (v3_14 : Int32) (t_leadsOn_15 : Nat → Int32) : Option ((Int32 × (Nat → Int32)) ⊕ (Int32 × (Nat → Int32))) :=
 (if v3_14 < (0 : Int32) then
 (some (.inr (v3_14, t_leadsOn_15)))
 else (bnd (v3_14 / (56 : Int32)) (fun v4_18 =>
 (gin v3_14 1400 (bnd (upd t_leadsOn_15 v3_14.toNatClampNeg (0 : Int32)) (fun t_leadsOn_20 =>
 (ob2 (itr (un2 (b_X8_layBack_65 t_doorMany t_pages t_state v3_14 v4_18)) FU ((0 : Int32), t_leadsOn_20)) (fun x5_38 t_leadsOn_39 =>
 (bnd (v3_14 + (-1 : Int32)) (fun v3_40 =>
 (some (.inl (v3_40, t_leadsOn_39)))))))))))))
def f_X8_layBack (t_doorMany : Int32) (t_leadsOn : Nat → Int32) (t_pages : Nat → Int32) (t_state : Nat → Int32) (p1 : Int32) (p2 : Int32) : Option ((Nat → Int32)) :=
 (ob2 (itr (un2 (b_X8_layBack_2 p1 p2)) FU ((0 : Int32), t_leadsOn)) (fun x3_11 t_leadsOn_12 =>
 (bnd (((56 : Int32) * p1) - (1 : Int32)) (fun v3_13 =>
 (ob2 (itr (un2 (b_X8_layBack_45 t_doorMany t_pages t_state)) FU (v3_13, t_leadsOn_12)) (fun x3_41 t_leadsOn_42 =>
 (some t_leadsOn_42)))))))
abbrev rmX8_layBack : Room := { frames := 4, cells := 0, slots := 0, locals := 106 }
set_option maxHeartbeats 4000000 in
set_option maxRecDepth 100000 in
theorem c_X8_layBack (l : Launch) (g : Gh) (sz : Nat) (t_q t_state_q t_laws_q t_readPage_q t_readLaws_q t_tape_q t_cuts_q t_letters_q t_work_q t_pages_q t_canBe_q t_leadsOn_q t_seen_q t_heard_q t_isKept_q t_lanes_q t_lengths_q t_cells_q : Nat) (t_roomMany : Int32) (t_doorMany : Int32) (t_stringLong : Int32) (t_lawMany : Int32) (t_readRooms : Int32) (t_readDoors : Int32) (t_readString : Int32) (t_readLawMany : Int32) (t_toldOnce : Int32) (t_highRoom : Int32) (t_highDoor : Int32) (t_taped : Int32) (t_fault : Int32) (t_broken : Int32) (t_brokenAt : Int32) (t_spot : Int32) (t_here : Int32) (t_token : Int32) (t_value : Int32) (t_seenMany : Int32) (t_heardMany : Int32) (t_torn : Int32) (t_leadsOn : Nat → Int32) (t_pages : Nat → Int32) (t_state : Nat → Int32) (p1 : Int32) (p2 : Int32) (t_leadsOn' : Nat → Int32) (hf : f_X8_layBack t_doorMany t_leadsOn t_pages t_state p1 p2 = some t_leadsOn') : CV l yX8_layBack wsX8_layBack rmX8_layBack [.ref t_q, .int p1, .int p2] g sz [oX8 t_q t_state_q t_roomMany t_doorMany t_stringLong t_laws_q t_lawMany t_readPage_q t_readLaws_q t_readRooms t_readDoors t_readString t_readLawMany t_toldOnce t_highRoom t_highDoor t_tape_q t_taped t_fault t_broken t_brokenAt t_spot t_here t_token t_value t_cuts_q t_letters_q t_work_q t_pages_q t_canBe_q t_leadsOn_q t_seen_q t_seenMany t_heard_q t_heardMany t_isKept_q t_lanes_q t_lengths_q t_cells_q t_torn, aI g t_leadsOn_q 1400 t_leadsOn, aI g t_pages_q 750 t_pages, aI g t_state_q 196 t_state] [oX8 t_q t_state_q t_roomMany t_doorMany t_stringLong t_laws_q t_lawMany t_readPage_q t_readLaws_q t_readRooms t_readDoors t_readString t_readLawMany t_toldOnce t_highRoom t_highDoor t_tape_q t_taped t_fault t_broken t_brokenAt t_spot t_here t_token t_value t_cuts_q t_letters_q t_work_q t_pages_q t_canBe_q t_leadsOn_q t_seen_q t_seenMany t_heard_q t_heardMany t_isKept_q t_lanes_q t_lengths_q t_cells_q t_torn, aI g t_leadsOn_q 1400 t_leadsOn', aI g t_pages_q 750 t_pages, aI g t_state_q 196 t_state] := by
  refine ent_v (cc := cX8_layBack) (maxL := 7) (by decide) rfl (Nat.le_of_ble_eq_true rfl) ?_
  intro p e s m args below meth c A Q hx hb hml hown hts hK hz hk hA hD hP hS hret ls hl
  have hown : s.vm.findClass RX8 = some m.cls := hown
  have inX8 : ∀ w ∈ u_ws RX8 TX8 39, w ∈ wsX8_layBack := by decide +kernel
  have k47 := hts (.fieldLink RX8 47 "ThreadMovedModel" "leadsOn" "[I") (by decide +kernel)
  have hl : lv_has ls 7 [(0, .ref t_q), (1, .int p1), (2, .int p2)] := hl
  have hret : ∀ (t_leadsOnz : Nat → Int32), t_leadsOnz = t_leadsOn' → ∀ (H : Heap) (locs : List Loc) (pc : Nat) (ls : Array Slot), va_P g.1 vwCl [oX8 t_q t_state_q t_roomMany t_doorMany t_stringLong t_laws_q t_lawMany t_readPage_q t_readLaws_q t_readRooms t_readDoors t_readString t_readLawMany t_toldOnce t_highRoom t_highDoor t_tape_q t_taped t_fault t_broken t_brokenAt t_spot t_here t_token t_value t_cuts_q t_letters_q t_work_q t_pages_q t_canBe_q t_leadsOn_q t_seen_q t_seenMany t_heard_q t_heardMany t_isKept_q t_lanes_q t_lengths_q t_cells_q t_torn, aI g t_leadsOn_q 1400 t_leadsOnz, aI g t_pages_q 750 t_pages, aI g t_state_q 196 t_state] H → va_S A s.heap H locs → decode cX8_layBack pc = .ok (.return_, 1) → W p l e rmX8_layBack s m args below meth c H locs 0 0 Q (F0 m pc ls []) := by
    intro t_leadsOnz he H locs pc ls hP hS hd
    cases he
    exact hret H locs pc ls hP hS hd
  unfold f_X8_layBack at hf
  refine lv_iconst (v := (0 : Int32)) hx hb dX8_layBack_0 (by decide) ?_
  refine lv_istore_n (lv' := [(3, .int (0 : Int32)), (0, .ref t_q), (1, .int p1), (2, .int p2)]) hx hb dX8_layBack_1 rfl hl (by decide) rfl (fun ls hl => ?_)
  obtain ⟨x3_11, t_leadsOn_12, ho_3, hf⟩ := ob2_e hf
  have K_3 : ∀ (x3_11y : Int32) (t_leadsOn_12y : Nat → Int32), x3_11 = x3_11y → t_leadsOn_12 = t_leadsOn_12y → ∀ (H : Heap) (locs : List Loc) (ls : Array Slot), va_P g.1 vwCl [oX8 t_q t_state_q t_roomMany t_doorMany t_stringLong t_laws_q t_lawMany t_readPage_q t_readLaws_q t_readRooms t_readDoors t_readString t_readLawMany t_toldOnce t_highRoom t_highDoor t_tape_q t_taped t_fault t_broken t_brokenAt t_spot t_here t_token t_value t_cuts_q t_letters_q t_work_q t_pages_q t_canBe_q t_leadsOn_q t_seen_q t_seenMany t_heard_q t_heardMany t_isKept_q t_lanes_q t_lengths_q t_cells_q t_torn, aI g t_leadsOn_q 1400 t_leadsOn_12y, aI g t_pages_q 750 t_pages, aI g t_state_q 196 t_state] H → va_S A s.heap H locs → lv_has ls 7 [(0, .ref t_q), (1, .int p1)] → W p l e rmX8_layBack s m args below meth c H locs 0 0 Q (F0 m 38 ls []) := by
    intro x3_11y t_leadsOn_12y ey0 ey1 H locs ls hP hS hl
    subst ey0
    subst ey1
    refine lv_bipush (v := (56 : Int32)) hx hb dX8_layBack_38 (by decide) ?_
    refine lv_iload_n hx hb dX8_layBack_40 rfl (lv_at hl 1 rfl) ?_
    refine lv_imul hx hb dX8_layBack_41 ?_
    refine lv_iconst (v := (1 : Int32)) hx hb dX8_layBack_42 (by decide) ?_
    refine lv_isub hx hb dX8_layBack_43 ?_
    obtain ⟨v3_13, ev3_13, hf⟩ := bnd_e hf
    refine tp_i ev3_13 ?_
    refine lv_istore_n (lv' := [(3, .int v3_13), (0, .ref t_q), (1, .int p1)]) hx hb dX8_layBack_44 rfl hl (by decide) rfl (fun ls hl => ?_)
    obtain ⟨x3_41, t_leadsOn_42, ho_16, hf⟩ := ob2_e hf
    have K_16 : ∀ (x3_41y : Int32) (t_leadsOn_42y : Nat → Int32), x3_41 = x3_41y → t_leadsOn_42 = t_leadsOn_42y → ∀ (H : Heap) (locs : List Loc) (ls : Array Slot), va_P g.1 vwCl [oX8 t_q t_state_q t_roomMany t_doorMany t_stringLong t_laws_q t_lawMany t_readPage_q t_readLaws_q t_readRooms t_readDoors t_readString t_readLawMany t_toldOnce t_highRoom t_highDoor t_tape_q t_taped t_fault t_broken t_brokenAt t_spot t_here t_token t_value t_cuts_q t_letters_q t_work_q t_pages_q t_canBe_q t_leadsOn_q t_seen_q t_seenMany t_heard_q t_heardMany t_isKept_q t_lanes_q t_lengths_q t_cells_q t_torn, aI g t_leadsOn_q 1400 t_leadsOn_42y, aI g t_pages_q 750 t_pages, aI g t_state_q 196 t_state] H → va_S A s.heap H locs → lv_has ls 7 [] → W p l e rmX8_layBack s m args below meth c H locs 0 0 Q (F0 m 164 ls []) := by
      intro x3_41y t_leadsOn_42y ey0 ey1 H locs ls hP hS hl
      subst ey0
      subst ey1
      exact hret t_leadsOn_42 (Option.some.inj hf) _ _ _ _ hP hS dX8_layBack_164
    have L_16 : ∀ (n : Nat) (v3_14 : Int32) (t_leadsOn_15 : Nat → Int32), itr (un2 (b_X8_layBack_45 t_doorMany t_pages t_state)) n (v3_14, t_leadsOn_15) = some (x3_41, t_leadsOn_42) → ∀ (H : Heap) (locs : List Loc) (ls : Array Slot), va_P g.1 vwCl [oX8 t_q t_state_q t_roomMany t_doorMany t_stringLong t_laws_q t_lawMany t_readPage_q t_readLaws_q t_readRooms t_readDoors t_readString t_readLawMany t_toldOnce t_highRoom t_highDoor t_tape_q t_taped t_fault t_broken t_brokenAt t_spot t_here t_token t_value t_cuts_q t_letters_q t_work_q t_pages_q t_canBe_q t_leadsOn_q t_seen_q t_seenMany t_heard_q t_heardMany t_isKept_q t_lanes_q t_lengths_q t_cells_q t_torn, aI g t_leadsOn_q 1400 t_leadsOn_15, aI g t_pages_q 750 t_pages, aI g t_state_q 196 t_state] H → va_S A s.heap H locs → lv_has ls 7 [(0, .ref t_q), (3, .int v3_14)] → W p l e rmX8_layBack s m args below meth c H locs 0 0 Q (F0 m 45 ls []) := by
      refine itr_ind2 ?_
      intro v3_14 t_leadsOn_15 z_16 hf hrec hex H locs ls hP hS hl
      unfold b_X8_layBack_45 at hf
      refine lv_iload_n hx hb dX8_layBack_45 rfl (lv_at hl 1 rfl) ?_
      refine lv_if_lt (tgt := 164) hx hb dX8_layBack_46 (by decide) (fun c_17 => ?_) (fun c_17 => ?_)
      · have hf := ite_t hf c_17
        exact K_16 v3_14 t_leadsOn_15 (congrArg (fun t => t.1) (hex _ (Option.some.inj hf).symm).symm) (congrArg (fun t => t.2) (hex _ (Option.some.inj hf).symm).symm) _ _ _ hP hS (lv_sub hl [] rfl)
      · have hf := ite_f hf c_17
        refine lv_iload_n hx hb dX8_layBack_49 rfl (lv_at hl 1 rfl) ?_
        refine lv_bipush (v := (56 : Int32)) hx hb dX8_layBack_50 (by decide) ?_
        refine lv_idiv hx hb dX8_layBack_52 (by decide) ?_
        obtain ⟨v4_18, ev4_18, hf⟩ := bnd_e hf
        refine tp_i ev4_18 ?_
        refine lv_istore (lv' := [(4, .int v4_18), (0, .ref t_q), (3, .int v3_14)]) hx hb dX8_layBack_53 hl (by decide) rfl (fun ls hl => ?_)
        refine lv_aload_n hx hb dX8_layBack_55 rfl (lv_at hl 1 rfl) ?_
        refine va_get (D := g.1) (ci := 8) (v := .ref t_leadsOn_q) (C := RX8) (T := TX8) (N := 39) hx hb hts inX8 hown hK hP 0 rfl rfl 29 (by decide) k47 (fun _ h9 => h9) rfl dX8_layBack_56 ?_
        refine lv_iload_n hx hb dX8_layBack_59 rfl (lv_at hl 2 rfl) ?_
        refine lv_iconst (v := (0 : Int32)) hx hb dX8_layBack_60 (by decide) ?_
        obtain ⟨h_19, hf⟩ := gin_e hf
        obtain ⟨t_leadsOn_20, et_leadsOn_20, hf⟩ := bnd_e hf
        refine va_iast hx hb hK hP (hD.re rfl) hS 1 0 rfl rfl h_19 dX8_layBack_61 (fun H locs hP _ hS => ?_)
        have hP : va_P g.1 vwCl [oX8 t_q t_state_q t_roomMany t_doorMany t_stringLong t_laws_q t_lawMany t_readPage_q t_readLaws_q t_readRooms t_readDoors t_readString t_readLawMany t_toldOnce t_highRoom t_highDoor t_tape_q t_taped t_fault t_broken t_brokenAt t_spot t_here t_token t_value t_cuts_q t_letters_q t_work_q t_pages_q t_canBe_q t_leadsOn_q t_seen_q t_seenMany t_heard_q t_heardMany t_isKept_q t_lanes_q t_lengths_q t_cells_q t_torn, aI g t_leadsOn_q 1400 t_leadsOn_20, aI g t_pages_q 750 t_pages, aI g t_state_q 196 t_state] H := by rw [et_leadsOn_20]; exact hP
        refine lv_iconst (v := (0 : Int32)) hx hb dX8_layBack_62 (by decide) ?_
        refine lv_istore (lv' := [(5, .int (0 : Int32)), (4, .int v4_18), (0, .ref t_q), (3, .int v3_14)]) hx hb dX8_layBack_63 hl (by decide) rfl (fun ls hl => ?_)
        obtain ⟨x5_38, t_leadsOn_39, ho_23, hf⟩ := ob2_e hf
        have K_23 : ∀ (x5_38y : Int32) (t_leadsOn_39y : Nat → Int32), x5_38 = x5_38y → t_leadsOn_39 = t_leadsOn_39y → ∀ (H : Heap) (locs : List Loc) (ls : Array Slot), va_P g.1 vwCl [oX8 t_q t_state_q t_roomMany t_doorMany t_stringLong t_laws_q t_lawMany t_readPage_q t_readLaws_q t_readRooms t_readDoors t_readString t_readLawMany t_toldOnce t_highRoom t_highDoor t_tape_q t_taped t_fault t_broken t_brokenAt t_spot t_here t_token t_value t_cuts_q t_letters_q t_work_q t_pages_q t_canBe_q t_leadsOn_q t_seen_q t_seenMany t_heard_q t_heardMany t_isKept_q t_lanes_q t_lengths_q t_cells_q t_torn, aI g t_leadsOn_q 1400 t_leadsOn_39y, aI g t_pages_q 750 t_pages, aI g t_state_q 196 t_state] H → va_S A s.heap H locs → lv_has ls 7 [(0, .ref t_q), (3, .int v3_14)] → W p l e rmX8_layBack s m args below meth c H locs 0 0 Q (F0 m 158 ls []) := by
          intro x5_38y t_leadsOn_39y ey0 ey1 H locs ls hP hS hl
          subst ey0
          subst ey1
          obtain ⟨v3_40, ev3_40, hf⟩ := bnd_e hf
          refine lv_iinc (v := v3_40) (lv' := [(3, .int v3_40), (0, .ref t_q)]) hx hb dX8_layBack_158 hl (k := 1) rfl (by rw [ev3_40]; rfl) (by decide) rfl (fun ls hl => ?_)
          refine lv_goto (tgt := 45) hx hb dX8_layBack_161 (by decide) ?_
          exact hrec v3_40 t_leadsOn_39 (Option.some.inj hf).symm _ _ _ hP hS (lv_sub hl [1, 0] rfl)
        have L_23 : ∀ (n : Nat) (v5_21 : Int32) (t_leadsOn_22 : Nat → Int32), itr (un2 (b_X8_layBack_65 t_doorMany t_pages t_state v3_14 v4_18)) n (v5_21, t_leadsOn_22) = some (x5_38, t_leadsOn_39) → ∀ (H : Heap) (locs : List Loc) (ls : Array Slot), va_P g.1 vwCl [oX8 t_q t_state_q t_roomMany t_doorMany t_stringLong t_laws_q t_lawMany t_readPage_q t_readLaws_q t_readRooms t_readDoors t_readString t_readLawMany t_toldOnce t_highRoom t_highDoor t_tape_q t_taped t_fault t_broken t_brokenAt t_spot t_here t_token t_value t_cuts_q t_letters_q t_work_q t_pages_q t_canBe_q t_leadsOn_q t_seen_q t_seenMany t_heard_q t_heardMany t_isKept_q t_lanes_q t_lengths_q t_cells_q t_torn, aI g t_leadsOn_q 1400 t_leadsOn_22, aI g t_pages_q 750 t_pages, aI g t_state_q 196 t_state] H → va_S A s.heap H locs → lv_has ls 7 [(0, .ref t_q), (3, .int v3_14), (4, .int v4_18), (5, .int v5_21)] → W p l e rmX8_layBack s m args below meth c H locs 0 0 Q (F0 m 65 ls []) := by
          refine itr_ind2 ?_
          intro v5_21 t_leadsOn_22 z_23 hf hrec hex H locs ls hP hS hl
          unfold b_X8_layBack_65 at hf
          refine lv_iload hx hb dX8_layBack_65 (lv_at hl 3 rfl) ?_
          refine lv_bipush (v := (10 : Int32)) hx hb dX8_layBack_67 (by decide) ?_
          refine lv_icmp_gt (tgt := 158) hx hb dX8_layBack_69 (by decide) (fun c_24 => ?_) (fun c_24 => ?_)
          · have hf := ite_t hf c_24
            exact K_23 v5_21 t_leadsOn_22 (congrArg (fun t => t.1) (hex _ (Option.some.inj hf).symm).symm) (congrArg (fun t => t.2) (hex _ (Option.some.inj hf).symm).symm) _ _ _ hP hS (lv_sub hl [0, 1] rfl)
          · have hf := ite_f hf c_24
            refine lv_aload_n hx hb dX8_layBack_72 rfl (lv_at hl 0 rfl) ?_
            refine lv_iload hx hb dX8_layBack_73 (lv_at hl 2 rfl) ?_
            refine lv_iload_n hx hb dX8_layBack_75 rfl (lv_at hl 1 rfl) ?_
            refine lv_bipush (v := (56 : Int32)) hx hb dX8_layBack_76 (by decide) ?_
            refine lv_irem hx hb dX8_layBack_78 (by decide) ?_
            refine lv_bipush (v := (8 : Int32)) hx hb dX8_layBack_79 (by decide) ?_
            refine lv_idiv hx hb dX8_layBack_81 (by decide) ?_
            refine lv_iload_n hx hb dX8_layBack_82 rfl (lv_at hl 1 rfl) ?_
            refine lv_bipush (v := (8 : Int32)) hx hb dX8_layBack_83 (by decide) ?_
            refine lv_irem hx hb dX8_layBack_85 (by decide) ?_
            obtain ⟨j_26, hj_26, hf⟩ := jn1_e hf
            have J_26 : ∀ (s_25 : Int32), j_26 s_25 = some z_23 → ∀ (H : Heap) (locs : List Loc) (ls : Array Slot), va_P g.1 vwCl [oX8 t_q t_state_q t_roomMany t_doorMany t_stringLong t_laws_q t_lawMany t_readPage_q t_readLaws_q t_readRooms t_readDoors t_readString t_readLawMany t_toldOnce t_highRoom t_highDoor t_tape_q t_taped t_fault t_broken t_brokenAt t_spot t_here t_token t_value t_cuts_q t_letters_q t_work_q t_pages_q t_canBe_q t_leadsOn_q t_seen_q t_seenMany t_heard_q t_heardMany t_isKept_q t_lanes_q t_lengths_q t_cells_q t_torn, aI g t_leadsOn_q 1400 t_leadsOn_22, aI g t_pages_q 750 t_pages, aI g t_state_q 196 t_state] H → va_S A s.heap H locs → lv_has ls 7 [(0, .ref t_q), (3, .int v3_14), (4, .int v4_18), (5, .int v5_21)] → W p l e rmX8_layBack s m args below meth c H locs 0 0 Q (F0 m 100 ls [.int s_25, .int ((v3_14 - v3_14 / (56 : Int32) * (56 : Int32)) / (8 : Int32)), .int v4_18, .ref t_q]) := by
              intro s_25 hf H locs ls hP hS hl
              rw [hj_26] at hf
              refine lv_iload hx hb dX8_layBack_100 (lv_at hl 3 rfl) ?_
              obtain ⟨r_27, hc_28, hf⟩ := ob1_e hf
              refine kV_i (wn := [oX8 t_q t_state_q t_roomMany t_doorMany t_stringLong t_laws_q t_lawMany t_readPage_q t_readLaws_q t_readRooms t_readDoors t_readString t_readLawMany t_toldOnce t_highRoom t_highDoor t_tape_q t_taped t_fault t_broken t_brokenAt t_spot t_here t_token t_value t_cuts_q t_letters_q t_work_q t_pages_q t_canBe_q t_leadsOn_q t_seen_q t_seenMany t_heard_q t_heardMany t_isKept_q t_lanes_q t_lengths_q t_cells_q t_torn, aI g t_leadsOn_q 1400 t_leadsOn_22, aI g t_pages_q 750 t_pages, aI g t_state_q 196 t_state]) (As := [.int v4_18, .int ((v3_14 - v3_14 / (56 : Int32) * (56 : Int32)) / (8 : Int32)), .int s_25, .int v5_21]) (rest := []) (c_X8_after l g _ t_q t_state_q t_laws_q t_readPage_q t_readLaws_q t_tape_q t_cuts_q t_letters_q t_work_q t_pages_q t_canBe_q t_leadsOn_q t_seen_q t_heard_q t_isKept_q t_lanes_q t_lengths_q t_cells_q t_roomMany t_doorMany t_stringLong t_lawMany t_readRooms t_readDoors t_readString t_readLawMany t_toldOnce t_highRoom t_highDoor t_taped t_fault t_broken t_brokenAt t_spot t_here t_token t_value t_seenMany t_heardMany t_torn t_pages t_state v4_18 ((v3_14 - v3_14 / (56 : Int32) * (56 : Int32)) / (8 : Int32)) s_25 v5_21 r_27 hc_28) ⟨hx, hb, hml, hown, hts⟩ (cwV 4 hts gX8_layBack_X8_after rfl rfl rfl (by decide +kernel) ⟨by decide, by decide⟩) hK hz hk hP (hD.re rfl) hS hA [0, 2, 3] rfl rfl rfl rfl rfl rfl rfl hl.1 rfl (Nat.le_of_ble_eq_true rfl) dX8_layBack_102 (fun H locs hP hS => ?_)
              refine lv_istore (lv' := [(6, .int r_27), (0, .ref t_q), (3, .int v3_14), (4, .int v4_18), (5, .int v5_21)]) hx hb dX8_layBack_105 hl (by decide) rfl (fun ls hl => ?_)
              refine lv_iload hx hb dX8_layBack_107 (lv_at hl 0 rfl) ?_
              refine lv_bipush (v := (-4 : Int32)) hx hb dX8_layBack_109 (by decide) ?_
              obtain ⟨j_30, hj_30, hf⟩ := jn1_e hf
              have J_30 : ∀ (t_leadsOn_29 : Nat → Int32), j_30 t_leadsOn_29 = some z_23 → ∀ (H : Heap) (locs : List Loc) (ls : Array Slot), va_P g.1 vwCl [oX8 t_q t_state_q t_roomMany t_doorMany t_stringLong t_laws_q t_lawMany t_readPage_q t_readLaws_q t_readRooms t_readDoors t_readString t_readLawMany t_toldOnce t_highRoom t_highDoor t_tape_q t_taped t_fault t_broken t_brokenAt t_spot t_here t_token t_value t_cuts_q t_letters_q t_work_q t_pages_q t_canBe_q t_leadsOn_q t_seen_q t_seenMany t_heard_q t_heardMany t_isKept_q t_lanes_q t_lengths_q t_cells_q t_torn, aI g t_leadsOn_q 1400 t_leadsOn_29, aI g t_pages_q 750 t_pages, aI g t_state_q 196 t_state] H → va_S A s.heap H locs → lv_has ls 7 [(0, .ref t_q), (3, .int v3_14), (4, .int v4_18), (5, .int v5_21)] → W p l e rmX8_layBack s m args below meth c H locs 0 0 Q (F0 m 152 ls []) := by
                intro t_leadsOn_29 hf H locs ls hP hS hl
                rw [hj_30] at hf
                obtain ⟨v5_31, ev5_31, hf⟩ := bnd_e hf
                refine lv_iinc (v := v5_31) (lv' := [(5, .int v5_31), (0, .ref t_q), (3, .int v3_14), (4, .int v4_18)]) hx hb dX8_layBack_152 hl (k := 3) rfl (by rw [ev5_31]; rfl) (by decide) rfl (fun ls hl => ?_)
                refine lv_goto (tgt := 65) hx hb dX8_layBack_155 (by decide) ?_
                exact hrec v5_31 t_leadsOn_29 (Option.some.inj hf).symm _ _ _ hP hS (lv_sub hl [1, 2, 3, 0] rfl)
              refine lv_icmp_eq (tgt := 152) hx hb dX8_layBack_111 (by decide) (fun c_32 => ?_) (fun c_32 => ?_)
              · have hf := ite_t hf c_32
                exact J_30 t_leadsOn_22 hf _ _ _ hP hS (lv_sub hl [1, 2, 3, 4] rfl)
              · have hf := ite_f hf c_32
                refine lv_aload_n hx hb dX8_layBack_114 rfl (lv_at hl 1 rfl) ?_
                refine va_get (D := g.1) (ci := 8) (v := .ref t_leadsOn_q) (C := RX8) (T := TX8) (N := 39) hx hb hts inX8 hown hK hP 0 rfl rfl 29 (by decide) k47 (fun _ h9 => h9) rfl dX8_layBack_115 ?_
                refine lv_bipush (v := (56 : Int32)) hx hb dX8_layBack_118 (by decide) ?_
                refine lv_iload hx hb dX8_layBack_120 (lv_at hl 3 rfl) ?_
                refine lv_iconst (v := (1 : Int32)) hx hb dX8_layBack_122 (by decide) ?_
                refine lv_iadd hx hb dX8_layBack_123 ?_
                refine lv_imul hx hb dX8_layBack_124 ?_
                refine lv_bipush (v := (8 : Int32)) hx hb dX8_layBack_125 (by decide) ?_
                refine lv_iload hx hb dX8_layBack_127 (lv_at hl 0 rfl) ?_
                refine lv_bipush (v := (10 : Int32)) hx hb dX8_layBack_129 (by decide) ?_
                refine lv_irem hx hb dX8_layBack_131 (by decide) ?_
                refine lv_imul hx hb dX8_layBack_132 ?_
                refine lv_iadd hx hb dX8_layBack_133 ?_
                refine lv_iload hx hb dX8_layBack_134 (lv_at hl 0 rfl) ?_
                refine lv_bipush (v := (10 : Int32)) hx hb dX8_layBack_136 (by decide) ?_
                refine lv_idiv hx hb dX8_layBack_138 (by decide) ?_
                refine lv_iadd hx hb dX8_layBack_139 ?_
                obtain ⟨h_33, hf⟩ := gin_e hf
                refine va_iald hx hb hK hP 1 0 rfl rfl h_33 dX8_layBack_140 ?_
                refine lv_iconst (v := (1 : Int32)) hx hb dX8_layBack_141 (by decide) ?_
                refine lv_icmp_ne (tgt := 152) hx hb dX8_layBack_142 (by decide) (fun c_34 => ?_) (fun c_34 => ?_)
                · have hf := ite_f hf c_34
                  exact J_30 t_leadsOn_22 hf _ _ _ hP hS (lv_sub hl [1, 2, 3, 4] rfl)
                · have hf := ite_t hf c_34
                  refine lv_aload_n hx hb dX8_layBack_145 rfl (lv_at hl 1 rfl) ?_
                  refine va_get (D := g.1) (ci := 8) (v := .ref t_leadsOn_q) (C := RX8) (T := TX8) (N := 39) hx hb hts inX8 hown hK hP 0 rfl rfl 29 (by decide) k47 (fun _ h9 => h9) rfl dX8_layBack_146 ?_
                  refine lv_iload_n hx hb dX8_layBack_149 rfl (lv_at hl 2 rfl) ?_
                  refine lv_iconst (v := (1 : Int32)) hx hb dX8_layBack_150 (by decide) ?_
                  obtain ⟨h_35, hf⟩ := gin_e hf
                  obtain ⟨t_leadsOn_36, et_leadsOn_36, hf⟩ := bnd_e hf
                  refine va_iast hx hb hK hP (hD.re rfl) hS 1 0 rfl rfl h_35 dX8_layBack_151 (fun H locs hP _ hS => ?_)
                  have hP : va_P g.1 vwCl [oX8 t_q t_state_q t_roomMany t_doorMany t_stringLong t_laws_q t_lawMany t_readPage_q t_readLaws_q t_readRooms t_readDoors t_readString t_readLawMany t_toldOnce t_highRoom t_highDoor t_tape_q t_taped t_fault t_broken t_brokenAt t_spot t_here t_token t_value t_cuts_q t_letters_q t_work_q t_pages_q t_canBe_q t_leadsOn_q t_seen_q t_seenMany t_heard_q t_heardMany t_isKept_q t_lanes_q t_lengths_q t_cells_q t_torn, aI g t_leadsOn_q 1400 t_leadsOn_36, aI g t_pages_q 750 t_pages, aI g t_state_q 196 t_state] H := by rw [et_leadsOn_36]; exact hP
                  exact J_30 t_leadsOn_36 hf _ _ _ hP hS (lv_sub hl [1, 2, 3, 4] rfl)
            refine lv_if_ne (tgt := 94) hx hb dX8_layBack_86 (by decide) (fun c_37 => ?_) (fun c_37 => ?_)
            · have hf := ite_f hf c_37
              refine lv_iload_n hx hb dX8_layBack_94 rfl (lv_at hl 1 rfl) ?_
              refine lv_bipush (v := (8 : Int32)) hx hb dX8_layBack_95 (by decide) ?_
              refine lv_irem hx hb dX8_layBack_97 (by decide) ?_
              refine lv_iconst (v := (1 : Int32)) hx hb dX8_layBack_98 (by decide) ?_
              refine lv_isub hx hb dX8_layBack_99 ?_
              exact J_26 ((v3_14 - v3_14 / (8 : Int32) * (8 : Int32)) - (1 : Int32)) hf _ _ _ hP hS (lv_sub hl [0, 1, 2, 3] rfl)
            · have hf := ite_t hf c_37
              refine lv_bipush (v := (-4 : Int32)) hx hb dX8_layBack_89 (by decide) ?_
              refine lv_goto (tgt := 100) hx hb dX8_layBack_91 (by decide) ?_
              exact J_26 (-4 : Int32) hf _ _ _ hP hS (lv_sub hl [0, 1, 2, 3] rfl)
        exact L_23 FU (0 : Int32) t_leadsOn_20 ho_23 _ _ _ hP hS (lv_sub hl [2, 3, 1, 0] rfl)
    exact L_16 FU v3_13 t_leadsOn_12 ho_16 _ _ _ hP hS (lv_sub hl [1, 0] rfl)
  have L_3 : ∀ (n : Nat) (v3_1 : Int32) (t_leadsOn_2 : Nat → Int32), itr (un2 (b_X8_layBack_2 p1 p2)) n (v3_1, t_leadsOn_2) = some (x3_11, t_leadsOn_12) → ∀ (H : Heap) (locs : List Loc) (ls : Array Slot), va_P g.1 vwCl [oX8 t_q t_state_q t_roomMany t_doorMany t_stringLong t_laws_q t_lawMany t_readPage_q t_readLaws_q t_readRooms t_readDoors t_readString t_readLawMany t_toldOnce t_highRoom t_highDoor t_tape_q t_taped t_fault t_broken t_brokenAt t_spot t_here t_token t_value t_cuts_q t_letters_q t_work_q t_pages_q t_canBe_q t_leadsOn_q t_seen_q t_seenMany t_heard_q t_heardMany t_isKept_q t_lanes_q t_lengths_q t_cells_q t_torn, aI g t_leadsOn_q 1400 t_leadsOn_2, aI g t_pages_q 750 t_pages, aI g t_state_q 196 t_state] H → va_S A s.heap H locs → lv_has ls 7 [(0, .ref t_q), (1, .int p1), (2, .int p2), (3, .int v3_1)] → W p l e rmX8_layBack s m args below meth c H locs 0 0 Q (F0 m 2 ls []) := by
    refine itr_ind2 ?_
    intro v3_1 t_leadsOn_2 z_3 hf hrec hex H locs ls hP hS hl
    unfold b_X8_layBack_2 at hf
    refine lv_iload_n hx hb dX8_layBack_2 rfl (lv_at hl 3 rfl) ?_
    refine lv_bipush (v := (56 : Int32)) hx hb dX8_layBack_3 (by decide) ?_
    refine lv_icmp_ge (tgt := 38) hx hb dX8_layBack_5 (by decide) (fun c_4 => ?_) (fun c_4 => ?_)
    · have hf := ite_t hf c_4
      exact K_3 v3_1 t_leadsOn_2 (congrArg (fun t => t.1) (hex _ (Option.some.inj hf).symm).symm) (congrArg (fun t => t.2) (hex _ (Option.some.inj hf).symm).symm) _ _ _ hP hS (lv_sub hl [0, 1] rfl)
    · have hf := ite_f hf c_4
      refine lv_aload_n hx hb dX8_layBack_8 rfl (lv_at hl 0 rfl) ?_
      refine va_get (D := g.1) (ci := 8) (v := .ref t_leadsOn_q) (C := RX8) (T := TX8) (N := 39) hx hb hts inX8 hown hK hP 0 rfl rfl 29 (by decide) k47 (fun _ h9 => h9) rfl dX8_layBack_9 ?_
      refine lv_bipush (v := (56 : Int32)) hx hb dX8_layBack_12 (by decide) ?_
      refine lv_iload_n hx hb dX8_layBack_14 rfl (lv_at hl 1 rfl) ?_
      refine lv_imul hx hb dX8_layBack_15 ?_
      refine lv_iload_n hx hb dX8_layBack_16 rfl (lv_at hl 3 rfl) ?_
      refine lv_iadd hx hb dX8_layBack_17 ?_
      refine lv_iload_n hx hb dX8_layBack_18 rfl (lv_at hl 3 rfl) ?_
      refine lv_bipush (v := (8 : Int32)) hx hb dX8_layBack_19 (by decide) ?_
      refine lv_idiv hx hb dX8_layBack_21 (by decide) ?_
      refine lv_iload_n hx hb dX8_layBack_22 rfl (lv_at hl 2 rfl) ?_
      obtain ⟨j_6, hj_6, hf⟩ := jn1_e hf
      have J_6 : ∀ (s_5 : Int32), j_6 s_5 = some z_3 → ∀ (H : Heap) (locs : List Loc) (ls : Array Slot), va_P g.1 vwCl [oX8 t_q t_state_q t_roomMany t_doorMany t_stringLong t_laws_q t_lawMany t_readPage_q t_readLaws_q t_readRooms t_readDoors t_readString t_readLawMany t_toldOnce t_highRoom t_highDoor t_tape_q t_taped t_fault t_broken t_brokenAt t_spot t_here t_token t_value t_cuts_q t_letters_q t_work_q t_pages_q t_canBe_q t_leadsOn_q t_seen_q t_seenMany t_heard_q t_heardMany t_isKept_q t_lanes_q t_lengths_q t_cells_q t_torn, aI g t_leadsOn_q 1400 t_leadsOn_2, aI g t_pages_q 750 t_pages, aI g t_state_q 196 t_state] H → va_S A s.heap H locs → lv_has ls 7 [(0, .ref t_q), (1, .int p1), (2, .int p2), (3, .int v3_1)] → W p l e rmX8_layBack s m args below meth c H locs 0 0 Q (F0 m 31 ls [.int s_5, .int (((56 : Int32) * p1) + v3_1), .ref t_leadsOn_q]) := by
        intro s_5 hf H locs ls hP hS hl
        rw [hj_6] at hf
        obtain ⟨h_7, hf⟩ := gin_e hf
        obtain ⟨t_leadsOn_8, et_leadsOn_8, hf⟩ := bnd_e hf
        refine va_iast hx hb hK hP (hD.re rfl) hS 1 0 rfl rfl h_7 dX8_layBack_31 (fun H locs hP _ hS => ?_)
        have hP : va_P g.1 vwCl [oX8 t_q t_state_q t_roomMany t_doorMany t_stringLong t_laws_q t_lawMany t_readPage_q t_readLaws_q t_readRooms t_readDoors t_readString t_readLawMany t_toldOnce t_highRoom t_highDoor t_tape_q t_taped t_fault t_broken t_brokenAt t_spot t_here t_token t_value t_cuts_q t_letters_q t_work_q t_pages_q t_canBe_q t_leadsOn_q t_seen_q t_seenMany t_heard_q t_heardMany t_isKept_q t_lanes_q t_lengths_q t_cells_q t_torn, aI g t_leadsOn_q 1400 t_leadsOn_8, aI g t_pages_q 750 t_pages, aI g t_state_q 196 t_state] H := by rw [et_leadsOn_8]; exact hP
        obtain ⟨v3_9, ev3_9, hf⟩ := bnd_e hf
        refine lv_iinc (v := v3_9) (lv' := [(3, .int v3_9), (0, .ref t_q), (1, .int p1), (2, .int p2)]) hx hb dX8_layBack_32 hl (k := 3) rfl (by rw [ev3_9]; rfl) (by decide) rfl (fun ls hl => ?_)
        refine lv_goto (tgt := 2) hx hb dX8_layBack_35 (by decide) ?_
        exact hrec v3_9 t_leadsOn_8 (Option.some.inj hf).symm _ _ _ hP hS (lv_sub hl [1, 2, 3, 0] rfl)
      refine lv_icmp_ne (tgt := 30) hx hb dX8_layBack_23 (by decide) (fun c_10 => ?_) (fun c_10 => ?_)
      · have hf := ite_f hf c_10
        refine lv_iconst (v := (0 : Int32)) hx hb dX8_layBack_30 (by decide) ?_
        exact J_6 (0 : Int32) hf _ _ _ hP hS (lv_sub hl [0, 1, 2, 3] rfl)
      · have hf := ite_t hf c_10
        refine lv_iconst (v := (1 : Int32)) hx hb dX8_layBack_26 (by decide) ?_
        refine lv_goto (tgt := 31) hx hb dX8_layBack_27 (by decide) ?_
        exact J_6 (1 : Int32) hf _ _ _ hP hS (lv_sub hl [0, 1, 2, 3] rfl)
  exact L_3 FU (0 : Int32) t_leadsOn ho_3 _ _ _ hP hS (lv_sub hl [1, 2, 3, 0] rfl)

def b_X8_leads_30 (t_state : Nat → Int32) (p1 : Int32) (v2_8 : Int32) (v3_9 : Int32) : Option ((Int32 × Int32) ⊕ ((Int32) ⊕ (Int32 × Int32))) :=
 (if v3_9 < (0 : Int32) then
 (some (.inr (.inr (v2_8, v3_9))))
 else (gin ((34 : Int32) + v3_9) 196 (ob1 (f_X8_leadsTo 196 t_state (0 : Int32) (t_state ((34 : Int32) + v3_9).toNatClampNeg) v2_8) (fun r_13 =>
 (if r_13 = (-4 : Int32) then
 (if p1 = (0 : Int32) then
 (some (.inr (.inl v2_8)))
 else (some (.inr (.inl v3_9))))
 else (bnd (v3_9 + (-1 : Int32)) (fun v3_16 =>
 (some (.inl (r_13, v3_16))))))))))
def f_X8_leads (t_state : Nat → Int32) (p1 : Int32) : Option (Int32) :=
 (ob1 (f_X8_in (p1.toInt64) (0 : Int64) (1 : Int64)) (fun r_1 =>
 (if r_1 = (0 : Int32) then
 (some (-1 : Int32))
 else (gin (31 : Int32) 196 (bnd (t_state (31 : Int32).toNatClampNeg) (fun v2_5 =>
 (gin (46 : Int32) 196 (bnd ((t_state (46 : Int32).toNatClampNeg) - (1 : Int32)) (fun v3_7 =>
 (obm2 (itr (un2 (b_X8_leads_30 t_state p1)) FU (v2_5, v3_7)) (fun x2_18 x3_19 =>
 (if p1 = (0 : Int32) then
 (some x2_18)
 else (some (-4 : Int32))))))))))))))
abbrev rmX8_leads : Room := { frames := 1, cells := 0, slots := 0, locals := 26 }
set_option maxHeartbeats 4000000 in
set_option maxRecDepth 100000 in
theorem c_X8_leads (l : Launch) (g : Gh) (sz : Nat) (t_q t_state_q t_laws_q t_readPage_q t_readLaws_q t_tape_q t_cuts_q t_letters_q t_work_q t_pages_q t_canBe_q t_leadsOn_q t_seen_q t_heard_q t_isKept_q t_lanes_q t_lengths_q t_cells_q : Nat) (t_roomMany : Int32) (t_doorMany : Int32) (t_stringLong : Int32) (t_lawMany : Int32) (t_readRooms : Int32) (t_readDoors : Int32) (t_readString : Int32) (t_readLawMany : Int32) (t_toldOnce : Int32) (t_highRoom : Int32) (t_highDoor : Int32) (t_taped : Int32) (t_fault : Int32) (t_broken : Int32) (t_brokenAt : Int32) (t_spot : Int32) (t_here : Int32) (t_token : Int32) (t_value : Int32) (t_seenMany : Int32) (t_heardMany : Int32) (t_torn : Int32) (t_state : Nat → Int32) (p1 : Int32) (rr : Int32) (hf : f_X8_leads t_state p1 = some rr) : CI l yX8_leads wsX8_leads rmX8_leads [.ref t_q, .int p1] g sz [oX8 t_q t_state_q t_roomMany t_doorMany t_stringLong t_laws_q t_lawMany t_readPage_q t_readLaws_q t_readRooms t_readDoors t_readString t_readLawMany t_toldOnce t_highRoom t_highDoor t_tape_q t_taped t_fault t_broken t_brokenAt t_spot t_here t_token t_value t_cuts_q t_letters_q t_work_q t_pages_q t_canBe_q t_leadsOn_q t_seen_q t_seenMany t_heard_q t_heardMany t_isKept_q t_lanes_q t_lengths_q t_cells_q t_torn, aI g t_state_q 196 t_state] [oX8 t_q t_state_q t_roomMany t_doorMany t_stringLong t_laws_q t_lawMany t_readPage_q t_readLaws_q t_readRooms t_readDoors t_readString t_readLawMany t_toldOnce t_highRoom t_highDoor t_tape_q t_taped t_fault t_broken t_brokenAt t_spot t_here t_token t_value t_cuts_q t_letters_q t_work_q t_pages_q t_canBe_q t_leadsOn_q t_seen_q t_seenMany t_heard_q t_heardMany t_isKept_q t_lanes_q t_lengths_q t_cells_q t_torn, aI g t_state_q 196 t_state] rr := by
  refine ent_i (cc := cX8_leads) (maxL := 5) (by decide) rfl (Nat.le_of_ble_eq_true rfl) ?_
  intro p e s m args below meth c A Q hx hb hml hown hts hK hz hk hA hD hP hS hret ls hl
  have hown : s.vm.findClass RX8 = some m.cls := hown
  have inX8 : ∀ w ∈ u_ws RX8 TX8 39, w ∈ wsX8_leads := by decide +kernel
  have k7 := hts (.fieldLink RX8 7 "ThreadMovedModel" "state" "[I") (by decide +kernel)
  have hl : lv_has ls 5 [(0, .ref t_q), (1, .int p1)] := hl
  have hret : ∀ (rrz : Int32), rrz = rr → ∀ (H : Heap) (locs : List Loc) (pc : Nat) (ls : Array Slot), va_P g.1 vwCl [oX8 t_q t_state_q t_roomMany t_doorMany t_stringLong t_laws_q t_lawMany t_readPage_q t_readLaws_q t_readRooms t_readDoors t_readString t_readLawMany t_toldOnce t_highRoom t_highDoor t_tape_q t_taped t_fault t_broken t_brokenAt t_spot t_here t_token t_value t_cuts_q t_letters_q t_work_q t_pages_q t_canBe_q t_leadsOn_q t_seen_q t_seenMany t_heard_q t_heardMany t_isKept_q t_lanes_q t_lengths_q t_cells_q t_torn, aI g t_state_q 196 t_state] H → va_S A s.heap H locs → decode cX8_leads pc = .ok (.ireturn, 1) → W p l e rmX8_leads s m args below meth c H locs 0 0 Q (F0 m pc ls [.int rrz]) := by
    intro rrz he H locs pc ls hP hS hd
    cases he
    exact hret H locs pc ls hP hS hd
  unfold f_X8_leads at hf
  refine lv_iload_n hx hb dX8_leads_0 rfl (lv_at hl 1 rfl) ?_
  refine lv_i2l hx hb dX8_leads_1 rfl ?_
  refine lv_lconst (v := (0 : Int64)) hx hb dX8_leads_2 (by decide) ?_
  refine lv_lconst (v := (1 : Int64)) hx hb dX8_leads_3 (by decide) ?_
  obtain ⟨r_1, hc_2, hf⟩ := ob1_e hf
  refine kS_i (wn := [oX8 t_q t_state_q t_roomMany t_doorMany t_stringLong t_laws_q t_lawMany t_readPage_q t_readLaws_q t_readRooms t_readDoors t_readString t_readLawMany t_toldOnce t_highRoom t_highDoor t_tape_q t_taped t_fault t_broken t_brokenAt t_spot t_here t_token t_value t_cuts_q t_letters_q t_work_q t_pages_q t_canBe_q t_leadsOn_q t_seen_q t_seenMany t_heard_q t_heardMany t_isKept_q t_lanes_q t_lengths_q t_cells_q t_torn, aI g t_state_q 196 t_state]) (As := [.long (p1.toInt64), .long (0 : Int64), .long (1 : Int64)]) (rest := []) (c_X8_in l g _ (p1.toInt64) (0 : Int64) (1 : Int64) r_1 hc_2) ⟨hx, hb, hml, hown, hts⟩ (va_cwS 3 hts gX8_leads_X8_in rfl rfl rfl (by decide +kernel) ⟨by decide, by decide⟩) hK hz hk hP (hD.re rfl) hS hA [] rfl rfl rfl rfl rfl hl.1 rfl (Nat.le_of_ble_eq_true rfl) dX8_leads_4 (fun H locs hP hS => ?_)
  refine lv_if_ne (tgt := 12) hx hb dX8_leads_7 (by decide) (fun c_3 => ?_) (fun c_3 => ?_)
  · have hf := ite_f hf c_3
    refine lv_aload_n hx hb dX8_leads_12 rfl (lv_at hl 0 rfl) ?_
    refine va_get (D := g.1) (ci := 8) (v := .ref t_state_q) (C := RX8) (T := TX8) (N := 39) hx hb hts inX8 hown hK hP 0 rfl rfl 0 (by decide) k7 (fun _ h9 => h9) rfl dX8_leads_13 ?_
    refine lv_bipush (v := (31 : Int32)) hx hb dX8_leads_16 (by decide) ?_
    obtain ⟨h_4, hf⟩ := gin_e hf
    refine va_iald hx hb hK hP 1 0 rfl rfl h_4 dX8_leads_18 ?_
    obtain ⟨v2_5, ev2_5, hf⟩ := bnd_e hf
    refine tp_i ev2_5 ?_
    refine lv_istore_n (lv' := [(2, .int v2_5), (0, .ref t_q), (1, .int p1)]) hx hb dX8_leads_19 rfl hl (by decide) rfl (fun ls hl => ?_)
    refine lv_aload_n hx hb dX8_leads_20 rfl (lv_at hl 1 rfl) ?_
    refine va_get (D := g.1) (ci := 8) (v := .ref t_state_q) (C := RX8) (T := TX8) (N := 39) hx hb hts inX8 hown hK hP 0 rfl rfl 0 (by decide) k7 (fun _ h9 => h9) rfl dX8_leads_21 ?_
    refine lv_bipush (v := (46 : Int32)) hx hb dX8_leads_24 (by decide) ?_
    obtain ⟨h_6, hf⟩ := gin_e hf
    refine va_iald hx hb hK hP 1 0 rfl rfl h_6 dX8_leads_26 ?_
    refine lv_iconst (v := (1 : Int32)) hx hb dX8_leads_27 (by decide) ?_
    refine lv_isub hx hb dX8_leads_28 ?_
    obtain ⟨v3_7, ev3_7, hf⟩ := bnd_e hf
    refine tp_i ev3_7 ?_
    refine lv_istore_n (lv' := [(3, .int v3_7), (2, .int v2_5), (0, .ref t_q), (1, .int p1)]) hx hb dX8_leads_29 rfl hl (by decide) rfl (fun ls hl => ?_)
    obtain ⟨z0_10, ho_10, hkr_10, hke_10⟩ := obm2_e hf
    have K_10 : ∀ (x2_18 : Int32) (x3_19 : Int32), z0_10 = .inr (x2_18, x3_19) → ∀ (H : Heap) (locs : List Loc) (ls : Array Slot), va_P g.1 vwCl [oX8 t_q t_state_q t_roomMany t_doorMany t_stringLong t_laws_q t_lawMany t_readPage_q t_readLaws_q t_readRooms t_readDoors t_readString t_readLawMany t_toldOnce t_highRoom t_highDoor t_tape_q t_taped t_fault t_broken t_brokenAt t_spot t_here t_token t_value t_cuts_q t_letters_q t_work_q t_pages_q t_canBe_q t_leadsOn_q t_seen_q t_seenMany t_heard_q t_heardMany t_isKept_q t_lanes_q t_lengths_q t_cells_q t_torn, aI g t_state_q 196 t_state] H → va_S A s.heap H locs → lv_has ls 5 [(1, .int p1), (2, .int x2_18)] → W p l e rmX8_leads s m args below meth c H locs 0 0 Q (F0 m 81 ls []) := by
      intro x2_18 x3_19 hz9 H locs ls hP hS hl
      have hf := hke_10 x2_18 x3_19 hz9
      refine lv_iload_n hx hb dX8_leads_81 rfl (lv_at hl 0 rfl) ?_
      refine lv_if_ne (tgt := 89) hx hb dX8_leads_82 (by decide) (fun c_20 => ?_) (fun c_20 => ?_)
      · have hf := ite_f hf c_20
        refine lv_bipush (v := (-4 : Int32)) hx hb dX8_leads_89 (by decide) ?_
        exact hret (-4 : Int32) (Option.some.inj hf) _ _ _ _ hP hS dX8_leads_91
      · have hf := ite_t hf c_20
        refine lv_iload_n hx hb dX8_leads_85 rfl (lv_at hl 1 rfl) ?_
        refine lv_goto (tgt := 91) hx hb dX8_leads_86 (by decide) ?_
        exact hret x2_18 (Option.some.inj hf) _ _ _ _ hP hS dX8_leads_91
    have L_10 : ∀ (n : Nat) (v2_8 : Int32) (v3_9 : Int32), itr (un2 (b_X8_leads_30 t_state p1)) n (v2_8, v3_9) = some z0_10 → ∀ (H : Heap) (locs : List Loc) (ls : Array Slot), va_P g.1 vwCl [oX8 t_q t_state_q t_roomMany t_doorMany t_stringLong t_laws_q t_lawMany t_readPage_q t_readLaws_q t_readRooms t_readDoors t_readString t_readLawMany t_toldOnce t_highRoom t_highDoor t_tape_q t_taped t_fault t_broken t_brokenAt t_spot t_here t_token t_value t_cuts_q t_letters_q t_work_q t_pages_q t_canBe_q t_leadsOn_q t_seen_q t_seenMany t_heard_q t_heardMany t_isKept_q t_lanes_q t_lengths_q t_cells_q t_torn, aI g t_state_q 196 t_state] H → va_S A s.heap H locs → lv_has ls 5 [(0, .ref t_q), (1, .int p1), (2, .int v2_8), (3, .int v3_9)] → W p l e rmX8_leads s m args below meth c H locs 0 0 Q (F0 m 30 ls []) := by
      refine itr_ind2 ?_
      intro v2_8 v3_9 z_10 hf hrec hex H locs ls hP hS hl
      unfold b_X8_leads_30 at hf
      refine lv_iload_n hx hb dX8_leads_30 rfl (lv_at hl 3 rfl) ?_
      refine lv_if_lt (tgt := 81) hx hb dX8_leads_31 (by decide) (fun c_11 => ?_) (fun c_11 => ?_)
      · have hf := ite_t hf c_11
        exact K_10 v2_8 v3_9 (hex _ (Option.some.inj hf).symm).symm _ _ _ hP hS (lv_sub hl [1, 2] rfl)
      · have hf := ite_f hf c_11
        refine lv_aload_n hx hb dX8_leads_34 rfl (lv_at hl 0 rfl) ?_
        refine lv_aload_n hx hb dX8_leads_35 rfl (lv_at hl 0 rfl) ?_
        refine va_get (D := g.1) (ci := 8) (v := .ref t_state_q) (C := RX8) (T := TX8) (N := 39) hx hb hts inX8 hown hK hP 0 rfl rfl 0 (by decide) k7 (fun _ h9 => h9) rfl dX8_leads_36 ?_
        refine lv_iconst (v := (0 : Int32)) hx hb dX8_leads_39 (by decide) ?_
        refine lv_aload_n hx hb dX8_leads_40 rfl (lv_at hl 0 rfl) ?_
        refine va_get (D := g.1) (ci := 8) (v := .ref t_state_q) (C := RX8) (T := TX8) (N := 39) hx hb hts inX8 hown hK hP 0 rfl rfl 0 (by decide) k7 (fun _ h9 => h9) rfl dX8_leads_41 ?_
        refine lv_bipush (v := (34 : Int32)) hx hb dX8_leads_44 (by decide) ?_
        refine lv_iload_n hx hb dX8_leads_46 rfl (lv_at hl 3 rfl) ?_
        refine lv_iadd hx hb dX8_leads_47 ?_
        obtain ⟨h_12, hf⟩ := gin_e hf
        refine va_iald hx hb hK hP 1 0 rfl rfl h_12 dX8_leads_48 ?_
        refine lv_iload_n hx hb dX8_leads_49 rfl (lv_at hl 2 rfl) ?_
        obtain ⟨r_13, hc_14, hf⟩ := ob1_e hf
        refine kV_i (wn := [oX8 t_q t_state_q t_roomMany t_doorMany t_stringLong t_laws_q t_lawMany t_readPage_q t_readLaws_q t_readRooms t_readDoors t_readString t_readLawMany t_toldOnce t_highRoom t_highDoor t_tape_q t_taped t_fault t_broken t_brokenAt t_spot t_here t_token t_value t_cuts_q t_letters_q t_work_q t_pages_q t_canBe_q t_leadsOn_q t_seen_q t_seenMany t_heard_q t_heardMany t_isKept_q t_lanes_q t_lengths_q t_cells_q t_torn, aI g t_state_q 196 t_state]) (As := [.ref t_state_q, .int (0 : Int32), .int (t_state ((34 : Int32) + v3_9).toNatClampNeg), .int v2_8]) (rest := []) (c_X8_leadsTo l g _ t_q t_state_q t_laws_q t_readPage_q t_readLaws_q t_tape_q t_cuts_q t_letters_q t_work_q t_pages_q t_canBe_q t_leadsOn_q t_seen_q t_heard_q t_isKept_q t_lanes_q t_lengths_q t_cells_q t_state_q t_roomMany t_doorMany t_stringLong t_lawMany t_readRooms t_readDoors t_readString t_readLawMany t_toldOnce t_highRoom t_highDoor t_taped t_fault t_broken t_brokenAt t_spot t_here t_token t_value t_seenMany t_heardMany t_torn 196 t_state (0 : Int32) (t_state ((34 : Int32) + v3_9).toNatClampNeg) v2_8 r_13 hc_14) ⟨hx, hb, hml, hown, hts⟩ (cwV 4 hts gX8_leads_X8_leadsTo rfl rfl rfl (by decide +kernel) ⟨by decide, by decide⟩) hK hz hk hP (hD.re rfl) hS hA [0, 1] rfl rfl rfl rfl rfl rfl rfl hl.1 rfl (Nat.le_of_ble_eq_true rfl) dX8_leads_50 (fun H locs hP hS => ?_)
        refine lv_istore (lv' := [(4, .int r_13), (0, .ref t_q), (1, .int p1), (2, .int v2_8), (3, .int v3_9)]) hx hb dX8_leads_53 hl (by decide) rfl (fun ls hl => ?_)
        refine lv_iload hx hb dX8_leads_55 (lv_at hl 0 rfl) ?_
        refine lv_bipush (v := (-4 : Int32)) hx hb dX8_leads_57 (by decide) ?_
        refine lv_icmp_ne (tgt := 72) hx hb dX8_leads_59 (by decide) (fun c_15 => ?_) (fun c_15 => ?_)
        · have hf := ite_f hf c_15
          refine lv_iload hx hb dX8_leads_72 (lv_at hl 0 rfl) ?_
          refine lv_istore_n (lv' := [(2, .int r_13), (4, .int r_13), (0, .ref t_q), (1, .int p1), (3, .int v3_9)]) hx hb dX8_leads_74 rfl hl (by decide) rfl (fun ls hl => ?_)
          obtain ⟨v3_16, ev3_16, hf⟩ := bnd_e hf
          refine lv_iinc (v := v3_16) (lv' := [(3, .int v3_16), (2, .int r_13), (4, .int r_13), (0, .ref t_q), (1, .int p1)]) hx hb dX8_leads_75 hl (k := 4) rfl (by rw [ev3_16]; rfl) (by decide) rfl (fun ls hl => ?_)
          refine lv_goto (tgt := 30) hx hb dX8_leads_78 (by decide) ?_
          exact hrec r_13 v3_16 (Option.some.inj hf).symm _ _ _ hP hS (lv_sub hl [3, 4, 1, 0] rfl)
        · have hf := ite_t hf c_15
          refine lv_iload_n hx hb dX8_leads_62 rfl (lv_at hl 2 rfl) ?_
          refine lv_if_ne (tgt := 70) hx hb dX8_leads_63 (by decide) (fun c_17 => ?_) (fun c_17 => ?_)
          · have hf := ite_f hf c_17
            refine lv_iload_n hx hb dX8_leads_70 rfl (lv_at hl 4 rfl) ?_
            exact hret v3_9 (hkr_10 _ (hex _ (Option.some.inj hf).symm).symm) _ _ _ _ hP hS dX8_leads_71
          · have hf := ite_t hf c_17
            refine lv_iload_n hx hb dX8_leads_66 rfl (lv_at hl 3 rfl) ?_
            refine lv_goto (tgt := 71) hx hb dX8_leads_67 (by decide) ?_
            exact hret v2_8 (hkr_10 _ (hex _ (Option.some.inj hf).symm).symm) _ _ _ _ hP hS dX8_leads_71
    exact L_10 FU v2_5 v3_7 ho_10 _ _ _ hP hS (lv_sub hl [2, 3, 1, 0] rfl)
  · have hf := ite_t hf c_3
    refine lv_iconst (v := (-1 : Int32)) hx hb dX8_leads_10 (by decide) ?_
    exact hret (-1 : Int32) (Option.some.inj hf) _ _ _ _ hP hS dX8_leads_11

def f_X8_lurk (t_roomMany : Int32) (t_state : Nat → Int32) (p1 : Int32) (p2 : Int32) : Option (Int32 × (Nat → Int32)) :=
 (ob1 (f_X8_isRoom t_roomMany p1) (fun r_1 =>
 (jn0 (ob1 (f_X8_in (p2.toInt64) (0 : Int64) (3 : Int64)) (fun r_4 =>
 (if r_4 = (0 : Int32) then
 (some ((-1 : Int32), t_state))
 else (gin (31 : Int32) 196 (if p1 = (t_state (31 : Int32).toNatClampNeg) then
 (some ((-2 : Int32), t_state))
 else (ob1 (f_X8_beastNow t_state) (fun r_9 =>
 (jn1 (fun (s_11 : Int32) => (gin (32 : Int32) 196 (bnd (upd t_state (32 : Int32).toNatClampNeg s_11) (fun t_state_14 =>
 (gin (33 : Int32) 196 (bnd (upd t_state_14 (33 : Int32).toNatClampNeg p2) (fun t_state_16 =>
 (some (r_9, t_state_16))))))))) (fun j_12 =>
 (if p1 = (-4 : Int32) then
 (j_12 (0 : Int32))
 else (j_12 (p1 + (1 : Int32))))))))))))) (fun j_3 =>
 (if r_1 = (0 : Int32) then
 (if p1 = (-4 : Int32) then
 (j_3)
 else (some ((-1 : Int32), t_state)))
 else (j_3))))))
abbrev rmX8_lurk : Room := { frames := 2, cells := 0, slots := 0, locals := 46 }
set_option maxHeartbeats 4000000 in
set_option maxRecDepth 100000 in
theorem c_X8_lurk (l : Launch) (g : Gh) (sz : Nat) (t_q t_state_q t_laws_q t_readPage_q t_readLaws_q t_tape_q t_cuts_q t_letters_q t_work_q t_pages_q t_canBe_q t_leadsOn_q t_seen_q t_heard_q t_isKept_q t_lanes_q t_lengths_q t_cells_q : Nat) (t_roomMany : Int32) (t_doorMany : Int32) (t_stringLong : Int32) (t_lawMany : Int32) (t_readRooms : Int32) (t_readDoors : Int32) (t_readString : Int32) (t_readLawMany : Int32) (t_toldOnce : Int32) (t_highRoom : Int32) (t_highDoor : Int32) (t_taped : Int32) (t_fault : Int32) (t_broken : Int32) (t_brokenAt : Int32) (t_spot : Int32) (t_here : Int32) (t_token : Int32) (t_value : Int32) (t_seenMany : Int32) (t_heardMany : Int32) (t_torn : Int32) (t_state : Nat → Int32) (p1 : Int32) (p2 : Int32) (rr : Int32) (t_state' : Nat → Int32) (hf : f_X8_lurk t_roomMany t_state p1 p2 = some (rr, t_state')) : CI l yX8_lurk wsX8_lurk rmX8_lurk [.ref t_q, .int p1, .int p2] g sz [oX8 t_q t_state_q t_roomMany t_doorMany t_stringLong t_laws_q t_lawMany t_readPage_q t_readLaws_q t_readRooms t_readDoors t_readString t_readLawMany t_toldOnce t_highRoom t_highDoor t_tape_q t_taped t_fault t_broken t_brokenAt t_spot t_here t_token t_value t_cuts_q t_letters_q t_work_q t_pages_q t_canBe_q t_leadsOn_q t_seen_q t_seenMany t_heard_q t_heardMany t_isKept_q t_lanes_q t_lengths_q t_cells_q t_torn, aI g t_state_q 196 t_state] [oX8 t_q t_state_q t_roomMany t_doorMany t_stringLong t_laws_q t_lawMany t_readPage_q t_readLaws_q t_readRooms t_readDoors t_readString t_readLawMany t_toldOnce t_highRoom t_highDoor t_tape_q t_taped t_fault t_broken t_brokenAt t_spot t_here t_token t_value t_cuts_q t_letters_q t_work_q t_pages_q t_canBe_q t_leadsOn_q t_seen_q t_seenMany t_heard_q t_heardMany t_isKept_q t_lanes_q t_lengths_q t_cells_q t_torn, aI g t_state_q 196 t_state'] rr := by
  refine ent_i (cc := cX8_lurk) (maxL := 4) (by decide) rfl (Nat.le_of_ble_eq_true rfl) ?_
  intro p e s m args below meth c A Q hx hb hml hown hts hK hz hk hA hD hP hS hret ls hl
  have hown : s.vm.findClass RX8 = some m.cls := hown
  have inX8 : ∀ w ∈ u_ws RX8 TX8 39, w ∈ wsX8_lurk := by decide +kernel
  have k7 := hts (.fieldLink RX8 7 "ThreadMovedModel" "state" "[I") (by decide +kernel)
  have q150 := hts (.constantLong RX8 150 (3)) (by decide +kernel)
  have hl : lv_has ls 4 [(0, .ref t_q), (1, .int p1), (2, .int p2)] := hl
  have hret : ∀ (rrz : Int32) (t_statez : Nat → Int32), (rrz, t_statez) = (rr, t_state') → ∀ (H : Heap) (locs : List Loc) (pc : Nat) (ls : Array Slot), va_P g.1 vwCl [oX8 t_q t_state_q t_roomMany t_doorMany t_stringLong t_laws_q t_lawMany t_readPage_q t_readLaws_q t_readRooms t_readDoors t_readString t_readLawMany t_toldOnce t_highRoom t_highDoor t_tape_q t_taped t_fault t_broken t_brokenAt t_spot t_here t_token t_value t_cuts_q t_letters_q t_work_q t_pages_q t_canBe_q t_leadsOn_q t_seen_q t_seenMany t_heard_q t_heardMany t_isKept_q t_lanes_q t_lengths_q t_cells_q t_torn, aI g t_state_q 196 t_statez] H → va_S A s.heap H locs → decode cX8_lurk pc = .ok (.ireturn, 1) → W p l e rmX8_lurk s m args below meth c H locs 0 0 Q (F0 m pc ls [.int rrz]) := by
    intro rrz t_statez he H locs pc ls hP hS hd
    cases he
    exact hret H locs pc ls hP hS hd
  unfold f_X8_lurk at hf
  refine lv_aload_n hx hb dX8_lurk_0 rfl (lv_at hl 0 rfl) ?_
  refine lv_iload_n hx hb dX8_lurk_1 rfl (lv_at hl 1 rfl) ?_
  obtain ⟨r_1, hc_2, hf⟩ := ob1_e hf
  refine kV_i (wn := [oX8 t_q t_state_q t_roomMany t_doorMany t_stringLong t_laws_q t_lawMany t_readPage_q t_readLaws_q t_readRooms t_readDoors t_readString t_readLawMany t_toldOnce t_highRoom t_highDoor t_tape_q t_taped t_fault t_broken t_brokenAt t_spot t_here t_token t_value t_cuts_q t_letters_q t_work_q t_pages_q t_canBe_q t_leadsOn_q t_seen_q t_seenMany t_heard_q t_heardMany t_isKept_q t_lanes_q t_lengths_q t_cells_q t_torn, aI g t_state_q 196 t_state]) (As := [.int p1]) (rest := []) (c_X8_isRoom l g _ t_q t_state_q t_laws_q t_readPage_q t_readLaws_q t_tape_q t_cuts_q t_letters_q t_work_q t_pages_q t_canBe_q t_leadsOn_q t_seen_q t_heard_q t_isKept_q t_lanes_q t_lengths_q t_cells_q t_roomMany t_doorMany t_stringLong t_lawMany t_readRooms t_readDoors t_readString t_readLawMany t_toldOnce t_highRoom t_highDoor t_taped t_fault t_broken t_brokenAt t_spot t_here t_token t_value t_seenMany t_heardMany t_torn p1 r_1 hc_2) ⟨hx, hb, hml, hown, hts⟩ (cwV 1 hts gX8_lurk_X8_isRoom rfl rfl rfl (by decide +kernel) ⟨by decide, by decide⟩) hK hz hk hP (hD.re rfl) hS hA [0] rfl rfl rfl rfl rfl rfl rfl hl.1 rfl (Nat.le_of_ble_eq_true rfl) dX8_lurk_2 (fun H locs hP hS => ?_)
  obtain ⟨j_3, hj_3, hf⟩ := jn0_e hf
  have J_3 : j_3 = some (rr, t_state') → ∀ (H : Heap) (locs : List Loc) (ls : Array Slot), va_P g.1 vwCl [oX8 t_q t_state_q t_roomMany t_doorMany t_stringLong t_laws_q t_lawMany t_readPage_q t_readLaws_q t_readRooms t_readDoors t_readString t_readLawMany t_toldOnce t_highRoom t_highDoor t_tape_q t_taped t_fault t_broken t_brokenAt t_spot t_here t_token t_value t_cuts_q t_letters_q t_work_q t_pages_q t_canBe_q t_leadsOn_q t_seen_q t_seenMany t_heard_q t_heardMany t_isKept_q t_lanes_q t_lengths_q t_cells_q t_torn, aI g t_state_q 196 t_state] H → va_S A s.heap H locs → lv_has ls 4 [(0, .ref t_q), (1, .int p1), (2, .int p2)] → W p l e rmX8_lurk s m args below meth c H locs 0 0 Q (F0 m 14 ls []) := by
    intro hf H locs ls hP hS hl
    rw [hj_3] at hf
    refine lv_iload_n hx hb dX8_lurk_14 rfl (lv_at hl 2 rfl) ?_
    refine lv_i2l hx hb dX8_lurk_15 rfl ?_
    refine lv_lconst (v := (0 : Int64)) hx hb dX8_lurk_16 (by decide) ?_
    refine lv_ldc2 hx hb hown q150 dX8_lurk_17 ?_
    obtain ⟨r_4, hc_5, hf⟩ := ob1_e hf
    refine kS_i (wn := [oX8 t_q t_state_q t_roomMany t_doorMany t_stringLong t_laws_q t_lawMany t_readPage_q t_readLaws_q t_readRooms t_readDoors t_readString t_readLawMany t_toldOnce t_highRoom t_highDoor t_tape_q t_taped t_fault t_broken t_brokenAt t_spot t_here t_token t_value t_cuts_q t_letters_q t_work_q t_pages_q t_canBe_q t_leadsOn_q t_seen_q t_seenMany t_heard_q t_heardMany t_isKept_q t_lanes_q t_lengths_q t_cells_q t_torn, aI g t_state_q 196 t_state]) (As := [.long (p2.toInt64), .long (0 : Int64), .long (3 : Int64)]) (rest := []) (c_X8_in l g _ (p2.toInt64) (0 : Int64) (3 : Int64) r_4 hc_5) ⟨hx, hb, hml, hown, hts⟩ (va_cwS 3 hts gX8_lurk_X8_in rfl rfl rfl (by decide +kernel) ⟨by decide, by decide⟩) hK hz hk hP (hD.re rfl) hS hA [] rfl rfl rfl rfl rfl hl.1 rfl (Nat.le_of_ble_eq_true rfl) dX8_lurk_20 (fun H locs hP hS => ?_)
    refine lv_if_ne (tgt := 28) hx hb dX8_lurk_23 (by decide) (fun c_6 => ?_) (fun c_6 => ?_)
    · have hf := ite_f hf c_6
      refine lv_iload_n hx hb dX8_lurk_28 rfl (lv_at hl 1 rfl) ?_
      refine lv_aload_n hx hb dX8_lurk_29 rfl (lv_at hl 0 rfl) ?_
      refine va_get (D := g.1) (ci := 8) (v := .ref t_state_q) (C := RX8) (T := TX8) (N := 39) hx hb hts inX8 hown hK hP 0 rfl rfl 0 (by decide) k7 (fun _ h9 => h9) rfl dX8_lurk_30 ?_
      refine lv_bipush (v := (31 : Int32)) hx hb dX8_lurk_33 (by decide) ?_
      obtain ⟨h_7, hf⟩ := gin_e hf
      refine va_iald hx hb hK hP 1 0 rfl rfl h_7 dX8_lurk_35 ?_
      refine lv_icmp_ne (tgt := 42) hx hb dX8_lurk_36 (by decide) (fun c_8 => ?_) (fun c_8 => ?_)
      · have hf := ite_f hf c_8
        refine lv_aload_n hx hb dX8_lurk_42 rfl (lv_at hl 0 rfl) ?_
        obtain ⟨r_9, hc_10, hf⟩ := ob1_e hf
        refine kV_i (wn := [oX8 t_q t_state_q t_roomMany t_doorMany t_stringLong t_laws_q t_lawMany t_readPage_q t_readLaws_q t_readRooms t_readDoors t_readString t_readLawMany t_toldOnce t_highRoom t_highDoor t_tape_q t_taped t_fault t_broken t_brokenAt t_spot t_here t_token t_value t_cuts_q t_letters_q t_work_q t_pages_q t_canBe_q t_leadsOn_q t_seen_q t_seenMany t_heard_q t_heardMany t_isKept_q t_lanes_q t_lengths_q t_cells_q t_torn, aI g t_state_q 196 t_state]) (As := []) (rest := []) (c_X8_beastNow l g _ t_q t_state_q t_laws_q t_readPage_q t_readLaws_q t_tape_q t_cuts_q t_letters_q t_work_q t_pages_q t_canBe_q t_leadsOn_q t_seen_q t_heard_q t_isKept_q t_lanes_q t_lengths_q t_cells_q t_roomMany t_doorMany t_stringLong t_lawMany t_readRooms t_readDoors t_readString t_readLawMany t_toldOnce t_highRoom t_highDoor t_taped t_fault t_broken t_brokenAt t_spot t_here t_token t_value t_seenMany t_heardMany t_torn t_state r_9 hc_10) ⟨hx, hb, hml, hown, hts⟩ (cwV 0 hts gX8_lurk_X8_beastNow rfl rfl rfl (by decide +kernel) ⟨by decide, by decide⟩) hK hz hk hP (hD.re rfl) hS hA [0, 1] rfl rfl rfl rfl rfl rfl rfl hl.1 rfl (Nat.le_of_ble_eq_true rfl) dX8_lurk_43 (fun H locs hP hS => ?_)
        refine lv_istore_n (lv' := [(3, .int r_9), (0, .ref t_q), (1, .int p1), (2, .int p2)]) hx hb dX8_lurk_46 rfl hl (by decide) rfl (fun ls hl => ?_)
        refine lv_aload_n hx hb dX8_lurk_47 rfl (lv_at hl 1 rfl) ?_
        refine va_get (D := g.1) (ci := 8) (v := .ref t_state_q) (C := RX8) (T := TX8) (N := 39) hx hb hts inX8 hown hK hP 0 rfl rfl 0 (by decide) k7 (fun _ h9 => h9) rfl dX8_lurk_48 ?_
        refine lv_bipush (v := (32 : Int32)) hx hb dX8_lurk_51 (by decide) ?_
        refine lv_iload_n hx hb dX8_lurk_53 rfl (lv_at hl 2 rfl) ?_
        refine lv_bipush (v := (-4 : Int32)) hx hb dX8_lurk_54 (by decide) ?_
        obtain ⟨j_12, hj_12, hf⟩ := jn1_e hf
        have J_12 : ∀ (s_11 : Int32), j_12 s_11 = some (rr, t_state') → ∀ (H : Heap) (locs : List Loc) (ls : Array Slot), va_P g.1 vwCl [oX8 t_q t_state_q t_roomMany t_doorMany t_stringLong t_laws_q t_lawMany t_readPage_q t_readLaws_q t_readRooms t_readDoors t_readString t_readLawMany t_toldOnce t_highRoom t_highDoor t_tape_q t_taped t_fault t_broken t_brokenAt t_spot t_here t_token t_value t_cuts_q t_letters_q t_work_q t_pages_q t_canBe_q t_leadsOn_q t_seen_q t_seenMany t_heard_q t_heardMany t_isKept_q t_lanes_q t_lengths_q t_cells_q t_torn, aI g t_state_q 196 t_state] H → va_S A s.heap H locs → lv_has ls 4 [(0, .ref t_q), (2, .int p2), (3, .int r_9)] → W p l e rmX8_lurk s m args below meth c H locs 0 0 Q (F0 m 66 ls [.int s_11, .int (32 : Int32), .ref t_state_q]) := by
          intro s_11 hf H locs ls hP hS hl
          rw [hj_12] at hf
          obtain ⟨h_13, hf⟩ := gin_e hf
          obtain ⟨t_state_14, et_state_14, hf⟩ := bnd_e hf
          refine va_iast hx hb hK hP (hD.re rfl) hS 1 0 rfl rfl h_13 dX8_lurk_66 (fun H locs hP _ hS => ?_)
          have hP : va_P g.1 vwCl [oX8 t_q t_state_q t_roomMany t_doorMany t_stringLong t_laws_q t_lawMany t_readPage_q t_readLaws_q t_readRooms t_readDoors t_readString t_readLawMany t_toldOnce t_highRoom t_highDoor t_tape_q t_taped t_fault t_broken t_brokenAt t_spot t_here t_token t_value t_cuts_q t_letters_q t_work_q t_pages_q t_canBe_q t_leadsOn_q t_seen_q t_seenMany t_heard_q t_heardMany t_isKept_q t_lanes_q t_lengths_q t_cells_q t_torn, aI g t_state_q 196 t_state_14] H := by rw [et_state_14]; exact hP
          refine lv_aload_n hx hb dX8_lurk_67 rfl (lv_at hl 0 rfl) ?_
          refine va_get (D := g.1) (ci := 8) (v := .ref t_state_q) (C := RX8) (T := TX8) (N := 39) hx hb hts inX8 hown hK hP 0 rfl rfl 0 (by decide) k7 (fun _ h9 => h9) rfl dX8_lurk_68 ?_
          refine lv_bipush (v := (33 : Int32)) hx hb dX8_lurk_71 (by decide) ?_
          refine lv_iload_n hx hb dX8_lurk_73 rfl (lv_at hl 1 rfl) ?_
          obtain ⟨h_15, hf⟩ := gin_e hf
          obtain ⟨t_state_16, et_state_16, hf⟩ := bnd_e hf
          refine va_iast hx hb hK hP (hD.re rfl) hS 1 0 rfl rfl h_15 dX8_lurk_74 (fun H locs hP _ hS => ?_)
          have hP : va_P g.1 vwCl [oX8 t_q t_state_q t_roomMany t_doorMany t_stringLong t_laws_q t_lawMany t_readPage_q t_readLaws_q t_readRooms t_readDoors t_readString t_readLawMany t_toldOnce t_highRoom t_highDoor t_tape_q t_taped t_fault t_broken t_brokenAt t_spot t_here t_token t_value t_cuts_q t_letters_q t_work_q t_pages_q t_canBe_q t_leadsOn_q t_seen_q t_seenMany t_heard_q t_heardMany t_isKept_q t_lanes_q t_lengths_q t_cells_q t_torn, aI g t_state_q 196 t_state_16] H := by rw [et_state_16]; exact hP
          refine lv_iload_n hx hb dX8_lurk_75 rfl (lv_at hl 2 rfl) ?_
          exact hret r_9 t_state_16 (Option.some.inj hf) _ _ _ _ hP hS dX8_lurk_76
        refine lv_icmp_ne (tgt := 63) hx hb dX8_lurk_56 (by decide) (fun c_17 => ?_) (fun c_17 => ?_)
        · have hf := ite_f hf c_17
          refine lv_iload_n hx hb dX8_lurk_63 rfl (lv_at hl 2 rfl) ?_
          refine lv_iconst (v := (1 : Int32)) hx hb dX8_lurk_64 (by decide) ?_
          refine lv_iadd hx hb dX8_lurk_65 ?_
          exact J_12 (p1 + (1 : Int32)) hf _ _ _ hP hS (lv_sub hl [1, 3, 0] rfl)
        · have hf := ite_t hf c_17
          refine lv_iconst (v := (0 : Int32)) hx hb dX8_lurk_59 (by decide) ?_
          refine lv_goto (tgt := 66) hx hb dX8_lurk_60 (by decide) ?_
          exact J_12 (0 : Int32) hf _ _ _ hP hS (lv_sub hl [1, 3, 0] rfl)
      · have hf := ite_t hf c_8
        refine lv_bipush (v := (-2 : Int32)) hx hb dX8_lurk_39 (by decide) ?_
        exact hret (-2 : Int32) t_state (Option.some.inj hf) _ _ _ _ hP hS dX8_lurk_41
    · have hf := ite_t hf c_6
      refine lv_iconst (v := (-1 : Int32)) hx hb dX8_lurk_26 (by decide) ?_
      exact hret (-1 : Int32) t_state (Option.some.inj hf) _ _ _ _ hP hS dX8_lurk_27
  refine lv_if_ne (tgt := 14) hx hb dX8_lurk_5 (by decide) (fun c_18 => ?_) (fun c_18 => ?_)
  · have hf := ite_f hf c_18
    exact J_3 hf _ _ _ hP hS (lv_sub hl [0, 1, 2] rfl)
  · have hf := ite_t hf c_18
    refine lv_iload_n hx hb dX8_lurk_8 rfl (lv_at hl 1 rfl) ?_
    refine lv_bipush (v := (-4 : Int32)) hx hb dX8_lurk_9 (by decide) ?_
    refine lv_icmp_ne (tgt := 26) hx hb dX8_lurk_11 (by decide) (fun c_19 => ?_) (fun c_19 => ?_)
    · have hf := ite_f hf c_19
      refine lv_iconst (v := (-1 : Int32)) hx hb dX8_lurk_26 (by decide) ?_
      exact hret (-1 : Int32) t_state (Option.some.inj hf) _ _ _ _ hP hS dX8_lurk_27
    · have hf := ite_t hf c_19
      exact J_3 hf _ _ _ hP hS (lv_sub hl [0, 1, 2] rfl)
