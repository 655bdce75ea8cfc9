def b_X8_nameHere_51 (t_taped : Int32) (t_spot : Int32) (t_here : Int32) (t_cuts : Nat → Int32) (t_letters : Nat → Int32) (t_tape : Nat → Int32) (v1_1 : Int32) (v2_9 : Int32) (v3_10 : Int32) : Option ((Int32 × Int32) ⊕ (Int32 × Int32)) :=
 (if v2_9 = (0 : Int32) then
 (some (.inr (v2_9, v3_10)))
 else (if (t_spot - t_here) ≤ v3_10 then
 (some (.inr (v2_9, v3_10)))
 else (ob1 (f_X8_byteAt t_taped t_tape (t_here + v3_10)) (fun r_14 =>
 (gin v1_1 15 (gin ((t_cuts v1_1.toNatClampNeg) + v3_10) 66 (jn1 (fun (s_18 : Int32) => (bnd (v3_10 + (1 : Int32)) (fun v3_20 =>
 (some (.inl (s_18, v3_20)))))) (fun j_19 =>
 (if r_14 = (t_letters ((t_cuts v1_1.toNatClampNeg) + v3_10).toNatClampNeg) then
 (j_19 (1 : Int32))
 else (j_19 (0 : Int32)))))))))))
def b_X8_nameHere_2 (t_taped : Int32) (t_spot : Int32) (t_here : Int32) (t_token : Int32) (t_cuts : Nat → Int32) (t_letters : Nat → Int32) (t_tape : Nat → Int32) (v1_1 : Int32) : Option ((Int32) ⊕ ((Int32) ⊕ (Int32))) :=
 (if (14 : Int32) ≤ v1_1 then
 (some (.inr (.inr v1_1)))
 else (if t_token = (1 : Int32) then
 (gin (v1_1 + (1 : Int32)) 15 (gin v1_1 15 (jn1 (fun (s_7 : Int32) => (ob2 (itr (un2 (b_X8_nameHere_51 t_taped t_spot t_here t_cuts t_letters t_tape v1_1)) FU (s_7, (0 : Int32))) (fun x2_22 x3_23 =>
 (if x2_22 = (0 : Int32) then
 (bnd (v1_1 + (1 : Int32)) (fun v1_25 =>
 (some (.inl v1_25))))
 else (some (.inr (.inl v1_1))))))) (fun j_8 =>
 (if (t_spot - t_here) = ((t_cuts (v1_1 + (1 : Int32)).toNatClampNeg) - (t_cuts v1_1.toNatClampNeg)) then
 (j_8 (1 : Int32))
 else (j_8 (0 : Int32)))))))
 else (some (.inr (.inr v1_1)))))
def f_X8_nameHere (t_taped : Int32) (t_spot : Int32) (t_here : Int32) (t_token : Int32) (t_cuts : Nat → Int32) (t_letters : Nat → Int32) (t_tape : Nat → Int32) : Option (Int32) :=
 (obm1 (itr (un1 (b_X8_nameHere_2 t_taped t_spot t_here t_token t_cuts t_letters t_tape)) FU (0 : Int32)) (fun x1_27 =>
 (some (-4 : Int32))))
abbrev rmX8_nameHere : Room := { frames := 1, cells := 0, slots := 0, locals := 21 }
set_option maxHeartbeats 4000000 in
set_option maxRecDepth 100000 in
theorem c_X8_nameHere (l : Launch) (g : Gh) (sz : Nat) (t_q t_state_q t_laws_q t_readPage_q t_readLaws_q t_tape_q t_cuts_q t_letters_q t_work_q t_pages_q t_canBe_q t_leadsOn_q t_seen_q t_heard_q t_isKept_q t_lanes_q t_lengths_q t_cells_q : Nat) (t_roomMany : Int32) (t_doorMany : Int32) (t_stringLong : Int32) (t_lawMany : Int32) (t_readRooms : Int32) (t_readDoors : Int32) (t_readString : Int32) (t_readLawMany : Int32) (t_toldOnce : Int32) (t_highRoom : Int32) (t_highDoor : Int32) (t_taped : Int32) (t_fault : Int32) (t_broken : Int32) (t_brokenAt : Int32) (t_spot : Int32) (t_here : Int32) (t_token : Int32) (t_value : Int32) (t_seenMany : Int32) (t_heardMany : Int32) (t_torn : Int32) (t_cuts : Nat → Int32) (t_letters : Nat → Int32) (t_tape : Nat → Int32) (rr : Int32) (hf : f_X8_nameHere t_taped t_spot t_here t_token t_cuts t_letters t_tape = some rr) : CI l yX8_nameHere wsX8_nameHere rmX8_nameHere [.ref t_q] g sz [oX8 t_q t_state_q t_roomMany t_doorMany t_stringLong t_laws_q t_lawMany t_readPage_q t_readLaws_q t_readRooms t_readDoors t_readString t_readLawMany t_toldOnce t_highRoom t_highDoor t_tape_q t_taped t_fault t_broken t_brokenAt t_spot t_here t_token t_value t_cuts_q t_letters_q t_work_q t_pages_q t_canBe_q t_leadsOn_q t_seen_q t_seenMany t_heard_q t_heardMany t_isKept_q t_lanes_q t_lengths_q t_cells_q t_torn, aI g t_cuts_q 15 t_cuts, aI g t_letters_q 66 t_letters, aI g t_tape_q 320 t_tape] [oX8 t_q t_state_q t_roomMany t_doorMany t_stringLong t_laws_q t_lawMany t_readPage_q t_readLaws_q t_readRooms t_readDoors t_readString t_readLawMany t_toldOnce t_highRoom t_highDoor t_tape_q t_taped t_fault t_broken t_brokenAt t_spot t_here t_token t_value t_cuts_q t_letters_q t_work_q t_pages_q t_canBe_q t_leadsOn_q t_seen_q t_seenMany t_heard_q t_heardMany t_isKept_q t_lanes_q t_lengths_q t_cells_q t_torn, aI g t_cuts_q 15 t_cuts, aI g t_letters_q 66 t_letters, aI g t_tape_q 320 t_tape] rr := by
  refine ent_i (cc := cX8_nameHere) (maxL := 4) (by decide) rfl (Nat.le_of_ble_eq_true rfl) ?_
  intro p e s m args below meth c A Q hx hb hml hown hts hK hz hk hA hD hP hS hret ls hl
  have hown : s.vm.findClass RX8 = some m.cls := hown
  have inX8 : ∀ w ∈ u_ws RX8 TX8 39, w ∈ wsX8_nameHere := by decide +kernel
  have k32 := hts (.fieldLink RX8 32 "ThreadMovedModel" "cuts" "[I") (by decide +kernel)
  have k35 := hts (.fieldLink RX8 35 "ThreadMovedModel" "letters" "[I") (by decide +kernel)
  have k79 := hts (.fieldLink RX8 79 "ThreadMovedModel" "here" "I") (by decide +kernel)
  have k85 := hts (.fieldLink RX8 85 "ThreadMovedModel" "token" "I") (by decide +kernel)
  have k88 := hts (.fieldLink RX8 88 "ThreadMovedModel" "spot" "I") (by decide +kernel)
  have hl : lv_has ls 4 [(0, .ref t_q)] := hl
  have hret : ∀ (rrz : Int32), rrz = rr → ∀ (H : Heap) (locs : List Loc) (pc : Nat) (ls : Array Slot), va_P g.1 vwCl [oX8 t_q t_state_q t_roomMany t_doorMany t_stringLong t_laws_q t_lawMany t_readPage_q t_readLaws_q t_readRooms t_readDoors t_readString t_readLawMany t_toldOnce t_highRoom t_highDoor t_tape_q t_taped t_fault t_broken t_brokenAt t_spot t_here t_token t_value t_cuts_q t_letters_q t_work_q t_pages_q t_canBe_q t_leadsOn_q t_seen_q t_seenMany t_heard_q t_heardMany t_isKept_q t_lanes_q t_lengths_q t_cells_q t_torn, aI g t_cuts_q 15 t_cuts, aI g t_letters_q 66 t_letters, aI g t_tape_q 320 t_tape] H → va_S A s.heap H locs → decode cX8_nameHere pc = .ok (.ireturn, 1) → W p l e rmX8_nameHere s m args below meth c H locs 0 0 Q (F0 m pc ls [.int rrz]) := by
    intro rrz he H locs pc ls hP hS hd
    cases he
    exact hret H locs pc ls hP hS hd
  unfold f_X8_nameHere at hf
  refine lv_iconst (v := (0 : Int32)) hx hb dX8_nameHere_0 (by decide) ?_
  refine lv_istore_n (lv' := [(1, .int (0 : Int32)), (0, .ref t_q)]) hx hb dX8_nameHere_1 rfl hl (by decide) rfl (fun ls hl => ?_)
  obtain ⟨z0_2, ho_2, hkr_2, hke_2⟩ := obm1_e hf
  have K_2 : ∀ (x1_27 : Int32), z0_2 = .inr x1_27 → ∀ (H : Heap) (locs : List Loc) (ls : Array Slot), va_P g.1 vwCl [oX8 t_q t_state_q t_roomMany t_doorMany t_stringLong t_laws_q t_lawMany t_readPage_q t_readLaws_q t_readRooms t_readDoors t_readString t_readLawMany t_toldOnce t_highRoom t_highDoor t_tape_q t_taped t_fault t_broken t_brokenAt t_spot t_here t_token t_value t_cuts_q t_letters_q t_work_q t_pages_q t_canBe_q t_leadsOn_q t_seen_q t_seenMany t_heard_q t_heardMany t_isKept_q t_lanes_q t_lengths_q t_cells_q t_torn, aI g t_cuts_q 15 t_cuts, aI g t_letters_q 66 t_letters, aI g t_tape_q 320 t_tape] H → va_S A s.heap H locs → lv_has ls 4 [] → W p l e rmX8_nameHere s m args below meth c H locs 0 0 Q (F0 m 118 ls []) := by
    intro x1_27 hz9 H locs ls hP hS hl
    have hf := hke_2 x1_27 hz9
    refine lv_bipush (v := (-4 : Int32)) hx hb dX8_nameHere_118 (by decide) ?_
    exact hret (-4 : Int32) (Option.some.inj hf) _ _ _ _ hP hS dX8_nameHere_120
  have L_2 : ∀ (n : Nat) (v1_1 : Int32), itr (un1 (b_X8_nameHere_2 t_taped t_spot t_here t_token t_cuts t_letters t_tape)) n v1_1 = some z0_2 → ∀ (H : Heap) (locs : List Loc) (ls : Array Slot), va_P g.1 vwCl [oX8 t_q t_state_q t_roomMany t_doorMany t_stringLong t_laws_q t_lawMany t_readPage_q t_readLaws_q t_readRooms t_readDoors t_readString t_readLawMany t_toldOnce t_highRoom t_highDoor t_tape_q t_taped t_fault t_broken t_brokenAt t_spot t_here t_token t_value t_cuts_q t_letters_q t_work_q t_pages_q t_canBe_q t_leadsOn_q t_seen_q t_seenMany t_heard_q t_heardMany t_isKept_q t_lanes_q t_lengths_q t_cells_q t_torn, aI g t_cuts_q 15 t_cuts, aI g t_letters_q 66 t_letters, aI g t_tape_q 320 t_tape] H → va_S A s.heap H locs → lv_has ls 4 [(0, .ref t_q), (1, .int v1_1)] → W p l e rmX8_nameHere s m args below meth c H locs 0 0 Q (F0 m 2 ls []) := by
    refine itr_ind1 ?_
    intro v1_1 z_2 hf hrec hex H locs ls hP hS hl
    unfold b_X8_nameHere_2 at hf
    refine lv_iload_n hx hb dX8_nameHere_2 rfl (lv_at hl 1 rfl) ?_
    refine lv_bipush (v := (14 : Int32)) hx hb dX8_nameHere_3 (by decide) ?_
    refine lv_icmp_ge (tgt := 118) hx hb dX8_nameHere_5 (by decide) (fun c_3 => ?_) (fun c_3 => ?_)
    · have hf := ite_t hf c_3
      exact K_2 v1_1 (hex _ (Option.some.inj hf).symm).symm _ _ _ hP hS (lv_sub hl [] rfl)
    · have hf := ite_f hf c_3
      refine lv_aload_n hx hb dX8_nameHere_8 rfl (lv_at hl 0 rfl) ?_
      refine va_get (D := g.1) (ci := 8) (v := .int t_token) (C := RX8) (T := TX8) (N := 39) hx hb hts inX8 hown hK hP 0 rfl rfl 22 (by decide) k85 (fun _ h9 => h9) rfl dX8_nameHere_9 ?_
      refine lv_iconst (v := (1 : Int32)) hx hb dX8_nameHere_12 (by decide) ?_
      refine lv_icmp_ne (tgt := 118) hx hb dX8_nameHere_13 (by decide) (fun c_4 => ?_) (fun c_4 => ?_)
      · have hf := ite_f hf c_4
        exact K_2 v1_1 (hex _ (Option.some.inj hf).symm).symm _ _ _ hP hS (lv_sub hl [] rfl)
      · have hf := ite_t hf c_4
        refine lv_aload_n hx hb dX8_nameHere_16 rfl (lv_at hl 0 rfl) ?_
        refine va_get (D := g.1) (ci := 8) (v := .int t_spot) (C := RX8) (T := TX8) (N := 39) hx hb hts inX8 hown hK hP 0 rfl rfl 20 (by decide) k88 (fun _ h9 => h9) rfl dX8_nameHere_17 ?_
        refine lv_aload_n hx hb dX8_nameHere_20 rfl (lv_at hl 0 rfl) ?_
        refine va_get (D := g.1) (ci := 8) (v := .int t_here) (C := RX8) (T := TX8) (N := 39) hx hb hts inX8 hown hK hP 0 rfl rfl 21 (by decide) k79 (fun _ h9 => h9) rfl dX8_nameHere_21 ?_
        refine lv_isub hx hb dX8_nameHere_24 ?_
        refine lv_aload_n hx hb dX8_nameHere_25 rfl (lv_at hl 0 rfl) ?_
        refine va_get (D := g.1) (ci := 8) (v := .ref t_cuts_q) (C := RX8) (T := TX8) (N := 39) hx hb hts inX8 hown hK hP 0 rfl rfl 24 (by decide) k32 (fun _ h9 => h9) rfl dX8_nameHere_26 ?_
        refine lv_iload_n hx hb dX8_nameHere_29 rfl (lv_at hl 1 rfl) ?_
        refine lv_iconst (v := (1 : Int32)) hx hb dX8_nameHere_30 (by decide) ?_
        refine lv_iadd hx hb dX8_nameHere_31 ?_
        obtain ⟨h_5, hf⟩ := gin_e hf
        refine va_iald hx hb hK hP 1 0 rfl rfl h_5 dX8_nameHere_32 ?_
        refine lv_aload_n hx hb dX8_nameHere_33 rfl (lv_at hl 0 rfl) ?_
        refine va_get (D := g.1) (ci := 8) (v := .ref t_cuts_q) (C := RX8) (T := TX8) (N := 39) hx hb hts inX8 hown hK hP 0 rfl rfl 24 (by decide) k32 (fun _ h9 => h9) rfl dX8_nameHere_34 ?_
        refine lv_iload_n hx hb dX8_nameHere_37 rfl (lv_at hl 1 rfl) ?_
        obtain ⟨h_6, hf⟩ := gin_e hf
        refine va_iald hx hb hK hP 1 0 rfl rfl h_6 dX8_nameHere_38 ?_
        refine lv_isub hx hb dX8_nameHere_39 ?_
        obtain ⟨j_8, hj_8, hf⟩ := jn1_e hf
        have J_8 : ∀ (s_7 : Int32), j_8 s_7 = some z_2 → ∀ (H : Heap) (locs : List Loc) (ls : Array Slot), va_P g.1 vwCl [oX8 t_q t_state_q t_roomMany t_doorMany t_stringLong t_laws_q t_lawMany t_readPage_q t_readLaws_q t_readRooms t_readDoors t_readString t_readLawMany t_toldOnce t_highRoom t_highDoor t_tape_q t_taped t_fault t_broken t_brokenAt t_spot t_here t_token t_value t_cuts_q t_letters_q t_work_q t_pages_q t_canBe_q t_leadsOn_q t_seen_q t_seenMany t_heard_q t_heardMany t_isKept_q t_lanes_q t_lengths_q t_cells_q t_torn, aI g t_cuts_q 15 t_cuts, aI g t_letters_q 66 t_letters, aI g t_tape_q 320 t_tape] H → va_S A s.heap H locs → lv_has ls 4 [(0, .ref t_q), (1, .int v1_1)] → W p l e rmX8_nameHere s m args below meth c H locs 0 0 Q (F0 m 48 ls [.int s_7]) := by
          intro s_7 hf H locs ls hP hS hl
          rw [hj_8] at hf
          refine lv_istore_n (lv' := [(2, .int s_7), (0, .ref t_q), (1, .int v1_1)]) hx hb dX8_nameHere_48 rfl hl (by decide) rfl (fun ls hl => ?_)
          refine lv_iconst (v := (0 : Int32)) hx hb dX8_nameHere_49 (by decide) ?_
          refine lv_istore_n (lv' := [(3, .int (0 : Int32)), (2, .int s_7), (0, .ref t_q), (1, .int v1_1)]) hx hb dX8_nameHere_50 rfl hl (by decide) rfl (fun ls hl => ?_)
          obtain ⟨x2_22, x3_23, ho_11, hf⟩ := ob2_e hf
          have K_11 : ∀ (x2_22y : Int32) (x3_23y : Int32), x2_22 = x2_22y → x3_23 = x3_23y → ∀ (H : Heap) (locs : List Loc) (ls : Array Slot), va_P g.1 vwCl [oX8 t_q t_state_q t_roomMany t_doorMany t_stringLong t_laws_q t_lawMany t_readPage_q t_readLaws_q t_readRooms t_readDoors t_readString t_readLawMany t_toldOnce t_highRoom t_highDoor t_tape_q t_taped t_fault t_broken t_brokenAt t_spot t_here t_token t_value t_cuts_q t_letters_q t_work_q t_pages_q t_canBe_q t_leadsOn_q t_seen_q t_seenMany t_heard_q t_heardMany t_isKept_q t_lanes_q t_lengths_q t_cells_q t_torn, aI g t_cuts_q 15 t_cuts, aI g t_letters_q 66 t_letters, aI g t_tape_q 320 t_tape] H → va_S A s.heap H locs → lv_has ls 4 [(0, .ref t_q), (1, .int v1_1), (2, .int x2_22y)] → W p l e rmX8_nameHere s m args below meth c H locs 0 0 Q (F0 m 106 ls []) := by
            intro x2_22y x3_23y ey0 ey1 H locs ls hP hS hl
            subst ey0
            subst ey1
            refine lv_iload_n hx hb dX8_nameHere_106 rfl (lv_at hl 2 rfl) ?_
            refine lv_if_eq (tgt := 112) hx hb dX8_nameHere_107 (by decide) (fun c_24 => ?_) (fun c_24 => ?_)
            · have hf := ite_t hf c_24
              obtain ⟨v1_25, ev1_25, hf⟩ := bnd_e hf
              refine lv_iinc (v := v1_25) (lv' := [(1, .int v1_25), (0, .ref t_q), (2, .int x2_22)]) hx hb dX8_nameHere_112 hl (k := 1) rfl (by rw [ev1_25]; rfl) (by decide) rfl (fun ls hl => ?_)
              refine lv_goto (tgt := 2) hx hb dX8_nameHere_115 (by decide) ?_
              exact hrec v1_25 (Option.some.inj hf).symm _ _ _ hP hS (lv_sub hl [1, 0] rfl)
            · have hf := ite_f hf c_24
              refine lv_iload_n hx hb dX8_nameHere_110 rfl (lv_at hl 1 rfl) ?_
              exact hret v1_1 (hkr_2 _ (hex _ (Option.some.inj hf).symm).symm) _ _ _ _ hP hS dX8_nameHere_111
          have L_11 : ∀ (n : Nat) (v2_9 : Int32) (v3_10 : Int32), itr (un2 (b_X8_nameHere_51 t_taped t_spot t_here t_cuts t_letters t_tape v1_1)) n (v2_9, v3_10) = some (x2_22, x3_23) → ∀ (H : Heap) (locs : List Loc) (ls : Array Slot), va_P g.1 vwCl [oX8 t_q t_state_q t_roomMany t_doorMany t_stringLong t_laws_q t_lawMany t_readPage_q t_readLaws_q t_readRooms t_readDoors t_readString t_readLawMany t_toldOnce t_highRoom t_highDoor t_tape_q t_taped t_fault t_broken t_brokenAt t_spot t_here t_token t_value t_cuts_q t_letters_q t_work_q t_pages_q t_canBe_q t_leadsOn_q t_seen_q t_seenMany t_heard_q t_heardMany t_isKept_q t_lanes_q t_lengths_q t_cells_q t_torn, aI g t_cuts_q 15 t_cuts, aI g t_letters_q 66 t_letters, aI g t_tape_q 320 t_tape] H → va_S A s.heap H locs → lv_has ls 4 [(0, .ref t_q), (1, .int v1_1), (2, .int v2_9), (3, .int v3_10)] → W p l e rmX8_nameHere s m args below meth c H locs 0 0 Q (F0 m 51 ls []) := by
            refine itr_ind2 ?_
            intro v2_9 v3_10 z_11 hf hrec hex H locs ls hP hS hl
            unfold b_X8_nameHere_51 at hf
            refine lv_iload_n hx hb dX8_nameHere_51 rfl (lv_at hl 2 rfl) ?_
            refine lv_if_eq (tgt := 106) hx hb dX8_nameHere_52 (by decide) (fun c_12 => ?_) (fun c_12 => ?_)
            · have hf := ite_t hf c_12
              exact K_11 v2_9 v3_10 (congrArg (fun t => t.1) (hex _ (Option.some.inj hf).symm).symm) (congrArg (fun t => t.2) (hex _ (Option.some.inj hf).symm).symm) _ _ _ hP hS (lv_sub hl [0, 1, 2] rfl)
            · have hf := ite_f hf c_12
              refine lv_iload_n hx hb dX8_nameHere_55 rfl (lv_at hl 3 rfl) ?_
              refine lv_aload_n hx hb dX8_nameHere_56 rfl (lv_at hl 0 rfl) ?_
              refine va_get (D := g.1) (ci := 8) (v := .int t_spot) (C := RX8) (T := TX8) (N := 39) hx hb hts inX8 hown hK hP 0 rfl rfl 20 (by decide) k88 (fun _ h9 => h9) rfl dX8_nameHere_57 ?_
              refine lv_aload_n hx hb dX8_nameHere_60 rfl (lv_at hl 0 rfl) ?_
              refine va_get (D := g.1) (ci := 8) (v := .int t_here) (C := RX8) (T := TX8) (N := 39) hx hb hts inX8 hown hK hP 0 rfl rfl 21 (by decide) k79 (fun _ h9 => h9) rfl dX8_nameHere_61 ?_
              refine lv_isub hx hb dX8_nameHere_64 ?_
              refine lv_icmp_ge (tgt := 106) hx hb dX8_nameHere_65 (by decide) (fun c_13 => ?_) (fun c_13 => ?_)
              · have hf := ite_t hf c_13
                exact K_11 v2_9 v3_10 (congrArg (fun t => t.1) (hex _ (Option.some.inj hf).symm).symm) (congrArg (fun t => t.2) (hex _ (Option.some.inj hf).symm).symm) _ _ _ hP hS (lv_sub hl [0, 1, 2] rfl)
              · have hf := ite_f hf c_13
                refine lv_aload_n hx hb dX8_nameHere_68 rfl (lv_at hl 0 rfl) ?_
                refine lv_aload_n hx hb dX8_nameHere_69 rfl (lv_at hl 0 rfl) ?_
                refine va_get (D := g.1) (ci := 8) (v := .int t_here) (C := RX8) (T := TX8) (N := 39) hx hb hts inX8 hown hK hP 0 rfl rfl 21 (by decide) k79 (fun _ h9 => h9) rfl dX8_nameHere_70 ?_
                refine lv_iload_n hx hb dX8_nameHere_73 rfl (lv_at hl 3 rfl) ?_
                refine lv_iadd hx hb dX8_nameHere_74 ?_
                obtain ⟨r_14, hc_15, hf⟩ := ob1_e hf
                refine kV_i (wn := [oX8 t_q t_state_q t_roomMany t_doorMany t_stringLong t_laws_q t_lawMany t_readPage_q t_readLaws_q t_readRooms t_readDoors t_readString t_readLawMany t_toldOnce t_highRoom t_highDoor t_tape_q t_taped t_fault t_broken t_brokenAt t_spot t_here t_token t_value t_cuts_q t_letters_q t_work_q t_pages_q t_canBe_q t_leadsOn_q t_seen_q t_seenMany t_heard_q t_heardMany t_isKept_q t_lanes_q t_lengths_q t_cells_q t_torn, aI g t_cuts_q 15 t_cuts, aI g t_letters_q 66 t_letters, aI g t_tape_q 320 t_tape]) (As := [.int (t_here + v3_10)]) (rest := []) (c_X8_byteAt l g _ t_q t_state_q t_laws_q t_readPage_q t_readLaws_q t_tape_q t_cuts_q t_letters_q t_work_q t_pages_q t_canBe_q t_leadsOn_q t_seen_q t_heard_q t_isKept_q t_lanes_q t_lengths_q t_cells_q t_roomMany t_doorMany t_stringLong t_lawMany t_readRooms t_readDoors t_readString t_readLawMany t_toldOnce t_highRoom t_highDoor t_taped t_fault t_broken t_brokenAt t_spot t_here t_token t_value t_seenMany t_heardMany t_torn t_tape (t_here + v3_10) r_14 hc_15) ⟨hx, hb, hml, hown, hts⟩ (cwV 1 hts gX8_nameHere_X8_byteAt rfl rfl rfl (by decide +kernel) ⟨by decide, by decide⟩) hK hz hk hP (hD.re rfl) hS hA [0, 3] rfl rfl rfl rfl rfl rfl rfl hl.1 rfl (Nat.le_of_ble_eq_true rfl) dX8_nameHere_75 (fun H locs hP hS => ?_)
                refine lv_aload_n hx hb dX8_nameHere_78 rfl (lv_at hl 0 rfl) ?_
                refine va_get (D := g.1) (ci := 8) (v := .ref t_letters_q) (C := RX8) (T := TX8) (N := 39) hx hb hts inX8 hown hK hP 0 rfl rfl 25 (by decide) k35 (fun _ h9 => h9) rfl dX8_nameHere_79 ?_
                refine lv_aload_n hx hb dX8_nameHere_82 rfl (lv_at hl 0 rfl) ?_
                refine va_get (D := g.1) (ci := 8) (v := .ref t_cuts_q) (C := RX8) (T := TX8) (N := 39) hx hb hts inX8 hown hK hP 0 rfl rfl 24 (by decide) k32 (fun _ h9 => h9) rfl dX8_nameHere_83 ?_
                refine lv_iload_n hx hb dX8_nameHere_86 rfl (lv_at hl 1 rfl) ?_
                obtain ⟨h_16, hf⟩ := gin_e hf
                refine va_iald hx hb hK hP 1 0 rfl rfl h_16 dX8_nameHere_87 ?_
                refine lv_iload_n hx hb dX8_nameHere_88 rfl (lv_at hl 3 rfl) ?_
                refine lv_iadd hx hb dX8_nameHere_89 ?_
                obtain ⟨h_17, hf⟩ := gin_e hf
                refine va_iald hx hb hK hP 2 0 rfl rfl h_17 dX8_nameHere_90 ?_
                obtain ⟨j_19, hj_19, hf⟩ := jn1_e hf
                have J_19 : ∀ (s_18 : Int32), j_19 s_18 = some z_11 → ∀ (H : Heap) (locs : List Loc) (ls : Array Slot), va_P g.1 vwCl [oX8 t_q t_state_q t_roomMany t_doorMany t_stringLong t_laws_q t_lawMany t_readPage_q t_readLaws_q t_readRooms t_readDoors t_readString t_readLawMany t_toldOnce t_highRoom t_highDoor t_tape_q t_taped t_fault t_broken t_brokenAt t_spot t_here t_token t_value t_cuts_q t_letters_q t_work_q t_pages_q t_canBe_q t_leadsOn_q t_seen_q t_seenMany t_heard_q t_heardMany t_isKept_q t_lanes_q t_lengths_q t_cells_q t_torn, aI g t_cuts_q 15 t_cuts, aI g t_letters_q 66 t_letters, aI g t_tape_q 320 t_tape] H → va_S A s.heap H locs → lv_has ls 4 [(0, .ref t_q), (1, .int v1_1), (3, .int v3_10)] → W p l e rmX8_nameHere s m args below meth c H locs 0 0 Q (F0 m 99 ls [.int s_18]) := by
                  intro s_18 hf H locs ls hP hS hl
                  rw [hj_19] at hf
                  refine lv_istore_n (lv' := [(2, .int s_18), (0, .ref t_q), (1, .int v1_1), (3, .int v3_10)]) hx hb dX8_nameHere_99 rfl hl (by decide) rfl (fun ls hl => ?_)
                  obtain ⟨v3_20, ev3_20, hf⟩ := bnd_e hf
                  refine lv_iinc (v := v3_20) (lv' := [(3, .int v3_20), (2, .int s_18), (0, .ref t_q), (1, .int v1_1)]) hx hb dX8_nameHere_100 hl (k := 3) rfl (by rw [ev3_20]; rfl) (by decide) rfl (fun ls hl => ?_)
                  refine lv_goto (tgt := 51) hx hb dX8_nameHere_103 (by decide) ?_
                  exact hrec s_18 v3_20 (Option.some.inj hf).symm _ _ _ hP hS (lv_sub hl [2, 3, 1, 0] rfl)
                refine lv_icmp_ne (tgt := 98) hx hb dX8_nameHere_91 (by decide) (fun c_21 => ?_) (fun c_21 => ?_)
                · have hf := ite_f hf c_21
                  refine lv_iconst (v := (0 : Int32)) hx hb dX8_nameHere_98 (by decide) ?_
                  exact J_19 (0 : Int32) hf _ _ _ hP hS (lv_sub hl [0, 1, 3] rfl)
                · have hf := ite_t hf c_21
                  refine lv_iconst (v := (1 : Int32)) hx hb dX8_nameHere_94 (by decide) ?_
                  refine lv_goto (tgt := 99) hx hb dX8_nameHere_95 (by decide) ?_
                  exact J_19 (1 : Int32) hf _ _ _ hP hS (lv_sub hl [0, 1, 3] rfl)
          exact L_11 FU s_7 (0 : Int32) ho_11 _ _ _ hP hS (lv_sub hl [2, 3, 1, 0] rfl)
        refine lv_icmp_ne (tgt := 47) hx hb dX8_nameHere_40 (by decide) (fun c_26 => ?_) (fun c_26 => ?_)
        · have hf := ite_f hf c_26
          refine lv_iconst (v := (0 : Int32)) hx hb dX8_nameHere_47 (by decide) ?_
          exact J_8 (0 : Int32) hf _ _ _ hP hS (lv_sub hl [0, 1] rfl)
        · have hf := ite_t hf c_26
          refine lv_iconst (v := (1 : Int32)) hx hb dX8_nameHere_43 (by decide) ?_
          refine lv_goto (tgt := 48) hx hb dX8_nameHere_44 (by decide) ?_
          exact J_8 (1 : Int32) hf _ _ _ hP hS (lv_sub hl [0, 1] rfl)
  exact L_2 FU (0 : Int32) ho_2 _ _ _ hP hS (lv_sub hl [1, 0] rfl)

def f_X8_period (t_state : Nat → Int32) (p1 : Int32) : Option (Int32 × (Nat → Int32)) :=
 (ob1 (f_X8_in (p1.toInt64) (1 : Int64) (6 : Int64)) (fun r_1 =>
 (if r_1 = (0 : Int32) then
 (some ((-1 : Int32), t_state))
 else (ob2 (f_X8_sets t_state (1 : Int32) (30 : Int32) (p1 - (1 : Int32))) (fun r_4 t_state_5 =>
 (some (((1 : Int32) + r_4), t_state_5)))))))
abbrev rmX8_period : Room := { frames := 1, cells := 0, slots := 0, locals := 25 }
set_option maxHeartbeats 4000000 in
set_option maxRecDepth 100000 in
theorem c_X8_period (l : Launch) (g : Gh) (sz : Nat) (t_q t_state_q t_laws_q t_readPage_q t_readLaws_q t_tape_q t_cuts_q t_letters_q t_work_q t_pages_q t_canBe_q t_leadsOn_q t_seen_q t_heard_q t_isKept_q t_lanes_q t_lengths_q t_cells_q : Nat) (t_roomMany : Int32) (t_doorMany : Int32) (t_stringLong : Int32) (t_lawMany : Int32) (t_readRooms : Int32) (t_readDoors : Int32) (t_readString : Int32) (t_readLawMany : Int32) (t_toldOnce : Int32) (t_highRoom : Int32) (t_highDoor : Int32) (t_taped : Int32) (t_fault : Int32) (t_broken : Int32) (t_brokenAt : Int32) (t_spot : Int32) (t_here : Int32) (t_token : Int32) (t_value : Int32) (t_seenMany : Int32) (t_heardMany : Int32) (t_torn : Int32) (t_state : Nat → Int32) (p1 : Int32) (rr : Int32) (t_state' : Nat → Int32) (hf : f_X8_period t_state p1 = some (rr, t_state')) : CI l yX8_period wsX8_period rmX8_period [.ref t_q, .int p1] g sz [oX8 t_q t_state_q t_roomMany t_doorMany t_stringLong t_laws_q t_lawMany t_readPage_q t_readLaws_q t_readRooms t_readDoors t_readString t_readLawMany t_toldOnce t_highRoom t_highDoor t_tape_q t_taped t_fault t_broken t_brokenAt t_spot t_here t_token t_value t_cuts_q t_letters_q t_work_q t_pages_q t_canBe_q t_leadsOn_q t_seen_q t_seenMany t_heard_q t_heardMany t_isKept_q t_lanes_q t_lengths_q t_cells_q t_torn, aI g t_state_q 196 t_state] [oX8 t_q t_state_q t_roomMany t_doorMany t_stringLong t_laws_q t_lawMany t_readPage_q t_readLaws_q t_readRooms t_readDoors t_readString t_readLawMany t_toldOnce t_highRoom t_highDoor t_tape_q t_taped t_fault t_broken t_brokenAt t_spot t_here t_token t_value t_cuts_q t_letters_q t_work_q t_pages_q t_canBe_q t_leadsOn_q t_seen_q t_seenMany t_heard_q t_heardMany t_isKept_q t_lanes_q t_lengths_q t_cells_q t_torn, aI g t_state_q 196 t_state'] rr := by
  refine ent_i (cc := cX8_period) (maxL := 2) (by decide) rfl (Nat.le_of_ble_eq_true rfl) ?_
  intro p e s m args below meth c A Q hx hb hml hown hts hK hz hk hA hD hP hS hret ls hl
  have hown : s.vm.findClass RX8 = some m.cls := hown
  have q222 := hts (.constantLong RX8 222 (6)) (by decide +kernel)
  have hl : lv_has ls 2 [(0, .ref t_q), (1, .int p1)] := hl
  have hret : ∀ (rrz : Int32) (t_statez : Nat → Int32), (rrz, t_statez) = (rr, t_state') → ∀ (H : Heap) (locs : List Loc) (pc : Nat) (ls : Array Slot), va_P g.1 vwCl [oX8 t_q t_state_q t_roomMany t_doorMany t_stringLong t_laws_q t_lawMany t_readPage_q t_readLaws_q t_readRooms t_readDoors t_readString t_readLawMany t_toldOnce t_highRoom t_highDoor t_tape_q t_taped t_fault t_broken t_brokenAt t_spot t_here t_token t_value t_cuts_q t_letters_q t_work_q t_pages_q t_canBe_q t_leadsOn_q t_seen_q t_seenMany t_heard_q t_heardMany t_isKept_q t_lanes_q t_lengths_q t_cells_q t_torn, aI g t_state_q 196 t_statez] H → va_S A s.heap H locs → decode cX8_period pc = .ok (.ireturn, 1) → W p l e rmX8_period s m args below meth c H locs 0 0 Q (F0 m pc ls [.int rrz]) := by
    intro rrz t_statez he H locs pc ls hP hS hd
    cases he
    exact hret H locs pc ls hP hS hd
  unfold f_X8_period at hf
  refine lv_iload_n hx hb dX8_period_0 rfl (lv_at hl 1 rfl) ?_
  refine lv_i2l hx hb dX8_period_1 rfl ?_
  refine lv_lconst (v := (1 : Int64)) hx hb dX8_period_2 (by decide) ?_
  refine lv_ldc2 hx hb hown q222 dX8_period_3 ?_
  obtain ⟨r_1, hc_2, hf⟩ := ob1_e hf
  refine kS_i (wn := [oX8 t_q t_state_q t_roomMany t_doorMany t_stringLong t_laws_q t_lawMany t_readPage_q t_readLaws_q t_readRooms t_readDoors t_readString t_readLawMany t_toldOnce t_highRoom t_highDoor t_tape_q t_taped t_fault t_broken t_brokenAt t_spot t_here t_token t_value t_cuts_q t_letters_q t_work_q t_pages_q t_canBe_q t_leadsOn_q t_seen_q t_seenMany t_heard_q t_heardMany t_isKept_q t_lanes_q t_lengths_q t_cells_q t_torn, aI g t_state_q 196 t_state]) (As := [.long (p1.toInt64), .long (1 : Int64), .long (6 : Int64)]) (rest := []) (c_X8_in l g _ (p1.toInt64) (1 : Int64) (6 : Int64) r_1 hc_2) ⟨hx, hb, hml, hown, hts⟩ (va_cwS 3 hts gX8_period_X8_in rfl rfl rfl (by decide +kernel) ⟨by decide, by decide⟩) hK hz hk hP (hD.re rfl) hS hA [] rfl rfl rfl rfl rfl hl.1 rfl (Nat.le_of_ble_eq_true rfl) dX8_period_6 (fun H locs hP hS => ?_)
  refine lv_if_ne (tgt := 14) hx hb dX8_period_9 (by decide) (fun c_3 => ?_) (fun c_3 => ?_)
  · have hf := ite_f hf c_3
    refine lv_iconst (v := (1 : Int32)) hx hb dX8_period_14 (by decide) ?_
    refine lv_aload_n hx hb dX8_period_15 rfl (lv_at hl 0 rfl) ?_
    refine lv_iconst (v := (1 : Int32)) hx hb dX8_period_16 (by decide) ?_
    refine lv_bipush (v := (30 : Int32)) hx hb dX8_period_17 (by decide) ?_
    refine lv_iload_n hx hb dX8_period_19 rfl (lv_at hl 1 rfl) ?_
    refine lv_iconst (v := (1 : Int32)) hx hb dX8_period_20 (by decide) ?_
    refine lv_isub hx hb dX8_period_21 ?_
    obtain ⟨r_4, t_state_5, hc_6, hf⟩ := ob2_e hf
    refine kV_i (wn := [oX8 t_q t_state_q t_roomMany t_doorMany t_stringLong t_laws_q t_lawMany t_readPage_q t_readLaws_q t_readRooms t_readDoors t_readString t_readLawMany t_toldOnce t_highRoom t_highDoor t_tape_q t_taped t_fault t_broken t_brokenAt t_spot t_here t_token t_value t_cuts_q t_letters_q t_work_q t_pages_q t_canBe_q t_leadsOn_q t_seen_q t_seenMany t_heard_q t_heardMany t_isKept_q t_lanes_q t_lengths_q t_cells_q t_torn, aI g t_state_q 196 t_state_5]) (As := [.int (1 : Int32), .int (30 : Int32), .int (p1 - (1 : Int32))]) (rest := [.int (1 : Int32)]) (c_X8_sets l g _ t_q t_state_q t_laws_q t_readPage_q t_readLaws_q t_tape_q t_cuts_q t_letters_q t_work_q t_pages_q t_canBe_q t_leadsOn_q t_seen_q t_heard_q t_isKept_q t_lanes_q t_lengths_q t_cells_q t_roomMany t_doorMany t_stringLong t_lawMany t_readRooms t_readDoors t_readString t_readLawMany t_toldOnce t_highRoom t_highDoor t_taped t_fault t_broken t_brokenAt t_spot t_here t_token t_value t_seenMany t_heardMany t_torn t_state (1 : Int32) (30 : Int32) (p1 - (1 : Int32)) r_4 t_state_5 hc_6) ⟨hx, hb, hml, hown, hts⟩ (cwV 3 hts gX8_period_X8_sets rfl rfl rfl (by decide +kernel) ⟨by decide, by decide⟩) hK hz hk hP (hD.re rfl) hS hA [0, 1] rfl rfl rfl rfl rfl rfl rfl hl.1 rfl (Nat.le_of_ble_eq_true rfl) dX8_period_22 (fun H locs hP hS => ?_)
    refine lv_iadd hx hb dX8_period_25 ?_
    exact hret ((1 : Int32) + r_4) t_state_5 (Option.some.inj hf) _ _ _ _ hP hS dX8_period_26
  · have hf := ite_t hf c_3
    refine lv_iconst (v := (-1 : Int32)) hx hb dX8_period_12 (by decide) ?_
    exact hret (-1 : Int32) t_state (Option.some.inj hf) _ _ _ _ hP hS dX8_period_13

def f_X8_put (t_roomMany : Int32) (t_state : Nat → Int32) (p1 : Int32) : Option (Int32 × (Nat → Int32)) :=
 (ob1 (f_X8_isRoom t_roomMany p1) (fun r_1 =>
 (if r_1 = (0 : Int32) then
 (some ((-1 : Int32), t_state))
 else (ob1 (f_X8_beastNow t_state) (fun r_4 =>
 (if r_4 = p1 then
 (some ((-2 : Int32), t_state))
 else (gin (48 : Int32) 196 (bnd (upd t_state (48 : Int32).toNatClampNeg (0 : Int32)) (fun t_state_8 =>
 (ob2 (f_X8_sets t_state_8 (1 : Int32) (31 : Int32) p1) (fun r_9 t_state_10 =>
 (some (r_9, t_state_10)))))))))))))
abbrev rmX8_put : Room := { frames := 2, cells := 0, slots := 0, locals := 46 }
set_option maxHeartbeats 4000000 in
set_option maxRecDepth 100000 in
theorem c_X8_put (l : Launch) (g : Gh) (sz : Nat) (t_q t_state_q t_laws_q t_readPage_q t_readLaws_q t_tape_q t_cuts_q t_letters_q t_work_q t_pages_q t_canBe_q t_leadsOn_q t_seen_q t_heard_q t_isKept_q t_lanes_q t_lengths_q t_cells_q : Nat) (t_roomMany : Int32) (t_doorMany : Int32) (t_stringLong : Int32) (t_lawMany : Int32) (t_readRooms : Int32) (t_readDoors : Int32) (t_readString : Int32) (t_readLawMany : Int32) (t_toldOnce : Int32) (t_highRoom : Int32) (t_highDoor : Int32) (t_taped : Int32) (t_fault : Int32) (t_broken : Int32) (t_brokenAt : Int32) (t_spot : Int32) (t_here : Int32) (t_token : Int32) (t_value : Int32) (t_seenMany : Int32) (t_heardMany : Int32) (t_torn : Int32) (t_state : Nat → Int32) (p1 : Int32) (rr : Int32) (t_state' : Nat → Int32) (hf : f_X8_put t_roomMany t_state p1 = some (rr, t_state')) : CI l yX8_put wsX8_put rmX8_put [.ref t_q, .int p1] g sz [oX8 t_q t_state_q t_roomMany t_doorMany t_stringLong t_laws_q t_lawMany t_readPage_q t_readLaws_q t_readRooms t_readDoors t_readString t_readLawMany t_toldOnce t_highRoom t_highDoor t_tape_q t_taped t_fault t_broken t_brokenAt t_spot t_here t_token t_value t_cuts_q t_letters_q t_work_q t_pages_q t_canBe_q t_leadsOn_q t_seen_q t_seenMany t_heard_q t_heardMany t_isKept_q t_lanes_q t_lengths_q t_cells_q t_torn, aI g t_state_q 196 t_state] [oX8 t_q t_state_q t_roomMany t_doorMany t_stringLong t_laws_q t_lawMany t_readPage_q t_readLaws_q t_readRooms t_readDoors t_readString t_readLawMany t_toldOnce t_highRoom t_highDoor t_tape_q t_taped t_fault t_broken t_brokenAt t_spot t_here t_token t_value t_cuts_q t_letters_q t_work_q t_pages_q t_canBe_q t_leadsOn_q t_seen_q t_seenMany t_heard_q t_heardMany t_isKept_q t_lanes_q t_lengths_q t_cells_q t_torn, aI g t_state_q 196 t_state'] rr := by
  refine ent_i (cc := cX8_put) (maxL := 2) (by decide) rfl (Nat.le_of_ble_eq_true rfl) ?_
  intro p e s m args below meth c A Q hx hb hml hown hts hK hz hk hA hD hP hS hret ls hl
  have hown : s.vm.findClass RX8 = some m.cls := hown
  have inX8 : ∀ w ∈ u_ws RX8 TX8 39, w ∈ wsX8_put := by decide +kernel
  have k7 := hts (.fieldLink RX8 7 "ThreadMovedModel" "state" "[I") (by decide +kernel)
  have hl : lv_has ls 2 [(0, .ref t_q), (1, .int p1)] := hl
  have hret : ∀ (rrz : Int32) (t_statez : Nat → Int32), (rrz, t_statez) = (rr, t_state') → ∀ (H : Heap) (locs : List Loc) (pc : Nat) (ls : Array Slot), va_P g.1 vwCl [oX8 t_q t_state_q t_roomMany t_doorMany t_stringLong t_laws_q t_lawMany t_readPage_q t_readLaws_q t_readRooms t_readDoors t_readString t_readLawMany t_toldOnce t_highRoom t_highDoor t_tape_q t_taped t_fault t_broken t_brokenAt t_spot t_here t_token t_value t_cuts_q t_letters_q t_work_q t_pages_q t_canBe_q t_leadsOn_q t_seen_q t_seenMany t_heard_q t_heardMany t_isKept_q t_lanes_q t_lengths_q t_cells_q t_torn, aI g t_state_q 196 t_statez] H → va_S A s.heap H locs → decode cX8_put pc = .ok (.ireturn, 1) → W p l e rmX8_put s m args below meth c H locs 0 0 Q (F0 m pc ls [.int rrz]) := by
    intro rrz t_statez he H locs pc ls hP hS hd
    cases he
    exact hret H locs pc ls hP hS hd
  unfold f_X8_put at hf
  refine lv_aload_n hx hb dX8_put_0 rfl (lv_at hl 0 rfl) ?_
  refine lv_iload_n hx hb dX8_put_1 rfl (lv_at hl 1 rfl) ?_
  obtain ⟨r_1, hc_2, hf⟩ := ob1_e hf
  refine kV_i (wn := [oX8 t_q t_state_q t_roomMany t_doorMany t_stringLong t_laws_q t_lawMany t_readPage_q t_readLaws_q t_readRooms t_readDoors t_readString t_readLawMany t_toldOnce t_highRoom t_highDoor t_tape_q t_taped t_fault t_broken t_brokenAt t_spot t_here t_token t_value t_cuts_q t_letters_q t_work_q t_pages_q t_canBe_q t_leadsOn_q t_seen_q t_seenMany t_heard_q t_heardMany t_isKept_q t_lanes_q t_lengths_q t_cells_q t_torn, aI g t_state_q 196 t_state]) (As := [.int p1]) (rest := []) (c_X8_isRoom l g _ t_q t_state_q t_laws_q t_readPage_q t_readLaws_q t_tape_q t_cuts_q t_letters_q t_work_q t_pages_q t_canBe_q t_leadsOn_q t_seen_q t_heard_q t_isKept_q t_lanes_q t_lengths_q t_cells_q t_roomMany t_doorMany t_stringLong t_lawMany t_readRooms t_readDoors t_readString t_readLawMany t_toldOnce t_highRoom t_highDoor t_taped t_fault t_broken t_brokenAt t_spot t_here t_token t_value t_seenMany t_heardMany t_torn p1 r_1 hc_2) ⟨hx, hb, hml, hown, hts⟩ (cwV 1 hts gX8_put_X8_isRoom rfl rfl rfl (by decide +kernel) ⟨by decide, by decide⟩) hK hz hk hP (hD.re rfl) hS hA [0] rfl rfl rfl rfl rfl rfl rfl hl.1 rfl (Nat.le_of_ble_eq_true rfl) dX8_put_2 (fun H locs hP hS => ?_)
  refine lv_if_ne (tgt := 10) hx hb dX8_put_5 (by decide) (fun c_3 => ?_) (fun c_3 => ?_)
  · have hf := ite_f hf c_3
    refine lv_aload_n hx hb dX8_put_10 rfl (lv_at hl 0 rfl) ?_
    obtain ⟨r_4, hc_5, hf⟩ := ob1_e hf
    refine kV_i (wn := [oX8 t_q t_state_q t_roomMany t_doorMany t_stringLong t_laws_q t_lawMany t_readPage_q t_readLaws_q t_readRooms t_readDoors t_readString t_readLawMany t_toldOnce t_highRoom t_highDoor t_tape_q t_taped t_fault t_broken t_brokenAt t_spot t_here t_token t_value t_cuts_q t_letters_q t_work_q t_pages_q t_canBe_q t_leadsOn_q t_seen_q t_seenMany t_heard_q t_heardMany t_isKept_q t_lanes_q t_lengths_q t_cells_q t_torn, aI g t_state_q 196 t_state]) (As := []) (rest := []) (c_X8_beastNow l g _ t_q t_state_q t_laws_q t_readPage_q t_readLaws_q t_tape_q t_cuts_q t_letters_q t_work_q t_pages_q t_canBe_q t_leadsOn_q t_seen_q t_heard_q t_isKept_q t_lanes_q t_lengths_q t_cells_q t_roomMany t_doorMany t_stringLong t_lawMany t_readRooms t_readDoors t_readString t_readLawMany t_toldOnce t_highRoom t_highDoor t_taped t_fault t_broken t_brokenAt t_spot t_here t_token t_value t_seenMany t_heardMany t_torn t_state r_4 hc_5) ⟨hx, hb, hml, hown, hts⟩ (cwV 0 hts gX8_put_X8_beastNow rfl rfl rfl (by decide +kernel) ⟨by decide, by decide⟩) hK hz hk hP (hD.re rfl) hS hA [0, 1] rfl rfl rfl rfl rfl rfl rfl hl.1 rfl (Nat.le_of_ble_eq_true rfl) dX8_put_11 (fun H locs hP hS => ?_)
    refine lv_iload_n hx hb dX8_put_14 rfl (lv_at hl 1 rfl) ?_
    refine lv_icmp_ne (tgt := 21) hx hb dX8_put_15 (by decide) (fun c_6 => ?_) (fun c_6 => ?_)
    · have hf := ite_f hf c_6
      refine lv_aload_n hx hb dX8_put_21 rfl (lv_at hl 0 rfl) ?_
      refine va_get (D := g.1) (ci := 8) (v := .ref t_state_q) (C := RX8) (T := TX8) (N := 39) hx hb hts inX8 hown hK hP 0 rfl rfl 0 (by decide) k7 (fun _ h9 => h9) rfl dX8_put_22 ?_
      refine lv_bipush (v := (48 : Int32)) hx hb dX8_put_25 (by decide) ?_
      refine lv_iconst (v := (0 : Int32)) hx hb dX8_put_27 (by decide) ?_
      obtain ⟨h_7, hf⟩ := gin_e hf
      obtain ⟨t_state_8, et_state_8, hf⟩ := bnd_e hf
      refine va_iast hx hb hK hP (hD.re rfl) hS 1 0 rfl rfl h_7 dX8_put_28 (fun H locs hP _ hS => ?_)
      have hP : va_P g.1 vwCl [oX8 t_q t_state_q t_roomMany t_doorMany t_stringLong t_laws_q t_lawMany t_readPage_q t_readLaws_q t_readRooms t_readDoors t_readString t_readLawMany t_toldOnce t_highRoom t_highDoor t_tape_q t_taped t_fault t_broken t_brokenAt t_spot t_here t_token t_value t_cuts_q t_letters_q t_work_q t_pages_q t_canBe_q t_leadsOn_q t_seen_q t_seenMany t_heard_q t_heardMany t_isKept_q t_lanes_q t_lengths_q t_cells_q t_torn, aI g t_state_q 196 t_state_8] H := by rw [et_state_8]; exact hP
      refine lv_aload_n hx hb dX8_put_29 rfl (lv_at hl 0 rfl) ?_
      refine lv_iconst (v := (1 : Int32)) hx hb dX8_put_30 (by decide) ?_
      refine lv_bipush (v := (31 : Int32)) hx hb dX8_put_31 (by decide) ?_
      refine lv_iload_n hx hb dX8_put_33 rfl (lv_at hl 1 rfl) ?_
      obtain ⟨r_9, t_state_10, hc_11, hf⟩ := ob2_e hf
      refine kV_i (wn := [oX8 t_q t_state_q t_roomMany t_doorMany t_stringLong t_laws_q t_lawMany t_readPage_q t_readLaws_q t_readRooms t_readDoors t_readString t_readLawMany t_toldOnce t_highRoom t_highDoor t_tape_q t_taped t_fault t_broken t_brokenAt t_spot t_here t_token t_value t_cuts_q t_letters_q t_work_q t_pages_q t_canBe_q t_leadsOn_q t_seen_q t_seenMany t_heard_q t_heardMany t_isKept_q t_lanes_q t_lengths_q t_cells_q t_torn, aI g t_state_q 196 t_state_10]) (As := [.int (1 : Int32), .int (31 : Int32), .int p1]) (rest := []) (c_X8_sets l g _ t_q t_state_q t_laws_q t_readPage_q t_readLaws_q t_tape_q t_cuts_q t_letters_q t_work_q t_pages_q t_canBe_q t_leadsOn_q t_seen_q t_heard_q t_isKept_q t_lanes_q t_lengths_q t_cells_q t_roomMany t_doorMany t_stringLong t_lawMany t_readRooms t_readDoors t_readString t_readLawMany t_toldOnce t_highRoom t_highDoor t_taped t_fault t_broken t_brokenAt t_spot t_here t_token t_value t_seenMany t_heardMany t_torn t_state_8 (1 : Int32) (31 : Int32) p1 r_9 t_state_10 hc_11) ⟨hx, hb, hml, hown, hts⟩ (cwV 3 hts gX8_put_X8_sets rfl rfl rfl (by decide +kernel) ⟨by decide, by decide⟩) hK hz hk hP (hD.re rfl) hS hA [0, 1] rfl rfl rfl rfl rfl rfl rfl hl.1 rfl (Nat.le_of_ble_eq_true rfl) dX8_put_34 (fun H locs hP hS => ?_)
      exact hret r_9 t_state_10 (Option.some.inj hf) _ _ _ _ hP hS dX8_put_37
    · have hf := ite_t hf c_6
      refine lv_bipush (v := (-2 : Int32)) hx hb dX8_put_18 (by decide) ?_
      exact hret (-2 : Int32) t_state (Option.some.inj hf) _ _ _ _ hP hS dX8_put_20
  · have hf := ite_t hf c_3
    refine lv_iconst (v := (-1 : Int32)) hx hb dX8_put_8 (by decide) ?_
    exact hret (-1 : Int32) t_state (Option.some.inj hf) _ _ _ _ hP hS dX8_put_9
