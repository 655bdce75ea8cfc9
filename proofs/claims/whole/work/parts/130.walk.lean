def b_X8_leading_6 (t_doorMany : Int32) (a1_n : Nat) (a1 : Nat → Int32) (p2 : Int32) (p3 : Int32) (v4_1 : Int32) (v5_2 : Int32) : Option ((Int32 × Int32) ⊕ (Int32 × Int32)) :=
 (if t_doorMany ≤ v5_2 then
 (some (.inr (v4_1, v5_2)))
 else (ob1 (f_X8_leadsTo a1_n a1 p2 v5_2 p3) (fun r_5 =>
 (jn1 (fun (s_7 : Int32) => (bnd (v4_1 ||| s_7) (fun v4_9 =>
 (bnd (v5_2 + (1 : Int32)) (fun v5_10 =>
 (some (.inl (v4_9, v5_10)))))))) (fun j_8 =>
 (if r_5 = (-4 : Int32) then
 (j_8 (0 : Int32))
 else (j_8 ((1 : Int32) <<< (v5_2 &&& 31)))))))))
def f_X8_leading (t_doorMany : Int32) (a1_n : Nat) (a1 : Nat → Int32) (p2 : Int32) (p3 : Int32) : Option (Int32) :=
 (ob2 (itr (un2 (b_X8_leading_6 t_doorMany a1_n a1 p2 p3)) FU ((0 : Int32), (0 : Int32))) (fun x4_12 x5_13 =>
 (some x4_12)))
abbrev rmX8_leading : Room := { frames := 1, cells := 0, slots := 0, locals := 26 }
set_option maxHeartbeats 4000000 in
set_option maxRecDepth 100000 in
theorem c_X8_leading (l : Launch) (g : Gh) (sz : Nat) (t_q t_state_q t_laws_q t_readPage_q t_readLaws_q t_tape_q t_cuts_q t_letters_q t_work_q t_pages_q t_canBe_q t_leadsOn_q t_seen_q t_heard_q t_isKept_q t_lanes_q t_lengths_q t_cells_q a1_q : Nat) (t_roomMany : Int32) (t_doorMany : Int32) (t_stringLong : Int32) (t_lawMany : Int32) (t_readRooms : Int32) (t_readDoors : Int32) (t_readString : Int32) (t_readLawMany : Int32) (t_toldOnce : Int32) (t_highRoom : Int32) (t_highDoor : Int32) (t_taped : Int32) (t_fault : Int32) (t_broken : Int32) (t_brokenAt : Int32) (t_spot : Int32) (t_here : Int32) (t_token : Int32) (t_value : Int32) (t_seenMany : Int32) (t_heardMany : Int32) (t_torn : Int32) (a1_n : Nat) (a1 : Nat → Int32) (p2 : Int32) (p3 : Int32) (rr : Int32) (hf : f_X8_leading t_doorMany a1_n a1 p2 p3 = some rr) : CI l yX8_leading wsX8_leading rmX8_leading [.ref t_q, .ref a1_q, .int p2, .int p3] g sz [oX8 t_q t_state_q t_roomMany t_doorMany t_stringLong t_laws_q t_lawMany t_readPage_q t_readLaws_q t_readRooms t_readDoors t_readString t_readLawMany t_toldOnce t_highRoom t_highDoor t_tape_q t_taped t_fault t_broken t_brokenAt t_spot t_here t_token t_value t_cuts_q t_letters_q t_work_q t_pages_q t_canBe_q t_leadsOn_q t_seen_q t_seenMany t_heard_q t_heardMany t_isKept_q t_lanes_q t_lengths_q t_cells_q t_torn, aI g a1_q a1_n a1] [oX8 t_q t_state_q t_roomMany t_doorMany t_stringLong t_laws_q t_lawMany t_readPage_q t_readLaws_q t_readRooms t_readDoors t_readString t_readLawMany t_toldOnce t_highRoom t_highDoor t_tape_q t_taped t_fault t_broken t_brokenAt t_spot t_here t_token t_value t_cuts_q t_letters_q t_work_q t_pages_q t_canBe_q t_leadsOn_q t_seen_q t_seenMany t_heard_q t_heardMany t_isKept_q t_lanes_q t_lengths_q t_cells_q t_torn, aI g a1_q a1_n a1] rr := by
  refine ent_i (cc := cX8_leading) (maxL := 6) (by decide) rfl (Nat.le_of_ble_eq_true rfl) ?_
  intro p e s m args below meth c A Q hx hb hml hown hts hK hz hk hA hD hP hS hret ls hl
  have hown : s.vm.findClass RX8 = some m.cls := hown
  have inX8 : ∀ w ∈ u_ws RX8 TX8 39, w ∈ wsX8_leading := by decide +kernel
  have k175 := hts (.fieldLink RX8 175 "ThreadMovedModel" "doorMany" "I") (by decide +kernel)
  have hl : lv_has ls 6 [(0, .ref t_q), (1, .ref a1_q), (2, .int p2), (3, .int p3)] := hl
  have hret : ∀ (rrz : Int32), rrz = rr → ∀ (H : Heap) (locs : List Loc) (pc : Nat) (ls : Array Slot), va_P g.1 vwCl [oX8 t_q t_state_q t_roomMany t_doorMany t_stringLong t_laws_q t_lawMany t_readPage_q t_readLaws_q t_readRooms t_readDoors t_readString t_readLawMany t_toldOnce t_highRoom t_highDoor t_tape_q t_taped t_fault t_broken t_brokenAt t_spot t_here t_token t_value t_cuts_q t_letters_q t_work_q t_pages_q t_canBe_q t_leadsOn_q t_seen_q t_seenMany t_heard_q t_heardMany t_isKept_q t_lanes_q t_lengths_q t_cells_q t_torn, aI g a1_q a1_n a1] H → va_S A s.heap H locs → decode cX8_leading pc = .ok (.ireturn, 1) → W p l e rmX8_leading s m args below meth c H locs 0 0 Q (F0 m pc ls [.int rrz]) := by
    intro rrz he H locs pc ls hP hS hd
    cases he
    exact hret H locs pc ls hP hS hd
  unfold f_X8_leading at hf
  refine lv_iconst (v := (0 : Int32)) hx hb dX8_leading_0 (by decide) ?_
  refine lv_istore (lv' := [(4, .int (0 : Int32)), (0, .ref t_q), (1, .ref a1_q), (2, .int p2), (3, .int p3)]) hx hb dX8_leading_1 hl (by decide) rfl (fun ls hl => ?_)
  refine lv_iconst (v := (0 : Int32)) hx hb dX8_leading_3 (by decide) ?_
  refine lv_istore (lv' := [(5, .int (0 : Int32)), (4, .int (0 : Int32)), (0, .ref t_q), (1, .ref a1_q), (2, .int p2), (3, .int p3)]) hx hb dX8_leading_4 hl (by decide) rfl (fun ls hl => ?_)
  obtain ⟨x4_12, x5_13, ho_3, hf⟩ := ob2_e hf
  have K_3 : ∀ (x4_12y : Int32) (x5_13y : Int32), x4_12 = x4_12y → x5_13 = x5_13y → ∀ (H : Heap) (locs : List Loc) (ls : Array Slot), va_P g.1 vwCl [oX8 t_q t_state_q t_roomMany t_doorMany t_stringLong t_laws_q t_lawMany t_readPage_q t_readLaws_q t_readRooms t_readDoors t_readString t_readLawMany t_toldOnce t_highRoom t_highDoor t_tape_q t_taped t_fault t_broken t_brokenAt t_spot t_here t_token t_value t_cuts_q t_letters_q t_work_q t_pages_q t_canBe_q t_leadsOn_q t_seen_q t_seenMany t_heard_q t_heardMany t_isKept_q t_lanes_q t_lengths_q t_cells_q t_torn, aI g a1_q a1_n a1] H → va_S A s.heap H locs → lv_has ls 6 [(4, .int x4_12y)] → W p l e rmX8_leading s m args below meth c H locs 0 0 Q (F0 m 48 ls []) := by
    intro x4_12y x5_13y ey0 ey1 H locs ls hP hS hl
    subst ey0
    subst ey1
    refine lv_iload hx hb dX8_leading_48 (lv_at hl 0 rfl) ?_
    exact hret x4_12 (Option.some.inj hf) _ _ _ _ hP hS dX8_leading_50
  have L_3 : ∀ (n : Nat) (v4_1 : Int32) (v5_2 : Int32), itr (un2 (b_X8_leading_6 t_doorMany a1_n a1 p2 p3)) n (v4_1, v5_2) = some (x4_12, x5_13) → ∀ (H : Heap) (locs : List Loc) (ls : Array Slot), va_P g.1 vwCl [oX8 t_q t_state_q t_roomMany t_doorMany t_stringLong t_laws_q t_lawMany t_readPage_q t_readLaws_q t_readRooms t_readDoors t_readString t_readLawMany t_toldOnce t_highRoom t_highDoor t_tape_q t_taped t_fault t_broken t_brokenAt t_spot t_here t_token t_value t_cuts_q t_letters_q t_work_q t_pages_q t_canBe_q t_leadsOn_q t_seen_q t_seenMany t_heard_q t_heardMany t_isKept_q t_lanes_q t_lengths_q t_cells_q t_torn, aI g a1_q a1_n a1] H → va_S A s.heap H locs → lv_has ls 6 [(0, .ref t_q), (1, .ref a1_q), (2, .int p2), (3, .int p3), (4, .int v4_1), (5, .int v5_2)] → W p l e rmX8_leading s m args below meth c H locs 0 0 Q (F0 m 6 ls []) := by
    refine itr_ind2 ?_
    intro v4_1 v5_2 z_3 hf hrec hex H locs ls hP hS hl
    unfold b_X8_leading_6 at hf
    refine lv_iload hx hb dX8_leading_6 (lv_at hl 5 rfl) ?_
    refine lv_aload_n hx hb dX8_leading_8 rfl (lv_at hl 0 rfl) ?_
    refine va_get (D := g.1) (ci := 8) (v := .int t_doorMany) (C := RX8) (T := TX8) (N := 39) hx hb hts inX8 hown hK hP 0 rfl rfl 2 (by decide) k175 (fun _ h9 => h9) rfl dX8_leading_9 ?_
    refine lv_icmp_ge (tgt := 48) hx hb dX8_leading_12 (by decide) (fun c_4 => ?_) (fun c_4 => ?_)
    · have hf := ite_t hf c_4
      exact K_3 v4_1 v5_2 (congrArg (fun t => t.1) (hex _ (Option.some.inj hf).symm).symm) (congrArg (fun t => t.2) (hex _ (Option.some.inj hf).symm).symm) _ _ _ hP hS (lv_sub hl [4] rfl)
    · have hf := ite_f hf c_4
      refine lv_iload hx hb dX8_leading_15 (lv_at hl 4 rfl) ?_
      refine lv_aload_n hx hb dX8_leading_17 rfl (lv_at hl 0 rfl) ?_
      refine lv_aload_n hx hb dX8_leading_18 rfl (lv_at hl 1 rfl) ?_
      refine lv_iload_n hx hb dX8_leading_19 rfl (lv_at hl 2 rfl) ?_
      refine lv_iload hx hb dX8_leading_20 (lv_at hl 5 rfl) ?_
      refine lv_iload_n hx hb dX8_leading_22 rfl (lv_at hl 3 rfl) ?_
      obtain ⟨r_5, hc_6, hf⟩ := ob1_e hf
      refine kV_i (wn := [oX8 t_q t_state_q t_roomMany t_doorMany t_stringLong t_laws_q t_lawMany t_readPage_q t_readLaws_q t_readRooms t_readDoors t_readString t_readLawMany t_toldOnce t_highRoom t_highDoor t_tape_q t_taped t_fault t_broken t_brokenAt t_spot t_here t_token t_value t_cuts_q t_letters_q t_work_q t_pages_q t_canBe_q t_leadsOn_q t_seen_q t_seenMany t_heard_q t_heardMany t_isKept_q t_lanes_q t_lengths_q t_cells_q t_torn, aI g a1_q a1_n a1]) (As := [.ref a1_q, .int p2, .int v5_2, .int p3]) (rest := [.int v4_1]) (c_X8_leadsTo l g _ t_q t_state_q t_laws_q t_readPage_q t_readLaws_q t_tape_q t_cuts_q t_letters_q t_work_q t_pages_q t_canBe_q t_leadsOn_q t_seen_q t_heard_q t_isKept_q t_lanes_q t_lengths_q t_cells_q a1_q t_roomMany t_doorMany t_stringLong t_lawMany t_readRooms t_readDoors t_readString t_readLawMany t_toldOnce t_highRoom t_highDoor t_taped t_fault t_broken t_brokenAt t_spot t_here t_token t_value t_seenMany t_heardMany t_torn a1_n a1 p2 v5_2 p3 r_5 hc_6) ⟨hx, hb, hml, hown, hts⟩ (cwV 4 hts gX8_leading_X8_leadsTo rfl rfl rfl (by decide +kernel) ⟨by decide, by decide⟩) hK hz hk hP (hD.re rfl) hS hA [0, 1] rfl rfl rfl rfl rfl rfl rfl hl.1 rfl (Nat.le_of_ble_eq_true rfl) dX8_leading_23 (fun H locs hP hS => ?_)
      refine lv_bipush (v := (-4 : Int32)) hx hb dX8_leading_26 (by decide) ?_
      obtain ⟨j_8, hj_8, hf⟩ := jn1_e hf
      have J_8 : ∀ (s_7 : Int32), j_8 s_7 = some z_3 → ∀ (H : Heap) (locs : List Loc) (ls : Array Slot), va_P g.1 vwCl [oX8 t_q t_state_q t_roomMany t_doorMany t_stringLong t_laws_q t_lawMany t_readPage_q t_readLaws_q t_readRooms t_readDoors t_readString t_readLawMany t_toldOnce t_highRoom t_highDoor t_tape_q t_taped t_fault t_broken t_brokenAt t_spot t_here t_token t_value t_cuts_q t_letters_q t_work_q t_pages_q t_canBe_q t_leadsOn_q t_seen_q t_seenMany t_heard_q t_heardMany t_isKept_q t_lanes_q t_lengths_q t_cells_q t_torn, aI g a1_q a1_n a1] H → va_S A s.heap H locs → lv_has ls 6 [(0, .ref t_q), (1, .ref a1_q), (2, .int p2), (3, .int p3), (5, .int v5_2)] → W p l e rmX8_leading s m args below meth c H locs 0 0 Q (F0 m 39 ls [.int s_7, .int v4_1]) := by
        intro s_7 hf H locs ls hP hS hl
        rw [hj_8] at hf
        refine lv_ior hx hb dX8_leading_39 ?_
        obtain ⟨v4_9, ev4_9, hf⟩ := bnd_e hf
        refine tp_i ev4_9 ?_
        refine lv_istore (lv' := [(4, .int v4_9), (0, .ref t_q), (1, .ref a1_q), (2, .int p2), (3, .int p3), (5, .int v5_2)]) hx hb dX8_leading_40 hl (by decide) rfl (fun ls hl => ?_)
        obtain ⟨v5_10, ev5_10, hf⟩ := bnd_e hf
        refine lv_iinc (v := v5_10) (lv' := [(5, .int v5_10), (4, .int v4_9), (0, .ref t_q), (1, .ref a1_q), (2, .int p2), (3, .int p3)]) hx hb dX8_leading_42 hl (k := 5) rfl (by rw [ev5_10]; rfl) (by decide) rfl (fun ls hl => ?_)
        refine lv_goto (tgt := 6) hx hb dX8_leading_45 (by decide) ?_
        exact hrec v4_9 v5_10 (Option.some.inj hf).symm _ _ _ hP hS (lv_sub hl [2, 3, 4, 5, 1, 0] rfl)
      refine lv_icmp_eq (tgt := 38) hx hb dX8_leading_28 (by decide) (fun c_11 => ?_) (fun c_11 => ?_)
      · have hf := ite_t hf c_11
        refine lv_iconst (v := (0 : Int32)) hx hb dX8_leading_38 (by decide) ?_
        exact J_8 (0 : Int32) hf _ _ _ hP hS (lv_sub hl [0, 1, 2, 3, 5] rfl)
      · have hf := ite_f hf c_11
        refine lv_iconst (v := (1 : Int32)) hx hb dX8_leading_31 (by decide) ?_
        refine lv_iload hx hb dX8_leading_32 (lv_at hl 5 rfl) ?_
        refine lv_ishl hx hb dX8_leading_34 ?_
        refine lv_goto (tgt := 39) hx hb dX8_leading_35 (by decide) ?_
        exact J_8 ((1 : Int32) <<< (v5_2 &&& 31)) hf _ _ _ hP hS (lv_sub hl [0, 1, 2, 3, 5] rfl)
  exact L_3 FU (0 : Int32) (0 : Int32) ho_3 _ _ _ hP hS (lv_sub hl [2, 3, 4, 5, 1, 0] rfl)

def b_X8_bitsOf_4 (p0 : Int32) (v1_1 : Int32) (v2_2 : Int32) : Option ((Int32 × Int32) ⊕ (Int32 × Int32)) :=
 (if (10 : Int32) ≤ v2_2 then
 (some (.inr (v1_1, v2_2)))
 else (bnd (v1_1 + ((p0 >>> (v2_2 &&& 31)) &&& (1 : Int32))) (fun v1_5 =>
 (bnd (v2_2 + (1 : Int32)) (fun v2_6 =>
 (some (.inl (v1_5, v2_6))))))))
def f_X8_bitsOf (p0 : Int32) : Option (Int32) :=
 (ob2 (itr (un2 (b_X8_bitsOf_4 p0)) FU ((0 : Int32), (0 : Int32))) (fun x1_7 x2_8 =>
 (some x1_7)))
abbrev rmX8_bitsOf : Room := { frames := 0, cells := 0, slots := 0, locals := 0 }
set_option maxHeartbeats 4000000 in
set_option maxRecDepth 100000 in
theorem c_X8_bitsOf (l : Launch) (g : Gh) (sz : Nat) (p0 : Int32) (rr : Int32) (hf : f_X8_bitsOf p0 = some rr) : CI l yX8_bitsOf wsX8_bitsOf rmX8_bitsOf [.int p0] g sz [] [] rr := by
  refine ent_i (cc := cX8_bitsOf) (maxL := 3) (by decide) rfl (Nat.le_of_ble_eq_true rfl) ?_
  intro p e s m args below meth c A Q hx hb hml hown hts hK hz hk hA hD hP hS hret ls hl
  have hown : s.vm.findClass RX8 = some m.cls := hown
  have hl : lv_has ls 3 [(0, .int p0)] := hl
  have hret : ∀ (rrz : Int32), rrz = rr → ∀ (H : Heap) (locs : List Loc) (pc : Nat) (ls : Array Slot), va_P g.1 vwCl [] H → va_S A s.heap H locs → decode cX8_bitsOf pc = .ok (.ireturn, 1) → W p l e rmX8_bitsOf s m args below meth c H locs 0 0 Q (F0 m pc ls [.int rrz]) := by
    intro rrz he H locs pc ls hP hS hd
    cases he
    exact hret H locs pc ls hP hS hd
  unfold f_X8_bitsOf at hf
  refine lv_iconst (v := (0 : Int32)) hx hb dX8_bitsOf_0 (by decide) ?_
  refine lv_istore_n (lv' := [(1, .int (0 : Int32)), (0, .int p0)]) hx hb dX8_bitsOf_1 rfl hl (by decide) rfl (fun ls hl => ?_)
  refine lv_iconst (v := (0 : Int32)) hx hb dX8_bitsOf_2 (by decide) ?_
  refine lv_istore_n (lv' := [(2, .int (0 : Int32)), (1, .int (0 : Int32)), (0, .int p0)]) hx hb dX8_bitsOf_3 rfl hl (by decide) rfl (fun ls hl => ?_)
  obtain ⟨x1_7, x2_8, ho_3, hf⟩ := ob2_e hf
  have K_3 : ∀ (x1_7y : Int32) (x2_8y : Int32), x1_7 = x1_7y → x2_8 = x2_8y → ∀ (H : Heap) (locs : List Loc) (ls : Array Slot), va_P g.1 vwCl [] H → va_S A s.heap H locs → lv_has ls 3 [(1, .int x1_7y)] → W p l e rmX8_bitsOf s m args below meth c H locs 0 0 Q (F0 m 24 ls []) := by
    intro x1_7y x2_8y ey0 ey1 H locs ls hP hS hl
    subst ey0
    subst ey1
    refine lv_iload_n hx hb dX8_bitsOf_24 rfl (lv_at hl 0 rfl) ?_
    exact hret x1_7 (Option.some.inj hf) _ _ _ _ hP hS dX8_bitsOf_25
  have L_3 : ∀ (n : Nat) (v1_1 : Int32) (v2_2 : Int32), itr (un2 (b_X8_bitsOf_4 p0)) n (v1_1, v2_2) = some (x1_7, x2_8) → ∀ (H : Heap) (locs : List Loc) (ls : Array Slot), va_P g.1 vwCl [] H → va_S A s.heap H locs → lv_has ls 3 [(0, .int p0), (1, .int v1_1), (2, .int v2_2)] → W p l e rmX8_bitsOf s m args below meth c H locs 0 0 Q (F0 m 4 ls []) := by
    refine itr_ind2 ?_
    intro v1_1 v2_2 z_3 hf hrec hex H locs ls hP hS hl
    unfold b_X8_bitsOf_4 at hf
    refine lv_iload_n hx hb dX8_bitsOf_4 rfl (lv_at hl 2 rfl) ?_
    refine lv_bipush (v := (10 : Int32)) hx hb dX8_bitsOf_5 (by decide) ?_
    refine lv_icmp_ge (tgt := 24) hx hb dX8_bitsOf_7 (by decide) (fun c_4 => ?_) (fun c_4 => ?_)
    · have hf := ite_t hf c_4
      exact K_3 v1_1 v2_2 (congrArg (fun t => t.1) (hex _ (Option.some.inj hf).symm).symm) (congrArg (fun t => t.2) (hex _ (Option.some.inj hf).symm).symm) _ _ _ hP hS (lv_sub hl [1] rfl)
    · have hf := ite_f hf c_4
      refine lv_iload_n hx hb dX8_bitsOf_10 rfl (lv_at hl 1 rfl) ?_
      refine lv_iload_n hx hb dX8_bitsOf_11 rfl (lv_at hl 0 rfl) ?_
      refine lv_iload_n hx hb dX8_bitsOf_12 rfl (lv_at hl 2 rfl) ?_
      refine lv_ishr hx hb dX8_bitsOf_13 ?_
      refine lv_iconst (v := (1 : Int32)) hx hb dX8_bitsOf_14 (by decide) ?_
      refine lv_iand hx hb dX8_bitsOf_15 ?_
      refine lv_iadd hx hb dX8_bitsOf_16 ?_
      obtain ⟨v1_5, ev1_5, hf⟩ := bnd_e hf
      refine tp_i ev1_5 ?_
      refine lv_istore_n (lv' := [(1, .int v1_5), (0, .int p0), (2, .int v2_2)]) hx hb dX8_bitsOf_17 rfl hl (by decide) rfl (fun ls hl => ?_)
      obtain ⟨v2_6, ev2_6, hf⟩ := bnd_e hf
      refine lv_iinc (v := v2_6) (lv' := [(2, .int v2_6), (1, .int v1_5), (0, .int p0)]) hx hb dX8_bitsOf_18 hl (k := 2) rfl (by rw [ev2_6]; rfl) (by decide) rfl (fun ls hl => ?_)
      refine lv_goto (tgt := 4) hx hb dX8_bitsOf_21 (by decide) ?_
      exact hrec v1_5 v2_6 (Option.some.inj hf).symm _ _ _ hP hS (lv_sub hl [2, 1, 0] rfl)
  exact L_3 FU (0 : Int32) (0 : Int32) ho_3 _ _ _ hP hS (lv_sub hl [2, 1, 0] rfl)

def b_X8_placeOf_4 (p0 : Int32) (v2_1 : Int32) (v3_2 : Int32) : Option ((Int32 × Int32) ⊕ (Int32 × Int32)) :=
 (jn0 (bnd (v2_1 - ((p0 >>> (v3_2 &&& 31)) &&& (1 : Int32))) (fun v2_5 =>
 (bnd (v3_2 + (1 : Int32)) (fun v3_6 =>
 (some (.inl (v2_5, v3_6))))))) (fun j_4 =>
 (if ((p0 >>> (v3_2 &&& 31)) &&& (1 : Int32)) = (0 : Int32) then
 (j_4)
 else (if v2_1 ≤ (0 : Int32) then
 (some (.inr (v2_1, v3_2)))
 else (j_4)))))
def f_X8_placeOf (p0 : Int32) (p1 : Int32) : Option (Int32) :=
 (ob2 (itr (un2 (b_X8_placeOf_4 p0)) FU (p1, (0 : Int32))) (fun x2_9 x3_10 =>
 (some x3_10)))
abbrev rmX8_placeOf : Room := { frames := 0, cells := 0, slots := 0, locals := 0 }
set_option maxHeartbeats 4000000 in
set_option maxRecDepth 100000 in
theorem c_X8_placeOf (l : Launch) (g : Gh) (sz : Nat) (p0 : Int32) (p1 : Int32) (rr : Int32) (hf : f_X8_placeOf p0 p1 = some rr) : CI l yX8_placeOf wsX8_placeOf rmX8_placeOf [.int p0, .int p1] g sz [] [] rr := by
  refine ent_i (cc := cX8_placeOf) (maxL := 4) (by decide) rfl (Nat.le_of_ble_eq_true rfl) ?_
  intro p e s m args below meth c A Q hx hb hml hown hts hK hz hk hA hD hP hS hret ls hl
  have hown : s.vm.findClass RX8 = some m.cls := hown
  have hl : lv_has ls 4 [(0, .int p0), (1, .int p1)] := hl
  have hret : ∀ (rrz : Int32), rrz = rr → ∀ (H : Heap) (locs : List Loc) (pc : Nat) (ls : Array Slot), va_P g.1 vwCl [] H → va_S A s.heap H locs → decode cX8_placeOf pc = .ok (.ireturn, 1) → W p l e rmX8_placeOf s m args below meth c H locs 0 0 Q (F0 m pc ls [.int rrz]) := by
    intro rrz he H locs pc ls hP hS hd
    cases he
    exact hret H locs pc ls hP hS hd
  unfold f_X8_placeOf at hf
  refine lv_iload_n hx hb dX8_placeOf_0 rfl (lv_at hl 1 rfl) ?_
  refine lv_istore_n (lv' := [(2, .int p1), (0, .int p0), (1, .int p1)]) hx hb dX8_placeOf_1 rfl hl (by decide) rfl (fun ls hl => ?_)
  refine lv_iconst (v := (0 : Int32)) hx hb dX8_placeOf_2 (by decide) ?_
  refine lv_istore_n (lv' := [(3, .int (0 : Int32)), (2, .int p1), (0, .int p0), (1, .int p1)]) hx hb dX8_placeOf_3 rfl hl (by decide) rfl (fun ls hl => ?_)
  obtain ⟨x2_9, x3_10, ho_3, hf⟩ := ob2_e hf
  have K_3 : ∀ (x2_9y : Int32) (x3_10y : Int32), x2_9 = x2_9y → x3_10 = x3_10y → ∀ (H : Heap) (locs : List Loc) (ls : Array Slot), va_P g.1 vwCl [] H → va_S A s.heap H locs → lv_has ls 4 [(3, .int x3_10y)] → W p l e rmX8_placeOf s m args below meth c H locs 0 0 Q (F0 m 30 ls []) := by
    intro x2_9y x3_10y ey0 ey1 H locs ls hP hS hl
    subst ey0
    subst ey1
    refine lv_iload_n hx hb dX8_placeOf_30 rfl (lv_at hl 0 rfl) ?_
    exact hret x3_10 (Option.some.inj hf) _ _ _ _ hP hS dX8_placeOf_31
  have L_3 : ∀ (n : Nat) (v2_1 : Int32) (v3_2 : Int32), itr (un2 (b_X8_placeOf_4 p0)) n (v2_1, v3_2) = some (x2_9, x3_10) → ∀ (H : Heap) (locs : List Loc) (ls : Array Slot), va_P g.1 vwCl [] H → va_S A s.heap H locs → lv_has ls 4 [(0, .int p0), (2, .int v2_1), (3, .int v3_2)] → W p l e rmX8_placeOf s m args below meth c H locs 0 0 Q (F0 m 4 ls []) := by
    refine itr_ind2 ?_
    intro v2_1 v3_2 z_3 hf hrec hex H locs ls hP hS hl
    unfold b_X8_placeOf_4 at hf
    refine lv_iload_n hx hb dX8_placeOf_4 rfl (lv_at hl 0 rfl) ?_
    refine lv_iload_n hx hb dX8_placeOf_5 rfl (lv_at hl 2 rfl) ?_
    refine lv_ishr hx hb dX8_placeOf_6 ?_
    refine lv_iconst (v := (1 : Int32)) hx hb dX8_placeOf_7 (by decide) ?_
    refine lv_iand hx hb dX8_placeOf_8 ?_
    obtain ⟨j_4, hj_4, hf⟩ := jn0_e hf
    have J_4 : j_4 = some z_3 → ∀ (H : Heap) (locs : List Loc) (ls : Array Slot), va_P g.1 vwCl [] H → va_S A s.heap H locs → lv_has ls 4 [(0, .int p0), (2, .int v2_1), (3, .int v3_2)] → W p l e rmX8_placeOf s m args below meth c H locs 0 0 Q (F0 m 16 ls []) := by
      intro hf H locs ls hP hS hl
      rw [hj_4] at hf
      refine lv_iload_n hx hb dX8_placeOf_16 rfl (lv_at hl 1 rfl) ?_
      refine lv_iload_n hx hb dX8_placeOf_17 rfl (lv_at hl 0 rfl) ?_
      refine lv_iload_n hx hb dX8_placeOf_18 rfl (lv_at hl 2 rfl) ?_
      refine lv_ishr hx hb dX8_placeOf_19 ?_
      refine lv_iconst (v := (1 : Int32)) hx hb dX8_placeOf_20 (by decide) ?_
      refine lv_iand hx hb dX8_placeOf_21 ?_
      refine lv_isub hx hb dX8_placeOf_22 ?_
      obtain ⟨v2_5, ev2_5, hf⟩ := bnd_e hf
      refine tp_i ev2_5 ?_
      refine lv_istore_n (lv' := [(2, .int v2_5), (0, .int p0), (3, .int v3_2)]) hx hb dX8_placeOf_23 rfl hl (by decide) rfl (fun ls hl => ?_)
      obtain ⟨v3_6, ev3_6, hf⟩ := bnd_e hf
      refine lv_iinc (v := v3_6) (lv' := [(3, .int v3_6), (2, .int v2_5), (0, .int p0)]) hx hb dX8_placeOf_24 hl (k := 2) rfl (by rw [ev3_6]; rfl) (by decide) rfl (fun ls hl => ?_)
      refine lv_goto (tgt := 4) hx hb dX8_placeOf_27 (by decide) ?_
      exact hrec v2_5 v3_6 (Option.some.inj hf).symm _ _ _ hP hS (lv_sub hl [2, 1, 0] rfl)
    refine lv_if_eq (tgt := 16) hx hb dX8_placeOf_9 (by decide) (fun c_7 => ?_) (fun c_7 => ?_)
    · have hf := ite_t hf c_7
      exact J_4 hf _ _ _ hP hS (lv_sub hl [0, 1, 2] rfl)
    · have hf := ite_f hf c_7
      refine lv_iload_n hx hb dX8_placeOf_12 rfl (lv_at hl 1 rfl) ?_
      refine lv_if_le (tgt := 30) hx hb dX8_placeOf_13 (by decide) (fun c_8 => ?_) (fun c_8 => ?_)
      · have hf := ite_t hf c_8
        exact K_3 v2_1 v3_2 (congrArg (fun t => t.1) (hex _ (Option.some.inj hf).symm).symm) (congrArg (fun t => t.2) (hex _ (Option.some.inj hf).symm).symm) _ _ _ hP hS (lv_sub hl [2] rfl)
      · have hf := ite_f hf c_8
        exact J_4 hf _ _ _ hP hS (lv_sub hl [0, 1, 2] rfl)
  exact L_3 FU p1 (0 : Int32) ho_3 _ _ _ hP hS (lv_sub hl [2, 1, 0] rfl)

def b_X8_goesTo_33 (t_doorMany : Int32) (a1_n : Nat) (a1 : Nat → Int32) (p2 : Int32) (p3 : Int32) (p4 : Int32) (v8_16 : Int32) (v9_17 : Int32) : Option ((Int32 × Int32) ⊕ (Int32 × Int32)) :=
 (if t_doorMany ≤ v9_17 then
 (some (.inr (v8_16, v9_17)))
 else (jn1 (fun (s_20 : Int32) => (bnd (v9_17 + (1 : Int32)) (fun v9_22 =>
 (some (.inl (s_20, v9_22)))))) (fun j_21 =>
 (jn0 (j_21 (1 : Int32)) (fun j_23 =>
 (if v8_16 = (0 : Int32) then
 (ob1 (f_X8_leadsTo a1_n a1 p2 v9_17 p3) (fun r_25 =>
 (if r_25 = p4 then
 (j_23)
 else (j_21 (0 : Int32)))))
 else (j_23)))))))
def f_X8_goesTo (t_doorMany : Int32) (a1_n : Nat) (a1 : Nat → Int32) (p2 : Int32) (p3 : Int32) (p4 : Int32) (p5 : Int32) (p6 : Int32) : Option (Int32) :=
 (ob1 (f_X8_leading t_doorMany a1_n a1 p2 p3) (fun r_1 =>
 (if p5 = (0 : Int32) then
 (some p3)
 else (if r_1 = (0 : Int32) then
 (some p3)
 else (if p5 = (2 : Int32) then
 (ob2 (itr (un2 (b_X8_goesTo_33 t_doorMany a1_n a1 p2 p3 p4)) FU ((0 : Int32), (0 : Int32))) (fun x8_28 x9_29 =>
 (if x8_28 = (0 : Int32) then
 (some p3)
 else (some p4))))
 else (jn1 (fun (s_6 : Int32) => (ob1 (f_X8_placeOf r_1 s_6) (fun r_8 =>
 (ob1 (f_X8_leadsTo a1_n a1 p2 r_8 p3) (fun r_10 =>
 (some r_10)))))) (fun j_7 =>
 (if p5 = (1 : Int32) then
 (j_7 (0 : Int32))
 else (ob1 (f_X8_bitsOf r_1) (fun r_13 =>
 (gnz r_13 (j_7 (p6 - p6 / r_13 * r_13)))))))))))))
abbrev rmX8_goesTo : Room := { frames := 2, cells := 0, slots := 0, locals := 51 }
set_option maxHeartbeats 4000000 in
set_option maxRecDepth 100000 in
theorem c_X8_goesTo (l : Launch) (g : Gh) (sz : Nat) (t_q t_state_q t_laws_q t_readPage_q t_readLaws_q t_tape_q t_cuts_q t_letters_q t_work_q t_pages_q t_canBe_q t_leadsOn_q t_seen_q t_heard_q t_isKept_q t_lanes_q t_lengths_q t_cells_q a1_q : Nat) (t_roomMany : Int32) (t_doorMany : Int32) (t_stringLong : Int32) (t_lawMany : Int32) (t_readRooms : Int32) (t_readDoors : Int32) (t_readString : Int32) (t_readLawMany : Int32) (t_toldOnce : Int32) (t_highRoom : Int32) (t_highDoor : Int32) (t_taped : Int32) (t_fault : Int32) (t_broken : Int32) (t_brokenAt : Int32) (t_spot : Int32) (t_here : Int32) (t_token : Int32) (t_value : Int32) (t_seenMany : Int32) (t_heardMany : Int32) (t_torn : Int32) (a1_n : Nat) (a1 : Nat → Int32) (p2 : Int32) (p3 : Int32) (p4 : Int32) (p5 : Int32) (p6 : Int32) (rr : Int32) (hf : f_X8_goesTo t_doorMany a1_n a1 p2 p3 p4 p5 p6 = some rr) : CI l yX8_goesTo wsX8_goesTo rmX8_goesTo [.ref t_q, .ref a1_q, .int p2, .int p3, .int p4, .int p5, .int p6] g sz [oX8 t_q t_state_q t_roomMany t_doorMany t_stringLong t_laws_q t_lawMany t_readPage_q t_readLaws_q t_readRooms t_readDoors t_readString t_readLawMany t_toldOnce t_highRoom t_highDoor t_tape_q t_taped t_fault t_broken t_brokenAt t_spot t_here t_token t_value t_cuts_q t_letters_q t_work_q t_pages_q t_canBe_q t_leadsOn_q t_seen_q t_seenMany t_heard_q t_heardMany t_isKept_q t_lanes_q t_lengths_q t_cells_q t_torn, aI g a1_q a1_n a1] [oX8 t_q t_state_q t_roomMany t_doorMany t_stringLong t_laws_q t_lawMany t_readPage_q t_readLaws_q t_readRooms t_readDoors t_readString t_readLawMany t_toldOnce t_highRoom t_highDoor t_tape_q t_taped t_fault t_broken t_brokenAt t_spot t_here t_token t_value t_cuts_q t_letters_q t_work_q t_pages_q t_canBe_q t_leadsOn_q t_seen_q t_seenMany t_heard_q t_heardMany t_isKept_q t_lanes_q t_lengths_q t_cells_q t_torn, aI g a1_q a1_n a1] rr := by
  refine ent_i (cc := cX8_goesTo) (maxL := 10) (by decide) rfl (Nat.le_of_ble_eq_true rfl) ?_
  intro p e s m args below meth c A Q hx hb hml hown hts hK hz hk hA hD hP hS hret ls hl
  have hown : s.vm.findClass RX8 = some m.cls := hown
  have inX8 : ∀ w ∈ u_ws RX8 TX8 39, w ∈ wsX8_goesTo := by decide +kernel
  have k175 := hts (.fieldLink RX8 175 "ThreadMovedModel" "doorMany" "I") (by decide +kernel)
  have hl : lv_has ls 10 [(0, .ref t_q), (1, .ref a1_q), (2, .int p2), (3, .int p3), (4, .int p4), (5, .int p5), (6, .int p6)] := hl
  have hret : ∀ (rrz : Int32), rrz = rr → ∀ (H : Heap) (locs : List Loc) (pc : Nat) (ls : Array Slot), va_P g.1 vwCl [oX8 t_q t_state_q t_roomMany t_doorMany t_stringLong t_laws_q t_lawMany t_readPage_q t_readLaws_q t_readRooms t_readDoors t_readString t_readLawMany t_toldOnce t_highRoom t_highDoor t_tape_q t_taped t_fault t_broken t_brokenAt t_spot t_here t_token t_value t_cuts_q t_letters_q t_work_q t_pages_q t_canBe_q t_leadsOn_q t_seen_q t_seenMany t_heard_q t_heardMany t_isKept_q t_lanes_q t_lengths_q t_cells_q t_torn, aI g a1_q a1_n a1] H → va_S A s.heap H locs → decode cX8_goesTo pc = .ok (.ireturn, 1) → W p l e rmX8_goesTo s m args below meth c H locs 0 0 Q (F0 m pc ls [.int rrz]) := by
    intro rrz he H locs pc ls hP hS hd
    cases he
    exact hret H locs pc ls hP hS hd
  unfold f_X8_goesTo at hf
  refine lv_aload_n hx hb dX8_goesTo_0 rfl (lv_at hl 0 rfl) ?_
  refine lv_aload_n hx hb dX8_goesTo_1 rfl (lv_at hl 1 rfl) ?_
  refine lv_iload_n hx hb dX8_goesTo_2 rfl (lv_at hl 2 rfl) ?_
  refine lv_iload_n hx hb dX8_goesTo_3 rfl (lv_at hl 3 rfl) ?_
  obtain ⟨r_1, hc_2, hf⟩ := ob1_e hf
  refine kV_i (wn := [oX8 t_q t_state_q t_roomMany t_doorMany t_stringLong t_laws_q t_lawMany t_readPage_q t_readLaws_q t_readRooms t_readDoors t_readString t_readLawMany t_toldOnce t_highRoom t_highDoor t_tape_q t_taped t_fault t_broken t_brokenAt t_spot t_here t_token t_value t_cuts_q t_letters_q t_work_q t_pages_q t_canBe_q t_leadsOn_q t_seen_q t_seenMany t_heard_q t_heardMany t_isKept_q t_lanes_q t_lengths_q t_cells_q t_torn, aI g a1_q a1_n a1]) (As := [.ref a1_q, .int p2, .int p3]) (rest := []) (c_X8_leading l g _ t_q t_state_q t_laws_q t_readPage_q t_readLaws_q t_tape_q t_cuts_q t_letters_q t_work_q t_pages_q t_canBe_q t_leadsOn_q t_seen_q t_heard_q t_isKept_q t_lanes_q t_lengths_q t_cells_q a1_q t_roomMany t_doorMany t_stringLong t_lawMany t_readRooms t_readDoors t_readString t_readLawMany t_toldOnce t_highRoom t_highDoor t_taped t_fault t_broken t_brokenAt t_spot t_here t_token t_value t_seenMany t_heardMany t_torn a1_n a1 p2 p3 r_1 hc_2) ⟨hx, hb, hml, hown, hts⟩ (cwV 3 hts gX8_goesTo_X8_leading rfl rfl rfl (by decide +kernel) ⟨by decide, by decide⟩) hK hz hk hP (hD.re rfl) hS hA [0, 1] rfl rfl rfl rfl rfl rfl rfl hl.1 rfl (Nat.le_of_ble_eq_true rfl) dX8_goesTo_4 (fun H locs hP hS => ?_)
  refine lv_istore (lv' := [(7, .int r_1), (0, .ref t_q), (1, .ref a1_q), (2, .int p2), (3, .int p3), (4, .int p4), (5, .int p5), (6, .int p6)]) hx hb dX8_goesTo_7 hl (by decide) rfl (fun ls hl => ?_)
  refine lv_iload hx hb dX8_goesTo_9 (lv_at hl 6 rfl) ?_
  refine lv_if_eq (tgt := 19) hx hb dX8_goesTo_11 (by decide) (fun c_3 => ?_) (fun c_3 => ?_)
  · have hf := ite_t hf c_3
    refine lv_iload_n hx hb dX8_goesTo_19 rfl (lv_at hl 4 rfl) ?_
    exact hret p3 (Option.some.inj hf) _ _ _ _ hP hS dX8_goesTo_20
  · have hf := ite_f hf c_3
    refine lv_iload hx hb dX8_goesTo_14 (lv_at hl 0 rfl) ?_
    refine lv_if_ne (tgt := 21) hx hb dX8_goesTo_16 (by decide) (fun c_4 => ?_) (fun c_4 => ?_)
    · have hf := ite_f hf c_4
      refine lv_iload hx hb dX8_goesTo_21 (lv_at hl 6 rfl) ?_
      refine lv_iconst (v := (2 : Int32)) hx hb dX8_goesTo_23 (by decide) ?_
      refine lv_icmp_ne (tgt := 86) hx hb dX8_goesTo_24 (by decide) (fun c_5 => ?_) (fun c_5 => ?_)
      · have hf := ite_f hf c_5
        refine lv_iload hx hb dX8_goesTo_86 (lv_at hl 0 rfl) ?_
        refine lv_iload hx hb dX8_goesTo_88 (lv_at hl 6 rfl) ?_
        refine lv_iconst (v := (1 : Int32)) hx hb dX8_goesTo_90 (by decide) ?_
        obtain ⟨j_7, hj_7, hf⟩ := jn1_e hf
        have J_7 : ∀ (s_6 : Int32), j_7 s_6 = some rr → ∀ (H : Heap) (locs : List Loc) (ls : Array Slot), va_P g.1 vwCl [oX8 t_q t_state_q t_roomMany t_doorMany t_stringLong t_laws_q t_lawMany t_readPage_q t_readLaws_q t_readRooms t_readDoors t_readString t_readLawMany t_toldOnce t_highRoom t_highDoor t_tape_q t_taped t_fault t_broken t_brokenAt t_spot t_here t_token t_value t_cuts_q t_letters_q t_work_q t_pages_q t_canBe_q t_leadsOn_q t_seen_q t_seenMany t_heard_q t_heardMany t_isKept_q t_lanes_q t_lengths_q t_cells_q t_torn, aI g a1_q a1_n a1] H → va_S A s.heap H locs → lv_has ls 10 [(0, .ref t_q), (1, .ref a1_q), (2, .int p2), (3, .int p3)] → W p l e rmX8_goesTo s m args below meth c H locs 0 0 Q (F0 m 106 ls [.int s_6, .int r_1]) := by
          intro s_6 hf H locs ls hP hS hl
          rw [hj_7] at hf
          obtain ⟨r_8, hc_9, hf⟩ := ob1_e hf
          refine kS_i (wn := [oX8 t_q t_state_q t_roomMany t_doorMany t_stringLong t_laws_q t_lawMany t_readPage_q t_readLaws_q t_readRooms t_readDoors t_readString t_readLawMany t_toldOnce t_highRoom t_highDoor t_tape_q t_taped t_fault t_broken t_brokenAt t_spot t_here t_token t_value t_cuts_q t_letters_q t_work_q t_pages_q t_canBe_q t_leadsOn_q t_seen_q t_seenMany t_heard_q t_heardMany t_isKept_q t_lanes_q t_lengths_q t_cells_q t_torn, aI g a1_q a1_n a1]) (As := [.int r_1, .int s_6]) (rest := []) (c_X8_placeOf l g _ r_1 s_6 r_8 hc_9) ⟨hx, hb, hml, hown, hts⟩ (va_cwS 2 hts gX8_goesTo_X8_placeOf rfl rfl rfl (by decide +kernel) ⟨by decide, by decide⟩) hK hz hk hP (hD.re rfl) hS hA [] rfl rfl rfl rfl rfl hl.1 rfl (Nat.le_of_ble_eq_true rfl) dX8_goesTo_106 (fun H locs hP hS => ?_)
          refine lv_istore (lv' := [(8, .int r_8), (0, .ref t_q), (1, .ref a1_q), (2, .int p2), (3, .int p3)]) hx hb dX8_goesTo_109 hl (by decide) rfl (fun ls hl => ?_)
          refine lv_aload_n hx hb dX8_goesTo_111 rfl (lv_at hl 1 rfl) ?_
          refine lv_aload_n hx hb dX8_goesTo_112 rfl (lv_at hl 2 rfl) ?_
          refine lv_iload_n hx hb dX8_goesTo_113 rfl (lv_at hl 3 rfl) ?_
          refine lv_iload hx hb dX8_goesTo_114 (lv_at hl 0 rfl) ?_
          refine lv_iload_n hx hb dX8_goesTo_116 rfl (lv_at hl 4 rfl) ?_
          obtain ⟨r_10, hc_11, hf⟩ := ob1_e hf
          refine kV_i (wn := [oX8 t_q t_state_q t_roomMany t_doorMany t_stringLong t_laws_q t_lawMany t_readPage_q t_readLaws_q t_readRooms t_readDoors t_readString t_readLawMany t_toldOnce t_highRoom t_highDoor t_tape_q t_taped t_fault t_broken t_brokenAt t_spot t_here t_token t_value t_cuts_q t_letters_q t_work_q t_pages_q t_canBe_q t_leadsOn_q t_seen_q t_seenMany t_heard_q t_heardMany t_isKept_q t_lanes_q t_lengths_q t_cells_q t_torn, aI g a1_q a1_n a1]) (As := [.ref a1_q, .int p2, .int r_8, .int p3]) (rest := []) (c_X8_leadsTo l g _ t_q t_state_q t_laws_q t_readPage_q t_readLaws_q t_tape_q t_cuts_q t_letters_q t_work_q t_pages_q t_canBe_q t_leadsOn_q t_seen_q t_heard_q t_isKept_q t_lanes_q t_lengths_q t_cells_q a1_q t_roomMany t_doorMany t_stringLong t_lawMany t_readRooms t_readDoors t_readString t_readLawMany t_toldOnce t_highRoom t_highDoor t_taped t_fault t_broken t_brokenAt t_spot t_here t_token t_value t_seenMany t_heardMany t_torn a1_n a1 p2 r_8 p3 r_10 hc_11) ⟨hx, hb, hml, hown, hts⟩ (cwV 4 hts gX8_goesTo_X8_leadsTo rfl rfl rfl (by decide +kernel) ⟨by decide, by decide⟩) hK hz hk hP (hD.re rfl) hS hA [0, 1] rfl rfl rfl rfl rfl rfl rfl hl.1 rfl (Nat.le_of_ble_eq_true rfl) dX8_goesTo_117 (fun H locs hP hS => ?_)
          exact hret r_10 (Option.some.inj hf) _ _ _ _ hP hS dX8_goesTo_120
        refine lv_icmp_ne (tgt := 98) hx hb dX8_goesTo_91 (by decide) (fun c_12 => ?_) (fun c_12 => ?_)
        · have hf := ite_f hf c_12
          refine lv_iload hx hb dX8_goesTo_98 (lv_at hl 7 rfl) ?_
          refine lv_iload hx hb dX8_goesTo_100 (lv_at hl 0 rfl) ?_
          obtain ⟨r_13, hc_14, hf⟩ := ob1_e hf
          refine kS_i (wn := [oX8 t_q t_state_q t_roomMany t_doorMany t_stringLong t_laws_q t_lawMany t_readPage_q t_readLaws_q t_readRooms t_readDoors t_readString t_readLawMany t_toldOnce t_highRoom t_highDoor t_tape_q t_taped t_fault t_broken t_brokenAt t_spot t_here t_token t_value t_cuts_q t_letters_q t_work_q t_pages_q t_canBe_q t_leadsOn_q t_seen_q t_seenMany t_heard_q t_heardMany t_isKept_q t_lanes_q t_lengths_q t_cells_q t_torn, aI g a1_q a1_n a1]) (As := [.int r_1]) (rest := [.int p6, .int r_1]) (c_X8_bitsOf l g _ r_1 r_13 hc_14) ⟨hx, hb, hml, hown, hts⟩ (va_cwS 1 hts gX8_goesTo_X8_bitsOf rfl rfl rfl (by decide +kernel) ⟨by decide, by decide⟩) hK hz hk hP (hD.re rfl) hS hA [] rfl rfl rfl rfl rfl hl.1 rfl (Nat.le_of_ble_eq_true rfl) dX8_goesTo_102 (fun H locs hP hS => ?_)
          obtain ⟨z_15, hf⟩ := gnz_e hf
          refine lv_irem hx hb dX8_goesTo_105 z_15 ?_
          exact J_7 (p6 - p6 / r_13 * r_13) hf _ _ _ hP hS (lv_sub hl [1, 2, 3, 4] rfl)
        · have hf := ite_t hf c_12
          refine lv_iconst (v := (0 : Int32)) hx hb dX8_goesTo_94 (by decide) ?_
          refine lv_goto (tgt := 106) hx hb dX8_goesTo_95 (by decide) ?_
          exact J_7 (0 : Int32) hf _ _ _ hP hS (lv_sub hl [1, 2, 3, 4] rfl)
      · have hf := ite_t hf c_5
        refine lv_iconst (v := (0 : Int32)) hx hb dX8_goesTo_27 (by decide) ?_
        refine lv_istore (lv' := [(8, .int (0 : Int32)), (7, .int r_1), (0, .ref t_q), (1, .ref a1_q), (2, .int p2), (3, .int p3), (4, .int p4), (5, .int p5), (6, .int p6)]) hx hb dX8_goesTo_28 hl (by decide) rfl (fun ls hl => ?_)
        refine lv_iconst (v := (0 : Int32)) hx hb dX8_goesTo_30 (by decide) ?_
        refine lv_istore (lv' := [(9, .int (0 : Int32)), (8, .int (0 : Int32)), (7, .int r_1), (0, .ref t_q), (1, .ref a1_q), (2, .int p2), (3, .int p3), (4, .int p4), (5, .int p5), (6, .int p6)]) hx hb dX8_goesTo_31 hl (by decide) rfl (fun ls hl => ?_)
        obtain ⟨x8_28, x9_29, ho_18, hf⟩ := ob2_e hf
        have K_18 : ∀ (x8_28y : Int32) (x9_29y : Int32), x8_28 = x8_28y → x9_29 = x9_29y → ∀ (H : Heap) (locs : List Loc) (ls : Array Slot), va_P g.1 vwCl [oX8 t_q t_state_q t_roomMany t_doorMany t_stringLong t_laws_q t_lawMany t_readPage_q t_readLaws_q t_readRooms t_readDoors t_readString t_readLawMany t_toldOnce t_highRoom t_highDoor t_tape_q t_taped t_fault t_broken t_brokenAt t_spot t_here t_token t_value t_cuts_q t_letters_q t_work_q t_pages_q t_canBe_q t_leadsOn_q t_seen_q t_seenMany t_heard_q t_heardMany t_isKept_q t_lanes_q t_lengths_q t_cells_q t_torn, aI g a1_q a1_n a1] H → va_S A s.heap H locs → lv_has ls 10 [(3, .int p3), (4, .int p4), (8, .int x8_28y)] → W p l e rmX8_goesTo s m args below meth c H locs 0 0 Q (F0 m 74 ls []) := by
          intro x8_28y x9_29y ey0 ey1 H locs ls hP hS hl
          subst ey0
          subst ey1
          refine lv_iload hx hb dX8_goesTo_74 (lv_at hl 2 rfl) ?_
          refine lv_if_eq (tgt := 84) hx hb dX8_goesTo_76 (by decide) (fun c_30 => ?_) (fun c_30 => ?_)
          · have hf := ite_t hf c_30
            refine lv_iload_n hx hb dX8_goesTo_84 rfl (lv_at hl 0 rfl) ?_
            exact hret p3 (Option.some.inj hf) _ _ _ _ hP hS dX8_goesTo_85
          · have hf := ite_f hf c_30
            refine lv_iload hx hb dX8_goesTo_79 (lv_at hl 1 rfl) ?_
            refine lv_goto (tgt := 85) hx hb dX8_goesTo_81 (by decide) ?_
            exact hret p4 (Option.some.inj hf) _ _ _ _ hP hS dX8_goesTo_85
        have L_18 : ∀ (n : Nat) (v8_16 : Int32) (v9_17 : Int32), itr (un2 (b_X8_goesTo_33 t_doorMany a1_n a1 p2 p3 p4)) n (v8_16, v9_17) = some (x8_28, x9_29) → ∀ (H : Heap) (locs : List Loc) (ls : Array Slot), va_P g.1 vwCl [oX8 t_q t_state_q t_roomMany t_doorMany t_stringLong t_laws_q t_lawMany t_readPage_q t_readLaws_q t_readRooms t_readDoors t_readString t_readLawMany t_toldOnce t_highRoom t_highDoor t_tape_q t_taped t_fault t_broken t_brokenAt t_spot t_here t_token t_value t_cuts_q t_letters_q t_work_q t_pages_q t_canBe_q t_leadsOn_q t_seen_q t_seenMany t_heard_q t_heardMany t_isKept_q t_lanes_q t_lengths_q t_cells_q t_torn, aI g a1_q a1_n a1] H → va_S A s.heap H locs → lv_has ls 10 [(0, .ref t_q), (1, .ref a1_q), (2, .int p2), (3, .int p3), (4, .int p4), (8, .int v8_16), (9, .int v9_17)] → W p l e rmX8_goesTo s m args below meth c H locs 0 0 Q (F0 m 33 ls []) := by
          refine itr_ind2 ?_
          intro v8_16 v9_17 z_18 hf hrec hex H locs ls hP hS hl
          unfold b_X8_goesTo_33 at hf
          refine lv_iload hx hb dX8_goesTo_33 (lv_at hl 6 rfl) ?_
          refine lv_aload_n hx hb dX8_goesTo_35 rfl (lv_at hl 0 rfl) ?_
          refine va_get (D := g.1) (ci := 8) (v := .int t_doorMany) (C := RX8) (T := TX8) (N := 39) hx hb hts inX8 hown hK hP 0 rfl rfl 2 (by decide) k175 (fun _ h9 => h9) rfl dX8_goesTo_36 ?_
          refine lv_icmp_ge (tgt := 74) hx hb dX8_goesTo_39 (by decide) (fun c_19 => ?_) (fun c_19 => ?_)
          · have hf := ite_t hf c_19
            exact K_18 v8_16 v9_17 (congrArg (fun t => t.1) (hex _ (Option.some.inj hf).symm).symm) (congrArg (fun t => t.2) (hex _ (Option.some.inj hf).symm).symm) _ _ _ hP hS (lv_sub hl [3, 4, 5] rfl)
          · have hf := ite_f hf c_19
            refine lv_iload hx hb dX8_goesTo_42 (lv_at hl 5 rfl) ?_
            obtain ⟨j_21, hj_21, hf⟩ := jn1_e hf
            have J_21 : ∀ (s_20 : Int32), j_21 s_20 = some z_18 → ∀ (H : Heap) (locs : List Loc) (ls : Array Slot), va_P g.1 vwCl [oX8 t_q t_state_q t_roomMany t_doorMany t_stringLong t_laws_q t_lawMany t_readPage_q t_readLaws_q t_readRooms t_readDoors t_readString t_readLawMany t_toldOnce t_highRoom t_highDoor t_tape_q t_taped t_fault t_broken t_brokenAt t_spot t_here t_token t_value t_cuts_q t_letters_q t_work_q t_pages_q t_canBe_q t_leadsOn_q t_seen_q t_seenMany t_heard_q t_heardMany t_isKept_q t_lanes_q t_lengths_q t_cells_q t_torn, aI g a1_q a1_n a1] H → va_S A s.heap H locs → lv_has ls 10 [(0, .ref t_q), (1, .ref a1_q), (2, .int p2), (3, .int p3), (4, .int p4), (9, .int v9_17)] → W p l e rmX8_goesTo s m args below meth c H locs 0 0 Q (F0 m 66 ls [.int s_20]) := by
              intro s_20 hf H locs ls hP hS hl
              rw [hj_21] at hf
              refine lv_istore (lv' := [(8, .int s_20), (0, .ref t_q), (1, .ref a1_q), (2, .int p2), (3, .int p3), (4, .int p4), (9, .int v9_17)]) hx hb dX8_goesTo_66 hl (by decide) rfl (fun ls hl => ?_)
              obtain ⟨v9_22, ev9_22, hf⟩ := bnd_e hf
              refine lv_iinc (v := v9_22) (lv' := [(9, .int v9_22), (8, .int s_20), (0, .ref t_q), (1, .ref a1_q), (2, .int p2), (3, .int p3), (4, .int p4)]) hx hb dX8_goesTo_68 hl (k := 6) rfl (by rw [ev9_22]; rfl) (by decide) rfl (fun ls hl => ?_)
              refine lv_goto (tgt := 33) hx hb dX8_goesTo_71 (by decide) ?_
              exact hrec s_20 v9_22 (Option.some.inj hf).symm _ _ _ hP hS (lv_sub hl [2, 3, 4, 5, 6, 1, 0] rfl)
            obtain ⟨j_23, hj_23, hf⟩ := jn0_e hf
            have J_23 : j_23 = some z_18 → ∀ (H : Heap) (locs : List Loc) (ls : Array Slot), va_P g.1 vwCl [oX8 t_q t_state_q t_roomMany t_doorMany t_stringLong t_laws_q t_lawMany t_readPage_q t_readLaws_q t_readRooms t_readDoors t_readString t_readLawMany t_toldOnce t_highRoom t_highDoor t_tape_q t_taped t_fault t_broken t_brokenAt t_spot t_here t_token t_value t_cuts_q t_letters_q t_work_q t_pages_q t_canBe_q t_leadsOn_q t_seen_q t_seenMany t_heard_q t_heardMany t_isKept_q t_lanes_q t_lengths_q t_cells_q t_torn, aI g a1_q a1_n a1] H → va_S A s.heap H locs → lv_has ls 10 [(0, .ref t_q), (1, .ref a1_q), (2, .int p2), (3, .int p3), (4, .int p4), (9, .int v9_17)] → W p l e rmX8_goesTo s m args below meth c H locs 0 0 Q (F0 m 61 ls []) := by
              intro hf H locs ls hP hS hl
              rw [hj_23] at hf
              refine lv_iconst (v := (1 : Int32)) hx hb dX8_goesTo_61 (by decide) ?_
              refine lv_goto (tgt := 66) hx hb dX8_goesTo_62 (by decide) ?_
              exact J_21 (1 : Int32) hf _ _ _ hP hS (lv_sub hl [0, 1, 2, 3, 4, 5] rfl)
            refine lv_if_ne (tgt := 61) hx hb dX8_goesTo_44 (by decide) (fun c_24 => ?_) (fun c_24 => ?_)
            · have hf := ite_f hf c_24
              exact J_23 hf _ _ _ hP hS (lv_sub hl [0, 1, 2, 3, 4, 6] rfl)
            · have hf := ite_t hf c_24
              refine lv_aload_n hx hb dX8_goesTo_47 rfl (lv_at hl 0 rfl) ?_
              refine lv_aload_n hx hb dX8_goesTo_48 rfl (lv_at hl 1 rfl) ?_
              refine lv_iload_n hx hb dX8_goesTo_49 rfl (lv_at hl 2 rfl) ?_
              refine lv_iload hx hb dX8_goesTo_50 (lv_at hl 6 rfl) ?_
              refine lv_iload_n hx hb dX8_goesTo_52 rfl (lv_at hl 3 rfl) ?_
              obtain ⟨r_25, hc_26, hf⟩ := ob1_e hf
              refine kV_i (wn := [oX8 t_q t_state_q t_roomMany t_doorMany t_stringLong t_laws_q t_lawMany t_readPage_q t_readLaws_q t_readRooms t_readDoors t_readString t_readLawMany t_toldOnce t_highRoom t_highDoor t_tape_q t_taped t_fault t_broken t_brokenAt t_spot t_here t_token t_value t_cuts_q t_letters_q t_work_q t_pages_q t_canBe_q t_leadsOn_q t_seen_q t_seenMany t_heard_q t_heardMany t_isKept_q t_lanes_q t_lengths_q t_cells_q t_torn, aI g a1_q a1_n a1]) (As := [.ref a1_q, .int p2, .int v9_17, .int p3]) (rest := []) (c_X8_leadsTo l g _ t_q t_state_q t_laws_q t_readPage_q t_readLaws_q t_tape_q t_cuts_q t_letters_q t_work_q t_pages_q t_canBe_q t_leadsOn_q t_seen_q t_heard_q t_isKept_q t_lanes_q t_lengths_q t_cells_q a1_q t_roomMany t_doorMany t_stringLong t_lawMany t_readRooms t_readDoors t_readString t_readLawMany t_toldOnce t_highRoom t_highDoor t_taped t_fault t_broken t_brokenAt t_spot t_here t_token t_value t_seenMany t_heardMany t_torn a1_n a1 p2 v9_17 p3 r_25 hc_26) ⟨hx, hb, hml, hown, hts⟩ (cwV 4 hts gX8_goesTo_X8_leadsTo rfl rfl rfl (by decide +kernel) ⟨by decide, by decide⟩) hK hz hk hP (hD.re rfl) hS hA [0, 1] rfl rfl rfl rfl rfl rfl rfl hl.1 rfl (Nat.le_of_ble_eq_true rfl) dX8_goesTo_53 (fun H locs hP hS => ?_)
              refine lv_iload hx hb dX8_goesTo_56 (lv_at hl 4 rfl) ?_
              refine lv_icmp_ne (tgt := 65) hx hb dX8_goesTo_58 (by decide) (fun c_27 => ?_) (fun c_27 => ?_)
              · have hf := ite_f hf c_27
                refine lv_iconst (v := (0 : Int32)) hx hb dX8_goesTo_65 (by decide) ?_
                exact J_21 (0 : Int32) hf _ _ _ hP hS (lv_sub hl [0, 1, 2, 3, 4, 6] rfl)
              · have hf := ite_t hf c_27
                exact J_23 hf _ _ _ hP hS (lv_sub hl [0, 1, 2, 3, 4, 6] rfl)
        exact L_18 FU (0 : Int32) (0 : Int32) ho_18 _ _ _ hP hS (lv_sub hl [3, 4, 5, 6, 7, 1, 0] rfl)
    · have hf := ite_t hf c_4
      refine lv_iload_n hx hb dX8_goesTo_19 rfl (lv_at hl 4 rfl) ?_
      exact hret p3 (Option.some.inj hf) _ _ _ _ hP hS dX8_goesTo_20
