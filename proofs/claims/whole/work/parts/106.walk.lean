def b_X4_stepOf_14 (t_parents : Nat → Int32) (p3 : Int32) (v4_2 : Int32) (v5_3 : Int32) : Option ((Int32 × Int32) ⊕ (Int32 × Int32)) :=
 (if v5_3 ≤ (p3 + (1 : Int32)) then
 (some (.inr (v4_2, v5_3)))
 else (gin ((v5_3 * (56 : Int32)) + v4_2) 1400 (bnd (t_parents ((v5_3 * (56 : Int32)) + v4_2).toNatClampNeg) (fun v4_7 =>
 (bnd (v5_3 + (-1 : Int32)) (fun v5_8 =>
 (some (.inl (v4_7, v5_8)))))))))
def f_X4_stepOf (t_parents : Nat → Int32) (t_steps : Nat → Int32) (p1 : Int32) (p2 : Int32) (p3 : Int32) : Option (Int32) :=
 (if p3 < p1 then
 (ob2 (itr (un2 (b_X4_stepOf_14 t_parents p3)) FU (p2, p1)) (fun x4_9 x5_10 =>
 (gin (((p3 + (1 : Int32)) * (56 : Int32)) + x4_9) 1400 (some (t_steps (((p3 + (1 : Int32)) * (56 : Int32)) + x4_9).toNatClampNeg)))))
 else (some (-4 : Int32)))
abbrev rmX4_stepOf : Room := { frames := 0, cells := 0, slots := 0, locals := 0 }
set_option maxHeartbeats 4000000 in
set_option maxRecDepth 100000 in
theorem c_X4_stepOf (l : Launch) (g : Gh) (sz : Nat) (t_q t_pairs_q t_parents_q t_steps_q t_sizes_q t_prowls_q : Nat) (t_met : Int64) (t_parents : Nat → Int32) (t_steps : Nat → Int32) (p1 : Int32) (p2 : Int32) (p3 : Int32) (rr : Int32) (hf : f_X4_stepOf t_parents t_steps p1 p2 p3 = some rr) : CI l yX4_stepOf wsX4_stepOf rmX4_stepOf [.ref t_q, .int p1, .int p2, .int p3] g sz [oX4 t_q t_pairs_q t_parents_q t_steps_q t_sizes_q t_prowls_q t_met, aI g t_parents_q 1400 t_parents, aI g t_steps_q 1400 t_steps] [oX4 t_q t_pairs_q t_parents_q t_steps_q t_sizes_q t_prowls_q t_met, aI g t_parents_q 1400 t_parents, aI g t_steps_q 1400 t_steps] rr := by
  refine ent_i (cc := cX4_stepOf) (maxL := 6) (by decide) rfl (Nat.le_of_ble_eq_true rfl) ?_
  intro p e s m args below meth c A Q hx hb hml hown hts hK hz hk hA hD hP hS hret ls hl
  have hown : s.vm.findClass RX4 = some m.cls := hown
  have inX4 : ∀ w ∈ u_ws RX4 TX4 6, w ∈ wsX4_stepOf := by decide +kernel
  have k15 := hts (.fieldLink RX4 15 "ThreadMoved$Search" "parents" "[I") (by decide +kernel)
  have k18 := hts (.fieldLink RX4 18 "ThreadMoved$Search" "steps" "[I") (by decide +kernel)
  have hl : lv_has ls 6 [(0, .ref t_q), (1, .int p1), (2, .int p2), (3, .int p3)] := hl
  have hret : ∀ (rrz : Int32), rrz = rr → ∀ (H : Heap) (locs : List Loc) (pc : Nat) (ls : Array Slot), va_P g.1 vwCl [oX4 t_q t_pairs_q t_parents_q t_steps_q t_sizes_q t_prowls_q t_met, aI g t_parents_q 1400 t_parents, aI g t_steps_q 1400 t_steps] H → va_S A s.heap H locs → decode cX4_stepOf pc = .ok (.ireturn, 1) → W p l e rmX4_stepOf s m args below meth c H locs 0 0 Q (F0 m pc ls [.int rrz]) := by
    intro rrz he H locs pc ls hP hS hd
    cases he
    exact hret H locs pc ls hP hS hd
  unfold f_X4_stepOf at hf
  refine lv_iload_n hx hb dX4_stepOf_0 rfl (lv_at hl 3 rfl) ?_
  refine lv_iload_n hx hb dX4_stepOf_1 rfl (lv_at hl 1 rfl) ?_
  refine lv_icmp_lt (tgt := 8) hx hb dX4_stepOf_2 (by decide) (fun c_1 => ?_) (fun c_1 => ?_)
  · have hf := ite_t hf c_1
    refine lv_iload_n hx hb dX4_stepOf_8 rfl (lv_at hl 2 rfl) ?_
    refine lv_istore (lv' := [(4, .int p2), (0, .ref t_q), (1, .int p1), (2, .int p2), (3, .int p3)]) hx hb dX4_stepOf_9 hl (by decide) rfl (fun ls hl => ?_)
    refine lv_iload_n hx hb dX4_stepOf_11 rfl (lv_at hl 2 rfl) ?_
    refine lv_istore (lv' := [(5, .int p1), (4, .int p2), (0, .ref t_q), (1, .int p1), (2, .int p2), (3, .int p3)]) hx hb dX4_stepOf_12 hl (by decide) rfl (fun ls hl => ?_)
    obtain ⟨x4_9, x5_10, ho_4, hf⟩ := ob2_e hf
    have K_4 : ∀ (x4_9y : Int32) (x5_10y : Int32), x4_9 = x4_9y → x5_10 = x5_10y → ∀ (H : Heap) (locs : List Loc) (ls : Array Slot), va_P g.1 vwCl [oX4 t_q t_pairs_q t_parents_q t_steps_q t_sizes_q t_prowls_q t_met, aI g t_parents_q 1400 t_parents, aI g t_steps_q 1400 t_steps] H → va_S A s.heap H locs → lv_has ls 6 [(0, .ref t_q), (3, .int p3), (4, .int x4_9y)] → W p l e rmX4_stepOf s m args below meth c H locs 0 0 Q (F0 m 43 ls []) := by
      intro x4_9y x5_10y ey0 ey1 H locs ls hP hS hl
      subst ey0
      subst ey1
      refine lv_aload_n hx hb dX4_stepOf_43 rfl (lv_at hl 0 rfl) ?_
      refine va_get (D := g.1) (ci := 4) (v := .ref t_steps_q) (C := RX4) (T := TX4) (N := 6) hx hb hts inX4 hown hK hP 0 rfl rfl 2 (by decide) k18 (fun _ h9 => h9) rfl dX4_stepOf_44 ?_
      refine lv_iload_n hx hb dX4_stepOf_47 rfl (lv_at hl 1 rfl) ?_
      refine lv_iconst (v := (1 : Int32)) hx hb dX4_stepOf_48 (by decide) ?_
      refine lv_iadd hx hb dX4_stepOf_49 ?_
      refine lv_bipush (v := (56 : Int32)) hx hb dX4_stepOf_50 (by decide) ?_
      refine lv_imul hx hb dX4_stepOf_52 ?_
      refine lv_iload hx hb dX4_stepOf_53 (lv_at hl 2 rfl) ?_
      refine lv_iadd hx hb dX4_stepOf_55 ?_
      obtain ⟨h_11, hf⟩ := gin_e hf
      refine va_iald hx hb hK hP 2 0 rfl rfl h_11 dX4_stepOf_56 ?_
      exact hret (t_steps (((p3 + (1 : Int32)) * (56 : Int32)) + x4_9).toNatClampNeg) (Option.some.inj hf) _ _ _ _ hP hS dX4_stepOf_57
    have L_4 : ∀ (n : Nat) (v4_2 : Int32) (v5_3 : Int32), itr (un2 (b_X4_stepOf_14 t_parents p3)) n (v4_2, v5_3) = some (x4_9, x5_10) → ∀ (H : Heap) (locs : List Loc) (ls : Array Slot), va_P g.1 vwCl [oX4 t_q t_pairs_q t_parents_q t_steps_q t_sizes_q t_prowls_q t_met, aI g t_parents_q 1400 t_parents, aI g t_steps_q 1400 t_steps] H → va_S A s.heap H locs → lv_has ls 6 [(0, .ref t_q), (3, .int p3), (4, .int v4_2), (5, .int v5_3)] → W p l e rmX4_stepOf s m args below meth c H locs 0 0 Q (F0 m 14 ls []) := by
      refine itr_ind2 ?_
      intro v4_2 v5_3 z_4 hf hrec hex H locs ls hP hS hl
      unfold b_X4_stepOf_14 at hf
      refine lv_iload hx hb dX4_stepOf_14 (lv_at hl 3 rfl) ?_
      refine lv_iload_n hx hb dX4_stepOf_16 rfl (lv_at hl 1 rfl) ?_
      refine lv_iconst (v := (1 : Int32)) hx hb dX4_stepOf_17 (by decide) ?_
      refine lv_iadd hx hb dX4_stepOf_18 ?_
      refine lv_icmp_le (tgt := 43) hx hb dX4_stepOf_19 (by decide) (fun c_5 => ?_) (fun c_5 => ?_)
      · have hf := ite_t hf c_5
        exact K_4 v4_2 v5_3 (congrArg (fun t => t.1) (hex _ (Option.some.inj hf).symm).symm) (congrArg (fun t => t.2) (hex _ (Option.some.inj hf).symm).symm) _ _ _ hP hS (lv_sub hl [0, 1, 2] rfl)
      · have hf := ite_f hf c_5
        refine lv_aload_n hx hb dX4_stepOf_22 rfl (lv_at hl 0 rfl) ?_
        refine va_get (D := g.1) (ci := 4) (v := .ref t_parents_q) (C := RX4) (T := TX4) (N := 6) hx hb hts inX4 hown hK hP 0 rfl rfl 1 (by decide) k15 (fun _ h9 => h9) rfl dX4_stepOf_23 ?_
        refine lv_iload hx hb dX4_stepOf_26 (lv_at hl 3 rfl) ?_
        refine lv_bipush (v := (56 : Int32)) hx hb dX4_stepOf_28 (by decide) ?_
        refine lv_imul hx hb dX4_stepOf_30 ?_
        refine lv_iload hx hb dX4_stepOf_31 (lv_at hl 2 rfl) ?_
        refine lv_iadd hx hb dX4_stepOf_33 ?_
        obtain ⟨h_6, hf⟩ := gin_e hf
        refine va_iald hx hb hK hP 1 0 rfl rfl h_6 dX4_stepOf_34 ?_
        obtain ⟨v4_7, ev4_7, hf⟩ := bnd_e hf
        refine tp_i ev4_7 ?_
        refine lv_istore (lv' := [(4, .int v4_7), (0, .ref t_q), (3, .int p3), (5, .int v5_3)]) hx hb dX4_stepOf_35 hl (by decide) rfl (fun ls hl => ?_)
        obtain ⟨v5_8, ev5_8, hf⟩ := bnd_e hf
        refine lv_iinc (v := v5_8) (lv' := [(5, .int v5_8), (4, .int v4_7), (0, .ref t_q), (3, .int p3)]) hx hb dX4_stepOf_37 hl (k := 3) rfl (by rw [ev5_8]; rfl) (by decide) rfl (fun ls hl => ?_)
        refine lv_goto (tgt := 14) hx hb dX4_stepOf_40 (by decide) ?_
        exact hrec v4_7 v5_8 (Option.some.inj hf).symm _ _ _ hP hS (lv_sub hl [2, 3, 1, 0] rfl)
    exact L_4 FU p2 p1 ho_4 _ _ _ hP hS (lv_sub hl [2, 5, 1, 0] rfl)
  · have hf := ite_f hf c_1
    refine lv_bipush (v := (-4 : Int32)) hx hb dX4_stepOf_5 (by decide) ?_
    exact hret (-4 : Int32) (Option.some.inj hf) _ _ _ _ hP hS dX4_stepOf_7

def b_X1_foresee_21 (a1_plan_doorCount : Int32) (a1_plan_firstEnds : Nat → Int32) (v2_1 : Int32) (a1_barred_2 : Int32) (a1_secondEnds_4 : Nat → Int32) (v3_8 : Int32) (t_ends_9 : Nat → Int32) : Option ((Int32 × (Nat → Int32)) ⊕ (Int32 × (Nat → Int32))) :=
 (if a1_plan_doorCount ≤ v3_8 then
 (some (.inr (v3_8, t_ends_9)))
 else (gin v3_8 10 (gin v3_8 10 (bnd (((1 : Int32) <<< ((a1_plan_firstEnds v3_8.toNatClampNeg) &&& 31)) ||| ((1 : Int32) <<< ((a1_secondEnds_4 v3_8.toNatClampNeg) &&& 31))) (fun v4_14 =>
 (ob1 (f_X6_isBarred a1_barred_2 v3_8) (fun r_15 =>
 (jn1 (fun (s_17 : Int32) => (gin ((v2_1 * (10 : Int32)) + v3_8) 240 (bnd (upd t_ends_9 ((v2_1 * (10 : Int32)) + v3_8).toNatClampNeg s_17) (fun t_ends_20 =>
 (bnd (v3_8 + (1 : Int32)) (fun v3_21 =>
 (some (.inl (v3_21, t_ends_20))))))))) (fun j_18 =>
 (if r_15 = (0 : Int32) then
 (j_18 v4_14)
 else (j_18 (0 : Int32))))))))))))
def b_X1_foresee_13 (a1_period : Int32) (a1_plan_rooms : Int32) (a1_plan_doorCount : Int32) (a1_plan_ruleCount : Int32) (a1_plan_firstEnds : Nat → Int32) (a1_plan_rules : Nat → Int32) (v2_1 : Int32) (a1_barred_2 : Int32) (a1_step_3 : Int32) (a1_secondEnds_4 : Nat → Int32) (t_ends_5 : Nat → Int32) : Option ((Int32 × Int32 × Int32 × (Nat → Int32) × (Nat → Int32)) ⊕ (Int32 × Int32 × Int32 × (Nat → Int32) × (Nat → Int32))) :=
 (if (24 : Int32) ≤ v2_1 then
 (some (.inr (v2_1, a1_barred_2, a1_step_3, a1_secondEnds_4, t_ends_5)))
 else (ob2 (itr (un2 (b_X1_foresee_21 a1_plan_doorCount a1_plan_firstEnds v2_1 a1_barred_2 a1_secondEnds_4)) FU ((0 : Int32), t_ends_5)) (fun x3_23 t_ends_24 =>
 (ob3 (f_X6_passTime a1_barred_2 a1_period a1_step_3 a1_plan_rooms a1_plan_ruleCount a1_plan_rules a1_secondEnds_4) (fun t_barred_25 t_step_26 t_secondEnds_27 =>
 (bnd (v2_1 + (1 : Int32)) (fun v2_29 =>
 (some (.inl (v2_29, t_barred_25, t_step_26, t_secondEnds_27, t_ends_24))))))))))
def f_X1_foresee (a1_barred : Int32) (a1_period : Int32) (a1_step : Int32) (a1_plan_rooms : Int32) (a1_plan_doorCount : Int32) (a1_plan_ruleCount : Int32) (a1_plan_firstEnds : Nat → Int32) (a1_plan_rules : Nat → Int32) (a1_secondEnds : Nat → Int32) (t_ends : Nat → Int32) : Option (Int32 × Int32 × (Nat → Int32) × Int32 × (Nat → Int32)) :=
 (ob5 (itr (un5 (b_X1_foresee_13 a1_period a1_plan_rooms a1_plan_doorCount a1_plan_ruleCount a1_plan_firstEnds a1_plan_rules)) FU ((0 : Int32), a1_barred, a1_step, a1_secondEnds, t_ends)) (fun x2_30 a1_barred_31 a1_step_32 a1_secondEnds_33 t_ends_34 =>
 (some (a1_barred_31, a1_step_32, a1_secondEnds_33, a1_plan_doorCount, t_ends_34))))
abbrev rmX1_foresee : Room := { frames := 4, cells := 0, slots := 0, locals := 86 }
set_option maxHeartbeats 4000000 in
set_option maxRecDepth 100000 in
theorem c_X1_foresee (l : Launch) (g : Gh) (sz : Nat) (t_q t_ends_q a1_q a1_plan_q a1_secondEnds_q a1_string_q a1_plan_firstEnds_q a1_plan_rules_q : Nat) (t_doorCount : Int32) (a1_barred : Int32) (a1_period : Int32) (a1_his : Int32) (a1_beast : Int32) (a1_habit : Int32) (a1_onString : Int32) (a1_step : Int32) (a1_eaten : Int32) (a1_plan_rooms : Int32) (a1_plan_doorCount : Int32) (a1_plan_ruleCount : Int32) (a1_plan_stringLength : Int32) (a1_plan_firstEnds : Nat → Int32) (a1_plan_rules : Nat → Int32) (a1_secondEnds : Nat → Int32) (t_ends : Nat → Int32) (a1_barred' : Int32) (a1_step' : Int32) (a1_secondEnds' : Nat → Int32) (t_doorCount' : Int32) (t_ends' : Nat → Int32) (hf : f_X1_foresee a1_barred a1_period a1_step a1_plan_rooms a1_plan_doorCount a1_plan_ruleCount a1_plan_firstEnds a1_plan_rules a1_secondEnds t_ends = some (a1_barred', a1_step', a1_secondEnds', t_doorCount', t_ends')) : CV l yX1_foresee wsX1_foresee rmX1_foresee [.ref t_q, .ref a1_q] g sz [oX1 t_q t_ends_q t_doorCount, oX6 a1_q a1_plan_q a1_secondEnds_q a1_string_q a1_barred a1_period a1_his a1_beast a1_habit a1_onString a1_step a1_eaten, oX2 a1_plan_q a1_plan_firstEnds_q a1_plan_rules_q a1_plan_rooms a1_plan_doorCount a1_plan_ruleCount a1_plan_stringLength, aI g a1_plan_firstEnds_q 10 a1_plan_firstEnds, aI g a1_plan_rules_q 6 a1_plan_rules, aI g a1_secondEnds_q 10 a1_secondEnds, aI g t_ends_q 240 t_ends] [oX1 t_q t_ends_q t_doorCount', oX6 a1_q a1_plan_q a1_secondEnds_q a1_string_q a1_barred' a1_period a1_his a1_beast a1_habit a1_onString a1_step' a1_eaten, oX2 a1_plan_q a1_plan_firstEnds_q a1_plan_rules_q a1_plan_rooms a1_plan_doorCount a1_plan_ruleCount a1_plan_stringLength, aI g a1_plan_firstEnds_q 10 a1_plan_firstEnds, aI g a1_plan_rules_q 6 a1_plan_rules, aI g a1_secondEnds_q 10 a1_secondEnds', aI g t_ends_q 240 t_ends'] := by
  refine ent_v (cc := cX1_foresee) (maxL := 5) (by decide) rfl (Nat.le_of_ble_eq_true rfl) ?_
  intro p e s m args below meth c A Q hx hb hml hown hts hK hz hk hA hD hP hS hret ls hl
  have hown : s.vm.findClass RX1 = some m.cls := hown
  have inX1 : ∀ w ∈ u_ws RX1 TX1 2, w ∈ wsX1_foresee := by decide +kernel
  have inX2 : ∀ w ∈ u_ws RX2 TX2 6, w ∈ wsX1_foresee := by decide +kernel
  have inX6 : ∀ w ∈ u_ws RX6 TX6 11, w ∈ wsX1_foresee := by decide +kernel
  have k9 := hts (.fieldLink RX1 9 "ThreadMoved$Passages" "ends" "[I") (by decide +kernel)
  have k15 := hts (.fieldLink RX1 15 "ThreadMoved$State" "plan" "LThreadMoved$Plan;") (by decide +kernel)
  have k21 := hts (.fieldLink RX1 21 "ThreadMoved$Plan" "doorCount" "I") (by decide +kernel)
  have k27 := hts (.fieldLink RX1 27 "ThreadMoved$Passages" "doorCount" "I") (by decide +kernel)
  have k28 := hts (.fieldLink RX1 28 "ThreadMoved$Plan" "firstEnds" "[I") (by decide +kernel)
  have k31 := hts (.fieldLink RX1 31 "ThreadMoved$State" "secondEnds" "[I") (by decide +kernel)
  have hl : lv_has ls 5 [(0, .ref t_q), (1, .ref a1_q)] := hl
  have hret : ∀ (a1_barredz : Int32) (a1_stepz : Int32) (a1_secondEndsz : Nat → Int32) (t_doorCountz : Int32) (t_endsz : Nat → Int32), (a1_barredz, a1_stepz, a1_secondEndsz, t_doorCountz, t_endsz) = (a1_barred', a1_step', a1_secondEnds', t_doorCount', t_ends') → ∀ (H : Heap) (locs : List Loc) (pc : Nat) (ls : Array Slot), va_P g.1 vwCl [oX1 t_q t_ends_q t_doorCountz, oX6 a1_q a1_plan_q a1_secondEnds_q a1_string_q a1_barredz a1_period a1_his a1_beast a1_habit a1_onString a1_stepz a1_eaten, oX2 a1_plan_q a1_plan_firstEnds_q a1_plan_rules_q a1_plan_rooms a1_plan_doorCount a1_plan_ruleCount a1_plan_stringLength, aI g a1_plan_firstEnds_q 10 a1_plan_firstEnds, aI g a1_plan_rules_q 6 a1_plan_rules, aI g a1_secondEnds_q 10 a1_secondEndsz, aI g t_ends_q 240 t_endsz] H → va_S A s.heap H locs → decode cX1_foresee pc = .ok (.return_, 1) → W p l e rmX1_foresee s m args below meth c H locs 0 0 Q (F0 m pc ls []) := by
    intro a1_barredz a1_stepz a1_secondEndsz t_doorCountz t_endsz he H locs pc ls hP hS hd
    cases he
    exact hret H locs pc ls hP hS hd
  unfold f_X1_foresee at hf
  refine lv_aload_n hx hb dX1_foresee_0 rfl (lv_at hl 0 rfl) ?_
  refine lv_aload_n hx hb dX1_foresee_1 rfl (lv_at hl 1 rfl) ?_
  refine va_get (D := g.1) (ci := 6) (v := .ref a1_plan_q) (C := RX6) (T := TX6) (N := 11) hx hb hts inX6 hown hK hP 1 rfl rfl 0 (by decide) k15 (fun _ h9 => h9) rfl dX1_foresee_2 ?_
  refine va_get (D := g.1) (ci := 2) (v := .int a1_plan_doorCount) (C := RX2) (T := TX2) (N := 6) hx hb hts inX2 hown hK hP 2 rfl rfl 3 (by decide) k21 (fun _ h9 => h9) rfl dX1_foresee_5 ?_
  refine va_put (D := g.1) (ci := 1) (v := .int a1_plan_doorCount) (ty := .int) (C := RX1) (T := TX1) (N := 2) hx hb hts inX1 tyX1 tyX1_ok nmX1 hown hK hP (hD.re rfl) hS 0 rfl rfl 1 (by decide) k27 (fun _ h9 => h9) rfl (by decide +kernel) rfl rfl (Nat.le_of_ble_eq_true rfl) dX1_foresee_8 (fun H locs hP _ hS => ?_)
  have hP : va_P g.1 vwCl [oX1 t_q t_ends_q a1_plan_doorCount, oX6 a1_q a1_plan_q a1_secondEnds_q a1_string_q a1_barred a1_period a1_his a1_beast a1_habit a1_onString a1_step a1_eaten, oX2 a1_plan_q a1_plan_firstEnds_q a1_plan_rules_q a1_plan_rooms a1_plan_doorCount a1_plan_ruleCount a1_plan_stringLength, aI g a1_plan_firstEnds_q 10 a1_plan_firstEnds, aI g a1_plan_rules_q 6 a1_plan_rules, aI g a1_secondEnds_q 10 a1_secondEnds, aI g t_ends_q 240 t_ends] H := hP
  refine lv_iconst (v := (0 : Int32)) hx hb dX1_foresee_11 (by decide) ?_
  refine lv_istore_n (lv' := [(2, .int (0 : Int32)), (0, .ref t_q), (1, .ref a1_q)]) hx hb dX1_foresee_12 rfl hl (by decide) rfl (fun ls hl => ?_)
  obtain ⟨x2_30, a1_barred_31, a1_step_32, a1_secondEnds_33, t_ends_34, ho_6, hf⟩ := ob5_e hf
  have K_6 : ∀ (x2_30y : Int32) (a1_barred_31y : Int32) (a1_step_32y : Int32) (a1_secondEnds_33y : Nat → Int32) (t_ends_34y : Nat → Int32), x2_30 = x2_30y → a1_barred_31 = a1_barred_31y → a1_step_32 = a1_step_32y → a1_secondEnds_33 = a1_secondEnds_33y → t_ends_34 = t_ends_34y → ∀ (H : Heap) (locs : List Loc) (ls : Array Slot), va_P g.1 vwCl [oX1 t_q t_ends_q a1_plan_doorCount, oX6 a1_q a1_plan_q a1_secondEnds_q a1_string_q a1_barred_31y a1_period a1_his a1_beast a1_habit a1_onString a1_step_32y a1_eaten, oX2 a1_plan_q a1_plan_firstEnds_q a1_plan_rules_q a1_plan_rooms a1_plan_doorCount a1_plan_ruleCount a1_plan_stringLength, aI g a1_plan_firstEnds_q 10 a1_plan_firstEnds, aI g a1_plan_rules_q 6 a1_plan_rules, aI g a1_secondEnds_q 10 a1_secondEnds_33y, aI g t_ends_q 240 t_ends_34y] H → va_S A s.heap H locs → lv_has ls 5 [] → W p l e rmX1_foresee s m args below meth c H locs 0 0 Q (F0 m 92 ls []) := by
    intro x2_30y a1_barred_31y a1_step_32y a1_secondEnds_33y t_ends_34y ey0 ey1 ey2 ey3 ey4 H locs ls hP hS hl
    subst ey0
    subst ey1
    subst ey2
    subst ey3
    subst ey4
    exact hret a1_barred_31 a1_step_32 a1_secondEnds_33 a1_plan_doorCount t_ends_34 (Option.some.inj hf) _ _ _ _ hP hS dX1_foresee_92
  have L_6 : ∀ (n : Nat) (v2_1 : Int32) (a1_barred_2 : Int32) (a1_step_3 : Int32) (a1_secondEnds_4 : Nat → Int32) (t_ends_5 : Nat → Int32), itr (un5 (b_X1_foresee_13 a1_period a1_plan_rooms a1_plan_doorCount a1_plan_ruleCount a1_plan_firstEnds a1_plan_rules)) n (v2_1, a1_barred_2, a1_step_3, a1_secondEnds_4, t_ends_5) = some (x2_30, a1_barred_31, a1_step_32, a1_secondEnds_33, t_ends_34) → ∀ (H : Heap) (locs : List Loc) (ls : Array Slot), va_P g.1 vwCl [oX1 t_q t_ends_q a1_plan_doorCount, oX6 a1_q a1_plan_q a1_secondEnds_q a1_string_q a1_barred_2 a1_period a1_his a1_beast a1_habit a1_onString a1_step_3 a1_eaten, oX2 a1_plan_q a1_plan_firstEnds_q a1_plan_rules_q a1_plan_rooms a1_plan_doorCount a1_plan_ruleCount a1_plan_stringLength, aI g a1_plan_firstEnds_q 10 a1_plan_firstEnds, aI g a1_plan_rules_q 6 a1_plan_rules, aI g a1_secondEnds_q 10 a1_secondEnds_4, aI g t_ends_q 240 t_ends_5] H → va_S A s.heap H locs → lv_has ls 5 [(0, .ref t_q), (1, .ref a1_q), (2, .int v2_1)] → W p l e rmX1_foresee s m args below meth c H locs 0 0 Q (F0 m 13 ls []) := by
    refine itr_ind5 ?_
    intro v2_1 a1_barred_2 a1_step_3 a1_secondEnds_4 t_ends_5 z_6 hf hrec hex H locs ls hP hS hl
    unfold b_X1_foresee_13 at hf
    refine lv_iload_n hx hb dX1_foresee_13 rfl (lv_at hl 2 rfl) ?_
    refine lv_bipush (v := (24 : Int32)) hx hb dX1_foresee_14 (by decide) ?_
    refine lv_icmp_ge (tgt := 92) hx hb dX1_foresee_16 (by decide) (fun c_7 => ?_) (fun c_7 => ?_)
    · have hf := ite_t hf c_7
      exact K_6 v2_1 a1_barred_2 a1_step_3 a1_secondEnds_4 t_ends_5 (congrArg (fun t => t.1) (hex _ (Option.some.inj hf).symm).symm) (congrArg (fun t => t.2.1) (hex _ (Option.some.inj hf).symm).symm) (congrArg (fun t => t.2.2.1) (hex _ (Option.some.inj hf).symm).symm) (congrArg (fun t => t.2.2.2.1) (hex _ (Option.some.inj hf).symm).symm) (congrArg (fun t => t.2.2.2.2) (hex _ (Option.some.inj hf).symm).symm) _ _ _ hP hS (lv_sub hl [] rfl)
    · have hf := ite_f hf c_7
      refine lv_iconst (v := (0 : Int32)) hx hb dX1_foresee_19 (by decide) ?_
      refine lv_istore_n (lv' := [(3, .int (0 : Int32)), (0, .ref t_q), (1, .ref a1_q), (2, .int v2_1)]) hx hb dX1_foresee_20 rfl hl (by decide) rfl (fun ls hl => ?_)
      obtain ⟨x3_23, t_ends_24, ho_10, hf⟩ := ob2_e hf
      have K_10 : ∀ (x3_23y : Int32) (t_ends_24y : Nat → Int32), x3_23 = x3_23y → t_ends_24 = t_ends_24y → ∀ (H : Heap) (locs : List Loc) (ls : Array Slot), va_P g.1 vwCl [oX1 t_q t_ends_q a1_plan_doorCount, oX6 a1_q a1_plan_q a1_secondEnds_q a1_string_q a1_barred_2 a1_period a1_his a1_beast a1_habit a1_onString a1_step_3 a1_eaten, oX2 a1_plan_q a1_plan_firstEnds_q a1_plan_rules_q a1_plan_rooms a1_plan_doorCount a1_plan_ruleCount a1_plan_stringLength, aI g a1_plan_firstEnds_q 10 a1_plan_firstEnds, aI g a1_plan_rules_q 6 a1_plan_rules, aI g a1_secondEnds_q 10 a1_secondEnds_4, aI g t_ends_q 240 t_ends_24y] H → va_S A s.heap H locs → lv_has ls 5 [(0, .ref t_q), (1, .ref a1_q), (2, .int v2_1)] → W p l e rmX1_foresee s m args below meth c H locs 0 0 Q (F0 m 82 ls []) := by
        intro x3_23y t_ends_24y ey0 ey1 H locs ls hP hS hl
        subst ey0
        subst ey1
        refine lv_aload_n hx hb dX1_foresee_82 rfl (lv_at hl 1 rfl) ?_
        obtain ⟨t_barred_25, t_step_26, t_secondEnds_27, hc_28, hf⟩ := ob3_e hf
        refine kV_v (wn := [oX1 t_q t_ends_q a1_plan_doorCount, oX6 a1_q a1_plan_q a1_secondEnds_q a1_string_q t_barred_25 a1_period a1_his a1_beast a1_habit a1_onString t_step_26 a1_eaten, oX2 a1_plan_q a1_plan_firstEnds_q a1_plan_rules_q a1_plan_rooms a1_plan_doorCount a1_plan_ruleCount a1_plan_stringLength, aI g a1_plan_firstEnds_q 10 a1_plan_firstEnds, aI g a1_plan_rules_q 6 a1_plan_rules, aI g a1_secondEnds_q 10 t_secondEnds_27, aI g t_ends_q 240 t_ends_24]) (As := []) (rest := []) (c_X6_passTime l g _ a1_q a1_plan_q a1_secondEnds_q a1_string_q a1_plan_firstEnds_q a1_plan_rules_q a1_barred_2 a1_period a1_his a1_beast a1_habit a1_onString a1_step_3 a1_eaten a1_plan_rooms a1_plan_doorCount a1_plan_ruleCount a1_plan_stringLength a1_plan_rules a1_secondEnds_4 t_barred_25 t_step_26 t_secondEnds_27 hc_28) ⟨hx, hb, hml, hown, hts⟩ (cwV 0 hts gX1_foresee_X6_passTime rfl rfl rfl (by decide +kernel) ⟨by decide, by decide⟩) hK hz hk hP (hD.re rfl) hS hA [1, 2, 4, 5] rfl rfl rfl rfl rfl rfl rfl hl.1 rfl (Nat.le_of_ble_eq_true rfl) dX1_foresee_83 (fun H locs hP hS => ?_)
        obtain ⟨v2_29, ev2_29, hf⟩ := bnd_e hf
        refine lv_iinc (v := v2_29) (lv' := [(2, .int v2_29), (0, .ref t_q), (1, .ref a1_q)]) hx hb dX1_foresee_86 hl (k := 2) rfl (by rw [ev2_29]; rfl) (by decide) rfl (fun ls hl => ?_)
        refine lv_goto (tgt := 13) hx hb dX1_foresee_89 (by decide) ?_
        exact hrec v2_29 t_barred_25 t_step_26 t_secondEnds_27 t_ends_24 (Option.some.inj hf).symm _ _ _ hP hS (lv_sub hl [1, 2, 0] rfl)
      have L_10 : ∀ (n : Nat) (v3_8 : Int32) (t_ends_9 : Nat → Int32), itr (un2 (b_X1_foresee_21 a1_plan_doorCount a1_plan_firstEnds v2_1 a1_barred_2 a1_secondEnds_4)) n (v3_8, t_ends_9) = some (x3_23, t_ends_24) → ∀ (H : Heap) (locs : List Loc) (ls : Array Slot), va_P g.1 vwCl [oX1 t_q t_ends_q a1_plan_doorCount, oX6 a1_q a1_plan_q a1_secondEnds_q a1_string_q a1_barred_2 a1_period a1_his a1_beast a1_habit a1_onString a1_step_3 a1_eaten, oX2 a1_plan_q a1_plan_firstEnds_q a1_plan_rules_q a1_plan_rooms a1_plan_doorCount a1_plan_ruleCount a1_plan_stringLength, aI g a1_plan_firstEnds_q 10 a1_plan_firstEnds, aI g a1_plan_rules_q 6 a1_plan_rules, aI g a1_secondEnds_q 10 a1_secondEnds_4, aI g t_ends_q 240 t_ends_9] H → va_S A s.heap H locs → lv_has ls 5 [(0, .ref t_q), (1, .ref a1_q), (2, .int v2_1), (3, .int v3_8)] → W p l e rmX1_foresee s m args below meth c H locs 0 0 Q (F0 m 21 ls []) := by
        refine itr_ind2 ?_
        intro v3_8 t_ends_9 z_10 hf hrec hex H locs ls hP hS hl
        unfold b_X1_foresee_21 at hf
        refine lv_iload_n hx hb dX1_foresee_21 rfl (lv_at hl 3 rfl) ?_
        refine lv_aload_n hx hb dX1_foresee_22 rfl (lv_at hl 0 rfl) ?_
        refine va_get (D := g.1) (ci := 1) (v := .int a1_plan_doorCount) (C := RX1) (T := TX1) (N := 2) hx hb hts inX1 hown hK hP 0 rfl rfl 1 (by decide) k27 (fun _ h9 => h9) rfl dX1_foresee_23 ?_
        refine lv_icmp_ge (tgt := 82) hx hb dX1_foresee_26 (by decide) (fun c_11 => ?_) (fun c_11 => ?_)
        · have hf := ite_t hf c_11
          exact K_10 v3_8 t_ends_9 (congrArg (fun t => t.1) (hex _ (Option.some.inj hf).symm).symm) (congrArg (fun t => t.2) (hex _ (Option.some.inj hf).symm).symm) _ _ _ hP hS (lv_sub hl [0, 1, 2] rfl)
        · have hf := ite_f hf c_11
          refine lv_iconst (v := (1 : Int32)) hx hb dX1_foresee_29 (by decide) ?_
          refine lv_aload_n hx hb dX1_foresee_30 rfl (lv_at hl 1 rfl) ?_
          refine va_get (D := g.1) (ci := 6) (v := .ref a1_plan_q) (C := RX6) (T := TX6) (N := 11) hx hb hts inX6 hown hK hP 1 rfl rfl 0 (by decide) k15 (fun _ h9 => h9) rfl dX1_foresee_31 ?_
          refine va_get (D := g.1) (ci := 2) (v := .ref a1_plan_firstEnds_q) (C := RX2) (T := TX2) (N := 6) hx hb hts inX2 hown hK hP 2 rfl rfl 0 (by decide) k28 (fun _ h9 => h9) rfl dX1_foresee_34 ?_
          refine lv_iload_n hx hb dX1_foresee_37 rfl (lv_at hl 3 rfl) ?_
          obtain ⟨h_12, hf⟩ := gin_e hf
          refine va_iald hx hb hK hP 3 0 rfl rfl h_12 dX1_foresee_38 ?_
          refine lv_ishl hx hb dX1_foresee_39 ?_
          refine lv_iconst (v := (1 : Int32)) hx hb dX1_foresee_40 (by decide) ?_
          refine lv_aload_n hx hb dX1_foresee_41 rfl (lv_at hl 1 rfl) ?_
          refine va_get (D := g.1) (ci := 6) (v := .ref a1_secondEnds_q) (C := RX6) (T := TX6) (N := 11) hx hb hts inX6 hown hK hP 1 rfl rfl 1 (by decide) k31 (fun _ h9 => h9) rfl dX1_foresee_42 ?_
          refine lv_iload_n hx hb dX1_foresee_45 rfl (lv_at hl 3 rfl) ?_
          obtain ⟨h_13, hf⟩ := gin_e hf
          refine va_iald hx hb hK hP 5 0 rfl rfl h_13 dX1_foresee_46 ?_
          refine lv_ishl hx hb dX1_foresee_47 ?_
          refine lv_ior hx hb dX1_foresee_48 ?_
          obtain ⟨v4_14, ev4_14, hf⟩ := bnd_e hf
          refine tp_i ev4_14 ?_
          refine lv_istore (lv' := [(4, .int v4_14), (0, .ref t_q), (1, .ref a1_q), (2, .int v2_1), (3, .int v3_8)]) hx hb dX1_foresee_49 hl (by decide) rfl (fun ls hl => ?_)
          refine lv_aload_n hx hb dX1_foresee_51 rfl (lv_at hl 1 rfl) ?_
          refine va_get (D := g.1) (ci := 1) (v := .ref t_ends_q) (C := RX1) (T := TX1) (N := 2) hx hb hts inX1 hown hK hP 0 rfl rfl 0 (by decide) k9 (fun _ h9 => h9) rfl dX1_foresee_52 ?_
          refine lv_iload_n hx hb dX1_foresee_55 rfl (lv_at hl 3 rfl) ?_
          refine lv_bipush (v := (10 : Int32)) hx hb dX1_foresee_56 (by decide) ?_
          refine lv_imul hx hb dX1_foresee_58 ?_
          refine lv_iload_n hx hb dX1_foresee_59 rfl (lv_at hl 4 rfl) ?_
          refine lv_iadd hx hb dX1_foresee_60 ?_
          refine lv_aload_n hx hb dX1_foresee_61 rfl (lv_at hl 2 rfl) ?_
          refine lv_iload_n hx hb dX1_foresee_62 rfl (lv_at hl 4 rfl) ?_
          obtain ⟨r_15, hc_16, hf⟩ := ob1_e hf
          refine kV_i (wn := [oX1 t_q t_ends_q a1_plan_doorCount, oX6 a1_q a1_plan_q a1_secondEnds_q a1_string_q a1_barred_2 a1_period a1_his a1_beast a1_habit a1_onString a1_step_3 a1_eaten, oX2 a1_plan_q a1_plan_firstEnds_q a1_plan_rules_q a1_plan_rooms a1_plan_doorCount a1_plan_ruleCount a1_plan_stringLength, aI g a1_plan_firstEnds_q 10 a1_plan_firstEnds, aI g a1_plan_rules_q 6 a1_plan_rules, aI g a1_secondEnds_q 10 a1_secondEnds_4, aI g t_ends_q 240 t_ends_9]) (As := [.int v3_8]) (rest := [.int ((v2_1 * (10 : Int32)) + v3_8), .ref t_ends_q]) (c_X6_isBarred l g _ a1_q a1_plan_q a1_secondEnds_q a1_string_q a1_barred_2 a1_period a1_his a1_beast a1_habit a1_onString a1_step_3 a1_eaten v3_8 r_15 hc_16) ⟨hx, hb, hml, hown, hts⟩ (cwV 1 hts gX1_foresee_X6_isBarred rfl rfl rfl (by decide +kernel) ⟨by decide, by decide⟩) hK hz hk hP (hD.re rfl) hS hA [1] rfl rfl rfl rfl rfl rfl rfl hl.1 rfl (Nat.le_of_ble_eq_true rfl) dX1_foresee_63 (fun H locs hP hS => ?_)
          obtain ⟨j_18, hj_18, hf⟩ := jn1_e hf
          have J_18 : ∀ (s_17 : Int32), j_18 s_17 = some z_10 → ∀ (H : Heap) (locs : List Loc) (ls : Array Slot), va_P g.1 vwCl [oX1 t_q t_ends_q a1_plan_doorCount, oX6 a1_q a1_plan_q a1_secondEnds_q a1_string_q a1_barred_2 a1_period a1_his a1_beast a1_habit a1_onString a1_step_3 a1_eaten, oX2 a1_plan_q a1_plan_firstEnds_q a1_plan_rules_q a1_plan_rooms a1_plan_doorCount a1_plan_ruleCount a1_plan_stringLength, aI g a1_plan_firstEnds_q 10 a1_plan_firstEnds, aI g a1_plan_rules_q 6 a1_plan_rules, aI g a1_secondEnds_q 10 a1_secondEnds_4, aI g t_ends_q 240 t_ends_9] H → va_S A s.heap H locs → lv_has ls 5 [(0, .ref t_q), (1, .ref a1_q), (2, .int v2_1), (3, .int v3_8)] → W p l e rmX1_foresee s m args below meth c H locs 0 0 Q (F0 m 75 ls [.int s_17, .int ((v2_1 * (10 : Int32)) + v3_8), .ref t_ends_q]) := by
            intro s_17 hf H locs ls hP hS hl
            rw [hj_18] at hf
            obtain ⟨h_19, hf⟩ := gin_e hf
            obtain ⟨t_ends_20, et_ends_20, hf⟩ := bnd_e hf
            refine va_iast hx hb hK hP (hD.re rfl) hS 6 0 rfl rfl h_19 dX1_foresee_75 (fun H locs hP _ hS => ?_)
            have hP : va_P g.1 vwCl [oX1 t_q t_ends_q a1_plan_doorCount, oX6 a1_q a1_plan_q a1_secondEnds_q a1_string_q a1_barred_2 a1_period a1_his a1_beast a1_habit a1_onString a1_step_3 a1_eaten, oX2 a1_plan_q a1_plan_firstEnds_q a1_plan_rules_q a1_plan_rooms a1_plan_doorCount a1_plan_ruleCount a1_plan_stringLength, aI g a1_plan_firstEnds_q 10 a1_plan_firstEnds, aI g a1_plan_rules_q 6 a1_plan_rules, aI g a1_secondEnds_q 10 a1_secondEnds_4, aI g t_ends_q 240 t_ends_20] H := by rw [et_ends_20]; exact hP
            obtain ⟨v3_21, ev3_21, hf⟩ := bnd_e hf
            refine lv_iinc (v := v3_21) (lv' := [(3, .int v3_21), (0, .ref t_q), (1, .ref a1_q), (2, .int v2_1)]) hx hb dX1_foresee_76 hl (k := 3) rfl (by rw [ev3_21]; rfl) (by decide) rfl (fun ls hl => ?_)
            refine lv_goto (tgt := 21) hx hb dX1_foresee_79 (by decide) ?_
            exact hrec v3_21 t_ends_20 (Option.some.inj hf).symm _ _ _ hP hS (lv_sub hl [1, 2, 3, 0] rfl)
          refine lv_if_eq (tgt := 73) hx hb dX1_foresee_66 (by decide) (fun c_22 => ?_) (fun c_22 => ?_)
          · have hf := ite_t hf c_22
            refine lv_iload hx hb dX1_foresee_73 (lv_at hl 0 rfl) ?_
            exact J_18 v4_14 hf _ _ _ hP hS (lv_sub hl [1, 2, 3, 4] rfl)
          · have hf := ite_f hf c_22
            refine lv_iconst (v := (0 : Int32)) hx hb dX1_foresee_69 (by decide) ?_
            refine lv_goto (tgt := 75) hx hb dX1_foresee_70 (by decide) ?_
            exact J_18 (0 : Int32) hf _ _ _ hP hS (lv_sub hl [1, 2, 3, 4] rfl)
      exact L_10 FU (0 : Int32) t_ends_5 ho_10 _ _ _ hP hS (lv_sub hl [1, 2, 3, 0] rfl)
  exact L_6 FU (0 : Int32) a1_barred a1_step a1_secondEnds t_ends ho_6 _ _ _ hP hS (lv_sub hl [1, 2, 0] rfl)

def b_X1_newlyReached_6 (t_doorCount : Int32) (t_ends : Nat → Int32) (p1 : Int32) (p2 : Int32) (p3 : Int32) (v4_1 : Int32) (v5_2 : Int32) : Option ((Int32 × Int32) ⊕ (Int32 × Int32)) :=
 (if t_doorCount ≤ v5_2 then
 (some (.inr (v4_1, v5_2)))
 else (gin ((p2 * (10 : Int32)) + v5_2) 240 (bnd (t_ends ((p2 * (10 : Int32)) + v5_2).toNatClampNeg) (fun v6_6 =>
 (jn1 (fun (v4_7 : Int32) => (bnd (v5_2 + (1 : Int32)) (fun v5_9 =>
 (some (.inl (v4_7, v5_9)))))) (fun j_8 =>
 (if ((p3 >>> (v5_2 &&& 31)) &&& (1 : Int32)) = (0 : Int32) then
 (if (v6_6 &&& p1) = (0 : Int32) then
 (j_8 v4_1)
 else (bnd (v4_1 ||| v6_6) (fun v4_12 =>
 (j_8 v4_12))))
 else (j_8 v4_1))))))))
def f_X1_newlyReached (t_doorCount : Int32) (t_ends : Nat → Int32) (p1 : Int32) (p2 : Int32) (p3 : Int32) : Option (Int32) :=
 (ob2 (itr (un2 (b_X1_newlyReached_6 t_doorCount t_ends p1 p2 p3)) FU ((0 : Int32), (0 : Int32))) (fun x4_13 x5_14 =>
 (some x4_13)))
abbrev rmX1_newlyReached : Room := { frames := 0, cells := 0, slots := 0, locals := 0 }
set_option maxHeartbeats 4000000 in
set_option maxRecDepth 100000 in
theorem c_X1_newlyReached (l : Launch) (g : Gh) (sz : Nat) (t_q t_ends_q : Nat) (t_doorCount : Int32) (t_ends : Nat → Int32) (p1 : Int32) (p2 : Int32) (p3 : Int32) (rr : Int32) (hf : f_X1_newlyReached t_doorCount t_ends p1 p2 p3 = some rr) : CI l yX1_newlyReached wsX1_newlyReached rmX1_newlyReached [.ref t_q, .int p1, .int p2, .int p3] g sz [oX1 t_q t_ends_q t_doorCount, aI g t_ends_q 240 t_ends] [oX1 t_q t_ends_q t_doorCount, aI g t_ends_q 240 t_ends] rr := by
  refine ent_i (cc := cX1_newlyReached) (maxL := 7) (by decide) rfl (Nat.le_of_ble_eq_true rfl) ?_
  intro p e s m args below meth c A Q hx hb hml hown hts hK hz hk hA hD hP hS hret ls hl
  have hown : s.vm.findClass RX1 = some m.cls := hown
  have inX1 : ∀ w ∈ u_ws RX1 TX1 2, w ∈ wsX1_newlyReached := by decide +kernel
  have k9 := hts (.fieldLink RX1 9 "ThreadMoved$Passages" "ends" "[I") (by decide +kernel)
  have k27 := hts (.fieldLink RX1 27 "ThreadMoved$Passages" "doorCount" "I") (by decide +kernel)
  have hl : lv_has ls 7 [(0, .ref t_q), (1, .int p1), (2, .int p2), (3, .int p3)] := hl
  have hret : ∀ (rrz : Int32), rrz = rr → ∀ (H : Heap) (locs : List Loc) (pc : Nat) (ls : Array Slot), va_P g.1 vwCl [oX1 t_q t_ends_q t_doorCount, aI g t_ends_q 240 t_ends] H → va_S A s.heap H locs → decode cX1_newlyReached pc = .ok (.ireturn, 1) → W p l e rmX1_newlyReached s m args below meth c H locs 0 0 Q (F0 m pc ls [.int rrz]) := by
    intro rrz he H locs pc ls hP hS hd
    cases he
    exact hret H locs pc ls hP hS hd
  unfold f_X1_newlyReached at hf
  refine lv_iconst (v := (0 : Int32)) hx hb dX1_newlyReached_0 (by decide) ?_
  refine lv_istore (lv' := [(4, .int (0 : Int32)), (0, .ref t_q), (1, .int p1), (2, .int p2), (3, .int p3)]) hx hb dX1_newlyReached_1 hl (by decide) rfl (fun ls hl => ?_)
  refine lv_iconst (v := (0 : Int32)) hx hb dX1_newlyReached_3 (by decide) ?_
  refine lv_istore (lv' := [(5, .int (0 : Int32)), (4, .int (0 : Int32)), (0, .ref t_q), (1, .int p1), (2, .int p2), (3, .int p3)]) hx hb dX1_newlyReached_4 hl (by decide) rfl (fun ls hl => ?_)
  obtain ⟨x4_13, x5_14, ho_3, hf⟩ := ob2_e hf
  have K_3 : ∀ (x4_13y : Int32) (x5_14y : Int32), x4_13 = x4_13y → x5_14 = x5_14y → ∀ (H : Heap) (locs : List Loc) (ls : Array Slot), va_P g.1 vwCl [oX1 t_q t_ends_q t_doorCount, aI g t_ends_q 240 t_ends] H → va_S A s.heap H locs → lv_has ls 7 [(4, .int x4_13y)] → W p l e rmX1_newlyReached s m args below meth c H locs 0 0 Q (F0 m 58 ls []) := by
    intro x4_13y x5_14y ey0 ey1 H locs ls hP hS hl
    subst ey0
    subst ey1
    refine lv_iload hx hb dX1_newlyReached_58 (lv_at hl 0 rfl) ?_
    exact hret x4_13 (Option.some.inj hf) _ _ _ _ hP hS dX1_newlyReached_60
  have L_3 : ∀ (n : Nat) (v4_1 : Int32) (v5_2 : Int32), itr (un2 (b_X1_newlyReached_6 t_doorCount t_ends p1 p2 p3)) n (v4_1, v5_2) = some (x4_13, x5_14) → ∀ (H : Heap) (locs : List Loc) (ls : Array Slot), va_P g.1 vwCl [oX1 t_q t_ends_q t_doorCount, aI g t_ends_q 240 t_ends] H → va_S A s.heap H locs → lv_has ls 7 [(0, .ref t_q), (1, .int p1), (2, .int p2), (3, .int p3), (4, .int v4_1), (5, .int v5_2)] → W p l e rmX1_newlyReached s m args below meth c H locs 0 0 Q (F0 m 6 ls []) := by
    refine itr_ind2 ?_
    intro v4_1 v5_2 z_3 hf hrec hex H locs ls hP hS hl
    unfold b_X1_newlyReached_6 at hf
    refine lv_iload hx hb dX1_newlyReached_6 (lv_at hl 5 rfl) ?_
    refine lv_aload_n hx hb dX1_newlyReached_8 rfl (lv_at hl 0 rfl) ?_
    refine va_get (D := g.1) (ci := 1) (v := .int t_doorCount) (C := RX1) (T := TX1) (N := 2) hx hb hts inX1 hown hK hP 0 rfl rfl 1 (by decide) k27 (fun _ h9 => h9) rfl dX1_newlyReached_9 ?_
    refine lv_icmp_ge (tgt := 58) hx hb dX1_newlyReached_12 (by decide) (fun c_4 => ?_) (fun c_4 => ?_)
    · have hf := ite_t hf c_4
      exact K_3 v4_1 v5_2 (congrArg (fun t => t.1) (hex _ (Option.some.inj hf).symm).symm) (congrArg (fun t => t.2) (hex _ (Option.some.inj hf).symm).symm) _ _ _ hP hS (lv_sub hl [4] rfl)
    · have hf := ite_f hf c_4
      refine lv_aload_n hx hb dX1_newlyReached_15 rfl (lv_at hl 0 rfl) ?_
      refine va_get (D := g.1) (ci := 1) (v := .ref t_ends_q) (C := RX1) (T := TX1) (N := 2) hx hb hts inX1 hown hK hP 0 rfl rfl 0 (by decide) k9 (fun _ h9 => h9) rfl dX1_newlyReached_16 ?_
      refine lv_iload_n hx hb dX1_newlyReached_19 rfl (lv_at hl 2 rfl) ?_
      refine lv_bipush (v := (10 : Int32)) hx hb dX1_newlyReached_20 (by decide) ?_
      refine lv_imul hx hb dX1_newlyReached_22 ?_
      refine lv_iload hx hb dX1_newlyReached_23 (lv_at hl 5 rfl) ?_
      refine lv_iadd hx hb dX1_newlyReached_25 ?_
      obtain ⟨h_5, hf⟩ := gin_e hf
      refine va_iald hx hb hK hP 1 0 rfl rfl h_5 dX1_newlyReached_26 ?_
      obtain ⟨v6_6, ev6_6, hf⟩ := bnd_e hf
      refine tp_i ev6_6 ?_
      refine lv_istore (lv' := [(6, .int v6_6), (0, .ref t_q), (1, .int p1), (2, .int p2), (3, .int p3), (4, .int v4_1), (5, .int v5_2)]) hx hb dX1_newlyReached_27 hl (by decide) rfl (fun ls hl => ?_)
      refine lv_iload_n hx hb dX1_newlyReached_29 rfl (lv_at hl 4 rfl) ?_
      refine lv_iload hx hb dX1_newlyReached_30 (lv_at hl 6 rfl) ?_
      refine lv_ishr hx hb dX1_newlyReached_32 ?_
      refine lv_iconst (v := (1 : Int32)) hx hb dX1_newlyReached_33 (by decide) ?_
      refine lv_iand hx hb dX1_newlyReached_34 ?_
      obtain ⟨j_8, hj_8, hf⟩ := jn1_e hf
      have J_8 : ∀ (v4_7 : Int32), j_8 v4_7 = some z_3 → ∀ (H : Heap) (locs : List Loc) (ls : Array Slot), va_P g.1 vwCl [oX1 t_q t_ends_q t_doorCount, aI g t_ends_q 240 t_ends] H → va_S A s.heap H locs → lv_has ls 7 [(0, .ref t_q), (1, .int p1), (2, .int p2), (3, .int p3), (4, .int v4_7), (5, .int v5_2)] → W p l e rmX1_newlyReached s m args below meth c H locs 0 0 Q (F0 m 52 ls []) := by
        intro v4_7 hf H locs ls hP hS hl
        rw [hj_8] at hf
        obtain ⟨v5_9, ev5_9, hf⟩ := bnd_e hf
        refine lv_iinc (v := v5_9) (lv' := [(5, .int v5_9), (0, .ref t_q), (1, .int p1), (2, .int p2), (3, .int p3), (4, .int v4_7)]) hx hb dX1_newlyReached_52 hl (k := 5) rfl (by rw [ev5_9]; rfl) (by decide) rfl (fun ls hl => ?_)
        refine lv_goto (tgt := 6) hx hb dX1_newlyReached_55 (by decide) ?_
        exact hrec v4_7 v5_9 (Option.some.inj hf).symm _ _ _ hP hS (lv_sub hl [1, 2, 3, 4, 5, 0] rfl)
      refine lv_if_ne (tgt := 52) hx hb dX1_newlyReached_35 (by decide) (fun c_10 => ?_) (fun c_10 => ?_)
      · have hf := ite_f hf c_10
        exact J_8 v4_1 hf _ _ _ hP hS (lv_sub hl [1, 2, 3, 4, 5, 6] rfl)
      · have hf := ite_t hf c_10
        refine lv_iload hx hb dX1_newlyReached_38 (lv_at hl 0 rfl) ?_
        refine lv_iload_n hx hb dX1_newlyReached_40 rfl (lv_at hl 2 rfl) ?_
        refine lv_iand hx hb dX1_newlyReached_41 ?_
        refine lv_if_eq (tgt := 52) hx hb dX1_newlyReached_42 (by decide) (fun c_11 => ?_) (fun c_11 => ?_)
        · have hf := ite_t hf c_11
          exact J_8 v4_1 hf _ _ _ hP hS (lv_sub hl [1, 2, 3, 4, 5, 6] rfl)
        · have hf := ite_f hf c_11
          refine lv_iload hx hb dX1_newlyReached_45 (lv_at hl 5 rfl) ?_
          refine lv_iload hx hb dX1_newlyReached_47 (lv_at hl 0 rfl) ?_
          refine lv_ior hx hb dX1_newlyReached_49 ?_
          obtain ⟨v4_12, ev4_12, hf⟩ := bnd_e hf
          refine tp_i ev4_12 ?_
          refine lv_istore (lv' := [(4, .int v4_12), (6, .int v6_6), (0, .ref t_q), (1, .int p1), (2, .int p2), (3, .int p3), (5, .int v5_2)]) hx hb dX1_newlyReached_50 hl (by decide) rfl (fun ls hl => ?_)
          exact J_8 v4_12 hf _ _ _ hP hS (lv_sub hl [2, 3, 4, 5, 0, 6] rfl)
  exact L_3 FU (0 : Int32) (0 : Int32) ho_3 _ _ _ hP hS (lv_sub hl [2, 3, 4, 5, 1, 0] rfl)

def b_X1_keepOut_7 (t_doorCount : Int32) (t_ends : Nat → Int32) (p2 : Int32) (v3_2 : Int32) (v4_3 : Int32) : Option ((Int32 × Int32) ⊕ (Int32 × Int32)) :=
 (if (24 : Int32) ≤ v4_3 then
 (some (.inr (v3_2, v4_3)))
 else (if (v3_2 &&& (1 : Int32)) = (0 : Int32) then
 (ob1 (f_X1_newlyReached t_doorCount t_ends v3_2 v4_3 p2) (fun r_7 =>
 (bnd (v3_2 ||| r_7) (fun v3_9 =>
 (bnd (v4_3 + (1 : Int32)) (fun v4_10 =>
 (some (.inl (v3_9, v4_10)))))))))
 else (some (.inr (v3_2, v4_3)))))
def f_X1_keepOut (t_doorCount : Int32) (t_ends : Nat → Int32) (p1 : Int32) (p2 : Int32) : Option (Int32) :=
 (bnd ((1 : Int32) <<< (p1 &&& 31)) (fun v3_1 =>
 (ob2 (itr (un2 (b_X1_keepOut_7 t_doorCount t_ends p2)) FU (v3_1, (0 : Int32))) (fun x3_11 x4_12 =>
 (if (x3_11 &&& (1 : Int32)) = (0 : Int32) then
 (some (1 : Int32))
 else (some (0 : Int32)))))))
abbrev rmX1_keepOut : Room := { frames := 1, cells := 0, slots := 0, locals := 26 }
set_option maxHeartbeats 4000000 in
set_option maxRecDepth 100000 in
theorem c_X1_keepOut (l : Launch) (g : Gh) (sz : Nat) (t_q t_ends_q : Nat) (t_doorCount : Int32) (t_ends : Nat → Int32) (p1 : Int32) (p2 : Int32) (rr : Int32) (hf : f_X1_keepOut t_doorCount t_ends p1 p2 = some rr) : CI l yX1_keepOut wsX1_keepOut rmX1_keepOut [.ref t_q, .int p1, .int p2] g sz [oX1 t_q t_ends_q t_doorCount, aI g t_ends_q 240 t_ends] [oX1 t_q t_ends_q t_doorCount, aI g t_ends_q 240 t_ends] rr := by
  refine ent_z (cc := cX1_keepOut) (maxL := 5) (by decide) rfl (Nat.le_of_ble_eq_true rfl) ?_
  intro p e s m args below meth c A Q hx hb hml hown hts hK hz hk hA hD hP hS hret ls hl
  have hown : s.vm.findClass RX1 = some m.cls := hown
  have hl : lv_has ls 5 [(0, .ref t_q), (1, .int p1), (2, .int p2)] := hl
  have hret : ∀ (rrz : Int32), rrz = rr → narrow .boolean (.int rrz) = .int rrz → ∀ (H : Heap) (locs : List Loc) (pc : Nat) (ls : Array Slot), va_P g.1 vwCl [oX1 t_q t_ends_q t_doorCount, aI g t_ends_q 240 t_ends] H → va_S A s.heap H locs → decode cX1_keepOut pc = .ok (.ireturn, 1) → W p l e rmX1_keepOut s m args below meth c H locs 0 0 Q (F0 m pc ls [.int rrz]) := by
    intro rrz he hzz H locs pc ls hP hS hd
    cases he
    exact hret H locs pc ls hzz hP hS hd
  unfold f_X1_keepOut at hf
  refine lv_iconst (v := (1 : Int32)) hx hb dX1_keepOut_0 (by decide) ?_
  refine lv_iload_n hx hb dX1_keepOut_1 rfl (lv_at hl 1 rfl) ?_
  refine lv_ishl hx hb dX1_keepOut_2 ?_
  obtain ⟨v3_1, ev3_1, hf⟩ := bnd_e hf
  refine tp_i ev3_1 ?_
  refine lv_istore_n (lv' := [(3, .int v3_1), (0, .ref t_q), (1, .int p1), (2, .int p2)]) hx hb dX1_keepOut_3 rfl hl (by decide) rfl (fun ls hl => ?_)
  refine lv_iconst (v := (0 : Int32)) hx hb dX1_keepOut_4 (by decide) ?_
  refine lv_istore (lv' := [(4, .int (0 : Int32)), (3, .int v3_1), (0, .ref t_q), (1, .int p1), (2, .int p2)]) hx hb dX1_keepOut_5 hl (by decide) rfl (fun ls hl => ?_)
  obtain ⟨x3_11, x4_12, ho_4, hf⟩ := ob2_e hf
  have K_4 : ∀ (x3_11y : Int32) (x4_12y : Int32), x3_11 = x3_11y → x4_12 = x4_12y → ∀ (H : Heap) (locs : List Loc) (ls : Array Slot), va_P g.1 vwCl [oX1 t_q t_ends_q t_doorCount, aI g t_ends_q 240 t_ends] H → va_S A s.heap H locs → lv_has ls 5 [(3, .int x3_11y)] → W p l e rmX1_keepOut s m args below meth c H locs 0 0 Q (F0 m 37 ls []) := by
    intro x3_11y x4_12y ey0 ey1 H locs ls hP hS hl
    subst ey0
    subst ey1
    refine lv_iload_n hx hb dX1_keepOut_37 rfl (lv_at hl 0 rfl) ?_
    refine lv_iconst (v := (1 : Int32)) hx hb dX1_keepOut_38 (by decide) ?_
    refine lv_iand hx hb dX1_keepOut_39 ?_
    refine lv_if_ne (tgt := 47) hx hb dX1_keepOut_40 (by decide) (fun c_13 => ?_) (fun c_13 => ?_)
    · have hf := ite_f hf c_13
      refine lv_iconst (v := (0 : Int32)) hx hb dX1_keepOut_47 (by decide) ?_
      exact hret (0 : Int32) (Option.some.inj hf) rfl _ _ _ _ hP hS dX1_keepOut_48
    · have hf := ite_t hf c_13
      refine lv_iconst (v := (1 : Int32)) hx hb dX1_keepOut_43 (by decide) ?_
      refine lv_goto (tgt := 48) hx hb dX1_keepOut_44 (by decide) ?_
      exact hret (1 : Int32) (Option.some.inj hf) rfl _ _ _ _ hP hS dX1_keepOut_48
  have L_4 : ∀ (n : Nat) (v3_2 : Int32) (v4_3 : Int32), itr (un2 (b_X1_keepOut_7 t_doorCount t_ends p2)) n (v3_2, v4_3) = some (x3_11, x4_12) → ∀ (H : Heap) (locs : List Loc) (ls : Array Slot), va_P g.1 vwCl [oX1 t_q t_ends_q t_doorCount, aI g t_ends_q 240 t_ends] H → va_S A s.heap H locs → lv_has ls 5 [(0, .ref t_q), (2, .int p2), (3, .int v3_2), (4, .int v4_3)] → W p l e rmX1_keepOut s m args below meth c H locs 0 0 Q (F0 m 7 ls []) := by
    refine itr_ind2 ?_
    intro v3_2 v4_3 z_4 hf hrec hex H locs ls hP hS hl
    unfold b_X1_keepOut_7 at hf
    refine lv_iload hx hb dX1_keepOut_7 (lv_at hl 3 rfl) ?_
    refine lv_bipush (v := (24 : Int32)) hx hb dX1_keepOut_9 (by decide) ?_
    refine lv_icmp_ge (tgt := 37) hx hb dX1_keepOut_11 (by decide) (fun c_5 => ?_) (fun c_5 => ?_)
    · have hf := ite_t hf c_5
      exact K_4 v3_2 v4_3 (congrArg (fun t => t.1) (hex _ (Option.some.inj hf).symm).symm) (congrArg (fun t => t.2) (hex _ (Option.some.inj hf).symm).symm) _ _ _ hP hS (lv_sub hl [2] rfl)
    · have hf := ite_f hf c_5
      refine lv_iload_n hx hb dX1_keepOut_14 rfl (lv_at hl 2 rfl) ?_
      refine lv_iconst (v := (1 : Int32)) hx hb dX1_keepOut_15 (by decide) ?_
      refine lv_iand hx hb dX1_keepOut_16 ?_
      refine lv_if_ne (tgt := 37) hx hb dX1_keepOut_17 (by decide) (fun c_6 => ?_) (fun c_6 => ?_)
      · have hf := ite_f hf c_6
        exact K_4 v3_2 v4_3 (congrArg (fun t => t.1) (hex _ (Option.some.inj hf).symm).symm) (congrArg (fun t => t.2) (hex _ (Option.some.inj hf).symm).symm) _ _ _ hP hS (lv_sub hl [2] rfl)
      · have hf := ite_t hf c_6
        refine lv_iload_n hx hb dX1_keepOut_20 rfl (lv_at hl 2 rfl) ?_
        refine lv_aload_n hx hb dX1_keepOut_21 rfl (lv_at hl 0 rfl) ?_
        refine lv_iload_n hx hb dX1_keepOut_22 rfl (lv_at hl 2 rfl) ?_
        refine lv_iload hx hb dX1_keepOut_23 (lv_at hl 3 rfl) ?_
        refine lv_iload_n hx hb dX1_keepOut_25 rfl (lv_at hl 1 rfl) ?_
        obtain ⟨r_7, hc_8, hf⟩ := ob1_e hf
        refine kV_i (wn := [oX1 t_q t_ends_q t_doorCount, aI g t_ends_q 240 t_ends]) (As := [.int v3_2, .int v4_3, .int p2]) (rest := [.int v3_2]) (c_X1_newlyReached l g _ t_q t_ends_q t_doorCount t_ends v3_2 v4_3 p2 r_7 hc_8) ⟨hx, hb, hml, hown, hts⟩ (cwV 3 hts gX1_keepOut_X1_newlyReached rfl rfl rfl (by decide +kernel) ⟨by decide, by decide⟩) hK hz hk hP (hD.re rfl) hS hA [0, 1] rfl rfl rfl rfl rfl rfl rfl hl.1 rfl (Nat.le_of_ble_eq_true rfl) dX1_keepOut_26 (fun H locs hP hS => ?_)
        refine lv_ior hx hb dX1_keepOut_29 ?_
        obtain ⟨v3_9, ev3_9, hf⟩ := bnd_e hf
        refine tp_i ev3_9 ?_
        refine lv_istore_n (lv' := [(3, .int v3_9), (0, .ref t_q), (2, .int p2), (4, .int v4_3)]) hx hb dX1_keepOut_30 rfl hl (by decide) rfl (fun ls hl => ?_)
        obtain ⟨v4_10, ev4_10, hf⟩ := bnd_e hf
        refine lv_iinc (v := v4_10) (lv' := [(4, .int v4_10), (3, .int v3_9), (0, .ref t_q), (2, .int p2)]) hx hb dX1_keepOut_31 hl (k := 3) rfl (by rw [ev4_10]; rfl) (by decide) rfl (fun ls hl => ?_)
        refine lv_goto (tgt := 7) hx hb dX1_keepOut_34 (by decide) ?_
        exact hrec v3_9 v4_10 (Option.some.inj hf).symm _ _ _ hP hS (lv_sub hl [2, 3, 1, 0] rfl)
  exact L_4 FU v3_1 (0 : Int32) ho_4 _ _ _ hP hS (lv_sub hl [2, 4, 1, 0] rfl)

def b_X3_append_18 (p1 : Int64) (v3_2 : Int32) (t_length_3 : Int32) (t_tape_4 : Nat → Int32) : Option ((Int32 × Int32 × (Nat → Int32)) ⊕ (Int32 × Int32 × (Nat → Int32))) :=
 (if v3_2 < (0 : Int32) then
 (some (.inr (v3_2, t_length_3, t_tape_4)))
 else (gin t_length_3 320 (bnd (upd t_tape_4 t_length_3.toNatClampNeg (vp_nar .byte ((((p1.toUInt64 >>> (v3_2.toInt64.toUInt64 &&& Int64.toUInt64 63)).toInt64).toInt32).toInt8.toInt32))) (fun t_tape_8 =>
 (bnd (t_length_3 + (1 : Int32)) (fun t_length_9 =>
 (bnd (v3_2 + (-8 : Int32)) (fun v3_10 =>
 (some (.inl (v3_10, t_length_9, t_tape_8)))))))))))
def f_X3_append (t_length : Int32) (t_tape : Nat → Int32) (p1 : Int64) : Option (Int32 × Int32 × (Nat → Int32)) :=
 (if (t_length + (8 : Int32)) ≤ (320 : Int32) then
 (ob3 (itr (un3 (b_X3_append_18 p1)) FU ((56 : Int32), t_length, t_tape)) (fun x3_11 t_length_12 t_tape_13 =>
 (some ((1 : Int32), t_length_12, t_tape_13))))
 else (some ((0 : Int32), t_length, t_tape)))
abbrev rmX3_append : Room := { frames := 0, cells := 0, slots := 0, locals := 0 }
set_option maxHeartbeats 4000000 in
set_option maxRecDepth 100000 in
theorem c_X3_append (l : Launch) (g : Gh) (sz : Nat) (t_q t_plan_q t_state_q t_tape_q : Nat) (t_length : Int32) (t_fault : Int32) (t_faultPlace : Int32) (t_lines : Int32) (t_place : Int32) (t_kind : Int32) (t_start : Int32) (t_value : Int32) (t_told : Int32) (t_tape : Nat → Int32) (p1 : Int64) (rr : Int32) (t_length' : Int32) (t_tape' : Nat → Int32) (hf : f_X3_append t_length t_tape p1 = some (rr, t_length', t_tape')) : CI l yX3_append wsX3_append rmX3_append [.ref t_q, .long p1] g sz [oX3 t_q t_plan_q t_state_q t_length t_fault t_faultPlace t_lines t_tape_q t_place t_kind t_start t_value t_told, aB g t_tape_q 320 t_tape] [oX3 t_q t_plan_q t_state_q t_length' t_fault t_faultPlace t_lines t_tape_q t_place t_kind t_start t_value t_told, aB g t_tape_q 320 t_tape'] rr := by
  refine ent_z (cc := cX3_append) (maxL := 4) (by decide) rfl (Nat.le_of_ble_eq_true rfl) ?_
  intro p e s m args below meth c A Q hx hb hml hown hts hK hz hk hA hD hP hS hret ls hl
  have hown : s.vm.findClass RX3 = some m.cls := hown
  have inX3 : ∀ w ∈ u_ws RX3 TX3 12, w ∈ wsX3_append := by decide +kernel
  have k27 := hts (.fieldLink RX3 27 "ThreadMoved$Reader" "length" "I") (by decide +kernel)
  have k34 := hts (.fieldLink RX3 34 "ThreadMoved$Reader" "tape" "[B") (by decide +kernel)
  have hl : lv_has ls 4 [(0, .ref t_q), (1, .long p1)] := hl
  have hret : ∀ (rrz : Int32) (t_lengthz : Int32) (t_tapez : Nat → Int32), (rrz, t_lengthz, t_tapez) = (rr, t_length', t_tape') → narrow .boolean (.int rrz) = .int rrz → ∀ (H : Heap) (locs : List Loc) (pc : Nat) (ls : Array Slot), va_P g.1 vwCl [oX3 t_q t_plan_q t_state_q t_lengthz t_fault t_faultPlace t_lines t_tape_q t_place t_kind t_start t_value t_told, aB g t_tape_q 320 t_tapez] H → va_S A s.heap H locs → decode cX3_append pc = .ok (.ireturn, 1) → W p l e rmX3_append s m args below meth c H locs 0 0 Q (F0 m pc ls [.int rrz]) := by
    intro rrz t_lengthz t_tapez he hzz H locs pc ls hP hS hd
    cases he
    exact hret H locs pc ls hzz hP hS hd
  unfold f_X3_append at hf
  refine lv_aload_n hx hb dX3_append_0 rfl (lv_at hl 0 rfl) ?_
  refine va_get (D := g.1) (ci := 3) (v := .int t_length) (C := RX3) (T := TX3) (N := 12) hx hb hts inX3 hown hK hP 0 rfl rfl 2 (by decide) k27 (fun _ h9 => h9) rfl dX3_append_1 ?_
  refine lv_bipush (v := (8 : Int32)) hx hb dX3_append_4 (by decide) ?_
  refine lv_iadd hx hb dX3_append_6 ?_
  refine lv_sipush (v := (320 : Int32)) hx hb dX3_append_7 (by decide) ?_
  refine lv_icmp_le (tgt := 15) hx hb dX3_append_10 (by decide) (fun c_1 => ?_) (fun c_1 => ?_)
  · have hf := ite_t hf c_1
    refine lv_bipush (v := (56 : Int32)) hx hb dX3_append_15 (by decide) ?_
    refine lv_istore_n (lv' := [(3, .int (56 : Int32)), (0, .ref t_q), (1, .long p1)]) hx hb dX3_append_17 rfl hl (by decide) rfl (fun ls hl => ?_)
    obtain ⟨x3_11, t_length_12, t_tape_13, ho_5, hf⟩ := ob3_e hf
    have K_5 : ∀ (x3_11y : Int32) (t_length_12y : Int32) (t_tape_13y : Nat → Int32), x3_11 = x3_11y → t_length_12 = t_length_12y → t_tape_13 = t_tape_13y → ∀ (H : Heap) (locs : List Loc) (ls : Array Slot), va_P g.1 vwCl [oX3 t_q t_plan_q t_state_q t_length_12y t_fault t_faultPlace t_lines t_tape_q t_place t_kind t_start t_value t_told, aB g t_tape_q 320 t_tape_13y] H → va_S A s.heap H locs → lv_has ls 4 [] → W p l e rmX3_append s m args below meth c H locs 0 0 Q (F0 m 52 ls []) := by
      intro x3_11y t_length_12y t_tape_13y ey0 ey1 ey2 H locs ls hP hS hl
      subst ey0
      subst ey1
      subst ey2
      refine lv_iconst (v := (1 : Int32)) hx hb dX3_append_52 (by decide) ?_
      exact hret (1 : Int32) t_length_12 t_tape_13 (Option.some.inj hf) rfl _ _ _ _ hP hS dX3_append_53
    have L_5 : ∀ (n : Nat) (v3_2 : Int32) (t_length_3 : Int32) (t_tape_4 : Nat → Int32), itr (un3 (b_X3_append_18 p1)) n (v3_2, t_length_3, t_tape_4) = some (x3_11, t_length_12, t_tape_13) → ∀ (H : Heap) (locs : List Loc) (ls : Array Slot), va_P g.1 vwCl [oX3 t_q t_plan_q t_state_q t_length_3 t_fault t_faultPlace t_lines t_tape_q t_place t_kind t_start t_value t_told, aB g t_tape_q 320 t_tape_4] H → va_S A s.heap H locs → lv_has ls 4 [(0, .ref t_q), (1, .long p1), (3, .int v3_2)] → W p l e rmX3_append s m args below meth c H locs 0 0 Q (F0 m 18 ls []) := by
      refine itr_ind3 ?_
      intro v3_2 t_length_3 t_tape_4 z_5 hf hrec hex H locs ls hP hS hl
      unfold b_X3_append_18 at hf
      refine lv_iload_n hx hb dX3_append_18 rfl (lv_at hl 2 rfl) ?_
      refine lv_if_lt (tgt := 52) hx hb dX3_append_19 (by decide) (fun c_6 => ?_) (fun c_6 => ?_)
      · have hf := ite_t hf c_6
        exact K_5 v3_2 t_length_3 t_tape_4 (congrArg (fun t => t.1) (hex _ (Option.some.inj hf).symm).symm) (congrArg (fun t => t.2.1) (hex _ (Option.some.inj hf).symm).symm) (congrArg (fun t => t.2.2) (hex _ (Option.some.inj hf).symm).symm) _ _ _ hP hS (lv_sub hl [] rfl)
      · have hf := ite_f hf c_6
        refine lv_aload_n hx hb dX3_append_22 rfl (lv_at hl 0 rfl) ?_
        refine va_get (D := g.1) (ci := 3) (v := .ref t_tape_q) (C := RX3) (T := TX3) (N := 12) hx hb hts inX3 hown hK hP 0 rfl rfl 6 (by decide) k34 (fun _ h9 => h9) rfl dX3_append_23 ?_
        refine lv_aload_n hx hb dX3_append_26 rfl (lv_at hl 0 rfl) ?_
        refine va_get (D := g.1) (ci := 3) (v := .int t_length_3) (C := RX3) (T := TX3) (N := 12) hx hb hts inX3 hown hK hP 0 rfl rfl 2 (by decide) k27 (fun _ h9 => h9) rfl dX3_append_27 ?_
        refine lv_lload_n hx hb dX3_append_30 rfl (lv_at hl 1 rfl) ?_
        refine lv_iload_n hx hb dX3_append_31 rfl (lv_at hl 2 rfl) ?_
        refine lv_lushr hx hb dX3_append_32 rfl ?_
        refine lv_l2i hx hb dX3_append_33 rfl ?_
        refine lv_i2b hx hb dX3_append_34 rfl ?_
        obtain ⟨h_7, hf⟩ := gin_e hf
        obtain ⟨t_tape_8, et_tape_8, hf⟩ := bnd_e hf
        refine va_bast hx hb hK hP (hD.re rfl) hS 1 1 rfl rfl h_7 dX3_append_35 (fun H locs hP _ hS => ?_)
        have hP : va_P g.1 vwCl [oX3 t_q t_plan_q t_state_q t_length_3 t_fault t_faultPlace t_lines t_tape_q t_place t_kind t_start t_value t_told, aB g t_tape_q 320 t_tape_8] H := by rw [et_tape_8]; exact hP
        refine lv_aload_n hx hb dX3_append_36 rfl (lv_at hl 0 rfl) ?_
        refine lv_dup hx hb dX3_append_37 rfl ?_
        refine va_get (D := g.1) (ci := 3) (v := .int t_length_3) (C := RX3) (T := TX3) (N := 12) hx hb hts inX3 hown hK hP 0 rfl rfl 2 (by decide) k27 (fun _ h9 => h9) rfl dX3_append_38 ?_
        refine lv_iconst (v := (1 : Int32)) hx hb dX3_append_41 (by decide) ?_
        refine lv_iadd hx hb dX3_append_42 ?_
        obtain ⟨t_length_9, et_length_9, hf⟩ := bnd_e hf
        refine tp_i et_length_9 ?_
        refine va_put (D := g.1) (ci := 3) (v := .int t_length_9) (ty := .int) (C := RX3) (T := TX3) (N := 12) hx hb hts inX3 tyX3 tyX3_ok nmX3 hown hK hP (hD.re rfl) hS 0 rfl rfl 2 (by decide) k27 (fun _ h9 => h9) rfl (by decide +kernel) rfl rfl (Nat.le_of_ble_eq_true rfl) dX3_append_43 (fun H locs hP _ hS => ?_)
        have hP : va_P g.1 vwCl [oX3 t_q t_plan_q t_state_q t_length_9 t_fault t_faultPlace t_lines t_tape_q t_place t_kind t_start t_value t_told, aB g t_tape_q 320 t_tape_8] H := hP
        obtain ⟨v3_10, ev3_10, hf⟩ := bnd_e hf
        refine lv_iinc (v := v3_10) (lv' := [(3, .int v3_10), (0, .ref t_q), (1, .long p1)]) hx hb dX3_append_46 hl (k := 2) rfl (by rw [ev3_10]; rfl) (by decide) rfl (fun ls hl => ?_)
        refine lv_goto (tgt := 18) hx hb dX3_append_49 (by decide) ?_
        exact hrec v3_10 t_length_9 t_tape_8 (Option.some.inj hf).symm _ _ _ hP hS (lv_sub hl [1, 2, 0] rfl)
    exact L_5 FU (56 : Int32) t_length t_tape ho_5 _ _ _ hP hS (lv_sub hl [1, 2, 0] rfl)
  · have hf := ite_f hf c_1
    refine lv_iconst (v := (0 : Int32)) hx hb dX3_append_13 (by decide) ?_
    exact hret (0 : Int32) t_length t_tape (Option.some.inj hf) rfl _ _ _ _ hP hS dX3_append_14

def f_X3_fail (t_fault : Int32) (t_faultPlace : Int32) (p1 : Int32) (p2 : Int32) : Option (Int32 × Int32) :=
 (if t_fault = (0 : Int32) then
 (some (p1, p2))
 else (some (t_fault, t_faultPlace)))
abbrev rmX3_fail : Room := { frames := 0, cells := 0, slots := 0, locals := 0 }
set_option maxHeartbeats 4000000 in
set_option maxRecDepth 100000 in
theorem c_X3_fail (l : Launch) (g : Gh) (sz : Nat) (t_q t_plan_q t_state_q t_tape_q : Nat) (t_length : Int32) (t_fault : Int32) (t_faultPlace : Int32) (t_lines : Int32) (t_place : Int32) (t_kind : Int32) (t_start : Int32) (t_value : Int32) (t_told : Int32) (p1 : Int32) (p2 : Int32) (t_fault' : Int32) (t_faultPlace' : Int32) (hf : f_X3_fail t_fault t_faultPlace p1 p2 = some (t_fault', t_faultPlace')) : CV l yX3_fail wsX3_fail rmX3_fail [.ref t_q, .int p1, .int p2] g sz [oX3 t_q t_plan_q t_state_q t_length t_fault t_faultPlace t_lines t_tape_q t_place t_kind t_start t_value t_told] [oX3 t_q t_plan_q t_state_q t_length t_fault' t_faultPlace' t_lines t_tape_q t_place t_kind t_start t_value t_told] := by
  refine ent_v (cc := cX3_fail) (maxL := 3) (by decide) rfl (Nat.le_of_ble_eq_true rfl) ?_
  intro p e s m args below meth c A Q hx hb hml hown hts hK hz hk hA hD hP hS hret ls hl
  have hown : s.vm.findClass RX3 = some m.cls := hown
  have inX3 : ∀ w ∈ u_ws RX3 TX3 12, w ∈ wsX3_fail := by decide +kernel
  have k31 := hts (.fieldLink RX3 31 "ThreadMoved$Reader" "fault" "I") (by decide +kernel)
  have k63 := hts (.fieldLink RX3 63 "ThreadMoved$Reader" "faultPlace" "I") (by decide +kernel)
  have hl : lv_has ls 3 [(0, .ref t_q), (1, .int p1), (2, .int p2)] := hl
  have hret : ∀ (t_faultz : Int32) (t_faultPlacez : Int32), (t_faultz, t_faultPlacez) = (t_fault', t_faultPlace') → ∀ (H : Heap) (locs : List Loc) (pc : Nat) (ls : Array Slot), va_P g.1 vwCl [oX3 t_q t_plan_q t_state_q t_length t_faultz t_faultPlacez t_lines t_tape_q t_place t_kind t_start t_value t_told] H → va_S A s.heap H locs → decode cX3_fail pc = .ok (.return_, 1) → W p l e rmX3_fail s m args below meth c H locs 0 0 Q (F0 m pc ls []) := by
    intro t_faultz t_faultPlacez he H locs pc ls hP hS hd
    cases he
    exact hret H locs pc ls hP hS hd
  unfold f_X3_fail at hf
  refine lv_aload_n hx hb dX3_fail_0 rfl (lv_at hl 0 rfl) ?_
  refine va_get (D := g.1) (ci := 3) (v := .int t_fault) (C := RX3) (T := TX3) (N := 12) hx hb hts inX3 hown hK hP 0 rfl rfl 3 (by decide) k31 (fun _ h9 => h9) rfl dX3_fail_1 ?_
  refine lv_if_ne (tgt := 17) hx hb dX3_fail_4 (by decide) (fun c_1 => ?_) (fun c_1 => ?_)
  · have hf := ite_f hf c_1
    exact hret t_fault t_faultPlace (Option.some.inj hf) _ _ _ _ hP hS dX3_fail_17
  · have hf := ite_t hf c_1
    refine lv_aload_n hx hb dX3_fail_7 rfl (lv_at hl 0 rfl) ?_
    refine lv_iload_n hx hb dX3_fail_8 rfl (lv_at hl 1 rfl) ?_
    refine va_put (D := g.1) (ci := 3) (v := .int p1) (ty := .int) (C := RX3) (T := TX3) (N := 12) hx hb hts inX3 tyX3 tyX3_ok nmX3 hown hK hP (hD.re rfl) hS 0 rfl rfl 3 (by decide) k31 (fun _ h9 => h9) rfl (by decide +kernel) rfl rfl (Nat.le_of_ble_eq_true rfl) dX3_fail_9 (fun H locs hP _ hS => ?_)
    have hP : va_P g.1 vwCl [oX3 t_q t_plan_q t_state_q t_length p1 t_faultPlace t_lines t_tape_q t_place t_kind t_start t_value t_told] H := hP
    refine lv_aload_n hx hb dX3_fail_12 rfl (lv_at hl 0 rfl) ?_
    refine lv_iload_n hx hb dX3_fail_13 rfl (lv_at hl 2 rfl) ?_
    refine va_put (D := g.1) (ci := 3) (v := .int p2) (ty := .int) (C := RX3) (T := TX3) (N := 12) hx hb hts inX3 tyX3 tyX3_ok nmX3 hown hK hP (hD.re rfl) hS 0 rfl rfl 4 (by decide) k63 (fun _ h9 => h9) rfl (by decide +kernel) rfl rfl (Nat.le_of_ble_eq_true rfl) dX3_fail_14 (fun H locs hP _ hS => ?_)
    have hP : va_P g.1 vwCl [oX3 t_q t_plan_q t_state_q t_length p1 p2 t_lines t_tape_q t_place t_kind t_start t_value t_told] H := hP
    exact hret p1 p2 (Option.some.inj hf) _ _ _ _ hP hS dX3_fail_17
