def f_X6_passTime (t_barred : Int32) (t_period : Int32) (t_step : Int32) (t_plan_rooms : Int32) (t_plan_ruleCount : Int32) (t_plan_rules : Nat → Int32) (t_secondEnds : Nat → Int32) : Option (Int32 × Int32 × (Nat → Int32)) :=
 (bnd (t_step + (1 : Int32)) (fun t_step_1 =>
 (ob1 (f_X7_modulo t_step_1 t_period) (fun r_2 =>
 (if r_2 = (0 : Int32) then
 (ob2 (f_X6_applyRules t_barred t_plan_rooms t_plan_ruleCount t_plan_rules t_secondEnds) (fun t_barred_5 t_secondEnds_6 =>
 (some (t_barred_5, t_step_1, t_secondEnds_6))))
 else (some (t_barred, t_step_1, t_secondEnds)))))))
abbrev rmX6_passTime : Room := { frames := 3, cells := 0, slots := 0, locals := 66 }
set_option maxHeartbeats 4000000 in
set_option maxRecDepth 100000 in
theorem c_X6_passTime (l : Launch) (g : Gh) (sz : Nat) (t_q t_plan_q t_secondEnds_q t_string_q t_plan_firstEnds_q t_plan_rules_q : Nat) (t_barred : Int32) (t_period : Int32) (t_his : Int32) (t_beast : Int32) (t_habit : Int32) (t_onString : Int32) (t_step : Int32) (t_eaten : Int32) (t_plan_rooms : Int32) (t_plan_doorCount : Int32) (t_plan_ruleCount : Int32) (t_plan_stringLength : Int32) (t_plan_rules : Nat → Int32) (t_secondEnds : Nat → Int32) (t_barred' : Int32) (t_step' : Int32) (t_secondEnds' : Nat → Int32) (hf : f_X6_passTime t_barred t_period t_step t_plan_rooms t_plan_ruleCount t_plan_rules t_secondEnds = some (t_barred', t_step', t_secondEnds')) : CV l yX6_passTime wsX6_passTime rmX6_passTime [.ref t_q] g sz [oX6 t_q t_plan_q t_secondEnds_q t_string_q t_barred t_period t_his t_beast t_habit t_onString t_step t_eaten, oX2 t_plan_q t_plan_firstEnds_q t_plan_rules_q t_plan_rooms t_plan_doorCount t_plan_ruleCount t_plan_stringLength, aI g t_plan_rules_q 6 t_plan_rules, aI g t_secondEnds_q 10 t_secondEnds] [oX6 t_q t_plan_q t_secondEnds_q t_string_q t_barred' t_period t_his t_beast t_habit t_onString t_step' t_eaten, oX2 t_plan_q t_plan_firstEnds_q t_plan_rules_q t_plan_rooms t_plan_doorCount t_plan_ruleCount t_plan_stringLength, aI g t_plan_rules_q 6 t_plan_rules, aI g t_secondEnds_q 10 t_secondEnds'] := by
  refine ent_v (cc := cX6_passTime) (maxL := 1) (by decide) rfl (Nat.le_of_ble_eq_true rfl) ?_
  intro p e s m args below meth c A Q hx hb hml hown hts hK hz hk hA hD hP hS hret ls hl
  have hown : s.vm.findClass RX6 = some m.cls := hown
  have inX6 : ∀ w ∈ u_ws RX6 TX6 11, w ∈ wsX6_passTime := by decide +kernel
  have k29 := hts (.fieldLink RX6 29 "ThreadMoved$State" "period" "I") (by decide +kernel)
  have k44 := hts (.fieldLink RX6 44 "ThreadMoved$State" "step" "I") (by decide +kernel)
  have hl : lv_has ls 1 [(0, .ref t_q)] := hl
  have hret : ∀ (t_barredz : Int32) (t_stepz : Int32) (t_secondEndsz : Nat → Int32), (t_barredz, t_stepz, t_secondEndsz) = (t_barred', t_step', t_secondEnds') → ∀ (H : Heap) (locs : List Loc) (pc : Nat) (ls : Array Slot), va_P g.1 vwCl [oX6 t_q t_plan_q t_secondEnds_q t_string_q t_barredz t_period t_his t_beast t_habit t_onString t_stepz t_eaten, oX2 t_plan_q t_plan_firstEnds_q t_plan_rules_q t_plan_rooms t_plan_doorCount t_plan_ruleCount t_plan_stringLength, aI g t_plan_rules_q 6 t_plan_rules, aI g t_secondEnds_q 10 t_secondEndsz] H → va_S A s.heap H locs → decode cX6_passTime pc = .ok (.return_, 1) → W p l e rmX6_passTime s m args below meth c H locs 0 0 Q (F0 m pc ls []) := by
    intro t_barredz t_stepz t_secondEndsz he H locs pc ls hP hS hd
    cases he
    exact hret H locs pc ls hP hS hd
  unfold f_X6_passTime at hf
  refine lv_aload_n hx hb dX6_passTime_0 rfl (lv_at hl 0 rfl) ?_
  refine lv_dup hx hb dX6_passTime_1 rfl ?_
  refine va_get (D := g.1) (ci := 6) (v := .int t_step) (C := RX6) (T := TX6) (N := 11) hx hb hts inX6 hown hK hP 0 rfl rfl 9 (by decide) k44 (fun _ h9 => h9) rfl dX6_passTime_2 ?_
  refine lv_iconst (v := (1 : Int32)) hx hb dX6_passTime_5 (by decide) ?_
  refine lv_iadd hx hb dX6_passTime_6 ?_
  obtain ⟨t_step_1, et_step_1, hf⟩ := bnd_e hf
  refine tp_i et_step_1 ?_
  refine va_put (D := g.1) (ci := 6) (v := .int t_step_1) (ty := .int) (C := RX6) (T := TX6) (N := 11) hx hb hts inX6 tyX6 tyX6_ok nmX6 hown hK hP (hD.re rfl) hS 0 rfl rfl 9 (by decide) k44 (fun _ h9 => h9) rfl (by decide +kernel) rfl rfl (Nat.le_of_ble_eq_true rfl) dX6_passTime_7 (fun H locs hP _ hS => ?_)
  have hP : va_P g.1 vwCl [oX6 t_q t_plan_q t_secondEnds_q t_string_q t_barred t_period t_his t_beast t_habit t_onString t_step_1 t_eaten, oX2 t_plan_q t_plan_firstEnds_q t_plan_rules_q t_plan_rooms t_plan_doorCount t_plan_ruleCount t_plan_stringLength, aI g t_plan_rules_q 6 t_plan_rules, aI g t_secondEnds_q 10 t_secondEnds] H := hP
  refine lv_aload_n hx hb dX6_passTime_10 rfl (lv_at hl 0 rfl) ?_
  refine va_get (D := g.1) (ci := 6) (v := .int t_step_1) (C := RX6) (T := TX6) (N := 11) hx hb hts inX6 hown hK hP 0 rfl rfl 9 (by decide) k44 (fun _ h9 => h9) rfl dX6_passTime_11 ?_
  refine lv_aload_n hx hb dX6_passTime_14 rfl (lv_at hl 0 rfl) ?_
  refine va_get (D := g.1) (ci := 6) (v := .int t_period) (C := RX6) (T := TX6) (N := 11) hx hb hts inX6 hown hK hP 0 rfl rfl 4 (by decide) k29 (fun _ h9 => h9) rfl dX6_passTime_15 ?_
  obtain ⟨r_2, hc_3, hf⟩ := ob1_e hf
  refine kSN_i (wn := [oX6 t_q t_plan_q t_secondEnds_q t_string_q t_barred t_period t_his t_beast t_habit t_onString t_step_1 t_eaten, oX2 t_plan_q t_plan_firstEnds_q t_plan_rules_q t_plan_rooms t_plan_doorCount t_plan_ruleCount t_plan_stringLength, aI g t_plan_rules_q 6 t_plan_rules, aI g t_secondEnds_q 10 t_secondEnds]) (As := [.int t_step_1, .int t_period]) (rest := []) (c_X7_modulo l g _ t_step_1 t_period r_2 hc_3) ⟨hx, hb, hml, hown, hts⟩ ⟨va_cnB 2 hts gX6_passTime_X7_modulo_n94 rfl rfl rfl (hz.1 (RX6, 94, yX7_modulo, RX7) (by decide +kernel)) (hts (.initialized RX7) (by decide +kernel)) (by decide +kernel) ⟨by decide, by decide⟩, hts (.static yX7_modulo) (by decide +kernel), trivial⟩ hK hz hk hP (hD.re rfl) hS hA [] rfl rfl rfl rfl rfl hl.1 rfl (Nat.le_of_ble_eq_true rfl) dX6_passTime_18 (fun H locs hP hS => ?_)
  refine lv_if_ne (tgt := 28) hx hb dX6_passTime_21 (by decide) (fun c_4 => ?_) (fun c_4 => ?_)
  · have hf := ite_f hf c_4
    exact hret t_barred t_step_1 t_secondEnds (Option.some.inj hf) _ _ _ _ hP hS dX6_passTime_28
  · have hf := ite_t hf c_4
    refine lv_aload_n hx hb dX6_passTime_24 rfl (lv_at hl 0 rfl) ?_
    obtain ⟨t_barred_5, t_secondEnds_6, hc_7, hf⟩ := ob2_e hf
    refine kV_v (wn := [oX6 t_q t_plan_q t_secondEnds_q t_string_q t_barred_5 t_period t_his t_beast t_habit t_onString t_step_1 t_eaten, oX2 t_plan_q t_plan_firstEnds_q t_plan_rules_q t_plan_rooms t_plan_doorCount t_plan_ruleCount t_plan_stringLength, aI g t_plan_rules_q 6 t_plan_rules, aI g t_secondEnds_q 10 t_secondEnds_6]) (As := []) (rest := []) (c_X6_applyRules l g _ t_q t_plan_q t_secondEnds_q t_string_q t_plan_firstEnds_q t_plan_rules_q t_barred t_period t_his t_beast t_habit t_onString t_step_1 t_eaten t_plan_rooms t_plan_doorCount t_plan_ruleCount t_plan_stringLength t_plan_rules t_secondEnds t_barred_5 t_secondEnds_6 hc_7) ⟨hx, hb, hml, hown, hts⟩ (cwV 0 hts gX6_passTime_X6_applyRules rfl rfl rfl (by decide +kernel) ⟨by decide, by decide⟩) hK hz hk hP (hD.re rfl) hS hA [0, 1, 2, 3] rfl rfl rfl rfl rfl rfl rfl hl.1 rfl (Nat.le_of_ble_eq_true rfl) dX6_passTime_25 (fun H locs hP hS => ?_)
    exact hret t_barred_5 t_step_1 t_secondEnds_6 (Option.some.inj hf) _ _ _ _ hP hS dX6_passTime_28

def f_J6_bitCount_0f7a4 (p0 : Int32) : Option (Int32) :=
 (bnd (p0 - (((p0.toUInt32 >>> ((1 : Int32).toUInt32 &&& Int32.toUInt32 31)).toInt32) &&& (1431655765 : Int32))) (fun v0_1 =>
 (bnd ((v0_1 &&& (858993459 : Int32)) + (((v0_1.toUInt32 >>> ((2 : Int32).toUInt32 &&& Int32.toUInt32 31)).toInt32) &&& (858993459 : Int32))) (fun v0_2 =>
 (bnd ((v0_2 + ((v0_2.toUInt32 >>> ((4 : Int32).toUInt32 &&& Int32.toUInt32 31)).toInt32)) &&& (252645135 : Int32)) (fun v0_3 =>
 (bnd (v0_3 + ((v0_3.toUInt32 >>> ((8 : Int32).toUInt32 &&& Int32.toUInt32 31)).toInt32)) (fun v0_4 =>
 (bnd (v0_4 + ((v0_4.toUInt32 >>> ((16 : Int32).toUInt32 &&& Int32.toUInt32 31)).toInt32)) (fun v0_5 =>
 (some (v0_5 &&& (63 : Int32)))))))))))))
abbrev rmJ6_bitCount_0f7a4 : Room := { frames := 0, cells := 0, slots := 0, locals := 0 }
set_option maxHeartbeats 4000000 in
set_option maxRecDepth 100000 in
theorem c_J6_bitCount_0f7a4 (l : Launch) (g : Gh) (sz : Nat) (p0 : Int32) (rr : Int32) (hf : f_J6_bitCount_0f7a4 p0 = some rr) : CI l yJ6_bitCount_0f7a4 wsJ6_bitCount_0f7a4 rmJ6_bitCount_0f7a4 [.int p0] g sz [] [] rr := by
  refine ent_i (cc := cJ6_bitCount_0f7a4) (maxL := 1) (by decide) rfl (Nat.le_of_ble_eq_true rfl) ?_
  intro p e s m args below meth c A Q hx hb hml hown hts hK hz hk hA hD hP hS hret ls hl
  have hown : s.vm.findClass RJ6 = some m.cls := hown
  have q265 := hts (.constant RJ6 265 (1431655765)) (by decide +kernel)
  have q266 := hts (.constant RJ6 266 (858993459)) (by decide +kernel)
  have q267 := hts (.constant RJ6 267 (252645135)) (by decide +kernel)
  have hl : lv_has ls 1 [(0, .int p0)] := hl
  have hret : ∀ (rrz : Int32), rrz = rr → ∀ (H : Heap) (locs : List Loc) (pc : Nat) (ls : Array Slot), va_P g.1 vwCl [] H → va_S A s.heap H locs → decode cJ6_bitCount_0f7a4 pc = .ok (.ireturn, 1) → W p l e rmJ6_bitCount_0f7a4 s m args below meth c H locs 0 0 Q (F0 m pc ls [.int rrz]) := by
    intro rrz he H locs pc ls hP hS hd
    cases he
    exact hret H locs pc ls hP hS hd
  unfold f_J6_bitCount_0f7a4 at hf
  refine lv_iload_n hx hb dJ6_bitCount_0f7a4_0 rfl (lv_at hl 0 rfl) ?_
  refine lv_iload_n hx hb dJ6_bitCount_0f7a4_1 rfl (lv_at hl 0 rfl) ?_
  refine lv_iconst (v := (1 : Int32)) hx hb dJ6_bitCount_0f7a4_2 (by decide) ?_
  refine lv_iushr hx hb dJ6_bitCount_0f7a4_3 rfl ?_
  refine lv_ldcw hx hb hown q265 dJ6_bitCount_0f7a4_4 ?_
  refine lv_iand hx hb dJ6_bitCount_0f7a4_7 ?_
  refine lv_isub hx hb dJ6_bitCount_0f7a4_8 ?_
  obtain ⟨v0_1, ev0_1, hf⟩ := bnd_e hf
  refine tp_i ev0_1 ?_
  refine lv_istore_n (lv' := [(0, .int v0_1)]) hx hb dJ6_bitCount_0f7a4_9 rfl hl (by decide) rfl (fun ls hl => ?_)
  refine lv_iload_n hx hb dJ6_bitCount_0f7a4_10 rfl (lv_at hl 0 rfl) ?_
  refine lv_ldcw hx hb hown q266 dJ6_bitCount_0f7a4_11 ?_
  refine lv_iand hx hb dJ6_bitCount_0f7a4_14 ?_
  refine lv_iload_n hx hb dJ6_bitCount_0f7a4_15 rfl (lv_at hl 0 rfl) ?_
  refine lv_iconst (v := (2 : Int32)) hx hb dJ6_bitCount_0f7a4_16 (by decide) ?_
  refine lv_iushr hx hb dJ6_bitCount_0f7a4_17 rfl ?_
  refine lv_ldcw hx hb hown q266 dJ6_bitCount_0f7a4_18 ?_
  refine lv_iand hx hb dJ6_bitCount_0f7a4_21 ?_
  refine lv_iadd hx hb dJ6_bitCount_0f7a4_22 ?_
  obtain ⟨v0_2, ev0_2, hf⟩ := bnd_e hf
  refine tp_i ev0_2 ?_
  refine lv_istore_n (lv' := [(0, .int v0_2)]) hx hb dJ6_bitCount_0f7a4_23 rfl hl (by decide) rfl (fun ls hl => ?_)
  refine lv_iload_n hx hb dJ6_bitCount_0f7a4_24 rfl (lv_at hl 0 rfl) ?_
  refine lv_iload_n hx hb dJ6_bitCount_0f7a4_25 rfl (lv_at hl 0 rfl) ?_
  refine lv_iconst (v := (4 : Int32)) hx hb dJ6_bitCount_0f7a4_26 (by decide) ?_
  refine lv_iushr hx hb dJ6_bitCount_0f7a4_27 rfl ?_
  refine lv_iadd hx hb dJ6_bitCount_0f7a4_28 ?_
  refine lv_ldcw hx hb hown q267 dJ6_bitCount_0f7a4_29 ?_
  refine lv_iand hx hb dJ6_bitCount_0f7a4_32 ?_
  obtain ⟨v0_3, ev0_3, hf⟩ := bnd_e hf
  refine tp_i ev0_3 ?_
  refine lv_istore_n (lv' := [(0, .int v0_3)]) hx hb dJ6_bitCount_0f7a4_33 rfl hl (by decide) rfl (fun ls hl => ?_)
  refine lv_iload_n hx hb dJ6_bitCount_0f7a4_34 rfl (lv_at hl 0 rfl) ?_
  refine lv_iload_n hx hb dJ6_bitCount_0f7a4_35 rfl (lv_at hl 0 rfl) ?_
  refine lv_bipush (v := (8 : Int32)) hx hb dJ6_bitCount_0f7a4_36 (by decide) ?_
  refine lv_iushr hx hb dJ6_bitCount_0f7a4_38 rfl ?_
  refine lv_iadd hx hb dJ6_bitCount_0f7a4_39 ?_
  obtain ⟨v0_4, ev0_4, hf⟩ := bnd_e hf
  refine tp_i ev0_4 ?_
  refine lv_istore_n (lv' := [(0, .int v0_4)]) hx hb dJ6_bitCount_0f7a4_40 rfl hl (by decide) rfl (fun ls hl => ?_)
  refine lv_iload_n hx hb dJ6_bitCount_0f7a4_41 rfl (lv_at hl 0 rfl) ?_
  refine lv_iload_n hx hb dJ6_bitCount_0f7a4_42 rfl (lv_at hl 0 rfl) ?_
  refine lv_bipush (v := (16 : Int32)) hx hb dJ6_bitCount_0f7a4_43 (by decide) ?_
  refine lv_iushr hx hb dJ6_bitCount_0f7a4_45 rfl ?_
  refine lv_iadd hx hb dJ6_bitCount_0f7a4_46 ?_
  obtain ⟨v0_5, ev0_5, hf⟩ := bnd_e hf
  refine tp_i ev0_5 ?_
  refine lv_istore_n (lv' := [(0, .int v0_5)]) hx hb dJ6_bitCount_0f7a4_47 rfl hl (by decide) rfl (fun ls hl => ?_)
  refine lv_iload_n hx hb dJ6_bitCount_0f7a4_48 rfl (lv_at hl 0 rfl) ?_
  refine lv_bipush (v := (63 : Int32)) hx hb dJ6_bitCount_0f7a4_49 (by decide) ?_
  refine lv_iand hx hb dJ6_bitCount_0f7a4_51 ?_
  exact hret (v0_5 &&& (63 : Int32)) (Option.some.inj hf) _ _ _ _ hP hS dJ6_bitCount_0f7a4_52

def b_X7_doorAt_4 (p0 : Int32) (v2_1 : Int32) (v3_2 : Int32) : Option ((Int32 × Int32) ⊕ ((Int32) ⊕ (Int32 × Int32))) :=
 (if (10 : Int32) ≤ v3_2 then
 (some (.inr (.inr (v2_1, v3_2))))
 else (jn1 (fun (v2_5 : Int32) => (bnd (v3_2 + (1 : Int32)) (fun v3_7 =>
 (some (.inl (v2_5, v3_7)))))) (fun j_6 =>
 (if ((p0 >>> (v3_2 &&& 31)) &&& (1 : Int32)) = (0 : Int32) then
 (j_6 v2_1)
 else (if v2_1 = (0 : Int32) then
 (some (.inr (.inl v3_2)))
 else (bnd (v2_1 + (-1 : Int32)) (fun v2_10 =>
 (j_6 v2_10))))))))
def f_X7_doorAt (p0 : Int32) (p1 : Int32) : Option (Int32) :=
 (obm2 (itr (un2 (b_X7_doorAt_4 p0)) FU (p1, (0 : Int32))) (fun x2_11 x3_12 =>
 (some (10 : Int32))))
abbrev rmX7_doorAt : Room := { frames := 0, cells := 0, slots := 0, locals := 0 }
set_option maxHeartbeats 4000000 in
set_option maxRecDepth 100000 in
theorem c_X7_doorAt (l : Launch) (g : Gh) (sz : Nat) (p0 : Int32) (p1 : Int32) (rr : Int32) (hf : f_X7_doorAt p0 p1 = some rr) : CI l yX7_doorAt wsX7_doorAt rmX7_doorAt [.int p0, .int p1] g sz [] [] rr := by
  refine ent_i (cc := cX7_doorAt) (maxL := 4) (by decide) rfl (Nat.le_of_ble_eq_true rfl) ?_
  intro p e s m args below meth c A Q hx hb hml hown hts hK hz hk hA hD hP hS hret ls hl
  have hown : s.vm.findClass RX7 = some m.cls := hown
  have hl : lv_has ls 4 [(0, .int p0), (1, .int p1)] := hl
  have hret : ∀ (rrz : Int32), rrz = rr → ∀ (H : Heap) (locs : List Loc) (pc : Nat) (ls : Array Slot), va_P g.1 vwCl [] H → va_S A s.heap H locs → decode cX7_doorAt pc = .ok (.ireturn, 1) → W p l e rmX7_doorAt s m args below meth c H locs 0 0 Q (F0 m pc ls [.int rrz]) := by
    intro rrz he H locs pc ls hP hS hd
    cases he
    exact hret H locs pc ls hP hS hd
  unfold f_X7_doorAt at hf
  refine lv_iload_n hx hb dX7_doorAt_0 rfl (lv_at hl 1 rfl) ?_
  refine lv_istore_n (lv' := [(2, .int p1), (0, .int p0), (1, .int p1)]) hx hb dX7_doorAt_1 rfl hl (by decide) rfl (fun ls hl => ?_)
  refine lv_iconst (v := (0 : Int32)) hx hb dX7_doorAt_2 (by decide) ?_
  refine lv_istore_n (lv' := [(3, .int (0 : Int32)), (2, .int p1), (0, .int p0), (1, .int p1)]) hx hb dX7_doorAt_3 rfl hl (by decide) rfl (fun ls hl => ?_)
  obtain ⟨z0_3, ho_3, hkr_3, hke_3⟩ := obm2_e hf
  have K_3 : ∀ (x2_11 : Int32) (x3_12 : Int32), z0_3 = .inr (x2_11, x3_12) → ∀ (H : Heap) (locs : List Loc) (ls : Array Slot), va_P g.1 vwCl [] H → va_S A s.heap H locs → lv_has ls 4 [] → W p l e rmX7_doorAt s m args below meth c H locs 0 0 Q (F0 m 33 ls []) := by
    intro x2_11 x3_12 hz9 H locs ls hP hS hl
    have hf := hke_3 x2_11 x3_12 hz9
    refine lv_bipush (v := (10 : Int32)) hx hb dX7_doorAt_33 (by decide) ?_
    exact hret (10 : Int32) (Option.some.inj hf) _ _ _ _ hP hS dX7_doorAt_35
  have L_3 : ∀ (n : Nat) (v2_1 : Int32) (v3_2 : Int32), itr (un2 (b_X7_doorAt_4 p0)) n (v2_1, v3_2) = some z0_3 → ∀ (H : Heap) (locs : List Loc) (ls : Array Slot), va_P g.1 vwCl [] H → va_S A s.heap H locs → lv_has ls 4 [(0, .int p0), (2, .int v2_1), (3, .int v3_2)] → W p l e rmX7_doorAt s m args below meth c H locs 0 0 Q (F0 m 4 ls []) := by
    refine itr_ind2 ?_
    intro v2_1 v3_2 z_3 hf hrec hex H locs ls hP hS hl
    unfold b_X7_doorAt_4 at hf
    refine lv_iload_n hx hb dX7_doorAt_4 rfl (lv_at hl 2 rfl) ?_
    refine lv_bipush (v := (10 : Int32)) hx hb dX7_doorAt_5 (by decide) ?_
    refine lv_icmp_ge (tgt := 33) hx hb dX7_doorAt_7 (by decide) (fun c_4 => ?_) (fun c_4 => ?_)
    · have hf := ite_t hf c_4
      exact K_3 v2_1 v3_2 (hex _ (Option.some.inj hf).symm).symm _ _ _ hP hS (lv_sub hl [] rfl)
    · have hf := ite_f hf c_4
      refine lv_iload_n hx hb dX7_doorAt_10 rfl (lv_at hl 0 rfl) ?_
      refine lv_iload_n hx hb dX7_doorAt_11 rfl (lv_at hl 2 rfl) ?_
      refine lv_ishr hx hb dX7_doorAt_12 ?_
      refine lv_iconst (v := (1 : Int32)) hx hb dX7_doorAt_13 (by decide) ?_
      refine lv_iand hx hb dX7_doorAt_14 ?_
      obtain ⟨j_6, hj_6, hf⟩ := jn1_e hf
      have J_6 : ∀ (v2_5 : Int32), j_6 v2_5 = some z_3 → ∀ (H : Heap) (locs : List Loc) (ls : Array Slot), va_P g.1 vwCl [] H → va_S A s.heap H locs → lv_has ls 4 [(0, .int p0), (2, .int v2_5), (3, .int v3_2)] → W p l e rmX7_doorAt s m args below meth c H locs 0 0 Q (F0 m 27 ls []) := by
        intro v2_5 hf H locs ls hP hS hl
        rw [hj_6] at hf
        obtain ⟨v3_7, ev3_7, hf⟩ := bnd_e hf
        refine lv_iinc (v := v3_7) (lv' := [(3, .int v3_7), (0, .int p0), (2, .int v2_5)]) hx hb dX7_doorAt_27 hl (k := 2) rfl (by rw [ev3_7]; rfl) (by decide) rfl (fun ls hl => ?_)
        refine lv_goto (tgt := 4) hx hb dX7_doorAt_30 (by decide) ?_
        exact hrec v2_5 v3_7 (Option.some.inj hf).symm _ _ _ hP hS (lv_sub hl [1, 2, 0] rfl)
      refine lv_if_eq (tgt := 27) hx hb dX7_doorAt_15 (by decide) (fun c_8 => ?_) (fun c_8 => ?_)
      · have hf := ite_t hf c_8
        exact J_6 v2_1 hf _ _ _ hP hS (lv_sub hl [0, 1, 2] rfl)
      · have hf := ite_f hf c_8
        refine lv_iload_n hx hb dX7_doorAt_18 rfl (lv_at hl 1 rfl) ?_
        refine lv_if_ne (tgt := 24) hx hb dX7_doorAt_19 (by decide) (fun c_9 => ?_) (fun c_9 => ?_)
        · have hf := ite_f hf c_9
          obtain ⟨v2_10, ev2_10, hf⟩ := bnd_e hf
          refine lv_iinc (v := v2_10) (lv' := [(2, .int v2_10), (0, .int p0), (3, .int v3_2)]) hx hb dX7_doorAt_24 hl (k := 1) rfl (by rw [ev2_10]; rfl) (by decide) rfl (fun ls hl => ?_)
          exact J_6 v2_10 hf _ _ _ hP hS (lv_sub hl [1, 0, 2] rfl)
        · have hf := ite_t hf c_9
          refine lv_iload_n hx hb dX7_doorAt_22 rfl (lv_at hl 2 rfl) ?_
          exact hret v3_2 (hkr_3 _ (hex _ (Option.some.inj hf).symm).symm) _ _ _ _ hP hS dX7_doorAt_23
  exact L_3 FU p1 (0 : Int32) ho_3 _ _ _ hP hS (lv_sub hl [2, 1, 0] rfl)

def f_X6_pickDoor (t_barred : Int32) (t_his : Int32) (t_plan_doorCount : Int32) (t_plan_firstEnds : Nat → Int32) (t_secondEnds : Nat → Int32) (p1 : Int32) : Option (Int32) :=
 (ob1 (f_X6_openFrom t_barred t_plan_doorCount t_plan_firstEnds t_secondEnds t_his) (fun r_1 =>
 (ob1 (f_J6_bitCount_0f7a4 r_1) (fun r_3 =>
 (ob1 (f_X7_modulo p1 (r_3 + (1 : Int32))) (fun r_5 =>
 (ob1 (f_X7_doorAt r_1 r_5) (fun r_7 =>
 (some r_7)))))))))
abbrev rmX6_pickDoor : Room := { frames := 3, cells := 0, slots := 0, locals := 66 }
set_option maxHeartbeats 4000000 in
set_option maxRecDepth 100000 in
theorem c_X6_pickDoor (l : Launch) (g : Gh) (sz : Nat) (t_q t_plan_q t_secondEnds_q t_string_q t_plan_firstEnds_q t_plan_rules_q : Nat) (t_barred : Int32) (t_period : Int32) (t_his : Int32) (t_beast : Int32) (t_habit : Int32) (t_onString : Int32) (t_step : Int32) (t_eaten : Int32) (t_plan_rooms : Int32) (t_plan_doorCount : Int32) (t_plan_ruleCount : Int32) (t_plan_stringLength : Int32) (t_plan_firstEnds : Nat → Int32) (t_secondEnds : Nat → Int32) (p1 : Int32) (rr : Int32) (hf : f_X6_pickDoor t_barred t_his t_plan_doorCount t_plan_firstEnds t_secondEnds p1 = some rr) : CI l yX6_pickDoor wsX6_pickDoor rmX6_pickDoor [.ref t_q, .int p1] g sz [oX6 t_q t_plan_q t_secondEnds_q t_string_q t_barred t_period t_his t_beast t_habit t_onString t_step t_eaten, oX2 t_plan_q t_plan_firstEnds_q t_plan_rules_q t_plan_rooms t_plan_doorCount t_plan_ruleCount t_plan_stringLength, aI g t_plan_firstEnds_q 10 t_plan_firstEnds, aI g t_secondEnds_q 10 t_secondEnds] [oX6 t_q t_plan_q t_secondEnds_q t_string_q t_barred t_period t_his t_beast t_habit t_onString t_step t_eaten, oX2 t_plan_q t_plan_firstEnds_q t_plan_rules_q t_plan_rooms t_plan_doorCount t_plan_ruleCount t_plan_stringLength, aI g t_plan_firstEnds_q 10 t_plan_firstEnds, aI g t_secondEnds_q 10 t_secondEnds] rr := by
  refine ent_i (cc := cX6_pickDoor) (maxL := 3) (by decide) rfl (Nat.le_of_ble_eq_true rfl) ?_
  intro p e s m args below meth c A Q hx hb hml hown hts hK hz hk hA hD hP hS hret ls hl
  have hown : s.vm.findClass RX6 = some m.cls := hown
  have inX6 : ∀ w ∈ u_ws RX6 TX6 11, w ∈ wsX6_pickDoor := by decide +kernel
  have k32 := hts (.fieldLink RX6 32 "ThreadMoved$State" "his" "I") (by decide +kernel)
  have hl : lv_has ls 3 [(0, .ref t_q), (1, .int p1)] := hl
  have hret : ∀ (rrz : Int32), rrz = rr → ∀ (H : Heap) (locs : List Loc) (pc : Nat) (ls : Array Slot), va_P g.1 vwCl [oX6 t_q t_plan_q t_secondEnds_q t_string_q t_barred t_period t_his t_beast t_habit t_onString t_step t_eaten, oX2 t_plan_q t_plan_firstEnds_q t_plan_rules_q t_plan_rooms t_plan_doorCount t_plan_ruleCount t_plan_stringLength, aI g t_plan_firstEnds_q 10 t_plan_firstEnds, aI g t_secondEnds_q 10 t_secondEnds] H → va_S A s.heap H locs → decode cX6_pickDoor pc = .ok (.ireturn, 1) → W p l e rmX6_pickDoor s m args below meth c H locs 0 0 Q (F0 m pc ls [.int rrz]) := by
    intro rrz he H locs pc ls hP hS hd
    cases he
    exact hret H locs pc ls hP hS hd
  unfold f_X6_pickDoor at hf
  refine lv_aload_n hx hb dX6_pickDoor_0 rfl (lv_at hl 0 rfl) ?_
  refine lv_aload_n hx hb dX6_pickDoor_1 rfl (lv_at hl 0 rfl) ?_
  refine va_get (D := g.1) (ci := 6) (v := .int t_his) (C := RX6) (T := TX6) (N := 11) hx hb hts inX6 hown hK hP 0 rfl rfl 5 (by decide) k32 (fun _ h9 => h9) rfl dX6_pickDoor_2 ?_
  obtain ⟨r_1, hc_2, hf⟩ := ob1_e hf
  refine kV_i (wn := [oX6 t_q t_plan_q t_secondEnds_q t_string_q t_barred t_period t_his t_beast t_habit t_onString t_step t_eaten, oX2 t_plan_q t_plan_firstEnds_q t_plan_rules_q t_plan_rooms t_plan_doorCount t_plan_ruleCount t_plan_stringLength, aI g t_plan_firstEnds_q 10 t_plan_firstEnds, aI g t_secondEnds_q 10 t_secondEnds]) (As := [.int t_his]) (rest := []) (c_X6_openFrom l g _ t_q t_plan_q t_secondEnds_q t_string_q t_plan_firstEnds_q t_plan_rules_q t_barred t_period t_his t_beast t_habit t_onString t_step t_eaten t_plan_rooms t_plan_doorCount t_plan_ruleCount t_plan_stringLength t_plan_firstEnds t_secondEnds t_his r_1 hc_2) ⟨hx, hb, hml, hown, hts⟩ (cwV 1 hts gX6_pickDoor_X6_openFrom rfl rfl rfl (by decide +kernel) ⟨by decide, by decide⟩) hK hz hk hP (hD.re rfl) hS hA [0, 1, 2, 3] rfl rfl rfl rfl rfl rfl rfl hl.1 rfl (Nat.le_of_ble_eq_true rfl) dX6_pickDoor_5 (fun H locs hP hS => ?_)
  refine lv_istore_n (lv' := [(2, .int r_1), (0, .ref t_q), (1, .int p1)]) hx hb dX6_pickDoor_8 rfl hl (by decide) rfl (fun ls hl => ?_)
  refine lv_iload_n hx hb dX6_pickDoor_9 rfl (lv_at hl 0 rfl) ?_
  refine lv_iload_n hx hb dX6_pickDoor_10 rfl (lv_at hl 2 rfl) ?_
  refine lv_iload_n hx hb dX6_pickDoor_11 rfl (lv_at hl 0 rfl) ?_
  obtain ⟨r_3, hc_4, hf⟩ := ob1_e hf
  refine kS_i (wn := [oX6 t_q t_plan_q t_secondEnds_q t_string_q t_barred t_period t_his t_beast t_habit t_onString t_step t_eaten, oX2 t_plan_q t_plan_firstEnds_q t_plan_rules_q t_plan_rooms t_plan_doorCount t_plan_ruleCount t_plan_stringLength, aI g t_plan_firstEnds_q 10 t_plan_firstEnds, aI g t_secondEnds_q 10 t_secondEnds]) (As := [.int r_1]) (rest := [.int p1, .int r_1]) (c_J6_bitCount_0f7a4 l g _ r_1 r_3 hc_4) ⟨hx, hb, hml, hown, hts⟩ (va_cwS 1 hts gX6_pickDoor_J6_bitCount_0f7a4 rfl rfl rfl (by decide +kernel) ⟨by decide, by decide⟩) hK hz hk hP (hD.re rfl) hS hA [] rfl rfl rfl rfl rfl hl.1 rfl (Nat.le_of_ble_eq_true rfl) dX6_pickDoor_12 (fun H locs hP hS => ?_)
  refine lv_iconst (v := (1 : Int32)) hx hb dX6_pickDoor_15 (by decide) ?_
  refine lv_iadd hx hb dX6_pickDoor_16 ?_
  obtain ⟨r_5, hc_6, hf⟩ := ob1_e hf
  refine kSN_i (wn := [oX6 t_q t_plan_q t_secondEnds_q t_string_q t_barred t_period t_his t_beast t_habit t_onString t_step t_eaten, oX2 t_plan_q t_plan_firstEnds_q t_plan_rules_q t_plan_rooms t_plan_doorCount t_plan_ruleCount t_plan_stringLength, aI g t_plan_firstEnds_q 10 t_plan_firstEnds, aI g t_secondEnds_q 10 t_secondEnds]) (As := [.int p1, .int (r_3 + (1 : Int32))]) (rest := [.int r_1]) (c_X7_modulo l g _ p1 (r_3 + (1 : Int32)) r_5 hc_6) ⟨hx, hb, hml, hown, hts⟩ ⟨va_cnB 2 hts gX6_pickDoor_X7_modulo_n94 rfl rfl rfl (hz.1 (RX6, 94, yX7_modulo, RX7) (by decide +kernel)) (hts (.initialized RX7) (by decide +kernel)) (by decide +kernel) ⟨by decide, by decide⟩, hts (.static yX7_modulo) (by decide +kernel), trivial⟩ hK hz hk hP (hD.re rfl) hS hA [] rfl rfl rfl rfl rfl hl.1 rfl (Nat.le_of_ble_eq_true rfl) dX6_pickDoor_17 (fun H locs hP hS => ?_)
  obtain ⟨r_7, hc_8, hf⟩ := ob1_e hf
  refine kSN_i (wn := [oX6 t_q t_plan_q t_secondEnds_q t_string_q t_barred t_period t_his t_beast t_habit t_onString t_step t_eaten, oX2 t_plan_q t_plan_firstEnds_q t_plan_rules_q t_plan_rooms t_plan_doorCount t_plan_ruleCount t_plan_stringLength, aI g t_plan_firstEnds_q 10 t_plan_firstEnds, aI g t_secondEnds_q 10 t_secondEnds]) (As := [.int r_1, .int r_5]) (rest := []) (c_X7_doorAt l g _ r_1 r_5 r_7 hc_8) ⟨hx, hb, hml, hown, hts⟩ ⟨va_cnB 2 hts gX6_pickDoor_X7_doorAt_n122 rfl rfl rfl (hz.1 (RX6, 122, yX7_doorAt, RX7) (by decide +kernel)) (hts (.initialized RX7) (by decide +kernel)) (by decide +kernel) ⟨by decide, by decide⟩, hts (.static yX7_doorAt) (by decide +kernel), trivial⟩ hK hz hk hP (hD.re rfl) hS hA [] rfl rfl rfl rfl rfl hl.1 rfl (Nat.le_of_ble_eq_true rfl) dX6_pickDoor_20 (fun H locs hP hS => ?_)
  exact hret r_7 (Option.some.inj hf) _ _ _ _ hP hS dX6_pickDoor_23

def f_X6_prowl (t_barred : Int32) (t_step : Int32) (t_plan_doorCount : Int32) (t_plan_firstEnds : Nat → Int32) (t_secondEnds : Nat → Int32) (p1 : Int32) (p2 : Int32) (p3 : Int32) : Option (Int32) :=
 (if p2 = (-4 : Int32) then
 (some p2)
 else (if p1 = (0 : Int32) then
 (some p2)
 else (if p1 = (2 : Int32) then
 (ob1 (f_X6_isDoorBetween t_barred t_plan_doorCount t_plan_firstEnds t_secondEnds p2 p3) (fun r_18 =>
 (if r_18 = (0 : Int32) then
 (some p2)
 else (some p3))))
 else (ob1 (f_X6_openFrom t_barred t_plan_doorCount t_plan_firstEnds t_secondEnds p2) (fun r_4 =>
 (if r_4 = (0 : Int32) then
 (some p2)
 else (jn1 (fun (s_7 : Int32) => (ob1 (f_X7_doorAt r_4 s_7) (fun r_9 =>
 (ob1 (f_X6_across t_barred t_plan_doorCount t_plan_firstEnds t_secondEnds r_9 p2) (fun r_11 =>
 (some r_11)))))) (fun j_8 =>
 (if p1 = (1 : Int32) then
 (j_8 (0 : Int32))
 else (ob1 (f_J6_bitCount_0f7a4 r_4) (fun r_14 =>
 (ob1 (f_X7_modulo t_step r_14) (fun r_16 =>
 (j_8 r_16))))))))))))))
abbrev rmX6_prowl : Room := { frames := 3, cells := 0, slots := 0, locals := 66 }
set_option maxHeartbeats 4000000 in
set_option maxRecDepth 100000 in
theorem c_X6_prowl (l : Launch) (g : Gh) (sz : Nat) (t_q t_plan_q t_secondEnds_q t_string_q t_plan_firstEnds_q t_plan_rules_q : Nat) (t_barred : Int32) (t_period : Int32) (t_his : Int32) (t_beast : Int32) (t_habit : Int32) (t_onString : Int32) (t_step : Int32) (t_eaten : Int32) (t_plan_rooms : Int32) (t_plan_doorCount : Int32) (t_plan_ruleCount : Int32) (t_plan_stringLength : Int32) (t_plan_firstEnds : Nat → Int32) (t_secondEnds : Nat → Int32) (p1 : Int32) (p2 : Int32) (p3 : Int32) (rr : Int32) (hf : f_X6_prowl t_barred t_step t_plan_doorCount t_plan_firstEnds t_secondEnds p1 p2 p3 = some rr) : CI l yX6_prowl wsX6_prowl rmX6_prowl [.ref t_q, .int p1, .int p2, .int p3] g sz [oX6 t_q t_plan_q t_secondEnds_q t_string_q t_barred t_period t_his t_beast t_habit t_onString t_step t_eaten, oX2 t_plan_q t_plan_firstEnds_q t_plan_rules_q t_plan_rooms t_plan_doorCount t_plan_ruleCount t_plan_stringLength, aI g t_plan_firstEnds_q 10 t_plan_firstEnds, aI g t_secondEnds_q 10 t_secondEnds] [oX6 t_q t_plan_q t_secondEnds_q t_string_q t_barred t_period t_his t_beast t_habit t_onString t_step t_eaten, oX2 t_plan_q t_plan_firstEnds_q t_plan_rules_q t_plan_rooms t_plan_doorCount t_plan_ruleCount t_plan_stringLength, aI g t_plan_firstEnds_q 10 t_plan_firstEnds, aI g t_secondEnds_q 10 t_secondEnds] rr := by
  refine ent_i (cc := cX6_prowl) (maxL := 6) (by decide) rfl (Nat.le_of_ble_eq_true rfl) ?_
  intro p e s m args below meth c A Q hx hb hml hown hts hK hz hk hA hD hP hS hret ls hl
  have hown : s.vm.findClass RX6 = some m.cls := hown
  have inX6 : ∀ w ∈ u_ws RX6 TX6 11, w ∈ wsX6_prowl := by decide +kernel
  have k44 := hts (.fieldLink RX6 44 "ThreadMoved$State" "step" "I") (by decide +kernel)
  have hl : lv_has ls 6 [(0, .ref t_q), (1, .int p1), (2, .int p2), (3, .int p3)] := hl
  have hret : ∀ (rrz : Int32), rrz = rr → ∀ (H : Heap) (locs : List Loc) (pc : Nat) (ls : Array Slot), va_P g.1 vwCl [oX6 t_q t_plan_q t_secondEnds_q t_string_q t_barred t_period t_his t_beast t_habit t_onString t_step t_eaten, oX2 t_plan_q t_plan_firstEnds_q t_plan_rules_q t_plan_rooms t_plan_doorCount t_plan_ruleCount t_plan_stringLength, aI g t_plan_firstEnds_q 10 t_plan_firstEnds, aI g t_secondEnds_q 10 t_secondEnds] H → va_S A s.heap H locs → decode cX6_prowl pc = .ok (.ireturn, 1) → W p l e rmX6_prowl s m args below meth c H locs 0 0 Q (F0 m pc ls [.int rrz]) := by
    intro rrz he H locs pc ls hP hS hd
    cases he
    exact hret H locs pc ls hP hS hd
  unfold f_X6_prowl at hf
  refine lv_iload_n hx hb dX6_prowl_0 rfl (lv_at hl 2 rfl) ?_
  refine lv_bipush (v := (-4 : Int32)) hx hb dX6_prowl_1 (by decide) ?_
  refine lv_icmp_eq (tgt := 10) hx hb dX6_prowl_3 (by decide) (fun c_1 => ?_) (fun c_1 => ?_)
  · have hf := ite_t hf c_1
    refine lv_iload_n hx hb dX6_prowl_10 rfl (lv_at hl 2 rfl) ?_
    exact hret p2 (Option.some.inj hf) _ _ _ _ hP hS dX6_prowl_11
  · have hf := ite_f hf c_1
    refine lv_iload_n hx hb dX6_prowl_6 rfl (lv_at hl 1 rfl) ?_
    refine lv_if_ne (tgt := 12) hx hb dX6_prowl_7 (by decide) (fun c_2 => ?_) (fun c_2 => ?_)
    · have hf := ite_f hf c_2
      refine lv_iload_n hx hb dX6_prowl_12 rfl (lv_at hl 1 rfl) ?_
      refine lv_iconst (v := (2 : Int32)) hx hb dX6_prowl_13 (by decide) ?_
      refine lv_icmp_ne (tgt := 32) hx hb dX6_prowl_14 (by decide) (fun c_3 => ?_) (fun c_3 => ?_)
      · have hf := ite_f hf c_3
        refine lv_aload_n hx hb dX6_prowl_32 rfl (lv_at hl 0 rfl) ?_
        refine lv_iload_n hx hb dX6_prowl_33 rfl (lv_at hl 2 rfl) ?_
        obtain ⟨r_4, hc_5, hf⟩ := ob1_e hf
        refine kV_i (wn := [oX6 t_q t_plan_q t_secondEnds_q t_string_q t_barred t_period t_his t_beast t_habit t_onString t_step t_eaten, oX2 t_plan_q t_plan_firstEnds_q t_plan_rules_q t_plan_rooms t_plan_doorCount t_plan_ruleCount t_plan_stringLength, aI g t_plan_firstEnds_q 10 t_plan_firstEnds, aI g t_secondEnds_q 10 t_secondEnds]) (As := [.int p2]) (rest := []) (c_X6_openFrom l g _ t_q t_plan_q t_secondEnds_q t_string_q t_plan_firstEnds_q t_plan_rules_q t_barred t_period t_his t_beast t_habit t_onString t_step t_eaten t_plan_rooms t_plan_doorCount t_plan_ruleCount t_plan_stringLength t_plan_firstEnds t_secondEnds p2 r_4 hc_5) ⟨hx, hb, hml, hown, hts⟩ (cwV 1 hts gX6_prowl_X6_openFrom rfl rfl rfl (by decide +kernel) ⟨by decide, by decide⟩) hK hz hk hP (hD.re rfl) hS hA [0, 1, 2, 3] rfl rfl rfl rfl rfl rfl rfl hl.1 rfl (Nat.le_of_ble_eq_true rfl) dX6_prowl_34 (fun H locs hP hS => ?_)
        refine lv_istore (lv' := [(4, .int r_4), (0, .ref t_q), (1, .int p1), (2, .int p2), (3, .int p3)]) hx hb dX6_prowl_37 hl (by decide) rfl (fun ls hl => ?_)
        refine lv_iload hx hb dX6_prowl_39 (lv_at hl 0 rfl) ?_
        refine lv_if_ne (tgt := 46) hx hb dX6_prowl_41 (by decide) (fun c_6 => ?_) (fun c_6 => ?_)
        · have hf := ite_f hf c_6
          refine lv_iload_n hx hb dX6_prowl_46 rfl (lv_at hl 2 rfl) ?_
          refine lv_iconst (v := (1 : Int32)) hx hb dX6_prowl_47 (by decide) ?_
          obtain ⟨j_8, hj_8, hf⟩ := jn1_e hf
          have J_8 : ∀ (s_7 : Int32), j_8 s_7 = some rr → ∀ (H : Heap) (locs : List Loc) (ls : Array Slot), va_P g.1 vwCl [oX6 t_q t_plan_q t_secondEnds_q t_string_q t_barred t_period t_his t_beast t_habit t_onString t_step t_eaten, oX2 t_plan_q t_plan_firstEnds_q t_plan_rules_q t_plan_rooms t_plan_doorCount t_plan_ruleCount t_plan_stringLength, aI g t_plan_firstEnds_q 10 t_plan_firstEnds, aI g t_secondEnds_q 10 t_secondEnds] H → va_S A s.heap H locs → lv_has ls 6 [(0, .ref t_q), (2, .int p2), (4, .int r_4)] → W p l e rmX6_prowl s m args below meth c H locs 0 0 Q (F0 m 67 ls [.int s_7]) := by
            intro s_7 hf H locs ls hP hS hl
            rw [hj_8] at hf
            refine lv_istore (lv' := [(5, .int s_7), (0, .ref t_q), (2, .int p2), (4, .int r_4)]) hx hb dX6_prowl_67 hl (by decide) rfl (fun ls hl => ?_)
            refine lv_aload_n hx hb dX6_prowl_69 rfl (lv_at hl 1 rfl) ?_
            refine lv_iload hx hb dX6_prowl_70 (lv_at hl 3 rfl) ?_
            refine lv_iload hx hb dX6_prowl_72 (lv_at hl 0 rfl) ?_
            obtain ⟨r_9, hc_10, hf⟩ := ob1_e hf
            refine kSN_i (wn := [oX6 t_q t_plan_q t_secondEnds_q t_string_q t_barred t_period t_his t_beast t_habit t_onString t_step t_eaten, oX2 t_plan_q t_plan_firstEnds_q t_plan_rules_q t_plan_rooms t_plan_doorCount t_plan_ruleCount t_plan_stringLength, aI g t_plan_firstEnds_q 10 t_plan_firstEnds, aI g t_secondEnds_q 10 t_secondEnds]) (As := [.int r_4, .int s_7]) (rest := [.ref t_q]) (c_X7_doorAt l g _ r_4 s_7 r_9 hc_10) ⟨hx, hb, hml, hown, hts⟩ ⟨va_cnB 2 hts gX6_prowl_X7_doorAt_n122 rfl rfl rfl (hz.1 (RX6, 122, yX7_doorAt, RX7) (by decide +kernel)) (hts (.initialized RX7) (by decide +kernel)) (by decide +kernel) ⟨by decide, by decide⟩, hts (.static yX7_doorAt) (by decide +kernel), trivial⟩ hK hz hk hP (hD.re rfl) hS hA [] rfl rfl rfl rfl rfl hl.1 rfl (Nat.le_of_ble_eq_true rfl) dX6_prowl_74 (fun H locs hP hS => ?_)
            refine lv_iload_n hx hb dX6_prowl_77 rfl (lv_at hl 2 rfl) ?_
            obtain ⟨r_11, hc_12, hf⟩ := ob1_e hf
            refine kV_i (wn := [oX6 t_q t_plan_q t_secondEnds_q t_string_q t_barred t_period t_his t_beast t_habit t_onString t_step t_eaten, oX2 t_plan_q t_plan_firstEnds_q t_plan_rules_q t_plan_rooms t_plan_doorCount t_plan_ruleCount t_plan_stringLength, aI g t_plan_firstEnds_q 10 t_plan_firstEnds, aI g t_secondEnds_q 10 t_secondEnds]) (As := [.int r_9, .int p2]) (rest := []) (c_X6_across l g _ t_q t_plan_q t_secondEnds_q t_string_q t_plan_firstEnds_q t_plan_rules_q t_barred t_period t_his t_beast t_habit t_onString t_step t_eaten t_plan_rooms t_plan_doorCount t_plan_ruleCount t_plan_stringLength t_plan_firstEnds t_secondEnds r_9 p2 r_11 hc_12) ⟨hx, hb, hml, hown, hts⟩ (cwV 2 hts gX6_prowl_X6_across rfl rfl rfl (by decide +kernel) ⟨by decide, by decide⟩) hK hz hk hP (hD.re rfl) hS hA [0, 1, 2, 3] rfl rfl rfl rfl rfl rfl rfl hl.1 rfl (Nat.le_of_ble_eq_true rfl) dX6_prowl_78 (fun H locs hP hS => ?_)
            exact hret r_11 (Option.some.inj hf) _ _ _ _ hP hS dX6_prowl_81
          refine lv_icmp_ne (tgt := 55) hx hb dX6_prowl_48 (by decide) (fun c_13 => ?_) (fun c_13 => ?_)
          · have hf := ite_f hf c_13
            refine lv_aload_n hx hb dX6_prowl_55 rfl (lv_at hl 1 rfl) ?_
            refine va_get (D := g.1) (ci := 6) (v := .int t_step) (C := RX6) (T := TX6) (N := 11) hx hb hts inX6 hown hK hP 0 rfl rfl 9 (by decide) k44 (fun _ h9 => h9) rfl dX6_prowl_56 ?_
            refine lv_iload hx hb dX6_prowl_59 (lv_at hl 0 rfl) ?_
            obtain ⟨r_14, hc_15, hf⟩ := ob1_e hf
            refine kS_i (wn := [oX6 t_q t_plan_q t_secondEnds_q t_string_q t_barred t_period t_his t_beast t_habit t_onString t_step t_eaten, oX2 t_plan_q t_plan_firstEnds_q t_plan_rules_q t_plan_rooms t_plan_doorCount t_plan_ruleCount t_plan_stringLength, aI g t_plan_firstEnds_q 10 t_plan_firstEnds, aI g t_secondEnds_q 10 t_secondEnds]) (As := [.int r_4]) (rest := [.int t_step]) (c_J6_bitCount_0f7a4 l g _ r_4 r_14 hc_15) ⟨hx, hb, hml, hown, hts⟩ (va_cwS 1 hts gX6_prowl_J6_bitCount_0f7a4 rfl rfl rfl (by decide +kernel) ⟨by decide, by decide⟩) hK hz hk hP (hD.re rfl) hS hA [] rfl rfl rfl rfl rfl hl.1 rfl (Nat.le_of_ble_eq_true rfl) dX6_prowl_61 (fun H locs hP hS => ?_)
            obtain ⟨r_16, hc_17, hf⟩ := ob1_e hf
            refine kSN_i (wn := [oX6 t_q t_plan_q t_secondEnds_q t_string_q t_barred t_period t_his t_beast t_habit t_onString t_step t_eaten, oX2 t_plan_q t_plan_firstEnds_q t_plan_rules_q t_plan_rooms t_plan_doorCount t_plan_ruleCount t_plan_stringLength, aI g t_plan_firstEnds_q 10 t_plan_firstEnds, aI g t_secondEnds_q 10 t_secondEnds]) (As := [.int t_step, .int r_14]) (rest := []) (c_X7_modulo l g _ t_step r_14 r_16 hc_17) ⟨hx, hb, hml, hown, hts⟩ ⟨va_cnB 2 hts gX6_prowl_X7_modulo_n94 rfl rfl rfl (hz.1 (RX6, 94, yX7_modulo, RX7) (by decide +kernel)) (hts (.initialized RX7) (by decide +kernel)) (by decide +kernel) ⟨by decide, by decide⟩, hts (.static yX7_modulo) (by decide +kernel), trivial⟩ hK hz hk hP (hD.re rfl) hS hA [] rfl rfl rfl rfl rfl hl.1 rfl (Nat.le_of_ble_eq_true rfl) dX6_prowl_64 (fun H locs hP hS => ?_)
            exact J_8 r_16 hf _ _ _ hP hS (lv_sub hl [1, 3, 0] rfl)
          · have hf := ite_t hf c_13
            refine lv_iconst (v := (0 : Int32)) hx hb dX6_prowl_51 (by decide) ?_
            refine lv_goto (tgt := 67) hx hb dX6_prowl_52 (by decide) ?_
            exact J_8 (0 : Int32) hf _ _ _ hP hS (lv_sub hl [1, 3, 0] rfl)
        · have hf := ite_t hf c_6
          refine lv_iload_n hx hb dX6_prowl_44 rfl (lv_at hl 3 rfl) ?_
          exact hret p2 (Option.some.inj hf) _ _ _ _ hP hS dX6_prowl_45
      · have hf := ite_t hf c_3
        refine lv_aload_n hx hb dX6_prowl_17 rfl (lv_at hl 0 rfl) ?_
        refine lv_iload_n hx hb dX6_prowl_18 rfl (lv_at hl 2 rfl) ?_
        refine lv_iload_n hx hb dX6_prowl_19 rfl (lv_at hl 3 rfl) ?_
        obtain ⟨r_18, hc_19, hf⟩ := ob1_e hf
        refine kV_i (wn := [oX6 t_q t_plan_q t_secondEnds_q t_string_q t_barred t_period t_his t_beast t_habit t_onString t_step t_eaten, oX2 t_plan_q t_plan_firstEnds_q t_plan_rules_q t_plan_rooms t_plan_doorCount t_plan_ruleCount t_plan_stringLength, aI g t_plan_firstEnds_q 10 t_plan_firstEnds, aI g t_secondEnds_q 10 t_secondEnds]) (As := [.int p2, .int p3]) (rest := []) (c_X6_isDoorBetween l g _ t_q t_plan_q t_secondEnds_q t_string_q t_plan_firstEnds_q t_plan_rules_q t_barred t_period t_his t_beast t_habit t_onString t_step t_eaten t_plan_rooms t_plan_doorCount t_plan_ruleCount t_plan_stringLength t_plan_firstEnds t_secondEnds p2 p3 r_18 hc_19) ⟨hx, hb, hml, hown, hts⟩ (cwV 2 hts gX6_prowl_X6_isDoorBetween rfl rfl rfl (by decide +kernel) ⟨by decide, by decide⟩) hK hz hk hP (hD.re rfl) hS hA [0, 1, 2, 3] rfl rfl rfl rfl rfl rfl rfl hl.1 rfl (Nat.le_of_ble_eq_true rfl) dX6_prowl_20 (fun H locs hP hS => ?_)
        refine lv_if_eq (tgt := 30) hx hb dX6_prowl_23 (by decide) (fun c_20 => ?_) (fun c_20 => ?_)
        · have hf := ite_t hf c_20
          refine lv_iload_n hx hb dX6_prowl_30 rfl (lv_at hl 2 rfl) ?_
          exact hret p2 (Option.some.inj hf) _ _ _ _ hP hS dX6_prowl_31
        · have hf := ite_f hf c_20
          refine lv_iload_n hx hb dX6_prowl_26 rfl (lv_at hl 3 rfl) ?_
          refine lv_goto (tgt := 31) hx hb dX6_prowl_27 (by decide) ?_
          exact hret p3 (Option.some.inj hf) _ _ _ _ hP hS dX6_prowl_31
    · have hf := ite_t hf c_2
      refine lv_iload_n hx hb dX6_prowl_10 rfl (lv_at hl 2 rfl) ?_
      exact hret p2 (Option.some.inj hf) _ _ _ _ hP hS dX6_prowl_11

def f_X6_reset  : Option (Int32 × Int32 × Int32 × Int32 × Int32 × Int32 × Int32 × Int32) :=
 (some ((0 : Int32), (-4 : Int32), (0 : Int32), (0 : Int32), (0 : Int32), (0 : Int32), (1 : Int32), (0 : Int32)))
abbrev rmX6_reset : Room := { frames := 0, cells := 0, slots := 0, locals := 0 }
set_option maxHeartbeats 4000000 in
set_option maxRecDepth 100000 in
theorem c_X6_reset (l : Launch) (g : Gh) (sz : Nat) (t_q t_plan_q t_secondEnds_q t_string_q : Nat) (t_barred : Int32) (t_period : Int32) (t_his : Int32) (t_beast : Int32) (t_habit : Int32) (t_onString : Int32) (t_step : Int32) (t_eaten : Int32) (t_barred' : Int32) (t_beast' : Int32) (t_eaten' : Int32) (t_habit' : Int32) (t_his' : Int32) (t_onString' : Int32) (t_period' : Int32) (t_step' : Int32) (hf : f_X6_reset = some (t_barred', t_beast', t_eaten', t_habit', t_his', t_onString', t_period', t_step')) : CV l yX6_reset wsX6_reset rmX6_reset [.ref t_q] g sz [oX6 t_q t_plan_q t_secondEnds_q t_string_q t_barred t_period t_his t_beast t_habit t_onString t_step t_eaten] [oX6 t_q t_plan_q t_secondEnds_q t_string_q t_barred' t_period' t_his' t_beast' t_habit' t_onString' t_step' t_eaten'] := by
  refine ent_v (cc := cX6_reset) (maxL := 1) (by decide) rfl (Nat.le_of_ble_eq_true rfl) ?_
  intro p e s m args below meth c A Q hx hb hml hown hts hK hz hk hA hD hP hS hret ls hl
  have hown : s.vm.findClass RX6 = some m.cls := hown
  have inX6 : ∀ w ∈ u_ws RX6 TX6 11, w ∈ wsX6_reset := by decide +kernel
  have k25 := hts (.fieldLink RX6 25 "ThreadMoved$State" "barred" "I") (by decide +kernel)
  have k29 := hts (.fieldLink RX6 29 "ThreadMoved$State" "period" "I") (by decide +kernel)
  have k32 := hts (.fieldLink RX6 32 "ThreadMoved$State" "his" "I") (by decide +kernel)
  have k35 := hts (.fieldLink RX6 35 "ThreadMoved$State" "beast" "I") (by decide +kernel)
  have k38 := hts (.fieldLink RX6 38 "ThreadMoved$State" "habit" "I") (by decide +kernel)
  have k41 := hts (.fieldLink RX6 41 "ThreadMoved$State" "onString" "I") (by decide +kernel)
  have k44 := hts (.fieldLink RX6 44 "ThreadMoved$State" "step" "I") (by decide +kernel)
  have k47 := hts (.fieldLink RX6 47 "ThreadMoved$State" "eaten" "Z") (by decide +kernel)
  have hl : lv_has ls 1 [(0, .ref t_q)] := hl
  have hret : ∀ (t_barredz : Int32) (t_beastz : Int32) (t_eatenz : Int32) (t_habitz : Int32) (t_hisz : Int32) (t_onStringz : Int32) (t_periodz : Int32) (t_stepz : Int32), (t_barredz, t_beastz, t_eatenz, t_habitz, t_hisz, t_onStringz, t_periodz, t_stepz) = (t_barred', t_beast', t_eaten', t_habit', t_his', t_onString', t_period', t_step') → ∀ (H : Heap) (locs : List Loc) (pc : Nat) (ls : Array Slot), va_P g.1 vwCl [oX6 t_q t_plan_q t_secondEnds_q t_string_q t_barredz t_periodz t_hisz t_beastz t_habitz t_onStringz t_stepz t_eatenz] H → va_S A s.heap H locs → decode cX6_reset pc = .ok (.return_, 1) → W p l e rmX6_reset s m args below meth c H locs 0 0 Q (F0 m pc ls []) := by
    intro t_barredz t_beastz t_eatenz t_habitz t_hisz t_onStringz t_periodz t_stepz he H locs pc ls hP hS hd
    cases he
    exact hret H locs pc ls hP hS hd
  unfold f_X6_reset at hf
  refine lv_aload_n hx hb dX6_reset_0 rfl (lv_at hl 0 rfl) ?_
  refine lv_iconst (v := (0 : Int32)) hx hb dX6_reset_1 (by decide) ?_
  refine va_put (D := g.1) (ci := 6) (v := .int (0 : Int32)) (ty := .int) (C := RX6) (T := TX6) (N := 11) hx hb hts inX6 tyX6 tyX6_ok nmX6 hown hK hP (hD.re rfl) hS 0 rfl rfl 3 (by decide) k25 (fun _ h9 => h9) rfl (by decide +kernel) rfl rfl (Nat.le_of_ble_eq_true rfl) dX6_reset_2 (fun H locs hP _ hS => ?_)
  have hP : va_P g.1 vwCl [oX6 t_q t_plan_q t_secondEnds_q t_string_q (0 : Int32) t_period t_his t_beast t_habit t_onString t_step t_eaten] H := hP
  refine lv_aload_n hx hb dX6_reset_5 rfl (lv_at hl 0 rfl) ?_
  refine lv_iconst (v := (1 : Int32)) hx hb dX6_reset_6 (by decide) ?_
  refine va_put (D := g.1) (ci := 6) (v := .int (1 : Int32)) (ty := .int) (C := RX6) (T := TX6) (N := 11) hx hb hts inX6 tyX6 tyX6_ok nmX6 hown hK hP (hD.re rfl) hS 0 rfl rfl 4 (by decide) k29 (fun _ h9 => h9) rfl (by decide +kernel) rfl rfl (Nat.le_of_ble_eq_true rfl) dX6_reset_7 (fun H locs hP _ hS => ?_)
  have hP : va_P g.1 vwCl [oX6 t_q t_plan_q t_secondEnds_q t_string_q (0 : Int32) (1 : Int32) t_his t_beast t_habit t_onString t_step t_eaten] H := hP
  refine lv_aload_n hx hb dX6_reset_10 rfl (lv_at hl 0 rfl) ?_
  refine lv_iconst (v := (0 : Int32)) hx hb dX6_reset_11 (by decide) ?_
  refine va_put (D := g.1) (ci := 6) (v := .int (0 : Int32)) (ty := .int) (C := RX6) (T := TX6) (N := 11) hx hb hts inX6 tyX6 tyX6_ok nmX6 hown hK hP (hD.re rfl) hS 0 rfl rfl 5 (by decide) k32 (fun _ h9 => h9) rfl (by decide +kernel) rfl rfl (Nat.le_of_ble_eq_true rfl) dX6_reset_12 (fun H locs hP _ hS => ?_)
  have hP : va_P g.1 vwCl [oX6 t_q t_plan_q t_secondEnds_q t_string_q (0 : Int32) (1 : Int32) (0 : Int32) t_beast t_habit t_onString t_step t_eaten] H := hP
  refine lv_aload_n hx hb dX6_reset_15 rfl (lv_at hl 0 rfl) ?_
  refine lv_bipush (v := (-4 : Int32)) hx hb dX6_reset_16 (by decide) ?_
  refine va_put (D := g.1) (ci := 6) (v := .int (-4 : Int32)) (ty := .int) (C := RX6) (T := TX6) (N := 11) hx hb hts inX6 tyX6 tyX6_ok nmX6 hown hK hP (hD.re rfl) hS 0 rfl rfl 6 (by decide) k35 (fun _ h9 => h9) rfl (by decide +kernel) rfl rfl (Nat.le_of_ble_eq_true rfl) dX6_reset_18 (fun H locs hP _ hS => ?_)
  have hP : va_P g.1 vwCl [oX6 t_q t_plan_q t_secondEnds_q t_string_q (0 : Int32) (1 : Int32) (0 : Int32) (-4 : Int32) t_habit t_onString t_step t_eaten] H := hP
  refine lv_aload_n hx hb dX6_reset_21 rfl (lv_at hl 0 rfl) ?_
  refine lv_iconst (v := (0 : Int32)) hx hb dX6_reset_22 (by decide) ?_
  refine va_put (D := g.1) (ci := 6) (v := .int (0 : Int32)) (ty := .int) (C := RX6) (T := TX6) (N := 11) hx hb hts inX6 tyX6 tyX6_ok nmX6 hown hK hP (hD.re rfl) hS 0 rfl rfl 7 (by decide) k38 (fun _ h9 => h9) rfl (by decide +kernel) rfl rfl (Nat.le_of_ble_eq_true rfl) dX6_reset_23 (fun H locs hP _ hS => ?_)
  have hP : va_P g.1 vwCl [oX6 t_q t_plan_q t_secondEnds_q t_string_q (0 : Int32) (1 : Int32) (0 : Int32) (-4 : Int32) (0 : Int32) t_onString t_step t_eaten] H := hP
  refine lv_aload_n hx hb dX6_reset_26 rfl (lv_at hl 0 rfl) ?_
  refine lv_iconst (v := (0 : Int32)) hx hb dX6_reset_27 (by decide) ?_
  refine va_put (D := g.1) (ci := 6) (v := .int (0 : Int32)) (ty := .int) (C := RX6) (T := TX6) (N := 11) hx hb hts inX6 tyX6 tyX6_ok nmX6 hown hK hP (hD.re rfl) hS 0 rfl rfl 8 (by decide) k41 (fun _ h9 => h9) rfl (by decide +kernel) rfl rfl (Nat.le_of_ble_eq_true rfl) dX6_reset_28 (fun H locs hP _ hS => ?_)
  have hP : va_P g.1 vwCl [oX6 t_q t_plan_q t_secondEnds_q t_string_q (0 : Int32) (1 : Int32) (0 : Int32) (-4 : Int32) (0 : Int32) (0 : Int32) t_step t_eaten] H := hP
  refine lv_aload_n hx hb dX6_reset_31 rfl (lv_at hl 0 rfl) ?_
  refine lv_iconst (v := (0 : Int32)) hx hb dX6_reset_32 (by decide) ?_
  refine va_put (D := g.1) (ci := 6) (v := .int (0 : Int32)) (ty := .int) (C := RX6) (T := TX6) (N := 11) hx hb hts inX6 tyX6 tyX6_ok nmX6 hown hK hP (hD.re rfl) hS 0 rfl rfl 9 (by decide) k44 (fun _ h9 => h9) rfl (by decide +kernel) rfl rfl (Nat.le_of_ble_eq_true rfl) dX6_reset_33 (fun H locs hP _ hS => ?_)
  have hP : va_P g.1 vwCl [oX6 t_q t_plan_q t_secondEnds_q t_string_q (0 : Int32) (1 : Int32) (0 : Int32) (-4 : Int32) (0 : Int32) (0 : Int32) (0 : Int32) t_eaten] H := hP
  refine lv_aload_n hx hb dX6_reset_36 rfl (lv_at hl 0 rfl) ?_
  refine lv_iconst (v := (0 : Int32)) hx hb dX6_reset_37 (by decide) ?_
  refine va_put (D := g.1) (ci := 6) (v := .int (0 : Int32)) (ty := .boolean) (C := RX6) (T := TX6) (N := 11) hx hb hts inX6 tyX6 tyX6_ok nmX6 hown hK hP (hD.re rfl) hS 0 rfl rfl 10 (by decide) k47 (fun _ h9 => h9) rfl (by decide +kernel) rfl rfl (Nat.le_of_ble_eq_true rfl) dX6_reset_38 (fun H locs hP _ hS => ?_)
  have hP : va_P g.1 vwCl [oX6 t_q t_plan_q t_secondEnds_q t_string_q (0 : Int32) (1 : Int32) (0 : Int32) (-4 : Int32) (0 : Int32) (0 : Int32) (0 : Int32) (0 : Int32)] H := hP
  exact hret (0 : Int32) (-4 : Int32) (0 : Int32) (0 : Int32) (0 : Int32) (0 : Int32) (1 : Int32) (0 : Int32) (Option.some.inj hf) _ _ _ _ hP hS dX6_reset_41
