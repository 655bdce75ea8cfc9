def b_X3_checkWhole_2 (t_length : Int32) (t_plan_rooms : Int32) (t_plan_doorCount : Int32) (t_plan_firstEnds : Nat → Int32) (t_state_secondEnds : Nat → Int32) (v1_1 : Int32) (t_fault_2 : Int32) (t_faultPlace_3 : Int32) : Option ((Int32 × Int32 × Int32) ⊕ (Int32 × Int32 × Int32)) :=
 (if t_plan_doorCount ≤ v1_1 then
 (some (.inr (v1_1, t_fault_2, t_faultPlace_3)))
 else (gin v1_1 10 (ob1 (f_X2_hasRoom t_plan_rooms (t_plan_firstEnds v1_1.toNatClampNeg)) (fun r_7 =>
 (jn2 (fun (t_fault_9 : Int32) (t_faultPlace_10 : Int32) => (bnd (v1_1 + (1 : Int32)) (fun v1_12 =>
 (some (.inl (v1_12, t_fault_9, t_faultPlace_10)))))) (fun j_11 =>
 (jn0 (ob2 (f_X3_fail t_fault_2 t_faultPlace_3 (6 : Int32) t_length) (fun t_fault_14 t_faultPlace_15 =>
 (j_11 t_fault_14 t_faultPlace_15))) (fun j_13 =>
 (if r_7 = (0 : Int32) then
 (j_13)
 else (gin v1_1 10 (ob1 (f_X2_hasRoom t_plan_rooms (t_state_secondEnds v1_1.toNatClampNeg)) (fun r_19 =>
 (if r_19 = (0 : Int32) then
 (j_13)
 else (j_11 t_fault_2 t_faultPlace_3))))))))))))))
def b_X3_checkWhole_69 (t_length : Int32) (t_plan_doorCount : Int32) (t_plan_ruleCount : Int32) (t_plan_rules : Nat → Int32) (v1_25 : Int32) (t_fault_26 : Int32) (t_faultPlace_27 : Int32) : Option ((Int32 × Int32 × Int32) ⊕ (Int32 × Int32 × Int32)) :=
 (if t_plan_ruleCount ≤ v1_25 then
 (some (.inr (v1_25, t_fault_26, t_faultPlace_27)))
 else (gin v1_25 6 (ob1 (f_X2_hasDoorsOf t_plan_doorCount (t_plan_rules v1_25.toNatClampNeg)) (fun r_31 =>
 (jn2 (fun (t_fault_33 : Int32) (t_faultPlace_34 : Int32) => (bnd (v1_25 + (1 : Int32)) (fun v1_36 =>
 (some (.inl (v1_36, t_fault_33, t_faultPlace_34)))))) (fun j_35 =>
 (if r_31 = (0 : Int32) then
 (ob2 (f_X3_fail t_fault_26 t_faultPlace_27 (6 : Int32) t_length) (fun t_fault_38 t_faultPlace_39 =>
 (j_35 t_fault_38 t_faultPlace_39)))
 else (j_35 t_fault_26 t_faultPlace_27))))))))
def f_X3_checkWhole (t_length : Int32) (t_fault : Int32) (t_faultPlace : Int32) (t_plan_rooms : Int32) (t_plan_doorCount : Int32) (t_plan_ruleCount : Int32) (t_plan_firstEnds : Nat → Int32) (t_plan_rules : Nat → Int32) (t_state_his : Int32) (t_state_beast : Int32) (t_state_secondEnds : Nat → Int32) : Option (Int32 × Int32) :=
 (ob3 (itr (un3 (b_X3_checkWhole_2 t_length t_plan_rooms t_plan_doorCount t_plan_firstEnds t_state_secondEnds)) FU ((0 : Int32), t_fault, t_faultPlace)) (fun x1_22 t_fault_23 t_faultPlace_24 =>
 (ob3 (itr (un3 (b_X3_checkWhole_69 t_length t_plan_doorCount t_plan_ruleCount t_plan_rules)) FU ((0 : Int32), t_fault_23, t_faultPlace_24)) (fun x1_41 t_fault_42 t_faultPlace_43 =>
 (ob1 (f_X2_hasRoom t_plan_rooms t_state_his) (fun r_44 =>
 (jn2 (fun (t_fault_46 : Int32) (t_faultPlace_47 : Int32) => (if t_state_beast = t_state_his then
 (ob2 (f_X3_fail t_fault_46 t_faultPlace_47 (7 : Int32) t_length) (fun t_fault_50 t_faultPlace_51 =>
 (some (t_fault_50, t_faultPlace_51))))
 else (some (t_fault_46, t_faultPlace_47)))) (fun j_48 =>
 (jn0 (ob2 (f_X3_fail t_fault_42 t_faultPlace_43 (6 : Int32) t_length) (fun t_fault_54 t_faultPlace_55 =>
 (j_48 t_fault_54 t_faultPlace_55))) (fun j_53 =>
 (if r_44 = (0 : Int32) then
 (j_53)
 else (if t_state_beast = (-4 : Int32) then
 (j_48 t_fault_42 t_faultPlace_43)
 else (ob1 (f_X2_hasRoom t_plan_rooms t_state_beast) (fun r_59 =>
 (if r_59 = (0 : Int32) then
 (j_53)
 else (j_48 t_fault_42 t_faultPlace_43))))))))))))))))
abbrev rmX3_checkWhole : Room := { frames := 2, cells := 0, slots := 0, locals := 42 }
set_option maxHeartbeats 4000000 in
set_option maxRecDepth 100000 in
theorem c_X3_checkWhole (l : Launch) (g : Gh) (sz : Nat) (t_q t_plan_q t_state_q t_tape_q t_plan_firstEnds_q t_plan_rules_q t_state_secondEnds_q t_state_string_q : Nat) (t_length : Int32) (t_fault : Int32) (t_faultPlace : Int32) (t_lines : Int32) (t_place : Int32) (t_kind : Int32) (t_start : Int32) (t_value : Int32) (t_told : Int32) (t_plan_rooms : Int32) (t_plan_doorCount : Int32) (t_plan_ruleCount : Int32) (t_plan_stringLength : Int32) (t_plan_firstEnds : Nat → Int32) (t_plan_rules : Nat → Int32) (t_state_barred : Int32) (t_state_period : Int32) (t_state_his : Int32) (t_state_beast : Int32) (t_state_habit : Int32) (t_state_onString : Int32) (t_state_step : Int32) (t_state_eaten : Int32) (t_state_secondEnds : Nat → Int32) (t_fault' : Int32) (t_faultPlace' : Int32) (hf : f_X3_checkWhole t_length t_fault t_faultPlace t_plan_rooms t_plan_doorCount t_plan_ruleCount t_plan_firstEnds t_plan_rules t_state_his t_state_beast t_state_secondEnds = some (t_fault', t_faultPlace')) : CV l yX3_checkWhole wsX3_checkWhole rmX3_checkWhole [.ref t_q] g sz [oX3 t_q t_plan_q t_state_q t_length t_fault t_faultPlace t_lines t_tape_q t_place t_kind t_start t_value t_told, oX2 t_plan_q t_plan_firstEnds_q t_plan_rules_q t_plan_rooms t_plan_doorCount t_plan_ruleCount t_plan_stringLength, aI g t_plan_firstEnds_q 10 t_plan_firstEnds, aI g t_plan_rules_q 6 t_plan_rules, oX6 t_state_q t_plan_q t_state_secondEnds_q t_state_string_q t_state_barred t_state_period t_state_his t_state_beast t_state_habit t_state_onString t_state_step t_state_eaten, aI g t_state_secondEnds_q 10 t_state_secondEnds] [oX3 t_q t_plan_q t_state_q t_length t_fault' t_faultPlace' t_lines t_tape_q t_place t_kind t_start t_value t_told, oX2 t_plan_q t_plan_firstEnds_q t_plan_rules_q t_plan_rooms t_plan_doorCount t_plan_ruleCount t_plan_stringLength, aI g t_plan_firstEnds_q 10 t_plan_firstEnds, aI g t_plan_rules_q 6 t_plan_rules, oX6 t_state_q t_plan_q t_state_secondEnds_q t_state_string_q t_state_barred t_state_period t_state_his t_state_beast t_state_habit t_state_onString t_state_step t_state_eaten, aI g t_state_secondEnds_q 10 t_state_secondEnds] := by
  refine ent_v (cc := cX3_checkWhole) (maxL := 2) (by decide) rfl (Nat.le_of_ble_eq_true rfl) ?_
  intro p e s m args below meth c A Q hx hb hml hown hts hK hz hk hA hD hP hS hret ls hl
  have hown : s.vm.findClass RX3 = some m.cls := hown
  have inX2 : ∀ w ∈ u_ws RX2 TX2 6, w ∈ wsX3_checkWhole := by decide +kernel
  have inX3 : ∀ w ∈ u_ws RX3 TX3 12, w ∈ wsX3_checkWhole := by decide +kernel
  have inX6 : ∀ w ∈ u_ws RX6 TX6 11, w ∈ wsX3_checkWhole := by decide +kernel
  have k12 := hts (.fieldLink RX3 12 "ThreadMoved$Reader" "plan" "LThreadMoved$Plan;") (by decide +kernel)
  have k23 := hts (.fieldLink RX3 23 "ThreadMoved$Reader" "state" "LThreadMoved$State;") (by decide +kernel)
  have k27 := hts (.fieldLink RX3 27 "ThreadMoved$Reader" "length" "I") (by decide +kernel)
  have k130 := hts (.fieldLink RX3 130 "ThreadMoved$State" "his" "I") (by decide +kernel)
  have k151 := hts (.fieldLink RX3 151 "ThreadMoved$Plan" "doorCount" "I") (by decide +kernel)
  have k154 := hts (.fieldLink RX3 154 "ThreadMoved$Plan" "firstEnds" "[I") (by decide +kernel)
  have k158 := hts (.fieldLink RX3 158 "ThreadMoved$State" "secondEnds" "[I") (by decide +kernel)
  have k161 := hts (.fieldLink RX3 161 "ThreadMoved$Plan" "ruleCount" "I") (by decide +kernel)
  have k164 := hts (.fieldLink RX3 164 "ThreadMoved$Plan" "rules" "[I") (by decide +kernel)
  have k167 := hts (.fieldLink RX3 167 "ThreadMoved$State" "beast" "I") (by decide +kernel)
  have hl : lv_has ls 2 [(0, .ref t_q)] := hl
  have hret : ∀ (t_faultz : Int32) (t_faultPlacez : Int32), (t_faultz, t_faultPlacez) = (t_fault', t_faultPlace') → ∀ (H : Heap) (locs : List Loc) (pc : Nat) (ls : Array Slot), va_P g.1 vwCl [oX3 t_q t_plan_q t_state_q t_length t_faultz t_faultPlacez t_lines t_tape_q t_place t_kind t_start t_value t_told, oX2 t_plan_q t_plan_firstEnds_q t_plan_rules_q t_plan_rooms t_plan_doorCount t_plan_ruleCount t_plan_stringLength, aI g t_plan_firstEnds_q 10 t_plan_firstEnds, aI g t_plan_rules_q 6 t_plan_rules, oX6 t_state_q t_plan_q t_state_secondEnds_q t_state_string_q t_state_barred t_state_period t_state_his t_state_beast t_state_habit t_state_onString t_state_step t_state_eaten, aI g t_state_secondEnds_q 10 t_state_secondEnds] H → va_S A s.heap H locs → decode cX3_checkWhole pc = .ok (.return_, 1) → W p l e rmX3_checkWhole s m args below meth c H locs 0 0 Q (F0 m pc ls []) := by
    intro t_faultz t_faultPlacez he H locs pc ls hP hS hd
    cases he
    exact hret H locs pc ls hP hS hd
  unfold f_X3_checkWhole at hf
  refine lv_iconst (v := (0 : Int32)) hx hb dX3_checkWhole_0 (by decide) ?_
  refine lv_istore_n (lv' := [(1, .int (0 : Int32)), (0, .ref t_q)]) hx hb dX3_checkWhole_1 rfl hl (by decide) rfl (fun ls hl => ?_)
  obtain ⟨x1_22, t_fault_23, t_faultPlace_24, ho_4, hf⟩ := ob3_e hf
  have K_4 : ∀ (x1_22y : Int32) (t_fault_23y : Int32) (t_faultPlace_24y : Int32), x1_22 = x1_22y → t_fault_23 = t_fault_23y → t_faultPlace_24 = t_faultPlace_24y → ∀ (H : Heap) (locs : List Loc) (ls : Array Slot), va_P g.1 vwCl [oX3 t_q t_plan_q t_state_q t_length t_fault_23y t_faultPlace_24y t_lines t_tape_q t_place t_kind t_start t_value t_told, oX2 t_plan_q t_plan_firstEnds_q t_plan_rules_q t_plan_rooms t_plan_doorCount t_plan_ruleCount t_plan_stringLength, aI g t_plan_firstEnds_q 10 t_plan_firstEnds, aI g t_plan_rules_q 6 t_plan_rules, oX6 t_state_q t_plan_q t_state_secondEnds_q t_state_string_q t_state_barred t_state_period t_state_his t_state_beast t_state_habit t_state_onString t_state_step t_state_eaten, aI g t_state_secondEnds_q 10 t_state_secondEnds] H → va_S A s.heap H locs → lv_has ls 2 [(0, .ref t_q)] → W p l e rmX3_checkWhole s m args below meth c H locs 0 0 Q (F0 m 67 ls []) := by
    intro x1_22y t_fault_23y t_faultPlace_24y ey0 ey1 ey2 H locs ls hP hS hl
    subst ey0
    subst ey1
    subst ey2
    refine lv_iconst (v := (0 : Int32)) hx hb dX3_checkWhole_67 (by decide) ?_
    refine lv_istore_n (lv' := [(1, .int (0 : Int32)), (0, .ref t_q)]) hx hb dX3_checkWhole_68 rfl hl (by decide) rfl (fun ls hl => ?_)
    obtain ⟨x1_41, t_fault_42, t_faultPlace_43, ho_28, hf⟩ := ob3_e hf
    have K_28 : ∀ (x1_41y : Int32) (t_fault_42y : Int32) (t_faultPlace_43y : Int32), x1_41 = x1_41y → t_fault_42 = t_fault_42y → t_faultPlace_43 = t_faultPlace_43y → ∀ (H : Heap) (locs : List Loc) (ls : Array Slot), va_P g.1 vwCl [oX3 t_q t_plan_q t_state_q t_length t_fault_42y t_faultPlace_43y t_lines t_tape_q t_place t_kind t_start t_value t_told, oX2 t_plan_q t_plan_firstEnds_q t_plan_rules_q t_plan_rooms t_plan_doorCount t_plan_ruleCount t_plan_stringLength, aI g t_plan_firstEnds_q 10 t_plan_firstEnds, aI g t_plan_rules_q 6 t_plan_rules, oX6 t_state_q t_plan_q t_state_secondEnds_q t_state_string_q t_state_barred t_state_period t_state_his t_state_beast t_state_habit t_state_onString t_state_step t_state_eaten, aI g t_state_secondEnds_q 10 t_state_secondEnds] H → va_S A s.heap H locs → lv_has ls 2 [(0, .ref t_q)] → W p l e rmX3_checkWhole s m args below meth c H locs 0 0 Q (F0 m 115 ls []) := by
      intro x1_41y t_fault_42y t_faultPlace_43y ey0 ey1 ey2 H locs ls hP hS hl
      subst ey0
      subst ey1
      subst ey2
      refine lv_aload_n hx hb dX3_checkWhole_115 rfl (lv_at hl 0 rfl) ?_
      refine va_get (D := g.1) (ci := 3) (v := .ref t_plan_q) (C := RX3) (T := TX3) (N := 12) hx hb hts inX3 hown hK hP 0 rfl rfl 0 (by decide) k12 (fun _ h9 => h9) rfl dX3_checkWhole_116 ?_
      refine lv_aload_n hx hb dX3_checkWhole_119 rfl (lv_at hl 0 rfl) ?_
      refine va_get (D := g.1) (ci := 3) (v := .ref t_state_q) (C := RX3) (T := TX3) (N := 12) hx hb hts inX3 hown hK hP 0 rfl rfl 1 (by decide) k23 (fun _ h9 => h9) rfl dX3_checkWhole_120 ?_
      refine va_get (D := g.1) (ci := 6) (v := .int t_state_his) (C := RX6) (T := TX6) (N := 11) hx hb hts inX6 hown hK hP 4 rfl rfl 5 (by decide) k130 (fun _ h9 => h9) rfl dX3_checkWhole_123 ?_
      obtain ⟨r_44, hc_45, hf⟩ := ob1_e hf
      refine kV_i (wn := [oX3 t_q t_plan_q t_state_q t_length t_fault_42 t_faultPlace_43 t_lines t_tape_q t_place t_kind t_start t_value t_told, oX2 t_plan_q t_plan_firstEnds_q t_plan_rules_q t_plan_rooms t_plan_doorCount t_plan_ruleCount t_plan_stringLength, aI g t_plan_firstEnds_q 10 t_plan_firstEnds, aI g t_plan_rules_q 6 t_plan_rules, oX6 t_state_q t_plan_q t_state_secondEnds_q t_state_string_q t_state_barred t_state_period t_state_his t_state_beast t_state_habit t_state_onString t_state_step t_state_eaten, aI g t_state_secondEnds_q 10 t_state_secondEnds]) (As := [.int t_state_his]) (rest := []) (c_X2_hasRoom l g _ t_plan_q t_plan_firstEnds_q t_plan_rules_q t_plan_rooms t_plan_doorCount t_plan_ruleCount t_plan_stringLength t_state_his r_44 hc_45) ⟨hx, hb, hml, hown, hts⟩ (cwV 1 hts gX3_checkWhole_X2_hasRoom rfl rfl rfl (by decide +kernel) ⟨by decide, by decide⟩) hK hz hk hP (hD.re rfl) hS hA [1] rfl rfl rfl rfl rfl rfl rfl hl.1 rfl (Nat.le_of_ble_eq_true rfl) dX3_checkWhole_126 (fun H locs hP hS => ?_)
      obtain ⟨j_48, hj_48, hf⟩ := jn2_e hf
      have J_48 : ∀ (t_fault_46 : Int32) (t_faultPlace_47 : Int32), j_48 t_fault_46 t_faultPlace_47 = some (t_fault', t_faultPlace') → ∀ (H : Heap) (locs : List Loc) (ls : Array Slot), va_P g.1 vwCl [oX3 t_q t_plan_q t_state_q t_length t_fault_46 t_faultPlace_47 t_lines t_tape_q t_place t_kind t_start t_value t_told, oX2 t_plan_q t_plan_firstEnds_q t_plan_rules_q t_plan_rooms t_plan_doorCount t_plan_ruleCount t_plan_stringLength, aI g t_plan_firstEnds_q 10 t_plan_firstEnds, aI g t_plan_rules_q 6 t_plan_rules, oX6 t_state_q t_plan_q t_state_secondEnds_q t_state_string_q t_state_barred t_state_period t_state_his t_state_beast t_state_habit t_state_onString t_state_step t_state_eaten, aI g t_state_secondEnds_q 10 t_state_secondEnds] H → va_S A s.heap H locs → lv_has ls 2 [(0, .ref t_q)] → W p l e rmX3_checkWhole s m args below meth c H locs 0 0 Q (F0 m 171 ls []) := by
        intro t_fault_46 t_faultPlace_47 hf H locs ls hP hS hl
        rw [hj_48] at hf
        refine lv_aload_n hx hb dX3_checkWhole_171 rfl (lv_at hl 0 rfl) ?_
        refine va_get (D := g.1) (ci := 3) (v := .ref t_state_q) (C := RX3) (T := TX3) (N := 12) hx hb hts inX3 hown hK hP 0 rfl rfl 1 (by decide) k23 (fun _ h9 => h9) rfl dX3_checkWhole_172 ?_
        refine va_get (D := g.1) (ci := 6) (v := .int t_state_beast) (C := RX6) (T := TX6) (N := 11) hx hb hts inX6 hown hK hP 4 rfl rfl 6 (by decide) k167 (fun _ h9 => h9) rfl dX3_checkWhole_175 ?_
        refine lv_aload_n hx hb dX3_checkWhole_178 rfl (lv_at hl 0 rfl) ?_
        refine va_get (D := g.1) (ci := 3) (v := .ref t_state_q) (C := RX3) (T := TX3) (N := 12) hx hb hts inX3 hown hK hP 0 rfl rfl 1 (by decide) k23 (fun _ h9 => h9) rfl dX3_checkWhole_179 ?_
        refine va_get (D := g.1) (ci := 6) (v := .int t_state_his) (C := RX6) (T := TX6) (N := 11) hx hb hts inX6 hown hK hP 4 rfl rfl 5 (by decide) k130 (fun _ h9 => h9) rfl dX3_checkWhole_182 ?_
        refine lv_icmp_ne (tgt := 198) hx hb dX3_checkWhole_185 (by decide) (fun c_49 => ?_) (fun c_49 => ?_)
        · have hf := ite_f hf c_49
          exact hret t_fault_46 t_faultPlace_47 (Option.some.inj hf) _ _ _ _ hP hS dX3_checkWhole_198
        · have hf := ite_t hf c_49
          refine lv_aload_n hx hb dX3_checkWhole_188 rfl (lv_at hl 0 rfl) ?_
          refine lv_bipush (v := (7 : Int32)) hx hb dX3_checkWhole_189 (by decide) ?_
          refine lv_aload_n hx hb dX3_checkWhole_191 rfl (lv_at hl 0 rfl) ?_
          refine va_get (D := g.1) (ci := 3) (v := .int t_length) (C := RX3) (T := TX3) (N := 12) hx hb hts inX3 hown hK hP 0 rfl rfl 2 (by decide) k27 (fun _ h9 => h9) rfl dX3_checkWhole_192 ?_
          obtain ⟨t_fault_50, t_faultPlace_51, hc_52, hf⟩ := ob2_e hf
          refine kV_v (wn := [oX3 t_q t_plan_q t_state_q t_length t_fault_50 t_faultPlace_51 t_lines t_tape_q t_place t_kind t_start t_value t_told, oX2 t_plan_q t_plan_firstEnds_q t_plan_rules_q t_plan_rooms t_plan_doorCount t_plan_ruleCount t_plan_stringLength, aI g t_plan_firstEnds_q 10 t_plan_firstEnds, aI g t_plan_rules_q 6 t_plan_rules, oX6 t_state_q t_plan_q t_state_secondEnds_q t_state_string_q t_state_barred t_state_period t_state_his t_state_beast t_state_habit t_state_onString t_state_step t_state_eaten, aI g t_state_secondEnds_q 10 t_state_secondEnds]) (As := [.int (7 : Int32), .int t_length]) (rest := []) (c_X3_fail l g _ t_q t_plan_q t_state_q t_tape_q t_length t_fault_46 t_faultPlace_47 t_lines t_place t_kind t_start t_value t_told (7 : Int32) t_length t_fault_50 t_faultPlace_51 hc_52) ⟨hx, hb, hml, hown, hts⟩ (cwV 2 hts gX3_checkWhole_X3_fail rfl rfl rfl (by decide +kernel) ⟨by decide, by decide⟩) hK hz hk hP (hD.re rfl) hS hA [0] rfl rfl rfl rfl rfl rfl rfl hl.1 rfl (Nat.le_of_ble_eq_true rfl) dX3_checkWhole_195 (fun H locs hP hS => ?_)
          exact hret t_fault_50 t_faultPlace_51 (Option.some.inj hf) _ _ _ _ hP hS dX3_checkWhole_198
      obtain ⟨j_53, hj_53, hf⟩ := jn0_e hf
      have J_53 : j_53 = some (t_fault', t_faultPlace') → ∀ (H : Heap) (locs : List Loc) (ls : Array Slot), va_P g.1 vwCl [oX3 t_q t_plan_q t_state_q t_length t_fault_42 t_faultPlace_43 t_lines t_tape_q t_place t_kind t_start t_value t_told, oX2 t_plan_q t_plan_firstEnds_q t_plan_rules_q t_plan_rooms t_plan_doorCount t_plan_ruleCount t_plan_stringLength, aI g t_plan_firstEnds_q 10 t_plan_firstEnds, aI g t_plan_rules_q 6 t_plan_rules, oX6 t_state_q t_plan_q t_state_secondEnds_q t_state_string_q t_state_barred t_state_period t_state_his t_state_beast t_state_habit t_state_onString t_state_step t_state_eaten, aI g t_state_secondEnds_q 10 t_state_secondEnds] H → va_S A s.heap H locs → lv_has ls 2 [(0, .ref t_q)] → W p l e rmX3_checkWhole s m args below meth c H locs 0 0 Q (F0 m 161 ls []) := by
        intro hf H locs ls hP hS hl
        rw [hj_53] at hf
        refine lv_aload_n hx hb dX3_checkWhole_161 rfl (lv_at hl 0 rfl) ?_
        refine lv_bipush (v := (6 : Int32)) hx hb dX3_checkWhole_162 (by decide) ?_
        refine lv_aload_n hx hb dX3_checkWhole_164 rfl (lv_at hl 0 rfl) ?_
        refine va_get (D := g.1) (ci := 3) (v := .int t_length) (C := RX3) (T := TX3) (N := 12) hx hb hts inX3 hown hK hP 0 rfl rfl 2 (by decide) k27 (fun _ h9 => h9) rfl dX3_checkWhole_165 ?_
        obtain ⟨t_fault_54, t_faultPlace_55, hc_56, hf⟩ := ob2_e hf
        refine kV_v (wn := [oX3 t_q t_plan_q t_state_q t_length t_fault_54 t_faultPlace_55 t_lines t_tape_q t_place t_kind t_start t_value t_told, oX2 t_plan_q t_plan_firstEnds_q t_plan_rules_q t_plan_rooms t_plan_doorCount t_plan_ruleCount t_plan_stringLength, aI g t_plan_firstEnds_q 10 t_plan_firstEnds, aI g t_plan_rules_q 6 t_plan_rules, oX6 t_state_q t_plan_q t_state_secondEnds_q t_state_string_q t_state_barred t_state_period t_state_his t_state_beast t_state_habit t_state_onString t_state_step t_state_eaten, aI g t_state_secondEnds_q 10 t_state_secondEnds]) (As := [.int (6 : Int32), .int t_length]) (rest := []) (c_X3_fail l g _ t_q t_plan_q t_state_q t_tape_q t_length t_fault_42 t_faultPlace_43 t_lines t_place t_kind t_start t_value t_told (6 : Int32) t_length t_fault_54 t_faultPlace_55 hc_56) ⟨hx, hb, hml, hown, hts⟩ (cwV 2 hts gX3_checkWhole_X3_fail rfl rfl rfl (by decide +kernel) ⟨by decide, by decide⟩) hK hz hk hP (hD.re rfl) hS hA [0] rfl rfl rfl rfl rfl rfl rfl hl.1 rfl (Nat.le_of_ble_eq_true rfl) dX3_checkWhole_168 (fun H locs hP hS => ?_)
        exact J_48 t_fault_54 t_faultPlace_55 hf _ _ _ hP hS (lv_sub hl [0] rfl)
      refine lv_if_eq (tgt := 161) hx hb dX3_checkWhole_129 (by decide) (fun c_57 => ?_) (fun c_57 => ?_)
      · have hf := ite_t hf c_57
        exact J_53 hf _ _ _ hP hS (lv_sub hl [0] rfl)
      · have hf := ite_f hf c_57
        refine lv_aload_n hx hb dX3_checkWhole_132 rfl (lv_at hl 0 rfl) ?_
        refine va_get (D := g.1) (ci := 3) (v := .ref t_state_q) (C := RX3) (T := TX3) (N := 12) hx hb hts inX3 hown hK hP 0 rfl rfl 1 (by decide) k23 (fun _ h9 => h9) rfl dX3_checkWhole_133 ?_
        refine va_get (D := g.1) (ci := 6) (v := .int t_state_beast) (C := RX6) (T := TX6) (N := 11) hx hb hts inX6 hown hK hP 4 rfl rfl 6 (by decide) k167 (fun _ h9 => h9) rfl dX3_checkWhole_136 ?_
        refine lv_bipush (v := (-4 : Int32)) hx hb dX3_checkWhole_139 (by decide) ?_
        refine lv_icmp_eq (tgt := 171) hx hb dX3_checkWhole_141 (by decide) (fun c_58 => ?_) (fun c_58 => ?_)
        · have hf := ite_t hf c_58
          exact J_48 t_fault_42 t_faultPlace_43 hf _ _ _ hP hS (lv_sub hl [0] rfl)
        · have hf := ite_f hf c_58
          refine lv_aload_n hx hb dX3_checkWhole_144 rfl (lv_at hl 0 rfl) ?_
          refine va_get (D := g.1) (ci := 3) (v := .ref t_plan_q) (C := RX3) (T := TX3) (N := 12) hx hb hts inX3 hown hK hP 0 rfl rfl 0 (by decide) k12 (fun _ h9 => h9) rfl dX3_checkWhole_145 ?_
          refine lv_aload_n hx hb dX3_checkWhole_148 rfl (lv_at hl 0 rfl) ?_
          refine va_get (D := g.1) (ci := 3) (v := .ref t_state_q) (C := RX3) (T := TX3) (N := 12) hx hb hts inX3 hown hK hP 0 rfl rfl 1 (by decide) k23 (fun _ h9 => h9) rfl dX3_checkWhole_149 ?_
          refine va_get (D := g.1) (ci := 6) (v := .int t_state_beast) (C := RX6) (T := TX6) (N := 11) hx hb hts inX6 hown hK hP 4 rfl rfl 6 (by decide) k167 (fun _ h9 => h9) rfl dX3_checkWhole_152 ?_
          obtain ⟨r_59, hc_60, hf⟩ := ob1_e hf
          refine kV_i (wn := [oX3 t_q t_plan_q t_state_q t_length t_fault_42 t_faultPlace_43 t_lines t_tape_q t_place t_kind t_start t_value t_told, oX2 t_plan_q t_plan_firstEnds_q t_plan_rules_q t_plan_rooms t_plan_doorCount t_plan_ruleCount t_plan_stringLength, aI g t_plan_firstEnds_q 10 t_plan_firstEnds, aI g t_plan_rules_q 6 t_plan_rules, oX6 t_state_q t_plan_q t_state_secondEnds_q t_state_string_q t_state_barred t_state_period t_state_his t_state_beast t_state_habit t_state_onString t_state_step t_state_eaten, aI g t_state_secondEnds_q 10 t_state_secondEnds]) (As := [.int t_state_beast]) (rest := []) (c_X2_hasRoom l g _ t_plan_q t_plan_firstEnds_q t_plan_rules_q t_plan_rooms t_plan_doorCount t_plan_ruleCount t_plan_stringLength t_state_beast r_59 hc_60) ⟨hx, hb, hml, hown, hts⟩ (cwV 1 hts gX3_checkWhole_X2_hasRoom rfl rfl rfl (by decide +kernel) ⟨by decide, by decide⟩) hK hz hk hP (hD.re rfl) hS hA [1] rfl rfl rfl rfl rfl rfl rfl hl.1 rfl (Nat.le_of_ble_eq_true rfl) dX3_checkWhole_155 (fun H locs hP hS => ?_)
          refine lv_if_ne (tgt := 171) hx hb dX3_checkWhole_158 (by decide) (fun c_61 => ?_) (fun c_61 => ?_)
          · have hf := ite_f hf c_61
            exact J_48 t_fault_42 t_faultPlace_43 hf _ _ _ hP hS (lv_sub hl [0] rfl)
          · have hf := ite_t hf c_61
            exact J_53 hf _ _ _ hP hS (lv_sub hl [0] rfl)
    have L_28 : ∀ (n : Nat) (v1_25 : Int32) (t_fault_26 : Int32) (t_faultPlace_27 : Int32), itr (un3 (b_X3_checkWhole_69 t_length t_plan_doorCount t_plan_ruleCount t_plan_rules)) n (v1_25, t_fault_26, t_faultPlace_27) = some (x1_41, t_fault_42, t_faultPlace_43) → ∀ (H : Heap) (locs : List Loc) (ls : Array Slot), va_P g.1 vwCl [oX3 t_q t_plan_q t_state_q t_length t_fault_26 t_faultPlace_27 t_lines t_tape_q t_place t_kind t_start t_value t_told, oX2 t_plan_q t_plan_firstEnds_q t_plan_rules_q t_plan_rooms t_plan_doorCount t_plan_ruleCount t_plan_stringLength, aI g t_plan_firstEnds_q 10 t_plan_firstEnds, aI g t_plan_rules_q 6 t_plan_rules, oX6 t_state_q t_plan_q t_state_secondEnds_q t_state_string_q t_state_barred t_state_period t_state_his t_state_beast t_state_habit t_state_onString t_state_step t_state_eaten, aI g t_state_secondEnds_q 10 t_state_secondEnds] H → va_S A s.heap H locs → lv_has ls 2 [(0, .ref t_q), (1, .int v1_25)] → W p l e rmX3_checkWhole s m args below meth c H locs 0 0 Q (F0 m 69 ls []) := by
      refine itr_ind3 ?_
      intro v1_25 t_fault_26 t_faultPlace_27 z_28 hf hrec hex H locs ls hP hS hl
      unfold b_X3_checkWhole_69 at hf
      refine lv_iload_n hx hb dX3_checkWhole_69 rfl (lv_at hl 1 rfl) ?_
      refine lv_aload_n hx hb dX3_checkWhole_70 rfl (lv_at hl 0 rfl) ?_
      refine va_get (D := g.1) (ci := 3) (v := .ref t_plan_q) (C := RX3) (T := TX3) (N := 12) hx hb hts inX3 hown hK hP 0 rfl rfl 0 (by decide) k12 (fun _ h9 => h9) rfl dX3_checkWhole_71 ?_
      refine va_get (D := g.1) (ci := 2) (v := .int t_plan_ruleCount) (C := RX2) (T := TX2) (N := 6) hx hb hts inX2 hown hK hP 1 rfl rfl 4 (by decide) k161 (fun _ h9 => h9) rfl dX3_checkWhole_74 ?_
      refine lv_icmp_ge (tgt := 115) hx hb dX3_checkWhole_77 (by decide) (fun c_29 => ?_) (fun c_29 => ?_)
      · have hf := ite_t hf c_29
        exact K_28 v1_25 t_fault_26 t_faultPlace_27 (congrArg (fun t => t.1) (hex _ (Option.some.inj hf).symm).symm) (congrArg (fun t => t.2.1) (hex _ (Option.some.inj hf).symm).symm) (congrArg (fun t => t.2.2) (hex _ (Option.some.inj hf).symm).symm) _ _ _ hP hS (lv_sub hl [0] rfl)
      · have hf := ite_f hf c_29
        refine lv_aload_n hx hb dX3_checkWhole_80 rfl (lv_at hl 0 rfl) ?_
        refine va_get (D := g.1) (ci := 3) (v := .ref t_plan_q) (C := RX3) (T := TX3) (N := 12) hx hb hts inX3 hown hK hP 0 rfl rfl 0 (by decide) k12 (fun _ h9 => h9) rfl dX3_checkWhole_81 ?_
        refine lv_aload_n hx hb dX3_checkWhole_84 rfl (lv_at hl 0 rfl) ?_
        refine va_get (D := g.1) (ci := 3) (v := .ref t_plan_q) (C := RX3) (T := TX3) (N := 12) hx hb hts inX3 hown hK hP 0 rfl rfl 0 (by decide) k12 (fun _ h9 => h9) rfl dX3_checkWhole_85 ?_
        refine va_get (D := g.1) (ci := 2) (v := .ref t_plan_rules_q) (C := RX2) (T := TX2) (N := 6) hx hb hts inX2 hown hK hP 1 rfl rfl 1 (by decide) k164 (fun _ h9 => h9) rfl dX3_checkWhole_88 ?_
        refine lv_iload_n hx hb dX3_checkWhole_91 rfl (lv_at hl 1 rfl) ?_
        obtain ⟨h_30, hf⟩ := gin_e hf
        refine va_iald hx hb hK hP 3 0 rfl rfl h_30 dX3_checkWhole_92 ?_
        obtain ⟨r_31, hc_32, hf⟩ := ob1_e hf
        refine kV_i (wn := [oX3 t_q t_plan_q t_state_q t_length t_fault_26 t_faultPlace_27 t_lines t_tape_q t_place t_kind t_start t_value t_told, oX2 t_plan_q t_plan_firstEnds_q t_plan_rules_q t_plan_rooms t_plan_doorCount t_plan_ruleCount t_plan_stringLength, aI g t_plan_firstEnds_q 10 t_plan_firstEnds, aI g t_plan_rules_q 6 t_plan_rules, oX6 t_state_q t_plan_q t_state_secondEnds_q t_state_string_q t_state_barred t_state_period t_state_his t_state_beast t_state_habit t_state_onString t_state_step t_state_eaten, aI g t_state_secondEnds_q 10 t_state_secondEnds]) (As := [.int (t_plan_rules v1_25.toNatClampNeg)]) (rest := []) (c_X2_hasDoorsOf l g _ t_plan_q t_plan_firstEnds_q t_plan_rules_q t_plan_rooms t_plan_doorCount t_plan_ruleCount t_plan_stringLength (t_plan_rules v1_25.toNatClampNeg) r_31 hc_32) ⟨hx, hb, hml, hown, hts⟩ (cwV 1 hts gX3_checkWhole_X2_hasDoorsOf rfl rfl rfl (by decide +kernel) ⟨by decide, by decide⟩) hK hz hk hP (hD.re rfl) hS hA [1] rfl rfl rfl rfl rfl rfl rfl hl.1 rfl (Nat.le_of_ble_eq_true rfl) dX3_checkWhole_93 (fun H locs hP hS => ?_)
        obtain ⟨j_35, hj_35, hf⟩ := jn2_e hf
        have J_35 : ∀ (t_fault_33 : Int32) (t_faultPlace_34 : Int32), j_35 t_fault_33 t_faultPlace_34 = some z_28 → ∀ (H : Heap) (locs : List Loc) (ls : Array Slot), va_P g.1 vwCl [oX3 t_q t_plan_q t_state_q t_length t_fault_33 t_faultPlace_34 t_lines t_tape_q t_place t_kind t_start t_value t_told, oX2 t_plan_q t_plan_firstEnds_q t_plan_rules_q t_plan_rooms t_plan_doorCount t_plan_ruleCount t_plan_stringLength, aI g t_plan_firstEnds_q 10 t_plan_firstEnds, aI g t_plan_rules_q 6 t_plan_rules, oX6 t_state_q t_plan_q t_state_secondEnds_q t_state_string_q t_state_barred t_state_period t_state_his t_state_beast t_state_habit t_state_onString t_state_step t_state_eaten, aI g t_state_secondEnds_q 10 t_state_secondEnds] H → va_S A s.heap H locs → lv_has ls 2 [(0, .ref t_q), (1, .int v1_25)] → W p l e rmX3_checkWhole s m args below meth c H locs 0 0 Q (F0 m 109 ls []) := by
          intro t_fault_33 t_faultPlace_34 hf H locs ls hP hS hl
          rw [hj_35] at hf
          obtain ⟨v1_36, ev1_36, hf⟩ := bnd_e hf
          refine lv_iinc (v := v1_36) (lv' := [(1, .int v1_36), (0, .ref t_q)]) hx hb dX3_checkWhole_109 hl (k := 1) rfl (by rw [ev1_36]; rfl) (by decide) rfl (fun ls hl => ?_)
          refine lv_goto (tgt := 69) hx hb dX3_checkWhole_112 (by decide) ?_
          exact hrec v1_36 t_fault_33 t_faultPlace_34 (Option.some.inj hf).symm _ _ _ hP hS (lv_sub hl [1, 0] rfl)
        refine lv_if_ne (tgt := 109) hx hb dX3_checkWhole_96 (by decide) (fun c_37 => ?_) (fun c_37 => ?_)
        · have hf := ite_f hf c_37
          exact J_35 t_fault_26 t_faultPlace_27 hf _ _ _ hP hS (lv_sub hl [0, 1] rfl)
        · have hf := ite_t hf c_37
          refine lv_aload_n hx hb dX3_checkWhole_99 rfl (lv_at hl 0 rfl) ?_
          refine lv_bipush (v := (6 : Int32)) hx hb dX3_checkWhole_100 (by decide) ?_
          refine lv_aload_n hx hb dX3_checkWhole_102 rfl (lv_at hl 0 rfl) ?_
          refine va_get (D := g.1) (ci := 3) (v := .int t_length) (C := RX3) (T := TX3) (N := 12) hx hb hts inX3 hown hK hP 0 rfl rfl 2 (by decide) k27 (fun _ h9 => h9) rfl dX3_checkWhole_103 ?_
          obtain ⟨t_fault_38, t_faultPlace_39, hc_40, hf⟩ := ob2_e hf
          refine kV_v (wn := [oX3 t_q t_plan_q t_state_q t_length t_fault_38 t_faultPlace_39 t_lines t_tape_q t_place t_kind t_start t_value t_told, oX2 t_plan_q t_plan_firstEnds_q t_plan_rules_q t_plan_rooms t_plan_doorCount t_plan_ruleCount t_plan_stringLength, aI g t_plan_firstEnds_q 10 t_plan_firstEnds, aI g t_plan_rules_q 6 t_plan_rules, oX6 t_state_q t_plan_q t_state_secondEnds_q t_state_string_q t_state_barred t_state_period t_state_his t_state_beast t_state_habit t_state_onString t_state_step t_state_eaten, aI g t_state_secondEnds_q 10 t_state_secondEnds]) (As := [.int (6 : Int32), .int t_length]) (rest := []) (c_X3_fail l g _ t_q t_plan_q t_state_q t_tape_q t_length t_fault_26 t_faultPlace_27 t_lines t_place t_kind t_start t_value t_told (6 : Int32) t_length t_fault_38 t_faultPlace_39 hc_40) ⟨hx, hb, hml, hown, hts⟩ (cwV 2 hts gX3_checkWhole_X3_fail rfl rfl rfl (by decide +kernel) ⟨by decide, by decide⟩) hK hz hk hP (hD.re rfl) hS hA [0] rfl rfl rfl rfl rfl rfl rfl hl.1 rfl (Nat.le_of_ble_eq_true rfl) dX3_checkWhole_106 (fun H locs hP hS => ?_)
          exact J_35 t_fault_38 t_faultPlace_39 hf _ _ _ hP hS (lv_sub hl [0, 1] rfl)
    exact L_28 FU (0 : Int32) t_fault_23 t_faultPlace_24 ho_28 _ _ _ hP hS (lv_sub hl [1, 0] rfl)
  have L_4 : ∀ (n : Nat) (v1_1 : Int32) (t_fault_2 : Int32) (t_faultPlace_3 : Int32), itr (un3 (b_X3_checkWhole_2 t_length t_plan_rooms t_plan_doorCount t_plan_firstEnds t_state_secondEnds)) n (v1_1, t_fault_2, t_faultPlace_3) = some (x1_22, t_fault_23, t_faultPlace_24) → ∀ (H : Heap) (locs : List Loc) (ls : Array Slot), va_P g.1 vwCl [oX3 t_q t_plan_q t_state_q t_length t_fault_2 t_faultPlace_3 t_lines t_tape_q t_place t_kind t_start t_value t_told, oX2 t_plan_q t_plan_firstEnds_q t_plan_rules_q t_plan_rooms t_plan_doorCount t_plan_ruleCount t_plan_stringLength, aI g t_plan_firstEnds_q 10 t_plan_firstEnds, aI g t_plan_rules_q 6 t_plan_rules, oX6 t_state_q t_plan_q t_state_secondEnds_q t_state_string_q t_state_barred t_state_period t_state_his t_state_beast t_state_habit t_state_onString t_state_step t_state_eaten, aI g t_state_secondEnds_q 10 t_state_secondEnds] H → va_S A s.heap H locs → lv_has ls 2 [(0, .ref t_q), (1, .int v1_1)] → W p l e rmX3_checkWhole s m args below meth c H locs 0 0 Q (F0 m 2 ls []) := by
    refine itr_ind3 ?_
    intro v1_1 t_fault_2 t_faultPlace_3 z_4 hf hrec hex H locs ls hP hS hl
    unfold b_X3_checkWhole_2 at hf
    refine lv_iload_n hx hb dX3_checkWhole_2 rfl (lv_at hl 1 rfl) ?_
    refine lv_aload_n hx hb dX3_checkWhole_3 rfl (lv_at hl 0 rfl) ?_
    refine va_get (D := g.1) (ci := 3) (v := .ref t_plan_q) (C := RX3) (T := TX3) (N := 12) hx hb hts inX3 hown hK hP 0 rfl rfl 0 (by decide) k12 (fun _ h9 => h9) rfl dX3_checkWhole_4 ?_
    refine va_get (D := g.1) (ci := 2) (v := .int t_plan_doorCount) (C := RX2) (T := TX2) (N := 6) hx hb hts inX2 hown hK hP 1 rfl rfl 3 (by decide) k151 (fun _ h9 => h9) rfl dX3_checkWhole_7 ?_
    refine lv_icmp_ge (tgt := 67) hx hb dX3_checkWhole_10 (by decide) (fun c_5 => ?_) (fun c_5 => ?_)
    · have hf := ite_t hf c_5
      exact K_4 v1_1 t_fault_2 t_faultPlace_3 (congrArg (fun t => t.1) (hex _ (Option.some.inj hf).symm).symm) (congrArg (fun t => t.2.1) (hex _ (Option.some.inj hf).symm).symm) (congrArg (fun t => t.2.2) (hex _ (Option.some.inj hf).symm).symm) _ _ _ hP hS (lv_sub hl [0] rfl)
    · have hf := ite_f hf c_5
      refine lv_aload_n hx hb dX3_checkWhole_13 rfl (lv_at hl 0 rfl) ?_
      refine va_get (D := g.1) (ci := 3) (v := .ref t_plan_q) (C := RX3) (T := TX3) (N := 12) hx hb hts inX3 hown hK hP 0 rfl rfl 0 (by decide) k12 (fun _ h9 => h9) rfl dX3_checkWhole_14 ?_
      refine lv_aload_n hx hb dX3_checkWhole_17 rfl (lv_at hl 0 rfl) ?_
      refine va_get (D := g.1) (ci := 3) (v := .ref t_plan_q) (C := RX3) (T := TX3) (N := 12) hx hb hts inX3 hown hK hP 0 rfl rfl 0 (by decide) k12 (fun _ h9 => h9) rfl dX3_checkWhole_18 ?_
      refine va_get (D := g.1) (ci := 2) (v := .ref t_plan_firstEnds_q) (C := RX2) (T := TX2) (N := 6) hx hb hts inX2 hown hK hP 1 rfl rfl 0 (by decide) k154 (fun _ h9 => h9) rfl dX3_checkWhole_21 ?_
      refine lv_iload_n hx hb dX3_checkWhole_24 rfl (lv_at hl 1 rfl) ?_
      obtain ⟨h_6, hf⟩ := gin_e hf
      refine va_iald hx hb hK hP 2 0 rfl rfl h_6 dX3_checkWhole_25 ?_
      obtain ⟨r_7, hc_8, hf⟩ := ob1_e hf
      refine kV_i (wn := [oX3 t_q t_plan_q t_state_q t_length t_fault_2 t_faultPlace_3 t_lines t_tape_q t_place t_kind t_start t_value t_told, oX2 t_plan_q t_plan_firstEnds_q t_plan_rules_q t_plan_rooms t_plan_doorCount t_plan_ruleCount t_plan_stringLength, aI g t_plan_firstEnds_q 10 t_plan_firstEnds, aI g t_plan_rules_q 6 t_plan_rules, oX6 t_state_q t_plan_q t_state_secondEnds_q t_state_string_q t_state_barred t_state_period t_state_his t_state_beast t_state_habit t_state_onString t_state_step t_state_eaten, aI g t_state_secondEnds_q 10 t_state_secondEnds]) (As := [.int (t_plan_firstEnds v1_1.toNatClampNeg)]) (rest := []) (c_X2_hasRoom l g _ t_plan_q t_plan_firstEnds_q t_plan_rules_q t_plan_rooms t_plan_doorCount t_plan_ruleCount t_plan_stringLength (t_plan_firstEnds v1_1.toNatClampNeg) r_7 hc_8) ⟨hx, hb, hml, hown, hts⟩ (cwV 1 hts gX3_checkWhole_X2_hasRoom rfl rfl rfl (by decide +kernel) ⟨by decide, by decide⟩) hK hz hk hP (hD.re rfl) hS hA [1] rfl rfl rfl rfl rfl rfl rfl hl.1 rfl (Nat.le_of_ble_eq_true rfl) dX3_checkWhole_26 (fun H locs hP hS => ?_)
      obtain ⟨j_11, hj_11, hf⟩ := jn2_e hf
      have J_11 : ∀ (t_fault_9 : Int32) (t_faultPlace_10 : Int32), j_11 t_fault_9 t_faultPlace_10 = some z_4 → ∀ (H : Heap) (locs : List Loc) (ls : Array Slot), va_P g.1 vwCl [oX3 t_q t_plan_q t_state_q t_length t_fault_9 t_faultPlace_10 t_lines t_tape_q t_place t_kind t_start t_value t_told, oX2 t_plan_q t_plan_firstEnds_q t_plan_rules_q t_plan_rooms t_plan_doorCount t_plan_ruleCount t_plan_stringLength, aI g t_plan_firstEnds_q 10 t_plan_firstEnds, aI g t_plan_rules_q 6 t_plan_rules, oX6 t_state_q t_plan_q t_state_secondEnds_q t_state_string_q t_state_barred t_state_period t_state_his t_state_beast t_state_habit t_state_onString t_state_step t_state_eaten, aI g t_state_secondEnds_q 10 t_state_secondEnds] H → va_S A s.heap H locs → lv_has ls 2 [(0, .ref t_q), (1, .int v1_1)] → W p l e rmX3_checkWhole s m args below meth c H locs 0 0 Q (F0 m 61 ls []) := by
        intro t_fault_9 t_faultPlace_10 hf H locs ls hP hS hl
        rw [hj_11] at hf
        obtain ⟨v1_12, ev1_12, hf⟩ := bnd_e hf
        refine lv_iinc (v := v1_12) (lv' := [(1, .int v1_12), (0, .ref t_q)]) hx hb dX3_checkWhole_61 hl (k := 1) rfl (by rw [ev1_12]; rfl) (by decide) rfl (fun ls hl => ?_)
        refine lv_goto (tgt := 2) hx hb dX3_checkWhole_64 (by decide) ?_
        exact hrec v1_12 t_fault_9 t_faultPlace_10 (Option.some.inj hf).symm _ _ _ hP hS (lv_sub hl [1, 0] rfl)
      obtain ⟨j_13, hj_13, hf⟩ := jn0_e hf
      have J_13 : j_13 = some z_4 → ∀ (H : Heap) (locs : List Loc) (ls : Array Slot), va_P g.1 vwCl [oX3 t_q t_plan_q t_state_q t_length t_fault_2 t_faultPlace_3 t_lines t_tape_q t_place t_kind t_start t_value t_told, oX2 t_plan_q t_plan_firstEnds_q t_plan_rules_q t_plan_rooms t_plan_doorCount t_plan_ruleCount t_plan_stringLength, aI g t_plan_firstEnds_q 10 t_plan_firstEnds, aI g t_plan_rules_q 6 t_plan_rules, oX6 t_state_q t_plan_q t_state_secondEnds_q t_state_string_q t_state_barred t_state_period t_state_his t_state_beast t_state_habit t_state_onString t_state_step t_state_eaten, aI g t_state_secondEnds_q 10 t_state_secondEnds] H → va_S A s.heap H locs → lv_has ls 2 [(0, .ref t_q), (1, .int v1_1)] → W p l e rmX3_checkWhole s m args below meth c H locs 0 0 Q (F0 m 51 ls []) := by
        intro hf H locs ls hP hS hl
        rw [hj_13] at hf
        refine lv_aload_n hx hb dX3_checkWhole_51 rfl (lv_at hl 0 rfl) ?_
        refine lv_bipush (v := (6 : Int32)) hx hb dX3_checkWhole_52 (by decide) ?_
        refine lv_aload_n hx hb dX3_checkWhole_54 rfl (lv_at hl 0 rfl) ?_
        refine va_get (D := g.1) (ci := 3) (v := .int t_length) (C := RX3) (T := TX3) (N := 12) hx hb hts inX3 hown hK hP 0 rfl rfl 2 (by decide) k27 (fun _ h9 => h9) rfl dX3_checkWhole_55 ?_
        obtain ⟨t_fault_14, t_faultPlace_15, hc_16, hf⟩ := ob2_e hf
        refine kV_v (wn := [oX3 t_q t_plan_q t_state_q t_length t_fault_14 t_faultPlace_15 t_lines t_tape_q t_place t_kind t_start t_value t_told, oX2 t_plan_q t_plan_firstEnds_q t_plan_rules_q t_plan_rooms t_plan_doorCount t_plan_ruleCount t_plan_stringLength, aI g t_plan_firstEnds_q 10 t_plan_firstEnds, aI g t_plan_rules_q 6 t_plan_rules, oX6 t_state_q t_plan_q t_state_secondEnds_q t_state_string_q t_state_barred t_state_period t_state_his t_state_beast t_state_habit t_state_onString t_state_step t_state_eaten, aI g t_state_secondEnds_q 10 t_state_secondEnds]) (As := [.int (6 : Int32), .int t_length]) (rest := []) (c_X3_fail l g _ t_q t_plan_q t_state_q t_tape_q t_length t_fault_2 t_faultPlace_3 t_lines t_place t_kind t_start t_value t_told (6 : Int32) t_length t_fault_14 t_faultPlace_15 hc_16) ⟨hx, hb, hml, hown, hts⟩ (cwV 2 hts gX3_checkWhole_X3_fail rfl rfl rfl (by decide +kernel) ⟨by decide, by decide⟩) hK hz hk hP (hD.re rfl) hS hA [0] rfl rfl rfl rfl rfl rfl rfl hl.1 rfl (Nat.le_of_ble_eq_true rfl) dX3_checkWhole_58 (fun H locs hP hS => ?_)
        exact J_11 t_fault_14 t_faultPlace_15 hf _ _ _ hP hS (lv_sub hl [0, 1] rfl)
      refine lv_if_eq (tgt := 51) hx hb dX3_checkWhole_29 (by decide) (fun c_17 => ?_) (fun c_17 => ?_)
      · have hf := ite_t hf c_17
        exact J_13 hf _ _ _ hP hS (lv_sub hl [0, 1] rfl)
      · have hf := ite_f hf c_17
        refine lv_aload_n hx hb dX3_checkWhole_32 rfl (lv_at hl 0 rfl) ?_
        refine va_get (D := g.1) (ci := 3) (v := .ref t_plan_q) (C := RX3) (T := TX3) (N := 12) hx hb hts inX3 hown hK hP 0 rfl rfl 0 (by decide) k12 (fun _ h9 => h9) rfl dX3_checkWhole_33 ?_
        refine lv_aload_n hx hb dX3_checkWhole_36 rfl (lv_at hl 0 rfl) ?_
        refine va_get (D := g.1) (ci := 3) (v := .ref t_state_q) (C := RX3) (T := TX3) (N := 12) hx hb hts inX3 hown hK hP 0 rfl rfl 1 (by decide) k23 (fun _ h9 => h9) rfl dX3_checkWhole_37 ?_
        refine va_get (D := g.1) (ci := 6) (v := .ref t_state_secondEnds_q) (C := RX6) (T := TX6) (N := 11) hx hb hts inX6 hown hK hP 4 rfl rfl 1 (by decide) k158 (fun _ h9 => h9) rfl dX3_checkWhole_40 ?_
        refine lv_iload_n hx hb dX3_checkWhole_43 rfl (lv_at hl 1 rfl) ?_
        obtain ⟨h_18, hf⟩ := gin_e hf
        refine va_iald hx hb hK hP 5 0 rfl rfl h_18 dX3_checkWhole_44 ?_
        obtain ⟨r_19, hc_20, hf⟩ := ob1_e hf
        refine kV_i (wn := [oX3 t_q t_plan_q t_state_q t_length t_fault_2 t_faultPlace_3 t_lines t_tape_q t_place t_kind t_start t_value t_told, oX2 t_plan_q t_plan_firstEnds_q t_plan_rules_q t_plan_rooms t_plan_doorCount t_plan_ruleCount t_plan_stringLength, aI g t_plan_firstEnds_q 10 t_plan_firstEnds, aI g t_plan_rules_q 6 t_plan_rules, oX6 t_state_q t_plan_q t_state_secondEnds_q t_state_string_q t_state_barred t_state_period t_state_his t_state_beast t_state_habit t_state_onString t_state_step t_state_eaten, aI g t_state_secondEnds_q 10 t_state_secondEnds]) (As := [.int (t_state_secondEnds v1_1.toNatClampNeg)]) (rest := []) (c_X2_hasRoom l g _ t_plan_q t_plan_firstEnds_q t_plan_rules_q t_plan_rooms t_plan_doorCount t_plan_ruleCount t_plan_stringLength (t_state_secondEnds v1_1.toNatClampNeg) r_19 hc_20) ⟨hx, hb, hml, hown, hts⟩ (cwV 1 hts gX3_checkWhole_X2_hasRoom rfl rfl rfl (by decide +kernel) ⟨by decide, by decide⟩) hK hz hk hP (hD.re rfl) hS hA [1] rfl rfl rfl rfl rfl rfl rfl hl.1 rfl (Nat.le_of_ble_eq_true rfl) dX3_checkWhole_45 (fun H locs hP hS => ?_)
        refine lv_if_ne (tgt := 61) hx hb dX3_checkWhole_48 (by decide) (fun c_21 => ?_) (fun c_21 => ?_)
        · have hf := ite_f hf c_21
          exact J_11 t_fault_2 t_faultPlace_3 hf _ _ _ hP hS (lv_sub hl [0, 1] rfl)
        · have hf := ite_t hf c_21
          exact J_13 hf _ _ _ hP hS (lv_sub hl [0, 1] rfl)
  exact L_4 FU (0 : Int32) t_fault t_faultPlace ho_4 _ _ _ hP hS (lv_sub hl [1, 0] rfl)

def f_X3_kindOf (p0 : Int32) : Option (Int32) :=
 (jn0 (jn0 (if p0 = (59 : Int32) then
 (some (3 : Int32))
 else (some (4 : Int32))) (fun j_2 =>
 (if p0 < (48 : Int32) then
 (j_2)
 else (if (57 : Int32) < p0 then
 (j_2)
 else (some (2 : Int32)))))) (fun j_1 =>
 (if p0 < (97 : Int32) then
 (j_1)
 else (if (122 : Int32) < p0 then
 (j_1)
 else (some (1 : Int32))))))
abbrev rmX3_kindOf : Room := { frames := 0, cells := 0, slots := 0, locals := 0 }
set_option maxHeartbeats 4000000 in
set_option maxRecDepth 100000 in
theorem c_X3_kindOf (l : Launch) (g : Gh) (sz : Nat) (p0 : Int32) (rr : Int32) (hf : f_X3_kindOf p0 = some rr) : CI l yX3_kindOf wsX3_kindOf rmX3_kindOf [.int p0] g sz [] [] rr := by
  refine ent_i (cc := cX3_kindOf) (maxL := 1) (by decide) rfl (Nat.le_of_ble_eq_true rfl) ?_
  intro p e s m args below meth c A Q hx hb hml hown hts hK hz hk hA hD hP hS hret ls hl
  have hown : s.vm.findClass RX3 = some m.cls := hown
  have hl : lv_has ls 1 [(0, .int p0)] := hl
  have hret : ∀ (rrz : Int32), rrz = rr → ∀ (H : Heap) (locs : List Loc) (pc : Nat) (ls : Array Slot), va_P g.1 vwCl [] H → va_S A s.heap H locs → decode cX3_kindOf pc = .ok (.ireturn, 1) → W p l e rmX3_kindOf s m args below meth c H locs 0 0 Q (F0 m pc ls [.int rrz]) := by
    intro rrz he H locs pc ls hP hS hd
    cases he
    exact hret H locs pc ls hP hS hd
  unfold f_X3_kindOf at hf
  refine lv_iload_n hx hb dX3_kindOf_0 rfl (lv_at hl 0 rfl) ?_
  refine lv_bipush (v := (97 : Int32)) hx hb dX3_kindOf_1 (by decide) ?_
  obtain ⟨j_1, hj_1, hf⟩ := jn0_e hf
  have J_1 : j_1 = some rr → ∀ (H : Heap) (locs : List Loc) (ls : Array Slot), va_P g.1 vwCl [] H → va_S A s.heap H locs → lv_has ls 1 [(0, .int p0)] → W p l e rmX3_kindOf s m args below meth c H locs 0 0 Q (F0 m 14 ls []) := by
    intro hf H locs ls hP hS hl
    rw [hj_1] at hf
    refine lv_iload_n hx hb dX3_kindOf_14 rfl (lv_at hl 0 rfl) ?_
    refine lv_bipush (v := (48 : Int32)) hx hb dX3_kindOf_15 (by decide) ?_
    obtain ⟨j_2, hj_2, hf⟩ := jn0_e hf
    have J_2 : j_2 = some rr → ∀ (H : Heap) (locs : List Loc) (ls : Array Slot), va_P g.1 vwCl [] H → va_S A s.heap H locs → lv_has ls 1 [(0, .int p0)] → W p l e rmX3_kindOf s m args below meth c H locs 0 0 Q (F0 m 28 ls []) := by
      intro hf H locs ls hP hS hl
      rw [hj_2] at hf
      refine lv_iload_n hx hb dX3_kindOf_28 rfl (lv_at hl 0 rfl) ?_
      refine lv_bipush (v := (59 : Int32)) hx hb dX3_kindOf_29 (by decide) ?_
      refine lv_icmp_ne (tgt := 38) hx hb dX3_kindOf_31 (by decide) (fun c_3 => ?_) (fun c_3 => ?_)
      · have hf := ite_f hf c_3
        refine lv_iconst (v := (4 : Int32)) hx hb dX3_kindOf_38 (by decide) ?_
        exact hret (4 : Int32) (Option.some.inj hf) _ _ _ _ hP hS dX3_kindOf_39
      · have hf := ite_t hf c_3
        refine lv_iconst (v := (3 : Int32)) hx hb dX3_kindOf_34 (by decide) ?_
        refine lv_goto (tgt := 39) hx hb dX3_kindOf_35 (by decide) ?_
        exact hret (3 : Int32) (Option.some.inj hf) _ _ _ _ hP hS dX3_kindOf_39
    refine lv_icmp_lt (tgt := 28) hx hb dX3_kindOf_17 (by decide) (fun c_4 => ?_) (fun c_4 => ?_)
    · have hf := ite_t hf c_4
      exact J_2 hf _ _ _ hP hS (lv_sub hl [0] rfl)
    · have hf := ite_f hf c_4
      refine lv_iload_n hx hb dX3_kindOf_20 rfl (lv_at hl 0 rfl) ?_
      refine lv_bipush (v := (57 : Int32)) hx hb dX3_kindOf_21 (by decide) ?_
      refine lv_icmp_gt (tgt := 28) hx hb dX3_kindOf_23 (by decide) (fun c_5 => ?_) (fun c_5 => ?_)
      · have hf := ite_t hf c_5
        exact J_2 hf _ _ _ hP hS (lv_sub hl [0] rfl)
      · have hf := ite_f hf c_5
        refine lv_iconst (v := (2 : Int32)) hx hb dX3_kindOf_26 (by decide) ?_
        exact hret (2 : Int32) (Option.some.inj hf) _ _ _ _ hP hS dX3_kindOf_27
  refine lv_icmp_lt (tgt := 14) hx hb dX3_kindOf_3 (by decide) (fun c_6 => ?_) (fun c_6 => ?_)
  · have hf := ite_t hf c_6
    exact J_1 hf _ _ _ hP hS (lv_sub hl [0] rfl)
  · have hf := ite_f hf c_6
    refine lv_iload_n hx hb dX3_kindOf_6 rfl (lv_at hl 0 rfl) ?_
    refine lv_bipush (v := (122 : Int32)) hx hb dX3_kindOf_7 (by decide) ?_
    refine lv_icmp_gt (tgt := 14) hx hb dX3_kindOf_9 (by decide) (fun c_7 => ?_) (fun c_7 => ?_)
    · have hf := ite_t hf c_7
      exact J_1 hf _ _ _ hP hS (lv_sub hl [0] rfl)
    · have hf := ite_f hf c_7
      refine lv_iconst (v := (1 : Int32)) hx hb dX3_kindOf_12 (by decide) ?_
      exact hret (1 : Int32) (Option.some.inj hf) _ _ _ _ hP hS dX3_kindOf_13
