def f_X3_readRule (t_length : Int32) (t_fault : Int32) (t_faultPlace : Int32) (t_place : Int32) (t_kind : Int32) (t_start : Int32) (t_value : Int32) (t_plan_ruleCount : Int32) (t_plan_rules : Nat → Int32) (t_tape : Nat → Int32) (p1 : Int32) : Option (Int32 × Int32 × Int32 × Int32 × Int32 × Int32 × Int32 × (Nat → Int32)) :=
 (if t_plan_ruleCount < (6 : Int32) then
 (ob7 (f_X3_nextWithin t_length t_fault t_faultPlace t_place t_kind t_start t_value t_tape (0 : Int32) (9 : Int32)) (fun r_2 t_fault_3 t_faultPlace_4 t_kind_5 t_place_6 t_start_7 t_value_8 =>
 (jn1 (fun (s_10 : Int32) => (bnd (p1 + s_10) (fun v3_12 =>
 (jn7 (fun (v3_13 : Int32) (t_fault_14 : Int32) (t_faultPlace_15 : Int32) (t_kind_16 : Int32) (t_place_17 : Int32) (t_start_18 : Int32) (t_value_19 : Int32) => (gin t_plan_ruleCount 6 (bnd (upd t_plan_rules t_plan_ruleCount.toNatClampNeg v3_13) (fun t_plan_rules_22 =>
 (bnd (t_plan_ruleCount + (1 : Int32)) (fun t_plan_ruleCount_23 =>
 (some (t_fault_14, t_faultPlace_15, t_kind_16, t_place_17, t_start_18, t_value_19, t_plan_ruleCount_23, t_plan_rules_22)))))))) (fun j_20 =>
 (if p1 = (100 : Int32) then
 (ob7 (f_X3_nextWithin t_length t_fault_3 t_faultPlace_4 t_place_6 t_kind_5 t_start_7 t_value_8 t_tape (1 : Int32) (6 : Int32)) (fun r_42 t_fault_43 t_faultPlace_44 t_kind_45 t_place_46 t_start_47 t_value_48 =>
 (bnd (v3_12 + r_42) (fun v3_50 =>
 (j_20 v3_50 t_fault_43 t_faultPlace_44 t_kind_45 t_place_46 t_start_47 t_value_48)))))
 else (if p1 = (0 : Int32) then
 (ob7 (f_X3_nextWithin t_length t_fault_3 t_faultPlace_4 t_place_6 t_kind_5 t_start_7 t_value_8 t_tape (0 : Int32) (9 : Int32)) (fun r_26 t_fault_27 t_faultPlace_28 t_kind_29 t_place_30 t_start_31 t_value_32 =>
 (jn2 (fun (t_fault_34 : Int32) (t_faultPlace_35 : Int32) => (bnd (v3_12 + r_26) (fun v3_37 =>
 (j_20 v3_37 t_fault_34 t_faultPlace_35 t_kind_29 t_place_30 t_start_31 t_value_32)))) (fun j_36 =>
 (if r_26 = r_2 then
 (ob2 (f_X3_fail t_fault_27 t_faultPlace_28 (4 : Int32) t_start_31) (fun t_fault_39 t_faultPlace_40 =>
 (j_36 t_fault_39 t_faultPlace_40)))
 else (j_36 t_fault_27 t_faultPlace_28))))))
 else (j_20 v3_12 t_fault_3 t_faultPlace_4 t_kind_5 t_place_6 t_start_7 t_value_8)))))))) (fun j_11 =>
 (if p1 = (200 : Int32) then
 (j_11 r_2)
 else (j_11 ((10 : Int32) * r_2)))))))
 else (ob2 (f_X3_fail t_fault t_faultPlace (5 : Int32) t_start) (fun t_fault_52 t_faultPlace_53 =>
 (some (t_fault_52, t_faultPlace_53, t_kind, t_place, t_start, t_value, t_plan_ruleCount, t_plan_rules)))))
abbrev rmX3_readRule : Room := { frames := 3, cells := 0, slots := 0, locals := 67 }
set_option maxHeartbeats 4000000 in
set_option maxRecDepth 100000 in
theorem c_X3_readRule (l : Launch) (g : Gh) (sz : Nat) (t_q t_plan_q t_state_q t_tape_q t_plan_firstEnds_q t_plan_rules_q : Nat) (t_length : Int32) (t_fault : Int32) (t_faultPlace : Int32) (t_lines : Int32) (t_place : Int32) (t_kind : Int32) (t_start : Int32) (t_value : Int32) (t_told : Int32) (t_plan_rooms : Int32) (t_plan_doorCount : Int32) (t_plan_ruleCount : Int32) (t_plan_stringLength : Int32) (t_plan_rules : Nat → Int32) (t_tape : Nat → Int32) (p1 : Int32) (t_fault' : Int32) (t_faultPlace' : Int32) (t_kind' : Int32) (t_place' : Int32) (t_start' : Int32) (t_value' : Int32) (t_plan_ruleCount' : Int32) (t_plan_rules' : Nat → Int32) (hf : f_X3_readRule t_length t_fault t_faultPlace t_place t_kind t_start t_value t_plan_ruleCount t_plan_rules t_tape p1 = some (t_fault', t_faultPlace', t_kind', t_place', t_start', t_value', t_plan_ruleCount', t_plan_rules')) : CV l yX3_readRule wsX3_readRule rmX3_readRule [.ref t_q, .int p1] g sz [oX3 t_q t_plan_q t_state_q t_length t_fault t_faultPlace t_lines t_tape_q t_place t_kind t_start t_value t_told, oX2 t_plan_q t_plan_firstEnds_q t_plan_rules_q t_plan_rooms t_plan_doorCount t_plan_ruleCount t_plan_stringLength, aI g t_plan_rules_q 6 t_plan_rules, aB g t_tape_q 320 t_tape] [oX3 t_q t_plan_q t_state_q t_length t_fault' t_faultPlace' t_lines t_tape_q t_place' t_kind' t_start' t_value' t_told, oX2 t_plan_q t_plan_firstEnds_q t_plan_rules_q t_plan_rooms t_plan_doorCount t_plan_ruleCount' t_plan_stringLength, aI g t_plan_rules_q 6 t_plan_rules', aB g t_tape_q 320 t_tape] := by
  refine ent_v (cc := cX3_readRule) (maxL := 5) (by decide) rfl (Nat.le_of_ble_eq_true rfl) ?_
  intro p e s m args below meth c A Q hx hb hml hown hts hK hz hk hA hD hP hS hret ls hl
  have hown : s.vm.findClass RX3 = some m.cls := hown
  have inX2 : ∀ w ∈ u_ws RX2 TX2 6, w ∈ wsX3_readRule := by decide +kernel
  have inX3 : ∀ w ∈ u_ws RX3 TX3 12, w ∈ wsX3_readRule := by decide +kernel
  have k12 := hts (.fieldLink RX3 12 "ThreadMoved$Reader" "plan" "LThreadMoved$Plan;") (by decide +kernel)
  have k66 := hts (.fieldLink RX3 66 "ThreadMoved$Reader" "start" "I") (by decide +kernel)
  have k161 := hts (.fieldLink RX3 161 "ThreadMoved$Plan" "ruleCount" "I") (by decide +kernel)
  have k164 := hts (.fieldLink RX3 164 "ThreadMoved$Plan" "rules" "[I") (by decide +kernel)
  have hl : lv_has ls 5 [(0, .ref t_q), (1, .int p1)] := hl
  have hret : ∀ (t_faultz : Int32) (t_faultPlacez : Int32) (t_kindz : Int32) (t_placez : Int32) (t_startz : Int32) (t_valuez : Int32) (t_plan_ruleCountz : Int32) (t_plan_rulesz : Nat → Int32), (t_faultz, t_faultPlacez, t_kindz, t_placez, t_startz, t_valuez, t_plan_ruleCountz, t_plan_rulesz) = (t_fault', t_faultPlace', t_kind', t_place', t_start', t_value', t_plan_ruleCount', t_plan_rules') → ∀ (H : Heap) (locs : List Loc) (pc : Nat) (ls : Array Slot), va_P g.1 vwCl [oX3 t_q t_plan_q t_state_q t_length t_faultz t_faultPlacez t_lines t_tape_q t_placez t_kindz t_startz t_valuez t_told, oX2 t_plan_q t_plan_firstEnds_q t_plan_rules_q t_plan_rooms t_plan_doorCount t_plan_ruleCountz t_plan_stringLength, aI g t_plan_rules_q 6 t_plan_rulesz, aB g t_tape_q 320 t_tape] H → va_S A s.heap H locs → decode cX3_readRule pc = .ok (.return_, 1) → W p l e rmX3_readRule s m args below meth c H locs 0 0 Q (F0 m pc ls []) := by
    intro t_faultz t_faultPlacez t_kindz t_placez t_startz t_valuez t_plan_ruleCountz t_plan_rulesz he H locs pc ls hP hS hd
    cases he
    exact hret H locs pc ls hP hS hd
  unfold f_X3_readRule at hf
  refine lv_aload_n hx hb dX3_readRule_0 rfl (lv_at hl 0 rfl) ?_
  refine va_get (D := g.1) (ci := 3) (v := .ref t_plan_q) (C := RX3) (T := TX3) (N := 12) hx hb hts inX3 hown hK hP 0 rfl rfl 0 (by decide) k12 (fun _ h9 => h9) rfl dX3_readRule_1 ?_
  refine va_get (D := g.1) (ci := 2) (v := .int t_plan_ruleCount) (C := RX2) (T := TX2) (N := 6) hx hb hts inX2 hown hK hP 1 rfl rfl 4 (by decide) k161 (fun _ h9 => h9) rfl dX3_readRule_4 ?_
  refine lv_bipush (v := (6 : Int32)) hx hb dX3_readRule_7 (by decide) ?_
  refine lv_icmp_lt (tgt := 22) hx hb dX3_readRule_9 (by decide) (fun c_1 => ?_) (fun c_1 => ?_)
  · have hf := ite_t hf c_1
    refine lv_aload_n hx hb dX3_readRule_22 rfl (lv_at hl 0 rfl) ?_
    refine lv_iconst (v := (0 : Int32)) hx hb dX3_readRule_23 (by decide) ?_
    refine lv_bipush (v := (9 : Int32)) hx hb dX3_readRule_24 (by decide) ?_
    obtain ⟨r_2, t_fault_3, t_faultPlace_4, t_kind_5, t_place_6, t_start_7, t_value_8, hc_9, hf⟩ := ob7_e hf
    refine kV_i (wn := [oX3 t_q t_plan_q t_state_q t_length t_fault_3 t_faultPlace_4 t_lines t_tape_q t_place_6 t_kind_5 t_start_7 t_value_8 t_told, oX2 t_plan_q t_plan_firstEnds_q t_plan_rules_q t_plan_rooms t_plan_doorCount t_plan_ruleCount t_plan_stringLength, aI g t_plan_rules_q 6 t_plan_rules, aB g t_tape_q 320 t_tape]) (As := [.int (0 : Int32), .int (9 : Int32)]) (rest := []) (c_X3_nextWithin l g _ t_q t_plan_q t_state_q t_tape_q t_length t_fault t_faultPlace t_lines t_place t_kind t_start t_value t_told t_tape (0 : Int32) (9 : Int32) r_2 t_fault_3 t_faultPlace_4 t_kind_5 t_place_6 t_start_7 t_value_8 hc_9) ⟨hx, hb, hml, hown, hts⟩ (cwV 2 hts gX3_readRule_X3_nextWithin rfl rfl rfl (by decide +kernel) ⟨by decide, by decide⟩) hK hz hk hP (hD.re rfl) hS hA [0, 3] rfl rfl rfl rfl rfl rfl rfl hl.1 rfl (Nat.le_of_ble_eq_true rfl) dX3_readRule_26 (fun H locs hP hS => ?_)
    refine lv_istore_n (lv' := [(2, .int r_2), (0, .ref t_q), (1, .int p1)]) hx hb dX3_readRule_29 rfl hl (by decide) rfl (fun ls hl => ?_)
    refine lv_iload_n hx hb dX3_readRule_30 rfl (lv_at hl 2 rfl) ?_
    refine lv_iload_n hx hb dX3_readRule_31 rfl (lv_at hl 2 rfl) ?_
    refine lv_sipush (v := (200 : Int32)) hx hb dX3_readRule_32 (by decide) ?_
    obtain ⟨j_11, hj_11, hf⟩ := jn1_e hf
    have J_11 : ∀ (s_10 : Int32), j_11 s_10 = some (t_fault', t_faultPlace', t_kind', t_place', t_start', t_value', t_plan_ruleCount', t_plan_rules') → ∀ (H : Heap) (locs : List Loc) (ls : Array Slot), va_P g.1 vwCl [oX3 t_q t_plan_q t_state_q t_length t_fault_3 t_faultPlace_4 t_lines t_tape_q t_place_6 t_kind_5 t_start_7 t_value_8 t_told, oX2 t_plan_q t_plan_firstEnds_q t_plan_rules_q t_plan_rooms t_plan_doorCount t_plan_ruleCount t_plan_stringLength, aI g t_plan_rules_q 6 t_plan_rules, aB g t_tape_q 320 t_tape] H → va_S A s.heap H locs → lv_has ls 5 [(0, .ref t_q), (1, .int p1), (2, .int r_2)] → W p l e rmX3_readRule s m args below meth c H locs 0 0 Q (F0 m 46 ls [.int s_10, .int p1]) := by
      intro s_10 hf H locs ls hP hS hl
      rw [hj_11] at hf
      refine lv_iadd hx hb dX3_readRule_46 ?_
      obtain ⟨v3_12, ev3_12, hf⟩ := bnd_e hf
      refine tp_i ev3_12 ?_
      refine lv_istore_n (lv' := [(3, .int v3_12), (0, .ref t_q), (1, .int p1), (2, .int r_2)]) hx hb dX3_readRule_47 rfl hl (by decide) rfl (fun ls hl => ?_)
      refine lv_iload_n hx hb dX3_readRule_48 rfl (lv_at hl 2 rfl) ?_
      refine lv_bipush (v := (100 : Int32)) hx hb dX3_readRule_49 (by decide) ?_
      obtain ⟨j_20, hj_20, hf⟩ := jn7_e hf
      have J_20 : ∀ (v3_13 : Int32) (t_fault_14 : Int32) (t_faultPlace_15 : Int32) (t_kind_16 : Int32) (t_place_17 : Int32) (t_start_18 : Int32) (t_value_19 : Int32), j_20 v3_13 t_fault_14 t_faultPlace_15 t_kind_16 t_place_17 t_start_18 t_value_19 = some (t_fault', t_faultPlace', t_kind', t_place', t_start', t_value', t_plan_ruleCount', t_plan_rules') → ∀ (H : Heap) (locs : List Loc) (ls : Array Slot), va_P g.1 vwCl [oX3 t_q t_plan_q t_state_q t_length t_fault_14 t_faultPlace_15 t_lines t_tape_q t_place_17 t_kind_16 t_start_18 t_value_19 t_told, oX2 t_plan_q t_plan_firstEnds_q t_plan_rules_q t_plan_rooms t_plan_doorCount t_plan_ruleCount t_plan_stringLength, aI g t_plan_rules_q 6 t_plan_rules, aB g t_tape_q 320 t_tape] H → va_S A s.heap H locs → lv_has ls 5 [(0, .ref t_q), (3, .int v3_13)] → W p l e rmX3_readRule s m args below meth c H locs 0 0 Q (F0 m 100 ls []) := by
        intro v3_13 t_fault_14 t_faultPlace_15 t_kind_16 t_place_17 t_start_18 t_value_19 hf H locs ls hP hS hl
        rw [hj_20] at hf
        refine lv_aload_n hx hb dX3_readRule_100 rfl (lv_at hl 0 rfl) ?_
        refine va_get (D := g.1) (ci := 3) (v := .ref t_plan_q) (C := RX3) (T := TX3) (N := 12) hx hb hts inX3 hown hK hP 0 rfl rfl 0 (by decide) k12 (fun _ h9 => h9) rfl dX3_readRule_101 ?_
        refine va_get (D := g.1) (ci := 2) (v := .ref t_plan_rules_q) (C := RX2) (T := TX2) (N := 6) hx hb hts inX2 hown hK hP 1 rfl rfl 1 (by decide) k164 (fun _ h9 => h9) rfl dX3_readRule_104 ?_
        refine lv_aload_n hx hb dX3_readRule_107 rfl (lv_at hl 0 rfl) ?_
        refine va_get (D := g.1) (ci := 3) (v := .ref t_plan_q) (C := RX3) (T := TX3) (N := 12) hx hb hts inX3 hown hK hP 0 rfl rfl 0 (by decide) k12 (fun _ h9 => h9) rfl dX3_readRule_108 ?_
        refine va_get (D := g.1) (ci := 2) (v := .int t_plan_ruleCount) (C := RX2) (T := TX2) (N := 6) hx hb hts inX2 hown hK hP 1 rfl rfl 4 (by decide) k161 (fun _ h9 => h9) rfl dX3_readRule_111 ?_
        refine lv_iload_n hx hb dX3_readRule_114 rfl (lv_at hl 1 rfl) ?_
        obtain ⟨h_21, hf⟩ := gin_e hf
        obtain ⟨t_plan_rules_22, et_plan_rules_22, hf⟩ := bnd_e hf
        refine va_iast hx hb hK hP (hD.re rfl) hS 2 0 rfl rfl h_21 dX3_readRule_115 (fun H locs hP _ hS => ?_)
        have hP : va_P g.1 vwCl [oX3 t_q t_plan_q t_state_q t_length t_fault_14 t_faultPlace_15 t_lines t_tape_q t_place_17 t_kind_16 t_start_18 t_value_19 t_told, oX2 t_plan_q t_plan_firstEnds_q t_plan_rules_q t_plan_rooms t_plan_doorCount t_plan_ruleCount t_plan_stringLength, aI g t_plan_rules_q 6 t_plan_rules_22, aB g t_tape_q 320 t_tape] H := by rw [et_plan_rules_22]; exact hP
        refine lv_aload_n hx hb dX3_readRule_116 rfl (lv_at hl 0 rfl) ?_
        refine va_get (D := g.1) (ci := 3) (v := .ref t_plan_q) (C := RX3) (T := TX3) (N := 12) hx hb hts inX3 hown hK hP 0 rfl rfl 0 (by decide) k12 (fun _ h9 => h9) rfl dX3_readRule_117 ?_
        refine lv_dup hx hb dX3_readRule_120 rfl ?_
        refine va_get (D := g.1) (ci := 2) (v := .int t_plan_ruleCount) (C := RX2) (T := TX2) (N := 6) hx hb hts inX2 hown hK hP 1 rfl rfl 4 (by decide) k161 (fun _ h9 => h9) rfl dX3_readRule_121 ?_
        refine lv_iconst (v := (1 : Int32)) hx hb dX3_readRule_124 (by decide) ?_
        refine lv_iadd hx hb dX3_readRule_125 ?_
        obtain ⟨t_plan_ruleCount_23, et_plan_ruleCount_23, hf⟩ := bnd_e hf
        refine tp_i et_plan_ruleCount_23 ?_
        refine va_put (D := g.1) (ci := 2) (v := .int t_plan_ruleCount_23) (ty := .int) (C := RX2) (T := TX2) (N := 6) hx hb hts inX2 tyX2 tyX2_ok nmX2 hown hK hP (hD.re rfl) hS 1 rfl rfl 4 (by decide) k161 (fun _ h9 => h9) rfl (by decide +kernel) rfl rfl (Nat.le_of_ble_eq_true rfl) dX3_readRule_126 (fun H locs hP _ hS => ?_)
        have hP : va_P g.1 vwCl [oX3 t_q t_plan_q t_state_q t_length t_fault_14 t_faultPlace_15 t_lines t_tape_q t_place_17 t_kind_16 t_start_18 t_value_19 t_told, oX2 t_plan_q t_plan_firstEnds_q t_plan_rules_q t_plan_rooms t_plan_doorCount t_plan_ruleCount_23 t_plan_stringLength, aI g t_plan_rules_q 6 t_plan_rules_22, aB g t_tape_q 320 t_tape] H := hP
        exact hret t_fault_14 t_faultPlace_15 t_kind_16 t_place_17 t_start_18 t_value_19 t_plan_ruleCount_23 t_plan_rules_22 (Option.some.inj hf) _ _ _ _ hP hS dX3_readRule_129
      refine lv_icmp_ne (tgt := 67) hx hb dX3_readRule_51 (by decide) (fun c_24 => ?_) (fun c_24 => ?_)
      · have hf := ite_f hf c_24
        refine lv_iload_n hx hb dX3_readRule_67 rfl (lv_at hl 2 rfl) ?_
        refine lv_if_ne (tgt := 100) hx hb dX3_readRule_68 (by decide) (fun c_25 => ?_) (fun c_25 => ?_)
        · have hf := ite_f hf c_25
          exact J_20 v3_12 t_fault_3 t_faultPlace_4 t_kind_5 t_place_6 t_start_7 t_value_8 hf _ _ _ hP hS (lv_sub hl [1, 0] rfl)
        · have hf := ite_t hf c_25
          refine lv_aload_n hx hb dX3_readRule_71 rfl (lv_at hl 1 rfl) ?_
          refine lv_iconst (v := (0 : Int32)) hx hb dX3_readRule_72 (by decide) ?_
          refine lv_bipush (v := (9 : Int32)) hx hb dX3_readRule_73 (by decide) ?_
          obtain ⟨r_26, t_fault_27, t_faultPlace_28, t_kind_29, t_place_30, t_start_31, t_value_32, hc_33, hf⟩ := ob7_e hf
          refine kV_i (wn := [oX3 t_q t_plan_q t_state_q t_length t_fault_27 t_faultPlace_28 t_lines t_tape_q t_place_30 t_kind_29 t_start_31 t_value_32 t_told, oX2 t_plan_q t_plan_firstEnds_q t_plan_rules_q t_plan_rooms t_plan_doorCount t_plan_ruleCount t_plan_stringLength, aI g t_plan_rules_q 6 t_plan_rules, aB g t_tape_q 320 t_tape]) (As := [.int (0 : Int32), .int (9 : Int32)]) (rest := []) (c_X3_nextWithin l g _ t_q t_plan_q t_state_q t_tape_q t_length t_fault_3 t_faultPlace_4 t_lines t_place_6 t_kind_5 t_start_7 t_value_8 t_told t_tape (0 : Int32) (9 : Int32) r_26 t_fault_27 t_faultPlace_28 t_kind_29 t_place_30 t_start_31 t_value_32 hc_33) ⟨hx, hb, hml, hown, hts⟩ (cwV 2 hts gX3_readRule_X3_nextWithin rfl rfl rfl (by decide +kernel) ⟨by decide, by decide⟩) hK hz hk hP (hD.re rfl) hS hA [0, 3] rfl rfl rfl rfl rfl rfl rfl hl.1 rfl (Nat.le_of_ble_eq_true rfl) dX3_readRule_75 (fun H locs hP hS => ?_)
          refine lv_istore (lv' := [(4, .int r_26), (3, .int v3_12), (0, .ref t_q), (1, .int p1), (2, .int r_2)]) hx hb dX3_readRule_78 hl (by decide) rfl (fun ls hl => ?_)
          refine lv_iload hx hb dX3_readRule_80 (lv_at hl 0 rfl) ?_
          refine lv_iload_n hx hb dX3_readRule_82 rfl (lv_at hl 4 rfl) ?_
          obtain ⟨j_36, hj_36, hf⟩ := jn2_e hf
          have J_36 : ∀ (t_fault_34 : Int32) (t_faultPlace_35 : Int32), j_36 t_fault_34 t_faultPlace_35 = some (t_fault', t_faultPlace', t_kind', t_place', t_start', t_value', t_plan_ruleCount', t_plan_rules') → ∀ (H : Heap) (locs : List Loc) (ls : Array Slot), va_P g.1 vwCl [oX3 t_q t_plan_q t_state_q t_length t_fault_34 t_faultPlace_35 t_lines t_tape_q t_place_30 t_kind_29 t_start_31 t_value_32 t_told, oX2 t_plan_q t_plan_firstEnds_q t_plan_rules_q t_plan_rooms t_plan_doorCount t_plan_ruleCount t_plan_stringLength, aI g t_plan_rules_q 6 t_plan_rules, aB g t_tape_q 320 t_tape] H → va_S A s.heap H locs → lv_has ls 5 [(0, .ref t_q), (3, .int v3_12), (4, .int r_26)] → W p l e rmX3_readRule s m args below meth c H locs 0 0 Q (F0 m 95 ls []) := by
            intro t_fault_34 t_faultPlace_35 hf H locs ls hP hS hl
            rw [hj_36] at hf
            refine lv_iload_n hx hb dX3_readRule_95 rfl (lv_at hl 1 rfl) ?_
            refine lv_iload hx hb dX3_readRule_96 (lv_at hl 2 rfl) ?_
            refine lv_iadd hx hb dX3_readRule_98 ?_
            obtain ⟨v3_37, ev3_37, hf⟩ := bnd_e hf
            refine tp_i ev3_37 ?_
            refine lv_istore_n (lv' := [(3, .int v3_37), (0, .ref t_q), (4, .int r_26)]) hx hb dX3_readRule_99 rfl hl (by decide) rfl (fun ls hl => ?_)
            exact J_20 v3_37 t_fault_34 t_faultPlace_35 t_kind_29 t_place_30 t_start_31 t_value_32 hf _ _ _ hP hS (lv_sub hl [1, 0] rfl)
          refine lv_icmp_ne (tgt := 95) hx hb dX3_readRule_83 (by decide) (fun c_38 => ?_) (fun c_38 => ?_)
          · have hf := ite_f hf c_38
            exact J_36 t_fault_27 t_faultPlace_28 hf _ _ _ hP hS (lv_sub hl [2, 1, 0] rfl)
          · have hf := ite_t hf c_38
            refine lv_aload_n hx hb dX3_readRule_86 rfl (lv_at hl 2 rfl) ?_
            refine lv_iconst (v := (4 : Int32)) hx hb dX3_readRule_87 (by decide) ?_
            refine lv_aload_n hx hb dX3_readRule_88 rfl (lv_at hl 2 rfl) ?_
            refine va_get (D := g.1) (ci := 3) (v := .int t_start_31) (C := RX3) (T := TX3) (N := 12) hx hb hts inX3 hown hK hP 0 rfl rfl 9 (by decide) k66 (fun _ h9 => h9) rfl dX3_readRule_89 ?_
            obtain ⟨t_fault_39, t_faultPlace_40, hc_41, hf⟩ := ob2_e hf
            refine kV_v (wn := [oX3 t_q t_plan_q t_state_q t_length t_fault_39 t_faultPlace_40 t_lines t_tape_q t_place_30 t_kind_29 t_start_31 t_value_32 t_told, oX2 t_plan_q t_plan_firstEnds_q t_plan_rules_q t_plan_rooms t_plan_doorCount t_plan_ruleCount t_plan_stringLength, aI g t_plan_rules_q 6 t_plan_rules, aB g t_tape_q 320 t_tape]) (As := [.int (4 : Int32), .int t_start_31]) (rest := []) (c_X3_fail l g _ t_q t_plan_q t_state_q t_tape_q t_length t_fault_27 t_faultPlace_28 t_lines t_place_30 t_kind_29 t_start_31 t_value_32 t_told (4 : Int32) t_start_31 t_fault_39 t_faultPlace_40 hc_41) ⟨hx, hb, hml, hown, hts⟩ (cwV 2 hts gX3_readRule_X3_fail rfl rfl rfl (by decide +kernel) ⟨by decide, by decide⟩) hK hz hk hP (hD.re rfl) hS hA [0] rfl rfl rfl rfl rfl rfl rfl hl.1 rfl (Nat.le_of_ble_eq_true rfl) dX3_readRule_92 (fun H locs hP hS => ?_)
            exact J_36 t_fault_39 t_faultPlace_40 hf _ _ _ hP hS (lv_sub hl [2, 1, 0] rfl)
      · have hf := ite_t hf c_24
        refine lv_iload_n hx hb dX3_readRule_54 rfl (lv_at hl 0 rfl) ?_
        refine lv_aload_n hx hb dX3_readRule_55 rfl (lv_at hl 1 rfl) ?_
        refine lv_iconst (v := (1 : Int32)) hx hb dX3_readRule_56 (by decide) ?_
        refine lv_bipush (v := (6 : Int32)) hx hb dX3_readRule_57 (by decide) ?_
        obtain ⟨r_42, t_fault_43, t_faultPlace_44, t_kind_45, t_place_46, t_start_47, t_value_48, hc_49, hf⟩ := ob7_e hf
        refine kV_i (wn := [oX3 t_q t_plan_q t_state_q t_length t_fault_43 t_faultPlace_44 t_lines t_tape_q t_place_46 t_kind_45 t_start_47 t_value_48 t_told, oX2 t_plan_q t_plan_firstEnds_q t_plan_rules_q t_plan_rooms t_plan_doorCount t_plan_ruleCount t_plan_stringLength, aI g t_plan_rules_q 6 t_plan_rules, aB g t_tape_q 320 t_tape]) (As := [.int (1 : Int32), .int (6 : Int32)]) (rest := [.int v3_12]) (c_X3_nextWithin l g _ t_q t_plan_q t_state_q t_tape_q t_length t_fault_3 t_faultPlace_4 t_lines t_place_6 t_kind_5 t_start_7 t_value_8 t_told t_tape (1 : Int32) (6 : Int32) r_42 t_fault_43 t_faultPlace_44 t_kind_45 t_place_46 t_start_47 t_value_48 hc_49) ⟨hx, hb, hml, hown, hts⟩ (cwV 2 hts gX3_readRule_X3_nextWithin rfl rfl rfl (by decide +kernel) ⟨by decide, by decide⟩) hK hz hk hP (hD.re rfl) hS hA [0, 3] rfl rfl rfl rfl rfl rfl rfl hl.1 rfl (Nat.le_of_ble_eq_true rfl) dX3_readRule_59 (fun H locs hP hS => ?_)
        refine lv_iadd hx hb dX3_readRule_62 ?_
        obtain ⟨v3_50, ev3_50, hf⟩ := bnd_e hf
        refine tp_i ev3_50 ?_
        refine lv_istore_n (lv' := [(3, .int v3_50), (0, .ref t_q), (1, .int p1), (2, .int r_2)]) hx hb dX3_readRule_63 rfl hl (by decide) rfl (fun ls hl => ?_)
        refine lv_goto (tgt := 100) hx hb dX3_readRule_64 (by decide) ?_
        exact J_20 v3_50 t_fault_43 t_faultPlace_44 t_kind_45 t_place_46 t_start_47 t_value_48 hf _ _ _ hP hS (lv_sub hl [1, 0] rfl)
    refine lv_icmp_ne (tgt := 42) hx hb dX3_readRule_35 (by decide) (fun c_51 => ?_) (fun c_51 => ?_)
    · have hf := ite_f hf c_51
      refine lv_bipush (v := (10 : Int32)) hx hb dX3_readRule_42 (by decide) ?_
      refine lv_iload_n hx hb dX3_readRule_44 rfl (lv_at hl 0 rfl) ?_
      refine lv_imul hx hb dX3_readRule_45 ?_
      exact J_11 ((10 : Int32) * r_2) hf _ _ _ hP hS (lv_sub hl [1, 2, 0] rfl)
    · have hf := ite_t hf c_51
      refine lv_iload_n hx hb dX3_readRule_38 rfl (lv_at hl 0 rfl) ?_
      refine lv_goto (tgt := 46) hx hb dX3_readRule_39 (by decide) ?_
      exact J_11 r_2 hf _ _ _ hP hS (lv_sub hl [1, 2, 0] rfl)
  · have hf := ite_f hf c_1
    refine lv_aload_n hx hb dX3_readRule_12 rfl (lv_at hl 0 rfl) ?_
    refine lv_iconst (v := (5 : Int32)) hx hb dX3_readRule_13 (by decide) ?_
    refine lv_aload_n hx hb dX3_readRule_14 rfl (lv_at hl 0 rfl) ?_
    refine va_get (D := g.1) (ci := 3) (v := .int t_start) (C := RX3) (T := TX3) (N := 12) hx hb hts inX3 hown hK hP 0 rfl rfl 9 (by decide) k66 (fun _ h9 => h9) rfl dX3_readRule_15 ?_
    obtain ⟨t_fault_52, t_faultPlace_53, hc_54, hf⟩ := ob2_e hf
    refine kV_v (wn := [oX3 t_q t_plan_q t_state_q t_length t_fault_52 t_faultPlace_53 t_lines t_tape_q t_place t_kind t_start t_value t_told, oX2 t_plan_q t_plan_firstEnds_q t_plan_rules_q t_plan_rooms t_plan_doorCount t_plan_ruleCount t_plan_stringLength, aI g t_plan_rules_q 6 t_plan_rules, aB g t_tape_q 320 t_tape]) (As := [.int (5 : Int32), .int t_start]) (rest := []) (c_X3_fail l g _ t_q t_plan_q t_state_q t_tape_q t_length t_fault t_faultPlace t_lines t_place t_kind t_start t_value t_told (5 : Int32) t_start t_fault_52 t_faultPlace_53 hc_54) ⟨hx, hb, hml, hown, hts⟩ (cwV 2 hts gX3_readRule_X3_fail rfl rfl rfl (by decide +kernel) ⟨by decide, by decide⟩) hK hz hk hP (hD.re rfl) hS hA [0] rfl rfl rfl rfl rfl rfl rfl hl.1 rfl (Nat.le_of_ble_eq_true rfl) dX3_readRule_18 (fun H locs hP hS => ?_)
    exact hret t_fault_52 t_faultPlace_53 t_kind t_place t_start t_value t_plan_ruleCount t_plan_rules (Option.some.inj hf) _ _ _ _ hP hS dX3_readRule_21
