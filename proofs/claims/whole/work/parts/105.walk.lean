def f_X4_reach (t_met : Int64) (t_pairs : Nat → Int32) (t_parents : Nat → Int32) (t_prowls : Nat → Int32) (t_sizes : Nat → Int32) (t_steps : Nat → Int32) (p1 : Int32) (p2 : Int32) (p3 : Int32) (p4 : Int32) : Option (Int64 × (Nat → Int32) × (Nat → Int32) × (Nat → Int32) × (Nat → Int32)) :=
 (bnd (p4 / (8 : Int32)) (fun v5_1 =>
 (if (p4 - p4 / (8 : Int32) * (8 : Int32)) = v5_1 then
 (some (t_met, t_pairs, t_parents, t_sizes, t_steps))
 else (gin p4 56 (if (t_prowls p4.toNatClampNeg) = v5_1 then
 (some (t_met, t_pairs, t_parents, t_sizes, t_steps))
 else (gin p4 56 (bnd ((v5_1 * (8 : Int32)) + (t_prowls p4.toNatClampNeg)) (fun v6_6 =>
 (if (lg_cmp ((t_met >>> (v6_6.toInt64 &&& 63)) &&& (1 : Int64)) (0 : Int64)) = (0 : Int32) then
 (bnd (t_met ||| ((1 : Int64) <<< (v6_6.toInt64 &&& 63))) (fun t_met_8 =>
 (gin p1 25 (bnd ((p1 * (56 : Int32)) + (t_sizes p1.toNatClampNeg)) (fun v7_10 =>
 (gin v7_10 1400 (bnd (upd t_pairs v7_10.toNatClampNeg v6_6) (fun t_pairs_12 =>
 (gin v7_10 1400 (bnd (upd t_parents v7_10.toNatClampNeg p2) (fun t_parents_14 =>
 (gin v7_10 1400 (bnd (upd t_steps v7_10.toNatClampNeg p3) (fun t_steps_16 =>
 (gin p1 25 (gin p1 25 (bnd (upd t_sizes p1.toNatClampNeg ((t_sizes p1.toNatClampNeg) + (1 : Int32))) (fun t_sizes_19 =>
 (some (t_met_8, t_pairs_12, t_parents_14, t_sizes_19, t_steps_16))))))))))))))))))))
 else (some (t_met, t_pairs, t_parents, t_sizes, t_steps)))))))))))
abbrev rmX4_reach : Room := { frames := 0, cells := 0, slots := 0, locals := 0 }
set_option maxHeartbeats 4000000 in
set_option maxRecDepth 100000 in
theorem c_X4_reach (l : Launch) (g : Gh) (sz : Nat) (t_q t_pairs_q t_parents_q t_steps_q t_sizes_q t_prowls_q : Nat) (t_met : Int64) (t_pairs : Nat → Int32) (t_parents : Nat → Int32) (t_prowls : Nat → Int32) (t_sizes : Nat → Int32) (t_steps : Nat → Int32) (p1 : Int32) (p2 : Int32) (p3 : Int32) (p4 : Int32) (t_met' : Int64) (t_pairs' : Nat → Int32) (t_parents' : Nat → Int32) (t_sizes' : Nat → Int32) (t_steps' : Nat → Int32) (hf : f_X4_reach t_met t_pairs t_parents t_prowls t_sizes t_steps p1 p2 p3 p4 = some (t_met', t_pairs', t_parents', t_sizes', t_steps')) : CV l yX4_reach wsX4_reach rmX4_reach [.ref t_q, .int p1, .int p2, .int p3, .int p4] g sz [oX4 t_q t_pairs_q t_parents_q t_steps_q t_sizes_q t_prowls_q t_met, aI g t_pairs_q 1400 t_pairs, aI g t_parents_q 1400 t_parents, aI g t_prowls_q 56 t_prowls, aI g t_sizes_q 25 t_sizes, aI g t_steps_q 1400 t_steps] [oX4 t_q t_pairs_q t_parents_q t_steps_q t_sizes_q t_prowls_q t_met', aI g t_pairs_q 1400 t_pairs', aI g t_parents_q 1400 t_parents', aI g t_prowls_q 56 t_prowls, aI g t_sizes_q 25 t_sizes', aI g t_steps_q 1400 t_steps'] := by
  refine ent_v (cc := cX4_reach) (maxL := 8) (by decide) rfl (Nat.le_of_ble_eq_true rfl) ?_
  intro p e s m args below meth c A Q hx hb hml hown hts hK hz hk hA hD hP hS hret ls hl
  have hown : s.vm.findClass RX4 = some m.cls := hown
  have inX4 : ∀ w ∈ u_ws RX4 TX4 6, w ∈ wsX4_reach := by decide +kernel
  have k11 := hts (.fieldLink RX4 11 "ThreadMoved$Search" "pairs" "[I") (by decide +kernel)
  have k15 := hts (.fieldLink RX4 15 "ThreadMoved$Search" "parents" "[I") (by decide +kernel)
  have k18 := hts (.fieldLink RX4 18 "ThreadMoved$Search" "steps" "[I") (by decide +kernel)
  have k21 := hts (.fieldLink RX4 21 "ThreadMoved$Search" "sizes" "[I") (by decide +kernel)
  have k24 := hts (.fieldLink RX4 24 "ThreadMoved$Search" "prowls" "[I") (by decide +kernel)
  have k43 := hts (.fieldLink RX4 43 "ThreadMoved$Search" "met" "J") (by decide +kernel)
  have hl : lv_has ls 8 [(0, .ref t_q), (1, .int p1), (2, .int p2), (3, .int p3), (4, .int p4)] := hl
  have hret : ∀ (t_metz : Int64) (t_pairsz : Nat → Int32) (t_parentsz : Nat → Int32) (t_sizesz : Nat → Int32) (t_stepsz : Nat → Int32), (t_metz, t_pairsz, t_parentsz, t_sizesz, t_stepsz) = (t_met', t_pairs', t_parents', t_sizes', t_steps') → ∀ (H : Heap) (locs : List Loc) (pc : Nat) (ls : Array Slot), va_P g.1 vwCl [oX4 t_q t_pairs_q t_parents_q t_steps_q t_sizes_q t_prowls_q t_metz, aI g t_pairs_q 1400 t_pairsz, aI g t_parents_q 1400 t_parentsz, aI g t_prowls_q 56 t_prowls, aI g t_sizes_q 25 t_sizesz, aI g t_steps_q 1400 t_stepsz] H → va_S A s.heap H locs → decode cX4_reach pc = .ok (.return_, 1) → W p l e rmX4_reach s m args below meth c H locs 0 0 Q (F0 m pc ls []) := by
    intro t_metz t_pairsz t_parentsz t_sizesz t_stepsz he H locs pc ls hP hS hd
    cases he
    exact hret H locs pc ls hP hS hd
  unfold f_X4_reach at hf
  refine lv_iload hx hb dX4_reach_0 (lv_at hl 4 rfl) ?_
  refine lv_bipush (v := (8 : Int32)) hx hb dX4_reach_2 (by decide) ?_
  refine lv_idiv hx hb dX4_reach_4 (by decide) ?_
  obtain ⟨v5_1, ev5_1, hf⟩ := bnd_e hf
  refine tp_i ev5_1 ?_
  refine lv_istore (lv' := [(5, .int v5_1), (0, .ref t_q), (1, .int p1), (2, .int p2), (3, .int p3), (4, .int p4)]) hx hb dX4_reach_5 hl (by decide) rfl (fun ls hl => ?_)
  refine lv_iload hx hb dX4_reach_7 (lv_at hl 5 rfl) ?_
  refine lv_bipush (v := (8 : Int32)) hx hb dX4_reach_9 (by decide) ?_
  refine lv_irem hx hb dX4_reach_11 (by decide) ?_
  refine lv_iload hx hb dX4_reach_12 (lv_at hl 0 rfl) ?_
  refine lv_icmp_eq (tgt := 29) hx hb dX4_reach_14 (by decide) (fun c_2 => ?_) (fun c_2 => ?_)
  · have hf := ite_t hf c_2
    exact hret t_met t_pairs t_parents t_sizes t_steps (Option.some.inj hf) _ _ _ _ hP hS dX4_reach_29
  · have hf := ite_f hf c_2
    refine lv_aload_n hx hb dX4_reach_17 rfl (lv_at hl 1 rfl) ?_
    refine va_get (D := g.1) (ci := 4) (v := .ref t_prowls_q) (C := RX4) (T := TX4) (N := 6) hx hb hts inX4 hown hK hP 0 rfl rfl 4 (by decide) k24 (fun _ h9 => h9) rfl dX4_reach_18 ?_
    refine lv_iload hx hb dX4_reach_21 (lv_at hl 5 rfl) ?_
    obtain ⟨h_3, hf⟩ := gin_e hf
    refine va_iald hx hb hK hP 3 0 rfl rfl h_3 dX4_reach_23 ?_
    refine lv_iload hx hb dX4_reach_24 (lv_at hl 0 rfl) ?_
    refine lv_icmp_ne (tgt := 30) hx hb dX4_reach_26 (by decide) (fun c_4 => ?_) (fun c_4 => ?_)
    · have hf := ite_f hf c_4
      refine lv_iload hx hb dX4_reach_30 (lv_at hl 0 rfl) ?_
      refine lv_bipush (v := (8 : Int32)) hx hb dX4_reach_32 (by decide) ?_
      refine lv_imul hx hb dX4_reach_34 ?_
      refine lv_aload_n hx hb dX4_reach_35 rfl (lv_at hl 1 rfl) ?_
      refine va_get (D := g.1) (ci := 4) (v := .ref t_prowls_q) (C := RX4) (T := TX4) (N := 6) hx hb hts inX4 hown hK hP 0 rfl rfl 4 (by decide) k24 (fun _ h9 => h9) rfl dX4_reach_36 ?_
      refine lv_iload hx hb dX4_reach_39 (lv_at hl 5 rfl) ?_
      obtain ⟨h_5, hf⟩ := gin_e hf
      refine va_iald hx hb hK hP 3 0 rfl rfl h_5 dX4_reach_41 ?_
      refine lv_iadd hx hb dX4_reach_42 ?_
      obtain ⟨v6_6, ev6_6, hf⟩ := bnd_e hf
      refine tp_i ev6_6 ?_
      refine lv_istore (lv' := [(6, .int v6_6), (5, .int v5_1), (0, .ref t_q), (1, .int p1), (2, .int p2), (3, .int p3), (4, .int p4)]) hx hb dX4_reach_43 hl (by decide) rfl (fun ls hl => ?_)
      refine lv_aload_n hx hb dX4_reach_45 rfl (lv_at hl 2 rfl) ?_
      refine va_get (D := g.1) (ci := 4) (v := .long t_met) (C := RX4) (T := TX4) (N := 6) hx hb hts inX4 hown hK hP 0 rfl rfl 5 (by decide) k43 (fun _ h9 => h9) rfl dX4_reach_46 ?_
      refine lv_iload hx hb dX4_reach_49 (lv_at hl 0 rfl) ?_
      refine lv_lshr hx hb dX4_reach_51 rfl ?_
      refine lv_lconst (v := (1 : Int64)) hx hb dX4_reach_52 (by decide) ?_
      refine lv_land hx hb dX4_reach_53 ?_
      refine lv_lconst (v := (0 : Int64)) hx hb dX4_reach_54 (by decide) ?_
      refine W.lcmp hx hb dX4_reach_55 ?_
      refine lv_if_eq (tgt := 60) hx hb dX4_reach_56 (by decide) (fun c_7 => ?_) (fun c_7 => ?_)
      · have hf := ite_t hf c_7
        refine lv_aload_n hx hb dX4_reach_60 rfl (lv_at hl 2 rfl) ?_
        refine lv_dup hx hb dX4_reach_61 rfl ?_
        refine va_get (D := g.1) (ci := 4) (v := .long t_met) (C := RX4) (T := TX4) (N := 6) hx hb hts inX4 hown hK hP 0 rfl rfl 5 (by decide) k43 (fun _ h9 => h9) rfl dX4_reach_62 ?_
        refine lv_lconst (v := (1 : Int64)) hx hb dX4_reach_65 (by decide) ?_
        refine lv_iload hx hb dX4_reach_66 (lv_at hl 0 rfl) ?_
        refine lv_lshl hx hb dX4_reach_68 rfl ?_
        refine lv_lor hx hb dX4_reach_69 ?_
        obtain ⟨t_met_8, et_met_8, hf⟩ := bnd_e hf
        refine tp_l et_met_8 ?_
        refine va_put (D := g.1) (ci := 4) (v := .long t_met_8) (ty := .long) (C := RX4) (T := TX4) (N := 6) hx hb hts inX4 tyX4 tyX4_ok nmX4 hown hK hP (hD.re rfl) hS 0 rfl rfl 5 (by decide) k43 (fun _ h9 => h9) rfl (by decide +kernel) rfl rfl (Nat.le_of_ble_eq_true rfl) dX4_reach_70 (fun H locs hP _ hS => ?_)
        have hP : va_P g.1 vwCl [oX4 t_q t_pairs_q t_parents_q t_steps_q t_sizes_q t_prowls_q t_met_8, aI g t_pairs_q 1400 t_pairs, aI g t_parents_q 1400 t_parents, aI g t_prowls_q 56 t_prowls, aI g t_sizes_q 25 t_sizes, aI g t_steps_q 1400 t_steps] H := hP
        refine lv_iload_n hx hb dX4_reach_73 rfl (lv_at hl 3 rfl) ?_
        refine lv_bipush (v := (56 : Int32)) hx hb dX4_reach_74 (by decide) ?_
        refine lv_imul hx hb dX4_reach_76 ?_
        refine lv_aload_n hx hb dX4_reach_77 rfl (lv_at hl 2 rfl) ?_
        refine va_get (D := g.1) (ci := 4) (v := .ref t_sizes_q) (C := RX4) (T := TX4) (N := 6) hx hb hts inX4 hown hK hP 0 rfl rfl 3 (by decide) k21 (fun _ h9 => h9) rfl dX4_reach_78 ?_
        refine lv_iload_n hx hb dX4_reach_81 rfl (lv_at hl 3 rfl) ?_
        obtain ⟨h_9, hf⟩ := gin_e hf
        refine va_iald hx hb hK hP 4 0 rfl rfl h_9 dX4_reach_82 ?_
        refine lv_iadd hx hb dX4_reach_83 ?_
        obtain ⟨v7_10, ev7_10, hf⟩ := bnd_e hf
        refine tp_i ev7_10 ?_
        refine lv_istore (lv' := [(7, .int v7_10), (6, .int v6_6), (5, .int v5_1), (0, .ref t_q), (1, .int p1), (2, .int p2), (3, .int p3), (4, .int p4)]) hx hb dX4_reach_84 hl (by decide) rfl (fun ls hl => ?_)
        refine lv_aload_n hx hb dX4_reach_86 rfl (lv_at hl 3 rfl) ?_
        refine va_get (D := g.1) (ci := 4) (v := .ref t_pairs_q) (C := RX4) (T := TX4) (N := 6) hx hb hts inX4 hown hK hP 0 rfl rfl 0 (by decide) k11 (fun _ h9 => h9) rfl dX4_reach_87 ?_
        refine lv_iload hx hb dX4_reach_90 (lv_at hl 0 rfl) ?_
        refine lv_iload hx hb dX4_reach_92 (lv_at hl 1 rfl) ?_
        obtain ⟨h_11, hf⟩ := gin_e hf
        obtain ⟨t_pairs_12, et_pairs_12, hf⟩ := bnd_e hf
        refine va_iast hx hb hK hP (hD.re rfl) hS 1 0 rfl rfl h_11 dX4_reach_94 (fun H locs hP _ hS => ?_)
        have hP : va_P g.1 vwCl [oX4 t_q t_pairs_q t_parents_q t_steps_q t_sizes_q t_prowls_q t_met_8, aI g t_pairs_q 1400 t_pairs_12, aI g t_parents_q 1400 t_parents, aI g t_prowls_q 56 t_prowls, aI g t_sizes_q 25 t_sizes, aI g t_steps_q 1400 t_steps] H := by rw [et_pairs_12]; exact hP
        refine lv_aload_n hx hb dX4_reach_95 rfl (lv_at hl 3 rfl) ?_
        refine va_get (D := g.1) (ci := 4) (v := .ref t_parents_q) (C := RX4) (T := TX4) (N := 6) hx hb hts inX4 hown hK hP 0 rfl rfl 1 (by decide) k15 (fun _ h9 => h9) rfl dX4_reach_96 ?_
        refine lv_iload hx hb dX4_reach_99 (lv_at hl 0 rfl) ?_
        refine lv_iload_n hx hb dX4_reach_101 rfl (lv_at hl 5 rfl) ?_
        obtain ⟨h_13, hf⟩ := gin_e hf
        obtain ⟨t_parents_14, et_parents_14, hf⟩ := bnd_e hf
        refine va_iast hx hb hK hP (hD.re rfl) hS 2 0 rfl rfl h_13 dX4_reach_102 (fun H locs hP _ hS => ?_)
        have hP : va_P g.1 vwCl [oX4 t_q t_pairs_q t_parents_q t_steps_q t_sizes_q t_prowls_q t_met_8, aI g t_pairs_q 1400 t_pairs_12, aI g t_parents_q 1400 t_parents_14, aI g t_prowls_q 56 t_prowls, aI g t_sizes_q 25 t_sizes, aI g t_steps_q 1400 t_steps] H := by rw [et_parents_14]; exact hP
        refine lv_aload_n hx hb dX4_reach_103 rfl (lv_at hl 3 rfl) ?_
        refine va_get (D := g.1) (ci := 4) (v := .ref t_steps_q) (C := RX4) (T := TX4) (N := 6) hx hb hts inX4 hown hK hP 0 rfl rfl 2 (by decide) k18 (fun _ h9 => h9) rfl dX4_reach_104 ?_
        refine lv_iload hx hb dX4_reach_107 (lv_at hl 0 rfl) ?_
        refine lv_iload_n hx hb dX4_reach_109 rfl (lv_at hl 6 rfl) ?_
        obtain ⟨h_15, hf⟩ := gin_e hf
        obtain ⟨t_steps_16, et_steps_16, hf⟩ := bnd_e hf
        refine va_iast hx hb hK hP (hD.re rfl) hS 5 0 rfl rfl h_15 dX4_reach_110 (fun H locs hP _ hS => ?_)
        have hP : va_P g.1 vwCl [oX4 t_q t_pairs_q t_parents_q t_steps_q t_sizes_q t_prowls_q t_met_8, aI g t_pairs_q 1400 t_pairs_12, aI g t_parents_q 1400 t_parents_14, aI g t_prowls_q 56 t_prowls, aI g t_sizes_q 25 t_sizes, aI g t_steps_q 1400 t_steps_16] H := by rw [et_steps_16]; exact hP
        refine lv_aload_n hx hb dX4_reach_111 rfl (lv_at hl 3 rfl) ?_
        refine va_get (D := g.1) (ci := 4) (v := .ref t_sizes_q) (C := RX4) (T := TX4) (N := 6) hx hb hts inX4 hown hK hP 0 rfl rfl 3 (by decide) k21 (fun _ h9 => h9) rfl dX4_reach_112 ?_
        refine lv_iload_n hx hb dX4_reach_115 rfl (lv_at hl 4 rfl) ?_
        refine lv_dup2_11 hx hb dX4_reach_116 rfl rfl ?_
        obtain ⟨h_17, hf⟩ := gin_e hf
        refine va_iald hx hb hK hP 4 0 rfl rfl h_17 dX4_reach_117 ?_
        refine lv_iconst (v := (1 : Int32)) hx hb dX4_reach_118 (by decide) ?_
        refine lv_iadd hx hb dX4_reach_119 ?_
        obtain ⟨h_18, hf⟩ := gin_e hf
        obtain ⟨t_sizes_19, et_sizes_19, hf⟩ := bnd_e hf
        refine va_iast hx hb hK hP (hD.re rfl) hS 4 0 rfl rfl h_18 dX4_reach_120 (fun H locs hP _ hS => ?_)
        have hP : va_P g.1 vwCl [oX4 t_q t_pairs_q t_parents_q t_steps_q t_sizes_q t_prowls_q t_met_8, aI g t_pairs_q 1400 t_pairs_12, aI g t_parents_q 1400 t_parents_14, aI g t_prowls_q 56 t_prowls, aI g t_sizes_q 25 t_sizes_19, aI g t_steps_q 1400 t_steps_16] H := by rw [et_sizes_19]; exact hP
        exact hret t_met_8 t_pairs_12 t_parents_14 t_sizes_19 t_steps_16 (Option.some.inj hf) _ _ _ _ hP hS dX4_reach_121
      · have hf := ite_f hf c_7
        exact hret t_met t_pairs t_parents t_sizes t_steps (Option.some.inj hf) _ _ _ _ hP hS dX4_reach_59
    · have hf := ite_t hf c_4
      exact hret t_met t_pairs t_parents t_sizes t_steps (Option.some.inj hf) _ _ _ _ hP hS dX4_reach_29

def b_X4_grow_54 (a2_barred : Int32) (a2_plan_doorCount : Int32) (a2_plan_firstEnds : Nat → Int32) (a2_secondEnds : Nat → Int32) (p1 : Int32) (t_prowls_2 : Nat → Int32) (v3_6 : Int32) (v4_16 : Int32) (v5_17 : Int32) (t_met_18 : Int64) (t_pairs_19 : Nat → Int32) (t_parents_20 : Nat → Int32) (t_sizes_21 : Nat → Int32) (t_steps_22 : Nat → Int32) : Option ((Int32 × Int64 × (Nat → Int32) × (Nat → Int32) × (Nat → Int32) × (Nat → Int32)) ⊕ (Int32 × Int64 × (Nat → Int32) × (Nat → Int32) × (Nat → Int32) × (Nat → Int32))) :=
 (if a2_plan_doorCount ≤ v5_17 then
 (some (.inr (v5_17, t_met_18, t_pairs_19, t_parents_20, t_sizes_21, t_steps_22)))
 else (ob1 (f_X6_across a2_barred a2_plan_doorCount a2_plan_firstEnds a2_secondEnds v5_17 (v4_16 / (8 : Int32))) (fun r_25 =>
 (jn5 (fun (t_met_27 : Int64) (t_pairs_28 : Nat → Int32) (t_parents_29 : Nat → Int32) (t_sizes_30 : Nat → Int32) (t_steps_31 : Nat → Int32) => (bnd (v5_17 + (1 : Int32)) (fun v5_33 =>
 (some (.inl (v5_33, t_met_27, t_pairs_28, t_parents_29, t_sizes_30, t_steps_31)))))) (fun j_32 =>
 (if r_25 = (-4 : Int32) then
 (j_32 t_met_18 t_pairs_19 t_parents_20 t_sizes_21 t_steps_22)
 else (ob5 (f_X4_reach t_met_18 t_pairs_19 t_parents_20 t_prowls_2 t_sizes_21 t_steps_22 (p1 + (1 : Int32)) v3_6 v5_17 ((r_25 * (8 : Int32)) + (v4_16 - v4_16 / (8 : Int32) * (8 : Int32)))) (fun t_met_35 t_pairs_36 t_parents_37 t_sizes_38 t_steps_39 =>
 (j_32 t_met_35 t_pairs_36 t_parents_37 t_sizes_38 t_steps_39)))))))))
def b_X4_grow_28 (a2_barred : Int32) (a2_plan_doorCount : Int32) (a2_plan_firstEnds : Nat → Int32) (a2_secondEnds : Nat → Int32) (p1 : Int32) (t_prowls_2 : Nat → Int32) (v3_6 : Int32) (t_met_7 : Int64) (t_pairs_8 : Nat → Int32) (t_parents_9 : Nat → Int32) (t_sizes_10 : Nat → Int32) (t_steps_11 : Nat → Int32) : Option ((Int32 × Int64 × (Nat → Int32) × (Nat → Int32) × (Nat → Int32) × (Nat → Int32)) ⊕ (Int32 × Int64 × (Nat → Int32) × (Nat → Int32) × (Nat → Int32) × (Nat → Int32))) :=
 (gin p1 25 (if (t_sizes_10 p1.toNatClampNeg) ≤ v3_6 then
 (some (.inr (v3_6, t_met_7, t_pairs_8, t_parents_9, t_sizes_10, t_steps_11)))
 else (gin ((p1 * (56 : Int32)) + v3_6) 1400 (bnd (t_pairs_8 ((p1 * (56 : Int32)) + v3_6).toNatClampNeg) (fun v4_16 =>
 (ob6 (itr (un6 (b_X4_grow_54 a2_barred a2_plan_doorCount a2_plan_firstEnds a2_secondEnds p1 t_prowls_2 v3_6 v4_16)) FU ((0 : Int32), t_met_7, t_pairs_8, t_parents_9, t_sizes_10, t_steps_11)) (fun x5_41 t_met_42 t_pairs_43 t_parents_44 t_sizes_45 t_steps_46 =>
 (ob5 (f_X4_reach t_met_42 t_pairs_43 t_parents_44 t_prowls_2 t_sizes_45 t_steps_46 (p1 + (1 : Int32)) v3_6 (10 : Int32) v4_16) (fun t_met_47 t_pairs_48 t_parents_49 t_sizes_50 t_steps_51 =>
 (bnd (v3_6 + (1 : Int32)) (fun v3_53 =>
 (some (.inl (v3_53, t_met_47, t_pairs_48, t_parents_49, t_sizes_50, t_steps_51))))))))))))))
def f_X4_grow (t_met : Int64) (a2_barred : Int32) (a2_period : Int32) (a2_habit : Int32) (a2_step : Int32) (a2_plan_rooms : Int32) (a2_plan_doorCount : Int32) (a2_plan_ruleCount : Int32) (a2_plan_firstEnds : Nat → Int32) (a2_plan_rules : Nat → Int32) (a2_secondEnds : Nat → Int32) (t_pairs : Nat → Int32) (t_parents : Nat → Int32) (t_prowls : Nat → Int32) (t_sizes : Nat → Int32) (t_steps : Nat → Int32) (p1 : Int32) : Option (Int32 × Int32 × (Nat → Int32) × Int64 × (Nat → Int32) × (Nat → Int32) × (Nat → Int32) × (Nat → Int32) × (Nat → Int32)) :=
 (if p1 < (24 : Int32) then
 (ob1 (f_X4_foreseeProwls a2_barred a2_habit a2_step a2_plan_rooms a2_plan_doorCount a2_plan_firstEnds a2_secondEnds t_prowls) (fun t_prowls_2 =>
 (gin (p1 + (1 : Int32)) 25 (bnd (upd t_sizes (p1 + (1 : Int32)).toNatClampNeg (0 : Int32)) (fun t_sizes_5 =>
 (ob6 (itr (un6 (b_X4_grow_28 a2_barred a2_plan_doorCount a2_plan_firstEnds a2_secondEnds p1 t_prowls_2)) FU ((0 : Int32), (0 : Int64), t_pairs, t_parents, t_sizes_5, t_steps)) (fun x3_54 t_met_55 t_pairs_56 t_parents_57 t_sizes_58 t_steps_59 =>
 (ob3 (f_X6_passTime a2_barred a2_period a2_step a2_plan_rooms a2_plan_ruleCount a2_plan_rules a2_secondEnds) (fun t_barred_60 t_step_61 t_secondEnds_62 =>
 (some (t_barred_60, t_step_61, t_secondEnds_62, t_met_55, t_pairs_56, t_parents_57, t_prowls_2, t_sizes_58, t_steps_59)))))))))))
 else (some (a2_barred, a2_step, a2_secondEnds, t_met, t_pairs, t_parents, t_prowls, t_sizes, t_steps)))
abbrev rmX4_grow : Room := { frames := 5, cells := 0, slots := 0, locals := 114 }
set_option maxHeartbeats 4000000 in
set_option maxRecDepth 100000 in
theorem c_X4_grow (l : Launch) (g : Gh) (sz : Nat) (t_q t_pairs_q t_parents_q t_steps_q t_sizes_q t_prowls_q a2_q a2_plan_q a2_secondEnds_q a2_string_q a2_plan_firstEnds_q a2_plan_rules_q : Nat) (t_met : Int64) (a2_barred : Int32) (a2_period : Int32) (a2_his : Int32) (a2_beast : Int32) (a2_habit : Int32) (a2_onString : Int32) (a2_step : Int32) (a2_eaten : Int32) (a2_plan_rooms : Int32) (a2_plan_doorCount : Int32) (a2_plan_ruleCount : Int32) (a2_plan_stringLength : Int32) (a2_plan_firstEnds : Nat → Int32) (a2_plan_rules : Nat → Int32) (a2_secondEnds : Nat → Int32) (t_pairs : Nat → Int32) (t_parents : Nat → Int32) (t_prowls : Nat → Int32) (t_sizes : Nat → Int32) (t_steps : Nat → Int32) (p1 : Int32) (a2_barred' : Int32) (a2_step' : Int32) (a2_secondEnds' : Nat → Int32) (t_met' : Int64) (t_pairs' : Nat → Int32) (t_parents' : Nat → Int32) (t_prowls' : Nat → Int32) (t_sizes' : Nat → Int32) (t_steps' : Nat → Int32) (hf : f_X4_grow t_met a2_barred a2_period a2_habit a2_step a2_plan_rooms a2_plan_doorCount a2_plan_ruleCount a2_plan_firstEnds a2_plan_rules a2_secondEnds t_pairs t_parents t_prowls t_sizes t_steps p1 = some (a2_barred', a2_step', a2_secondEnds', t_met', t_pairs', t_parents', t_prowls', t_sizes', t_steps')) : CV l yX4_grow wsX4_grow rmX4_grow [.ref t_q, .int p1, .ref a2_q] g sz [oX4 t_q t_pairs_q t_parents_q t_steps_q t_sizes_q t_prowls_q t_met, oX6 a2_q a2_plan_q a2_secondEnds_q a2_string_q a2_barred a2_period a2_his a2_beast a2_habit a2_onString a2_step a2_eaten, oX2 a2_plan_q a2_plan_firstEnds_q a2_plan_rules_q a2_plan_rooms a2_plan_doorCount a2_plan_ruleCount a2_plan_stringLength, aI g a2_plan_firstEnds_q 10 a2_plan_firstEnds, aI g a2_plan_rules_q 6 a2_plan_rules, aI g a2_secondEnds_q 10 a2_secondEnds, aI g t_pairs_q 1400 t_pairs, aI g t_parents_q 1400 t_parents, aI g t_prowls_q 56 t_prowls, aI g t_sizes_q 25 t_sizes, aI g t_steps_q 1400 t_steps] [oX4 t_q t_pairs_q t_parents_q t_steps_q t_sizes_q t_prowls_q t_met', oX6 a2_q a2_plan_q a2_secondEnds_q a2_string_q a2_barred' a2_period a2_his a2_beast a2_habit a2_onString a2_step' a2_eaten, oX2 a2_plan_q a2_plan_firstEnds_q a2_plan_rules_q a2_plan_rooms a2_plan_doorCount a2_plan_ruleCount a2_plan_stringLength, aI g a2_plan_firstEnds_q 10 a2_plan_firstEnds, aI g a2_plan_rules_q 6 a2_plan_rules, aI g a2_secondEnds_q 10 a2_secondEnds', aI g t_pairs_q 1400 t_pairs', aI g t_parents_q 1400 t_parents', aI g t_prowls_q 56 t_prowls', aI g t_sizes_q 25 t_sizes', aI g t_steps_q 1400 t_steps'] := by
  refine ent_v (cc := cX4_grow) (maxL := 7) (by decide) rfl (Nat.le_of_ble_eq_true rfl) ?_
  intro p e s m args below meth c A Q hx hb hml hown hts hK hz hk hA hD hP hS hret ls hl
  have hown : s.vm.findClass RX4 = some m.cls := hown
  have inX2 : ∀ w ∈ u_ws RX2 TX2 6, w ∈ wsX4_grow := by decide +kernel
  have inX4 : ∀ w ∈ u_ws RX4 TX4 6, w ∈ wsX4_grow := by decide +kernel
  have inX6 : ∀ w ∈ u_ws RX6 TX6 11, w ∈ wsX4_grow := by decide +kernel
  have k11 := hts (.fieldLink RX4 11 "ThreadMoved$Search" "pairs" "[I") (by decide +kernel)
  have k21 := hts (.fieldLink RX4 21 "ThreadMoved$Search" "sizes" "[I") (by decide +kernel)
  have k43 := hts (.fieldLink RX4 43 "ThreadMoved$Search" "met" "J") (by decide +kernel)
  have k47 := hts (.fieldLink RX4 47 "ThreadMoved$State" "plan" "LThreadMoved$Plan;") (by decide +kernel)
  have k51 := hts (.fieldLink RX4 51 "ThreadMoved$Plan" "doorCount" "I") (by decide +kernel)
  have hl : lv_has ls 7 [(0, .ref t_q), (1, .int p1), (2, .ref a2_q)] := hl
  have hret : ∀ (a2_barredz : Int32) (a2_stepz : Int32) (a2_secondEndsz : Nat → Int32) (t_metz : Int64) (t_pairsz : Nat → Int32) (t_parentsz : Nat → Int32) (t_prowlsz : Nat → Int32) (t_sizesz : Nat → Int32) (t_stepsz : Nat → Int32), (a2_barredz, a2_stepz, a2_secondEndsz, t_metz, t_pairsz, t_parentsz, t_prowlsz, t_sizesz, t_stepsz) = (a2_barred', a2_step', a2_secondEnds', t_met', t_pairs', t_parents', t_prowls', t_sizes', t_steps') → ∀ (H : Heap) (locs : List Loc) (pc : Nat) (ls : Array Slot), va_P g.1 vwCl [oX4 t_q t_pairs_q t_parents_q t_steps_q t_sizes_q t_prowls_q t_metz, oX6 a2_q a2_plan_q a2_secondEnds_q a2_string_q a2_barredz a2_period a2_his a2_beast a2_habit a2_onString a2_stepz a2_eaten, oX2 a2_plan_q a2_plan_firstEnds_q a2_plan_rules_q a2_plan_rooms a2_plan_doorCount a2_plan_ruleCount a2_plan_stringLength, aI g a2_plan_firstEnds_q 10 a2_plan_firstEnds, aI g a2_plan_rules_q 6 a2_plan_rules, aI g a2_secondEnds_q 10 a2_secondEndsz, aI g t_pairs_q 1400 t_pairsz, aI g t_parents_q 1400 t_parentsz, aI g t_prowls_q 56 t_prowlsz, aI g t_sizes_q 25 t_sizesz, aI g t_steps_q 1400 t_stepsz] H → va_S A s.heap H locs → decode cX4_grow pc = .ok (.return_, 1) → W p l e rmX4_grow s m args below meth c H locs 0 0 Q (F0 m pc ls []) := by
    intro a2_barredz a2_stepz a2_secondEndsz t_metz t_pairsz t_parentsz t_prowlsz t_sizesz t_stepsz he H locs pc ls hP hS hd
    cases he
    exact hret H locs pc ls hP hS hd
  unfold f_X4_grow at hf
  refine lv_iload_n hx hb dX4_grow_0 rfl (lv_at hl 1 rfl) ?_
  refine lv_bipush (v := (24 : Int32)) hx hb dX4_grow_1 (by decide) ?_
  refine lv_icmp_lt (tgt := 7) hx hb dX4_grow_3 (by decide) (fun c_1 => ?_) (fun c_1 => ?_)
  · have hf := ite_t hf c_1
    refine lv_aload_n hx hb dX4_grow_7 rfl (lv_at hl 0 rfl) ?_
    refine lv_aload_n hx hb dX4_grow_8 rfl (lv_at hl 2 rfl) ?_
    obtain ⟨t_prowls_2, hc_3, hf⟩ := ob1_e hf
    refine kV_v (wn := [oX4 t_q t_pairs_q t_parents_q t_steps_q t_sizes_q t_prowls_q t_met, oX6 a2_q a2_plan_q a2_secondEnds_q a2_string_q a2_barred a2_period a2_his a2_beast a2_habit a2_onString a2_step a2_eaten, oX2 a2_plan_q a2_plan_firstEnds_q a2_plan_rules_q a2_plan_rooms a2_plan_doorCount a2_plan_ruleCount a2_plan_stringLength, aI g a2_plan_firstEnds_q 10 a2_plan_firstEnds, aI g a2_plan_rules_q 6 a2_plan_rules, aI g a2_secondEnds_q 10 a2_secondEnds, aI g t_pairs_q 1400 t_pairs, aI g t_parents_q 1400 t_parents, aI g t_prowls_q 56 t_prowls_2, aI g t_sizes_q 25 t_sizes, aI g t_steps_q 1400 t_steps]) (As := [.ref a2_q]) (rest := []) (c_X4_foreseeProwls l g _ t_q t_pairs_q t_parents_q t_steps_q t_sizes_q t_prowls_q a2_q a2_plan_q a2_secondEnds_q a2_string_q a2_plan_firstEnds_q a2_plan_rules_q t_met a2_barred a2_period a2_his a2_beast a2_habit a2_onString a2_step a2_eaten a2_plan_rooms a2_plan_doorCount a2_plan_ruleCount a2_plan_stringLength a2_plan_firstEnds a2_secondEnds t_prowls t_prowls_2 hc_3) ⟨hx, hb, hml, hown, hts⟩ (cwV 1 hts gX4_grow_X4_foreseeProwls rfl rfl rfl (by decide +kernel) ⟨by decide, by decide⟩) hK hz hk hP (hD.re rfl) hS hA [0, 1, 2, 3, 5, 8] rfl rfl rfl rfl rfl rfl rfl hl.1 rfl (Nat.le_of_ble_eq_true rfl) dX4_grow_9 (fun H locs hP hS => ?_)
    refine lv_aload_n hx hb dX4_grow_12 rfl (lv_at hl 0 rfl) ?_
    refine lv_lconst (v := (0 : Int64)) hx hb dX4_grow_13 (by decide) ?_
    refine va_put (D := g.1) (ci := 4) (v := .long (0 : Int64)) (ty := .long) (C := RX4) (T := TX4) (N := 6) hx hb hts inX4 tyX4 tyX4_ok nmX4 hown hK hP (hD.re rfl) hS 0 rfl rfl 5 (by decide) k43 (fun _ h9 => h9) rfl (by decide +kernel) rfl rfl (Nat.le_of_ble_eq_true rfl) dX4_grow_14 (fun H locs hP _ hS => ?_)
    have hP : va_P g.1 vwCl [oX4 t_q t_pairs_q t_parents_q t_steps_q t_sizes_q t_prowls_q (0 : Int64), oX6 a2_q a2_plan_q a2_secondEnds_q a2_string_q a2_barred a2_period a2_his a2_beast a2_habit a2_onString a2_step a2_eaten, oX2 a2_plan_q a2_plan_firstEnds_q a2_plan_rules_q a2_plan_rooms a2_plan_doorCount a2_plan_ruleCount a2_plan_stringLength, aI g a2_plan_firstEnds_q 10 a2_plan_firstEnds, aI g a2_plan_rules_q 6 a2_plan_rules, aI g a2_secondEnds_q 10 a2_secondEnds, aI g t_pairs_q 1400 t_pairs, aI g t_parents_q 1400 t_parents, aI g t_prowls_q 56 t_prowls_2, aI g t_sizes_q 25 t_sizes, aI g t_steps_q 1400 t_steps] H := hP
    refine lv_aload_n hx hb dX4_grow_17 rfl (lv_at hl 0 rfl) ?_
    refine va_get (D := g.1) (ci := 4) (v := .ref t_sizes_q) (C := RX4) (T := TX4) (N := 6) hx hb hts inX4 hown hK hP 0 rfl rfl 3 (by decide) k21 (fun _ h9 => h9) rfl dX4_grow_18 ?_
    refine lv_iload_n hx hb dX4_grow_21 rfl (lv_at hl 1 rfl) ?_
    refine lv_iconst (v := (1 : Int32)) hx hb dX4_grow_22 (by decide) ?_
    refine lv_iadd hx hb dX4_grow_23 ?_
    refine lv_iconst (v := (0 : Int32)) hx hb dX4_grow_24 (by decide) ?_
    obtain ⟨h_4, hf⟩ := gin_e hf
    obtain ⟨t_sizes_5, et_sizes_5, hf⟩ := bnd_e hf
    refine va_iast hx hb hK hP (hD.re rfl) hS 9 0 rfl rfl h_4 dX4_grow_25 (fun H locs hP _ hS => ?_)
    have hP : va_P g.1 vwCl [oX4 t_q t_pairs_q t_parents_q t_steps_q t_sizes_q t_prowls_q (0 : Int64), oX6 a2_q a2_plan_q a2_secondEnds_q a2_string_q a2_barred a2_period a2_his a2_beast a2_habit a2_onString a2_step a2_eaten, oX2 a2_plan_q a2_plan_firstEnds_q a2_plan_rules_q a2_plan_rooms a2_plan_doorCount a2_plan_ruleCount a2_plan_stringLength, aI g a2_plan_firstEnds_q 10 a2_plan_firstEnds, aI g a2_plan_rules_q 6 a2_plan_rules, aI g a2_secondEnds_q 10 a2_secondEnds, aI g t_pairs_q 1400 t_pairs, aI g t_parents_q 1400 t_parents, aI g t_prowls_q 56 t_prowls_2, aI g t_sizes_q 25 t_sizes_5, aI g t_steps_q 1400 t_steps] H := by rw [et_sizes_5]; exact hP
    refine lv_iconst (v := (0 : Int32)) hx hb dX4_grow_26 (by decide) ?_
    refine lv_istore_n (lv' := [(3, .int (0 : Int32)), (0, .ref t_q), (1, .int p1), (2, .ref a2_q)]) hx hb dX4_grow_27 rfl hl (by decide) rfl (fun ls hl => ?_)
    obtain ⟨x3_54, t_met_55, t_pairs_56, t_parents_57, t_sizes_58, t_steps_59, ho_12, hf⟩ := ob6_e hf
    have K_12 : ∀ (x3_54y : Int32) (t_met_55y : Int64) (t_pairs_56y : Nat → Int32) (t_parents_57y : Nat → Int32) (t_sizes_58y : Nat → Int32) (t_steps_59y : Nat → Int32), x3_54 = x3_54y → t_met_55 = t_met_55y → t_pairs_56 = t_pairs_56y → t_parents_57 = t_parents_57y → t_sizes_58 = t_sizes_58y → t_steps_59 = t_steps_59y → ∀ (H : Heap) (locs : List Loc) (ls : Array Slot), va_P g.1 vwCl [oX4 t_q t_pairs_q t_parents_q t_steps_q t_sizes_q t_prowls_q t_met_55y, oX6 a2_q a2_plan_q a2_secondEnds_q a2_string_q a2_barred a2_period a2_his a2_beast a2_habit a2_onString a2_step a2_eaten, oX2 a2_plan_q a2_plan_firstEnds_q a2_plan_rules_q a2_plan_rooms a2_plan_doorCount a2_plan_ruleCount a2_plan_stringLength, aI g a2_plan_firstEnds_q 10 a2_plan_firstEnds, aI g a2_plan_rules_q 6 a2_plan_rules, aI g a2_secondEnds_q 10 a2_secondEnds, aI g t_pairs_q 1400 t_pairs_56y, aI g t_parents_q 1400 t_parents_57y, aI g t_prowls_q 56 t_prowls_2, aI g t_sizes_q 25 t_sizes_58y, aI g t_steps_q 1400 t_steps_59y] H → va_S A s.heap H locs → lv_has ls 7 [(2, .ref a2_q)] → W p l e rmX4_grow s m args below meth c H locs 0 0 Q (F0 m 131 ls []) := by
      intro x3_54y t_met_55y t_pairs_56y t_parents_57y t_sizes_58y t_steps_59y ey0 ey1 ey2 ey3 ey4 ey5 H locs ls hP hS hl
      subst ey0
      subst ey1
      subst ey2
      subst ey3
      subst ey4
      subst ey5
      refine lv_aload_n hx hb dX4_grow_131 rfl (lv_at hl 0 rfl) ?_
      obtain ⟨t_barred_60, t_step_61, t_secondEnds_62, hc_63, hf⟩ := ob3_e hf
      refine kV_v (wn := [oX4 t_q t_pairs_q t_parents_q t_steps_q t_sizes_q t_prowls_q t_met_55, oX6 a2_q a2_plan_q a2_secondEnds_q a2_string_q t_barred_60 a2_period a2_his a2_beast a2_habit a2_onString t_step_61 a2_eaten, oX2 a2_plan_q a2_plan_firstEnds_q a2_plan_rules_q a2_plan_rooms a2_plan_doorCount a2_plan_ruleCount a2_plan_stringLength, aI g a2_plan_firstEnds_q 10 a2_plan_firstEnds, aI g a2_plan_rules_q 6 a2_plan_rules, aI g a2_secondEnds_q 10 t_secondEnds_62, aI g t_pairs_q 1400 t_pairs_56, aI g t_parents_q 1400 t_parents_57, aI g t_prowls_q 56 t_prowls_2, aI g t_sizes_q 25 t_sizes_58, aI g t_steps_q 1400 t_steps_59]) (As := []) (rest := []) (c_X6_passTime l g _ a2_q a2_plan_q a2_secondEnds_q a2_string_q a2_plan_firstEnds_q a2_plan_rules_q a2_barred a2_period a2_his a2_beast a2_habit a2_onString a2_step a2_eaten a2_plan_rooms a2_plan_doorCount a2_plan_ruleCount a2_plan_stringLength a2_plan_rules a2_secondEnds t_barred_60 t_step_61 t_secondEnds_62 hc_63) ⟨hx, hb, hml, hown, hts⟩ (cwV 0 hts gX4_grow_X6_passTime rfl rfl rfl (by decide +kernel) ⟨by decide, by decide⟩) hK hz hk hP (hD.re rfl) hS hA [1, 2, 4, 5] rfl rfl rfl rfl rfl rfl rfl hl.1 rfl (Nat.le_of_ble_eq_true rfl) dX4_grow_132 (fun H locs hP hS => ?_)
      exact hret t_barred_60 t_step_61 t_secondEnds_62 t_met_55 t_pairs_56 t_parents_57 t_prowls_2 t_sizes_58 t_steps_59 (Option.some.inj hf) _ _ _ _ hP hS dX4_grow_135
    have L_12 : ∀ (n : Nat) (v3_6 : Int32) (t_met_7 : Int64) (t_pairs_8 : Nat → Int32) (t_parents_9 : Nat → Int32) (t_sizes_10 : Nat → Int32) (t_steps_11 : Nat → Int32), itr (un6 (b_X4_grow_28 a2_barred a2_plan_doorCount a2_plan_firstEnds a2_secondEnds p1 t_prowls_2)) n (v3_6, t_met_7, t_pairs_8, t_parents_9, t_sizes_10, t_steps_11) = some (x3_54, t_met_55, t_pairs_56, t_parents_57, t_sizes_58, t_steps_59) → ∀ (H : Heap) (locs : List Loc) (ls : Array Slot), va_P g.1 vwCl [oX4 t_q t_pairs_q t_parents_q t_steps_q t_sizes_q t_prowls_q t_met_7, oX6 a2_q a2_plan_q a2_secondEnds_q a2_string_q a2_barred a2_period a2_his a2_beast a2_habit a2_onString a2_step a2_eaten, oX2 a2_plan_q a2_plan_firstEnds_q a2_plan_rules_q a2_plan_rooms a2_plan_doorCount a2_plan_ruleCount a2_plan_stringLength, aI g a2_plan_firstEnds_q 10 a2_plan_firstEnds, aI g a2_plan_rules_q 6 a2_plan_rules, aI g a2_secondEnds_q 10 a2_secondEnds, aI g t_pairs_q 1400 t_pairs_8, aI g t_parents_q 1400 t_parents_9, aI g t_prowls_q 56 t_prowls_2, aI g t_sizes_q 25 t_sizes_10, aI g t_steps_q 1400 t_steps_11] H → va_S A s.heap H locs → lv_has ls 7 [(0, .ref t_q), (1, .int p1), (2, .ref a2_q), (3, .int v3_6)] → W p l e rmX4_grow s m args below meth c H locs 0 0 Q (F0 m 28 ls []) := by
      refine itr_ind6 ?_
      intro v3_6 t_met_7 t_pairs_8 t_parents_9 t_sizes_10 t_steps_11 z_12 hf hrec hex H locs ls hP hS hl
      unfold b_X4_grow_28 at hf
      refine lv_iload_n hx hb dX4_grow_28 rfl (lv_at hl 3 rfl) ?_
      refine lv_aload_n hx hb dX4_grow_29 rfl (lv_at hl 0 rfl) ?_
      refine va_get (D := g.1) (ci := 4) (v := .ref t_sizes_q) (C := RX4) (T := TX4) (N := 6) hx hb hts inX4 hown hK hP 0 rfl rfl 3 (by decide) k21 (fun _ h9 => h9) rfl dX4_grow_30 ?_
      refine lv_iload_n hx hb dX4_grow_33 rfl (lv_at hl 1 rfl) ?_
      obtain ⟨h_13, hf⟩ := gin_e hf
      refine va_iald hx hb hK hP 9 0 rfl rfl h_13 dX4_grow_34 ?_
      refine lv_icmp_ge (tgt := 131) hx hb dX4_grow_35 (by decide) (fun c_14 => ?_) (fun c_14 => ?_)
      · have hf := ite_t hf c_14
        exact K_12 v3_6 t_met_7 t_pairs_8 t_parents_9 t_sizes_10 t_steps_11 (congrArg (fun t => t.1) (hex _ (Option.some.inj hf).symm).symm) (congrArg (fun t => t.2.1) (hex _ (Option.some.inj hf).symm).symm) (congrArg (fun t => t.2.2.1) (hex _ (Option.some.inj hf).symm).symm) (congrArg (fun t => t.2.2.2.1) (hex _ (Option.some.inj hf).symm).symm) (congrArg (fun t => t.2.2.2.2.1) (hex _ (Option.some.inj hf).symm).symm) (congrArg (fun t => t.2.2.2.2.2) (hex _ (Option.some.inj hf).symm).symm) _ _ _ hP hS (lv_sub hl [2] rfl)
      · have hf := ite_f hf c_14
        refine lv_aload_n hx hb dX4_grow_38 rfl (lv_at hl 0 rfl) ?_
        refine va_get (D := g.1) (ci := 4) (v := .ref t_pairs_q) (C := RX4) (T := TX4) (N := 6) hx hb hts inX4 hown hK hP 0 rfl rfl 0 (by decide) k11 (fun _ h9 => h9) rfl dX4_grow_39 ?_
        refine lv_iload_n hx hb dX4_grow_42 rfl (lv_at hl 1 rfl) ?_
        refine lv_bipush (v := (56 : Int32)) hx hb dX4_grow_43 (by decide) ?_
        refine lv_imul hx hb dX4_grow_45 ?_
        refine lv_iload_n hx hb dX4_grow_46 rfl (lv_at hl 3 rfl) ?_
        refine lv_iadd hx hb dX4_grow_47 ?_
        obtain ⟨h_15, hf⟩ := gin_e hf
        refine va_iald hx hb hK hP 6 0 rfl rfl h_15 dX4_grow_48 ?_
        obtain ⟨v4_16, ev4_16, hf⟩ := bnd_e hf
        refine tp_i ev4_16 ?_
        refine lv_istore (lv' := [(4, .int v4_16), (0, .ref t_q), (1, .int p1), (2, .ref a2_q), (3, .int v3_6)]) hx hb dX4_grow_49 hl (by decide) rfl (fun ls hl => ?_)
        refine lv_iconst (v := (0 : Int32)) hx hb dX4_grow_51 (by decide) ?_
        refine lv_istore (lv' := [(5, .int (0 : Int32)), (4, .int v4_16), (0, .ref t_q), (1, .int p1), (2, .ref a2_q), (3, .int v3_6)]) hx hb dX4_grow_52 hl (by decide) rfl (fun ls hl => ?_)
        obtain ⟨x5_41, t_met_42, t_pairs_43, t_parents_44, t_sizes_45, t_steps_46, ho_23, hf⟩ := ob6_e hf
        have K_23 : ∀ (x5_41y : Int32) (t_met_42y : Int64) (t_pairs_43y : Nat → Int32) (t_parents_44y : Nat → Int32) (t_sizes_45y : Nat → Int32) (t_steps_46y : Nat → Int32), x5_41 = x5_41y → t_met_42 = t_met_42y → t_pairs_43 = t_pairs_43y → t_parents_44 = t_parents_44y → t_sizes_45 = t_sizes_45y → t_steps_46 = t_steps_46y → ∀ (H : Heap) (locs : List Loc) (ls : Array Slot), va_P g.1 vwCl [oX4 t_q t_pairs_q t_parents_q t_steps_q t_sizes_q t_prowls_q t_met_42y, oX6 a2_q a2_plan_q a2_secondEnds_q a2_string_q a2_barred a2_period a2_his a2_beast a2_habit a2_onString a2_step a2_eaten, oX2 a2_plan_q a2_plan_firstEnds_q a2_plan_rules_q a2_plan_rooms a2_plan_doorCount a2_plan_ruleCount a2_plan_stringLength, aI g a2_plan_firstEnds_q 10 a2_plan_firstEnds, aI g a2_plan_rules_q 6 a2_plan_rules, aI g a2_secondEnds_q 10 a2_secondEnds, aI g t_pairs_q 1400 t_pairs_43y, aI g t_parents_q 1400 t_parents_44y, aI g t_prowls_q 56 t_prowls_2, aI g t_sizes_q 25 t_sizes_45y, aI g t_steps_q 1400 t_steps_46y] H → va_S A s.heap H locs → lv_has ls 7 [(0, .ref t_q), (1, .int p1), (2, .ref a2_q), (3, .int v3_6), (4, .int v4_16)] → W p l e rmX4_grow s m args below meth c H locs 0 0 Q (F0 m 113 ls []) := by
          intro x5_41y t_met_42y t_pairs_43y t_parents_44y t_sizes_45y t_steps_46y ey0 ey1 ey2 ey3 ey4 ey5 H locs ls hP hS hl
          subst ey0
          subst ey1
          subst ey2
          subst ey3
          subst ey4
          subst ey5
          refine lv_aload_n hx hb dX4_grow_113 rfl (lv_at hl 0 rfl) ?_
          refine lv_iload_n hx hb dX4_grow_114 rfl (lv_at hl 1 rfl) ?_
          refine lv_iconst (v := (1 : Int32)) hx hb dX4_grow_115 (by decide) ?_
          refine lv_iadd hx hb dX4_grow_116 ?_
          refine lv_iload_n hx hb dX4_grow_117 rfl (lv_at hl 3 rfl) ?_
          refine lv_bipush (v := (10 : Int32)) hx hb dX4_grow_118 (by decide) ?_
          refine lv_iload hx hb dX4_grow_120 (lv_at hl 4 rfl) ?_
          obtain ⟨t_met_47, t_pairs_48, t_parents_49, t_sizes_50, t_steps_51, hc_52, hf⟩ := ob5_e hf
          refine kV_v (wn := [oX4 t_q t_pairs_q t_parents_q t_steps_q t_sizes_q t_prowls_q t_met_47, oX6 a2_q a2_plan_q a2_secondEnds_q a2_string_q a2_barred a2_period a2_his a2_beast a2_habit a2_onString a2_step a2_eaten, oX2 a2_plan_q a2_plan_firstEnds_q a2_plan_rules_q a2_plan_rooms a2_plan_doorCount a2_plan_ruleCount a2_plan_stringLength, aI g a2_plan_firstEnds_q 10 a2_plan_firstEnds, aI g a2_plan_rules_q 6 a2_plan_rules, aI g a2_secondEnds_q 10 a2_secondEnds, aI g t_pairs_q 1400 t_pairs_48, aI g t_parents_q 1400 t_parents_49, aI g t_prowls_q 56 t_prowls_2, aI g t_sizes_q 25 t_sizes_50, aI g t_steps_q 1400 t_steps_51]) (As := [.int (p1 + (1 : Int32)), .int v3_6, .int (10 : Int32), .int v4_16]) (rest := []) (c_X4_reach l g _ t_q t_pairs_q t_parents_q t_steps_q t_sizes_q t_prowls_q t_met_42 t_pairs_43 t_parents_44 t_prowls_2 t_sizes_45 t_steps_46 (p1 + (1 : Int32)) v3_6 (10 : Int32) v4_16 t_met_47 t_pairs_48 t_parents_49 t_sizes_50 t_steps_51 hc_52) ⟨hx, hb, hml, hown, hts⟩ (cwV 4 hts gX4_grow_X4_reach rfl rfl rfl (by decide +kernel) ⟨by decide, by decide⟩) hK hz hk hP (hD.re rfl) hS hA [0, 6, 7, 8, 9, 10] rfl rfl rfl rfl rfl rfl rfl hl.1 rfl (Nat.le_of_ble_eq_true rfl) dX4_grow_122 (fun H locs hP hS => ?_)
          obtain ⟨v3_53, ev3_53, hf⟩ := bnd_e hf
          refine lv_iinc (v := v3_53) (lv' := [(3, .int v3_53), (0, .ref t_q), (1, .int p1), (2, .ref a2_q), (4, .int v4_16)]) hx hb dX4_grow_125 hl (k := 3) rfl (by rw [ev3_53]; rfl) (by decide) rfl (fun ls hl => ?_)
          refine lv_goto (tgt := 28) hx hb dX4_grow_128 (by decide) ?_
          exact hrec v3_53 t_met_47 t_pairs_48 t_parents_49 t_sizes_50 t_steps_51 (Option.some.inj hf).symm _ _ _ hP hS (lv_sub hl [1, 2, 3, 0] rfl)
        have L_23 : ∀ (n : Nat) (v5_17 : Int32) (t_met_18 : Int64) (t_pairs_19 : Nat → Int32) (t_parents_20 : Nat → Int32) (t_sizes_21 : Nat → Int32) (t_steps_22 : Nat → Int32), itr (un6 (b_X4_grow_54 a2_barred a2_plan_doorCount a2_plan_firstEnds a2_secondEnds p1 t_prowls_2 v3_6 v4_16)) n (v5_17, t_met_18, t_pairs_19, t_parents_20, t_sizes_21, t_steps_22) = some (x5_41, t_met_42, t_pairs_43, t_parents_44, t_sizes_45, t_steps_46) → ∀ (H : Heap) (locs : List Loc) (ls : Array Slot), va_P g.1 vwCl [oX4 t_q t_pairs_q t_parents_q t_steps_q t_sizes_q t_prowls_q t_met_18, oX6 a2_q a2_plan_q a2_secondEnds_q a2_string_q a2_barred a2_period a2_his a2_beast a2_habit a2_onString a2_step a2_eaten, oX2 a2_plan_q a2_plan_firstEnds_q a2_plan_rules_q a2_plan_rooms a2_plan_doorCount a2_plan_ruleCount a2_plan_stringLength, aI g a2_plan_firstEnds_q 10 a2_plan_firstEnds, aI g a2_plan_rules_q 6 a2_plan_rules, aI g a2_secondEnds_q 10 a2_secondEnds, aI g t_pairs_q 1400 t_pairs_19, aI g t_parents_q 1400 t_parents_20, aI g t_prowls_q 56 t_prowls_2, aI g t_sizes_q 25 t_sizes_21, aI g t_steps_q 1400 t_steps_22] H → va_S A s.heap H locs → lv_has ls 7 [(0, .ref t_q), (1, .int p1), (2, .ref a2_q), (3, .int v3_6), (4, .int v4_16), (5, .int v5_17)] → W p l e rmX4_grow s m args below meth c H locs 0 0 Q (F0 m 54 ls []) := by
          refine itr_ind6 ?_
          intro v5_17 t_met_18 t_pairs_19 t_parents_20 t_sizes_21 t_steps_22 z_23 hf hrec hex H locs ls hP hS hl
          unfold b_X4_grow_54 at hf
          refine lv_iload hx hb dX4_grow_54 (lv_at hl 5 rfl) ?_
          refine lv_aload_n hx hb dX4_grow_56 rfl (lv_at hl 2 rfl) ?_
          refine va_get (D := g.1) (ci := 6) (v := .ref a2_plan_q) (C := RX6) (T := TX6) (N := 11) hx hb hts inX6 hown hK hP 1 rfl rfl 0 (by decide) k47 (fun _ h9 => h9) rfl dX4_grow_57 ?_
          refine va_get (D := g.1) (ci := 2) (v := .int a2_plan_doorCount) (C := RX2) (T := TX2) (N := 6) hx hb hts inX2 hown hK hP 2 rfl rfl 3 (by decide) k51 (fun _ h9 => h9) rfl dX4_grow_60 ?_
          refine lv_icmp_ge (tgt := 113) hx hb dX4_grow_63 (by decide) (fun c_24 => ?_) (fun c_24 => ?_)
          · have hf := ite_t hf c_24
            exact K_23 v5_17 t_met_18 t_pairs_19 t_parents_20 t_sizes_21 t_steps_22 (congrArg (fun t => t.1) (hex _ (Option.some.inj hf).symm).symm) (congrArg (fun t => t.2.1) (hex _ (Option.some.inj hf).symm).symm) (congrArg (fun t => t.2.2.1) (hex _ (Option.some.inj hf).symm).symm) (congrArg (fun t => t.2.2.2.1) (hex _ (Option.some.inj hf).symm).symm) (congrArg (fun t => t.2.2.2.2.1) (hex _ (Option.some.inj hf).symm).symm) (congrArg (fun t => t.2.2.2.2.2) (hex _ (Option.some.inj hf).symm).symm) _ _ _ hP hS (lv_sub hl [0, 1, 2, 3, 4] rfl)
          · have hf := ite_f hf c_24
            refine lv_aload_n hx hb dX4_grow_66 rfl (lv_at hl 2 rfl) ?_
            refine lv_iload hx hb dX4_grow_67 (lv_at hl 5 rfl) ?_
            refine lv_iload hx hb dX4_grow_69 (lv_at hl 4 rfl) ?_
            refine lv_bipush (v := (8 : Int32)) hx hb dX4_grow_71 (by decide) ?_
            refine lv_idiv hx hb dX4_grow_73 (by decide) ?_
            obtain ⟨r_25, hc_26, hf⟩ := ob1_e hf
            refine kV_i (wn := [oX4 t_q t_pairs_q t_parents_q t_steps_q t_sizes_q t_prowls_q t_met_18, oX6 a2_q a2_plan_q a2_secondEnds_q a2_string_q a2_barred a2_period a2_his a2_beast a2_habit a2_onString a2_step a2_eaten, oX2 a2_plan_q a2_plan_firstEnds_q a2_plan_rules_q a2_plan_rooms a2_plan_doorCount a2_plan_ruleCount a2_plan_stringLength, aI g a2_plan_firstEnds_q 10 a2_plan_firstEnds, aI g a2_plan_rules_q 6 a2_plan_rules, aI g a2_secondEnds_q 10 a2_secondEnds, aI g t_pairs_q 1400 t_pairs_19, aI g t_parents_q 1400 t_parents_20, aI g t_prowls_q 56 t_prowls_2, aI g t_sizes_q 25 t_sizes_21, aI g t_steps_q 1400 t_steps_22]) (As := [.int v5_17, .int (v4_16 / (8 : Int32))]) (rest := []) (c_X6_across l g _ a2_q a2_plan_q a2_secondEnds_q a2_string_q a2_plan_firstEnds_q a2_plan_rules_q a2_barred a2_period a2_his a2_beast a2_habit a2_onString a2_step a2_eaten a2_plan_rooms a2_plan_doorCount a2_plan_ruleCount a2_plan_stringLength a2_plan_firstEnds a2_secondEnds v5_17 (v4_16 / (8 : Int32)) r_25 hc_26) ⟨hx, hb, hml, hown, hts⟩ (cwV 2 hts gX4_grow_X6_across rfl rfl rfl (by decide +kernel) ⟨by decide, by decide⟩) hK hz hk hP (hD.re rfl) hS hA [1, 2, 3, 5] rfl rfl rfl rfl rfl rfl rfl hl.1 rfl (Nat.le_of_ble_eq_true rfl) dX4_grow_74 (fun H locs hP hS => ?_)
            refine lv_istore (lv' := [(6, .int r_25), (0, .ref t_q), (1, .int p1), (2, .ref a2_q), (3, .int v3_6), (4, .int v4_16), (5, .int v5_17)]) hx hb dX4_grow_77 hl (by decide) rfl (fun ls hl => ?_)
            refine lv_iload hx hb dX4_grow_79 (lv_at hl 0 rfl) ?_
            refine lv_bipush (v := (-4 : Int32)) hx hb dX4_grow_81 (by decide) ?_
            obtain ⟨j_32, hj_32, hf⟩ := jn5_e hf
            have J_32 : ∀ (t_met_27 : Int64) (t_pairs_28 : Nat → Int32) (t_parents_29 : Nat → Int32) (t_sizes_30 : Nat → Int32) (t_steps_31 : Nat → Int32), j_32 t_met_27 t_pairs_28 t_parents_29 t_sizes_30 t_steps_31 = some z_23 → ∀ (H : Heap) (locs : List Loc) (ls : Array Slot), va_P g.1 vwCl [oX4 t_q t_pairs_q t_parents_q t_steps_q t_sizes_q t_prowls_q t_met_27, oX6 a2_q a2_plan_q a2_secondEnds_q a2_string_q a2_barred a2_period a2_his a2_beast a2_habit a2_onString a2_step a2_eaten, oX2 a2_plan_q a2_plan_firstEnds_q a2_plan_rules_q a2_plan_rooms a2_plan_doorCount a2_plan_ruleCount a2_plan_stringLength, aI g a2_plan_firstEnds_q 10 a2_plan_firstEnds, aI g a2_plan_rules_q 6 a2_plan_rules, aI g a2_secondEnds_q 10 a2_secondEnds, aI g t_pairs_q 1400 t_pairs_28, aI g t_parents_q 1400 t_parents_29, aI g t_prowls_q 56 t_prowls_2, aI g t_sizes_q 25 t_sizes_30, aI g t_steps_q 1400 t_steps_31] H → va_S A s.heap H locs → lv_has ls 7 [(0, .ref t_q), (1, .int p1), (2, .ref a2_q), (3, .int v3_6), (4, .int v4_16), (5, .int v5_17)] → W p l e rmX4_grow s m args below meth c H locs 0 0 Q (F0 m 107 ls []) := by
              intro t_met_27 t_pairs_28 t_parents_29 t_sizes_30 t_steps_31 hf H locs ls hP hS hl
              rw [hj_32] at hf
              obtain ⟨v5_33, ev5_33, hf⟩ := bnd_e hf
              refine lv_iinc (v := v5_33) (lv' := [(5, .int v5_33), (0, .ref t_q), (1, .int p1), (2, .ref a2_q), (3, .int v3_6), (4, .int v4_16)]) hx hb dX4_grow_107 hl (k := 5) rfl (by rw [ev5_33]; rfl) (by decide) rfl (fun ls hl => ?_)
              refine lv_goto (tgt := 54) hx hb dX4_grow_110 (by decide) ?_
              exact hrec v5_33 t_met_27 t_pairs_28 t_parents_29 t_sizes_30 t_steps_31 (Option.some.inj hf).symm _ _ _ hP hS (lv_sub hl [1, 2, 3, 4, 5, 0] rfl)
            refine lv_icmp_eq (tgt := 107) hx hb dX4_grow_83 (by decide) (fun c_34 => ?_) (fun c_34 => ?_)
            · have hf := ite_t hf c_34
              exact J_32 t_met_18 t_pairs_19 t_parents_20 t_sizes_21 t_steps_22 hf _ _ _ hP hS (lv_sub hl [1, 2, 3, 4, 5, 6] rfl)
            · have hf := ite_f hf c_34
              refine lv_aload_n hx hb dX4_grow_86 rfl (lv_at hl 1 rfl) ?_
              refine lv_iload_n hx hb dX4_grow_87 rfl (lv_at hl 2 rfl) ?_
              refine lv_iconst (v := (1 : Int32)) hx hb dX4_grow_88 (by decide) ?_
              refine lv_iadd hx hb dX4_grow_89 ?_
              refine lv_iload_n hx hb dX4_grow_90 rfl (lv_at hl 4 rfl) ?_
              refine lv_iload hx hb dX4_grow_91 (lv_at hl 6 rfl) ?_
              refine lv_iload hx hb dX4_grow_93 (lv_at hl 0 rfl) ?_
              refine lv_bipush (v := (8 : Int32)) hx hb dX4_grow_95 (by decide) ?_
              refine lv_imul hx hb dX4_grow_97 ?_
              refine lv_iload hx hb dX4_grow_98 (lv_at hl 5 rfl) ?_
              refine lv_bipush (v := (8 : Int32)) hx hb dX4_grow_100 (by decide) ?_
              refine lv_irem hx hb dX4_grow_102 (by decide) ?_
              refine lv_iadd hx hb dX4_grow_103 ?_
              obtain ⟨t_met_35, t_pairs_36, t_parents_37, t_sizes_38, t_steps_39, hc_40, hf⟩ := ob5_e hf
              refine kV_v (wn := [oX4 t_q t_pairs_q t_parents_q t_steps_q t_sizes_q t_prowls_q t_met_35, oX6 a2_q a2_plan_q a2_secondEnds_q a2_string_q a2_barred a2_period a2_his a2_beast a2_habit a2_onString a2_step a2_eaten, oX2 a2_plan_q a2_plan_firstEnds_q a2_plan_rules_q a2_plan_rooms a2_plan_doorCount a2_plan_ruleCount a2_plan_stringLength, aI g a2_plan_firstEnds_q 10 a2_plan_firstEnds, aI g a2_plan_rules_q 6 a2_plan_rules, aI g a2_secondEnds_q 10 a2_secondEnds, aI g t_pairs_q 1400 t_pairs_36, aI g t_parents_q 1400 t_parents_37, aI g t_prowls_q 56 t_prowls_2, aI g t_sizes_q 25 t_sizes_38, aI g t_steps_q 1400 t_steps_39]) (As := [.int (p1 + (1 : Int32)), .int v3_6, .int v5_17, .int ((r_25 * (8 : Int32)) + (v4_16 - v4_16 / (8 : Int32) * (8 : Int32)))]) (rest := []) (c_X4_reach l g _ t_q t_pairs_q t_parents_q t_steps_q t_sizes_q t_prowls_q t_met_18 t_pairs_19 t_parents_20 t_prowls_2 t_sizes_21 t_steps_22 (p1 + (1 : Int32)) v3_6 v5_17 ((r_25 * (8 : Int32)) + (v4_16 - v4_16 / (8 : Int32) * (8 : Int32))) t_met_35 t_pairs_36 t_parents_37 t_sizes_38 t_steps_39 hc_40) ⟨hx, hb, hml, hown, hts⟩ (cwV 4 hts gX4_grow_X4_reach rfl rfl rfl (by decide +kernel) ⟨by decide, by decide⟩) hK hz hk hP (hD.re rfl) hS hA [0, 6, 7, 8, 9, 10] rfl rfl rfl rfl rfl rfl rfl hl.1 rfl (Nat.le_of_ble_eq_true rfl) dX4_grow_104 (fun H locs hP hS => ?_)
              exact J_32 t_met_35 t_pairs_36 t_parents_37 t_sizes_38 t_steps_39 hf _ _ _ hP hS (lv_sub hl [1, 2, 3, 4, 5, 6] rfl)
        exact L_23 FU (0 : Int32) t_met_7 t_pairs_8 t_parents_9 t_sizes_10 t_steps_11 ho_23 _ _ _ hP hS (lv_sub hl [2, 3, 4, 5, 1, 0] rfl)
    exact L_12 FU (0 : Int32) (0 : Int64) t_pairs t_parents t_sizes_5 t_steps ho_12 _ _ _ hP hS (lv_sub hl [1, 2, 3, 0] rfl)
  · have hf := ite_f hf c_1
    exact hret a2_barred a2_step a2_secondEnds t_met t_pairs t_parents t_prowls t_sizes t_steps (Option.some.inj hf) _ _ _ _ hP hS dX4_grow_6

def b_X4_roomsOf_4 (t_pairs : Nat → Int32) (t_sizes : Nat → Int32) (p1 : Int32) (v2_1 : Int32) (v3_2 : Int32) : Option ((Int32 × Int32) ⊕ (Int32 × Int32)) :=
 (gin p1 25 (if (t_sizes p1.toNatClampNeg) ≤ v3_2 then
 (some (.inr (v2_1, v3_2)))
 else (gin ((p1 * (56 : Int32)) + v3_2) 1400 (bnd (v2_1 ||| ((1 : Int32) <<< (((t_pairs ((p1 * (56 : Int32)) + v3_2).toNatClampNeg) / (8 : Int32)) &&& 31))) (fun v2_7 =>
 (bnd (v3_2 + (1 : Int32)) (fun v3_8 =>
 (some (.inl (v2_7, v3_8))))))))))
def f_X4_roomsOf (t_pairs : Nat → Int32) (t_sizes : Nat → Int32) (p1 : Int32) : Option (Int32) :=
 (ob2 (itr (un2 (b_X4_roomsOf_4 t_pairs t_sizes p1)) FU ((0 : Int32), (0 : Int32))) (fun x2_9 x3_10 =>
 (some x2_9)))
abbrev rmX4_roomsOf : Room := { frames := 0, cells := 0, slots := 0, locals := 0 }
set_option maxHeartbeats 4000000 in
set_option maxRecDepth 100000 in
theorem c_X4_roomsOf (l : Launch) (g : Gh) (sz : Nat) (t_q t_pairs_q t_parents_q t_steps_q t_sizes_q t_prowls_q : Nat) (t_met : Int64) (t_pairs : Nat → Int32) (t_sizes : Nat → Int32) (p1 : Int32) (rr : Int32) (hf : f_X4_roomsOf t_pairs t_sizes p1 = some rr) : CI l yX4_roomsOf wsX4_roomsOf rmX4_roomsOf [.ref t_q, .int p1] g sz [oX4 t_q t_pairs_q t_parents_q t_steps_q t_sizes_q t_prowls_q t_met, aI g t_pairs_q 1400 t_pairs, aI g t_sizes_q 25 t_sizes] [oX4 t_q t_pairs_q t_parents_q t_steps_q t_sizes_q t_prowls_q t_met, aI g t_pairs_q 1400 t_pairs, aI g t_sizes_q 25 t_sizes] rr := by
  refine ent_i (cc := cX4_roomsOf) (maxL := 4) (by decide) rfl (Nat.le_of_ble_eq_true rfl) ?_
  intro p e s m args below meth c A Q hx hb hml hown hts hK hz hk hA hD hP hS hret ls hl
  have hown : s.vm.findClass RX4 = some m.cls := hown
  have inX4 : ∀ w ∈ u_ws RX4 TX4 6, w ∈ wsX4_roomsOf := by decide +kernel
  have k11 := hts (.fieldLink RX4 11 "ThreadMoved$Search" "pairs" "[I") (by decide +kernel)
  have k21 := hts (.fieldLink RX4 21 "ThreadMoved$Search" "sizes" "[I") (by decide +kernel)
  have hl : lv_has ls 4 [(0, .ref t_q), (1, .int p1)] := hl
  have hret : ∀ (rrz : Int32), rrz = rr → ∀ (H : Heap) (locs : List Loc) (pc : Nat) (ls : Array Slot), va_P g.1 vwCl [oX4 t_q t_pairs_q t_parents_q t_steps_q t_sizes_q t_prowls_q t_met, aI g t_pairs_q 1400 t_pairs, aI g t_sizes_q 25 t_sizes] H → va_S A s.heap H locs → decode cX4_roomsOf pc = .ok (.ireturn, 1) → W p l e rmX4_roomsOf s m args below meth c H locs 0 0 Q (F0 m pc ls [.int rrz]) := by
    intro rrz he H locs pc ls hP hS hd
    cases he
    exact hret H locs pc ls hP hS hd
  unfold f_X4_roomsOf at hf
  refine lv_iconst (v := (0 : Int32)) hx hb dX4_roomsOf_0 (by decide) ?_
  refine lv_istore_n (lv' := [(2, .int (0 : Int32)), (0, .ref t_q), (1, .int p1)]) hx hb dX4_roomsOf_1 rfl hl (by decide) rfl (fun ls hl => ?_)
  refine lv_iconst (v := (0 : Int32)) hx hb dX4_roomsOf_2 (by decide) ?_
  refine lv_istore_n (lv' := [(3, .int (0 : Int32)), (2, .int (0 : Int32)), (0, .ref t_q), (1, .int p1)]) hx hb dX4_roomsOf_3 rfl hl (by decide) rfl (fun ls hl => ?_)
  obtain ⟨x2_9, x3_10, ho_3, hf⟩ := ob2_e hf
  have K_3 : ∀ (x2_9y : Int32) (x3_10y : Int32), x2_9 = x2_9y → x3_10 = x3_10y → ∀ (H : Heap) (locs : List Loc) (ls : Array Slot), va_P g.1 vwCl [oX4 t_q t_pairs_q t_parents_q t_steps_q t_sizes_q t_prowls_q t_met, aI g t_pairs_q 1400 t_pairs, aI g t_sizes_q 25 t_sizes] H → va_S A s.heap H locs → lv_has ls 4 [(2, .int x2_9y)] → W p l e rmX4_roomsOf s m args below meth c H locs 0 0 Q (F0 m 39 ls []) := by
    intro x2_9y x3_10y ey0 ey1 H locs ls hP hS hl
    subst ey0
    subst ey1
    refine lv_iload_n hx hb dX4_roomsOf_39 rfl (lv_at hl 0 rfl) ?_
    exact hret x2_9 (Option.some.inj hf) _ _ _ _ hP hS dX4_roomsOf_40
  have L_3 : ∀ (n : Nat) (v2_1 : Int32) (v3_2 : Int32), itr (un2 (b_X4_roomsOf_4 t_pairs t_sizes p1)) n (v2_1, v3_2) = some (x2_9, x3_10) → ∀ (H : Heap) (locs : List Loc) (ls : Array Slot), va_P g.1 vwCl [oX4 t_q t_pairs_q t_parents_q t_steps_q t_sizes_q t_prowls_q t_met, aI g t_pairs_q 1400 t_pairs, aI g t_sizes_q 25 t_sizes] H → va_S A s.heap H locs → lv_has ls 4 [(0, .ref t_q), (1, .int p1), (2, .int v2_1), (3, .int v3_2)] → W p l e rmX4_roomsOf s m args below meth c H locs 0 0 Q (F0 m 4 ls []) := by
    refine itr_ind2 ?_
    intro v2_1 v3_2 z_3 hf hrec hex H locs ls hP hS hl
    unfold b_X4_roomsOf_4 at hf
    refine lv_iload_n hx hb dX4_roomsOf_4 rfl (lv_at hl 3 rfl) ?_
    refine lv_aload_n hx hb dX4_roomsOf_5 rfl (lv_at hl 0 rfl) ?_
    refine va_get (D := g.1) (ci := 4) (v := .ref t_sizes_q) (C := RX4) (T := TX4) (N := 6) hx hb hts inX4 hown hK hP 0 rfl rfl 3 (by decide) k21 (fun _ h9 => h9) rfl dX4_roomsOf_6 ?_
    refine lv_iload_n hx hb dX4_roomsOf_9 rfl (lv_at hl 1 rfl) ?_
    obtain ⟨h_4, hf⟩ := gin_e hf
    refine va_iald hx hb hK hP 2 0 rfl rfl h_4 dX4_roomsOf_10 ?_
    refine lv_icmp_ge (tgt := 39) hx hb dX4_roomsOf_11 (by decide) (fun c_5 => ?_) (fun c_5 => ?_)
    · have hf := ite_t hf c_5
      exact K_3 v2_1 v3_2 (congrArg (fun t => t.1) (hex _ (Option.some.inj hf).symm).symm) (congrArg (fun t => t.2) (hex _ (Option.some.inj hf).symm).symm) _ _ _ hP hS (lv_sub hl [2] rfl)
    · have hf := ite_f hf c_5
      refine lv_iload_n hx hb dX4_roomsOf_14 rfl (lv_at hl 2 rfl) ?_
      refine lv_iconst (v := (1 : Int32)) hx hb dX4_roomsOf_15 (by decide) ?_
      refine lv_aload_n hx hb dX4_roomsOf_16 rfl (lv_at hl 0 rfl) ?_
      refine va_get (D := g.1) (ci := 4) (v := .ref t_pairs_q) (C := RX4) (T := TX4) (N := 6) hx hb hts inX4 hown hK hP 0 rfl rfl 0 (by decide) k11 (fun _ h9 => h9) rfl dX4_roomsOf_17 ?_
      refine lv_iload_n hx hb dX4_roomsOf_20 rfl (lv_at hl 1 rfl) ?_
      refine lv_bipush (v := (56 : Int32)) hx hb dX4_roomsOf_21 (by decide) ?_
      refine lv_imul hx hb dX4_roomsOf_23 ?_
      refine lv_iload_n hx hb dX4_roomsOf_24 rfl (lv_at hl 3 rfl) ?_
      refine lv_iadd hx hb dX4_roomsOf_25 ?_
      obtain ⟨h_6, hf⟩ := gin_e hf
      refine va_iald hx hb hK hP 1 0 rfl rfl h_6 dX4_roomsOf_26 ?_
      refine lv_bipush (v := (8 : Int32)) hx hb dX4_roomsOf_27 (by decide) ?_
      refine lv_idiv hx hb dX4_roomsOf_29 (by decide) ?_
      refine lv_ishl hx hb dX4_roomsOf_30 ?_
      refine lv_ior hx hb dX4_roomsOf_31 ?_
      obtain ⟨v2_7, ev2_7, hf⟩ := bnd_e hf
      refine tp_i ev2_7 ?_
      refine lv_istore_n (lv' := [(2, .int v2_7), (0, .ref t_q), (1, .int p1), (3, .int v3_2)]) hx hb dX4_roomsOf_32 rfl hl (by decide) rfl (fun ls hl => ?_)
      obtain ⟨v3_8, ev3_8, hf⟩ := bnd_e hf
      refine lv_iinc (v := v3_8) (lv' := [(3, .int v3_8), (2, .int v2_7), (0, .ref t_q), (1, .int p1)]) hx hb dX4_roomsOf_33 hl (k := 3) rfl (by rw [ev3_8]; rfl) (by decide) rfl (fun ls hl => ?_)
      refine lv_goto (tgt := 4) hx hb dX4_roomsOf_36 (by decide) ?_
      exact hrec v2_7 v3_8 (Option.some.inj hf).symm _ _ _ hP hS (lv_sub hl [2, 3, 1, 0] rfl)
  exact L_3 FU (0 : Int32) (0 : Int32) ho_3 _ _ _ hP hS (lv_sub hl [2, 3, 1, 0] rfl)
