def f_X6_takeStep (t_barred : Int32) (t_period : Int32) (t_his : Int32) (t_beast : Int32) (t_habit : Int32) (t_onString : Int32) (t_step : Int32) (t_eaten : Int32) (t_plan_rooms : Int32) (t_plan_doorCount : Int32) (t_plan_ruleCount : Int32) (t_plan_stringLength : Int32) (t_plan_firstEnds : Nat → Int32) (t_plan_rules : Nat → Int32) (t_secondEnds : Nat → Int32) (t_string : Nat → Int32) (p1 : Int32) : Option (Int32 × Int32 × Int32 × Int32 × Int32 × Int32 × (Nat → Int32) × (Nat → Int32)) :=
 (jn3 (fun (t_his_1 : Int32) (t_onString_2 : Int32) (t_string_3 : Nat → Int32) => (jn1 (fun (t_beast_5 : Int32) => (jn1 (fun (t_eaten_7 : Int32) => (ob3 (f_X6_passTime t_barred t_period t_step t_plan_rooms t_plan_ruleCount t_plan_rules t_secondEnds) (fun t_barred_9 t_step_10 t_secondEnds_11 =>
 (some (t_barred_9, t_beast_5, t_eaten_7, t_his_1, t_onString_2, t_step_10, t_secondEnds_11, t_string_3))))) (fun j_8 =>
 (if t_beast_5 = t_his_1 then
 (j_8 (1 : Int32))
 else (j_8 t_eaten))))) (fun j_6 =>
 (if t_beast = t_his_1 then
 (j_6 t_beast)
 else (ob1 (f_X6_prowl t_barred t_step t_plan_doorCount t_plan_firstEnds t_secondEnds t_habit t_beast t_his_1) (fun r_15 =>
 (j_6 r_15))))))) (fun j_4 =>
 (if p1 = (10 : Int32) then
 (j_4 t_his t_onString t_string)
 else (ob1 (f_X6_across t_barred t_plan_doorCount t_plan_firstEnds t_secondEnds p1 t_his) (fun r_18 =>
 (if t_plan_stringLength ≤ t_onString then
 (j_4 r_18 t_onString t_string)
 else (gin t_onString 12 (bnd (upd t_string t_onString.toNatClampNeg p1) (fun t_string_22 =>
 (bnd (t_onString + (1 : Int32)) (fun t_onString_23 =>
 (j_4 r_18 t_onString_23 t_string_22))))))))))))
abbrev rmX6_takeStep : Room := { frames := 4, cells := 0, slots := 0, locals := 91 }
set_option maxHeartbeats 4000000 in
set_option maxRecDepth 100000 in
theorem c_X6_takeStep (l : Launch) (g : Gh) (sz : Nat) (t_q t_plan_q t_secondEnds_q t_string_q t_plan_firstEnds_q t_plan_rules_q : Nat) (t_barred : Int32) (t_period : Int32) (t_his : Int32) (t_beast : Int32) (t_habit : Int32) (t_onString : Int32) (t_step : Int32) (t_eaten : Int32) (t_plan_rooms : Int32) (t_plan_doorCount : Int32) (t_plan_ruleCount : Int32) (t_plan_stringLength : Int32) (t_plan_firstEnds : Nat → Int32) (t_plan_rules : Nat → Int32) (t_secondEnds : Nat → Int32) (t_string : Nat → Int32) (p1 : Int32) (t_barred' : Int32) (t_beast' : Int32) (t_eaten' : Int32) (t_his' : Int32) (t_onString' : Int32) (t_step' : Int32) (t_secondEnds' : Nat → Int32) (t_string' : Nat → Int32) (hf : f_X6_takeStep t_barred t_period t_his t_beast t_habit t_onString t_step t_eaten t_plan_rooms t_plan_doorCount t_plan_ruleCount t_plan_stringLength t_plan_firstEnds t_plan_rules t_secondEnds t_string p1 = some (t_barred', t_beast', t_eaten', t_his', t_onString', t_step', t_secondEnds', t_string')) : CV l yX6_takeStep wsX6_takeStep rmX6_takeStep [.ref t_q, .int p1] g sz [oX6 t_q t_plan_q t_secondEnds_q t_string_q t_barred t_period t_his t_beast t_habit t_onString t_step t_eaten, oX2 t_plan_q t_plan_firstEnds_q t_plan_rules_q t_plan_rooms t_plan_doorCount t_plan_ruleCount t_plan_stringLength, aI g t_plan_firstEnds_q 10 t_plan_firstEnds, aI g t_plan_rules_q 6 t_plan_rules, aI g t_secondEnds_q 10 t_secondEnds, aI g t_string_q 12 t_string] [oX6 t_q t_plan_q t_secondEnds_q t_string_q t_barred' t_period t_his' t_beast' t_habit t_onString' t_step' t_eaten', oX2 t_plan_q t_plan_firstEnds_q t_plan_rules_q t_plan_rooms t_plan_doorCount t_plan_ruleCount t_plan_stringLength, aI g t_plan_firstEnds_q 10 t_plan_firstEnds, aI g t_plan_rules_q 6 t_plan_rules, aI g t_secondEnds_q 10 t_secondEnds', aI g t_string_q 12 t_string'] := by
  refine ent_v (cc := cX6_takeStep) (maxL := 2) (by decide) rfl (Nat.le_of_ble_eq_true rfl) ?_
  intro p e s m args below meth c A Q hx hb hml hown hts hK hz hk hA hD hP hS hret ls hl
  have hown : s.vm.findClass RX6 = some m.cls := hown
  have inX2 : ∀ w ∈ u_ws RX2 TX2 6, w ∈ wsX6_takeStep := by decide +kernel
  have inX6 : ∀ w ∈ u_ws RX6 TX6 11, w ∈ wsX6_takeStep := by decide +kernel
  have k15 := hts (.fieldLink RX6 15 "ThreadMoved$State" "string" "[I") (by decide +kernel)
  have k18 := hts (.fieldLink RX6 18 "ThreadMoved$State" "plan" "LThreadMoved$Plan;") (by decide +kernel)
  have k32 := hts (.fieldLink RX6 32 "ThreadMoved$State" "his" "I") (by decide +kernel)
  have k35 := hts (.fieldLink RX6 35 "ThreadMoved$State" "beast" "I") (by decide +kernel)
  have k38 := hts (.fieldLink RX6 38 "ThreadMoved$State" "habit" "I") (by decide +kernel)
  have k41 := hts (.fieldLink RX6 41 "ThreadMoved$State" "onString" "I") (by decide +kernel)
  have k47 := hts (.fieldLink RX6 47 "ThreadMoved$State" "eaten" "Z") (by decide +kernel)
  have k125 := hts (.fieldLink RX6 125 "ThreadMoved$Plan" "stringLength" "I") (by decide +kernel)
  have hl : lv_has ls 2 [(0, .ref t_q), (1, .int p1)] := hl
  have hret : ∀ (t_barredz : Int32) (t_beastz : Int32) (t_eatenz : Int32) (t_hisz : Int32) (t_onStringz : Int32) (t_stepz : Int32) (t_secondEndsz : Nat → Int32) (t_stringz : Nat → Int32), (t_barredz, t_beastz, t_eatenz, t_hisz, t_onStringz, t_stepz, t_secondEndsz, t_stringz) = (t_barred', t_beast', t_eaten', t_his', t_onString', t_step', t_secondEnds', t_string') → ∀ (H : Heap) (locs : List Loc) (pc : Nat) (ls : Array Slot), va_P g.1 vwCl [oX6 t_q t_plan_q t_secondEnds_q t_string_q t_barredz t_period t_hisz t_beastz t_habit t_onStringz t_stepz t_eatenz, oX2 t_plan_q t_plan_firstEnds_q t_plan_rules_q t_plan_rooms t_plan_doorCount t_plan_ruleCount t_plan_stringLength, aI g t_plan_firstEnds_q 10 t_plan_firstEnds, aI g t_plan_rules_q 6 t_plan_rules, aI g t_secondEnds_q 10 t_secondEndsz, aI g t_string_q 12 t_stringz] H → va_S A s.heap H locs → decode cX6_takeStep pc = .ok (.return_, 1) → W p l e rmX6_takeStep s m args below meth c H locs 0 0 Q (F0 m pc ls []) := by
    intro t_barredz t_beastz t_eatenz t_hisz t_onStringz t_stepz t_secondEndsz t_stringz he H locs pc ls hP hS hd
    cases he
    exact hret H locs pc ls hP hS hd
  unfold f_X6_takeStep at hf
  refine lv_iload_n hx hb dX6_takeStep_0 rfl (lv_at hl 1 rfl) ?_
  refine lv_bipush (v := (10 : Int32)) hx hb dX6_takeStep_1 (by decide) ?_
  obtain ⟨j_4, hj_4, hf⟩ := jn3_e hf
  have J_4 : ∀ (t_his_1 : Int32) (t_onString_2 : Int32) (t_string_3 : Nat → Int32), j_4 t_his_1 t_onString_2 t_string_3 = some (t_barred', t_beast', t_eaten', t_his', t_onString', t_step', t_secondEnds', t_string') → ∀ (H : Heap) (locs : List Loc) (ls : Array Slot), va_P g.1 vwCl [oX6 t_q t_plan_q t_secondEnds_q t_string_q t_barred t_period t_his_1 t_beast t_habit t_onString_2 t_step t_eaten, oX2 t_plan_q t_plan_firstEnds_q t_plan_rules_q t_plan_rooms t_plan_doorCount t_plan_ruleCount t_plan_stringLength, aI g t_plan_firstEnds_q 10 t_plan_firstEnds, aI g t_plan_rules_q 6 t_plan_rules, aI g t_secondEnds_q 10 t_secondEnds, aI g t_string_q 12 t_string_3] H → va_S A s.heap H locs → lv_has ls 2 [(0, .ref t_q)] → W p l e rmX6_takeStep s m args below meth c H locs 0 0 Q (F0 m 53 ls []) := by
    intro t_his_1 t_onString_2 t_string_3 hf H locs ls hP hS hl
    rw [hj_4] at hf
    refine lv_aload_n hx hb dX6_takeStep_53 rfl (lv_at hl 0 rfl) ?_
    refine va_get (D := g.1) (ci := 6) (v := .int t_beast) (C := RX6) (T := TX6) (N := 11) hx hb hts inX6 hown hK hP 0 rfl rfl 6 (by decide) k35 (fun _ h9 => h9) rfl dX6_takeStep_54 ?_
    refine lv_aload_n hx hb dX6_takeStep_57 rfl (lv_at hl 0 rfl) ?_
    refine va_get (D := g.1) (ci := 6) (v := .int t_his_1) (C := RX6) (T := TX6) (N := 11) hx hb hts inX6 hown hK hP 0 rfl rfl 5 (by decide) k32 (fun _ h9 => h9) rfl dX6_takeStep_58 ?_
    obtain ⟨j_6, hj_6, hf⟩ := jn1_e hf
    have J_6 : ∀ (t_beast_5 : Int32), j_6 t_beast_5 = some (t_barred', t_beast', t_eaten', t_his', t_onString', t_step', t_secondEnds', t_string') → ∀ (H : Heap) (locs : List Loc) (ls : Array Slot), va_P g.1 vwCl [oX6 t_q t_plan_q t_secondEnds_q t_string_q t_barred t_period t_his_1 t_beast_5 t_habit t_onString_2 t_step t_eaten, oX2 t_plan_q t_plan_firstEnds_q t_plan_rules_q t_plan_rooms t_plan_doorCount t_plan_ruleCount t_plan_stringLength, aI g t_plan_firstEnds_q 10 t_plan_firstEnds, aI g t_plan_rules_q 6 t_plan_rules, aI g t_secondEnds_q 10 t_secondEnds, aI g t_string_q 12 t_string_3] H → va_S A s.heap H locs → lv_has ls 2 [(0, .ref t_q)] → W p l e rmX6_takeStep s m args below meth c H locs 0 0 Q (F0 m 84 ls []) := by
      intro t_beast_5 hf H locs ls hP hS hl
      rw [hj_6] at hf
      refine lv_aload_n hx hb dX6_takeStep_84 rfl (lv_at hl 0 rfl) ?_
      refine va_get (D := g.1) (ci := 6) (v := .int t_beast_5) (C := RX6) (T := TX6) (N := 11) hx hb hts inX6 hown hK hP 0 rfl rfl 6 (by decide) k35 (fun _ h9 => h9) rfl dX6_takeStep_85 ?_
      refine lv_aload_n hx hb dX6_takeStep_88 rfl (lv_at hl 0 rfl) ?_
      refine va_get (D := g.1) (ci := 6) (v := .int t_his_1) (C := RX6) (T := TX6) (N := 11) hx hb hts inX6 hown hK hP 0 rfl rfl 5 (by decide) k32 (fun _ h9 => h9) rfl dX6_takeStep_89 ?_
      obtain ⟨j_8, hj_8, hf⟩ := jn1_e hf
      have J_8 : ∀ (t_eaten_7 : Int32), j_8 t_eaten_7 = some (t_barred', t_beast', t_eaten', t_his', t_onString', t_step', t_secondEnds', t_string') → ∀ (H : Heap) (locs : List Loc) (ls : Array Slot), va_P g.1 vwCl [oX6 t_q t_plan_q t_secondEnds_q t_string_q t_barred t_period t_his_1 t_beast_5 t_habit t_onString_2 t_step t_eaten_7, oX2 t_plan_q t_plan_firstEnds_q t_plan_rules_q t_plan_rooms t_plan_doorCount t_plan_ruleCount t_plan_stringLength, aI g t_plan_firstEnds_q 10 t_plan_firstEnds, aI g t_plan_rules_q 6 t_plan_rules, aI g t_secondEnds_q 10 t_secondEnds, aI g t_string_q 12 t_string_3] H → va_S A s.heap H locs → lv_has ls 2 [(0, .ref t_q)] → W p l e rmX6_takeStep s m args below meth c H locs 0 0 Q (F0 m 100 ls []) := by
        intro t_eaten_7 hf H locs ls hP hS hl
        rw [hj_8] at hf
        refine lv_aload_n hx hb dX6_takeStep_100 rfl (lv_at hl 0 rfl) ?_
        obtain ⟨t_barred_9, t_step_10, t_secondEnds_11, hc_12, hf⟩ := ob3_e hf
        refine kV_v (wn := [oX6 t_q t_plan_q t_secondEnds_q t_string_q t_barred_9 t_period t_his_1 t_beast_5 t_habit t_onString_2 t_step_10 t_eaten_7, oX2 t_plan_q t_plan_firstEnds_q t_plan_rules_q t_plan_rooms t_plan_doorCount t_plan_ruleCount t_plan_stringLength, aI g t_plan_firstEnds_q 10 t_plan_firstEnds, aI g t_plan_rules_q 6 t_plan_rules, aI g t_secondEnds_q 10 t_secondEnds_11, aI g t_string_q 12 t_string_3]) (As := []) (rest := []) (c_X6_passTime l g _ t_q t_plan_q t_secondEnds_q t_string_q t_plan_firstEnds_q t_plan_rules_q t_barred t_period t_his_1 t_beast_5 t_habit t_onString_2 t_step t_eaten_7 t_plan_rooms t_plan_doorCount t_plan_ruleCount t_plan_stringLength t_plan_rules t_secondEnds t_barred_9 t_step_10 t_secondEnds_11 hc_12) ⟨hx, hb, hml, hown, hts⟩ (cwV 0 hts gX6_takeStep_X6_passTime rfl rfl rfl (by decide +kernel) ⟨by decide, by decide⟩) hK hz hk hP (hD.re rfl) hS hA [0, 1, 3, 4] rfl rfl rfl rfl rfl rfl rfl hl.1 rfl (Nat.le_of_ble_eq_true rfl) dX6_takeStep_101 (fun H locs hP hS => ?_)
        exact hret t_barred_9 t_beast_5 t_eaten_7 t_his_1 t_onString_2 t_step_10 t_secondEnds_11 t_string_3 (Option.some.inj hf) _ _ _ _ hP hS dX6_takeStep_104
      refine lv_icmp_ne (tgt := 100) hx hb dX6_takeStep_92 (by decide) (fun c_13 => ?_) (fun c_13 => ?_)
      · have hf := ite_f hf c_13
        exact J_8 t_eaten hf _ _ _ hP hS (lv_sub hl [0] rfl)
      · have hf := ite_t hf c_13
        refine lv_aload_n hx hb dX6_takeStep_95 rfl (lv_at hl 0 rfl) ?_
        refine lv_iconst (v := (1 : Int32)) hx hb dX6_takeStep_96 (by decide) ?_
        refine va_put (D := g.1) (ci := 6) (v := .int (1 : Int32)) (ty := .boolean) (C := RX6) (T := TX6) (N := 11) hx hb hts inX6 tyX6 tyX6_ok nmX6 hown hK hP (hD.re rfl) hS 0 rfl rfl 10 (by decide) k47 (fun _ h9 => h9) rfl (by decide +kernel) rfl rfl (Nat.le_of_ble_eq_true rfl) dX6_takeStep_97 (fun H locs hP _ hS => ?_)
        have hP : va_P g.1 vwCl [oX6 t_q t_plan_q t_secondEnds_q t_string_q t_barred t_period t_his_1 t_beast_5 t_habit t_onString_2 t_step (1 : Int32), oX2 t_plan_q t_plan_firstEnds_q t_plan_rules_q t_plan_rooms t_plan_doorCount t_plan_ruleCount t_plan_stringLength, aI g t_plan_firstEnds_q 10 t_plan_firstEnds, aI g t_plan_rules_q 6 t_plan_rules, aI g t_secondEnds_q 10 t_secondEnds, aI g t_string_q 12 t_string_3] H := hP
        exact J_8 (1 : Int32) hf _ _ _ hP hS (lv_sub hl [0] rfl)
    refine lv_icmp_eq (tgt := 84) hx hb dX6_takeStep_61 (by decide) (fun c_14 => ?_) (fun c_14 => ?_)
    · have hf := ite_t hf c_14
      exact J_6 t_beast hf _ _ _ hP hS (lv_sub hl [0] rfl)
    · have hf := ite_f hf c_14
      refine lv_aload_n hx hb dX6_takeStep_64 rfl (lv_at hl 0 rfl) ?_
      refine lv_aload_n hx hb dX6_takeStep_65 rfl (lv_at hl 0 rfl) ?_
      refine lv_aload_n hx hb dX6_takeStep_66 rfl (lv_at hl 0 rfl) ?_
      refine va_get (D := g.1) (ci := 6) (v := .int t_habit) (C := RX6) (T := TX6) (N := 11) hx hb hts inX6 hown hK hP 0 rfl rfl 7 (by decide) k38 (fun _ h9 => h9) rfl dX6_takeStep_67 ?_
      refine lv_aload_n hx hb dX6_takeStep_70 rfl (lv_at hl 0 rfl) ?_
      refine va_get (D := g.1) (ci := 6) (v := .int t_beast) (C := RX6) (T := TX6) (N := 11) hx hb hts inX6 hown hK hP 0 rfl rfl 6 (by decide) k35 (fun _ h9 => h9) rfl dX6_takeStep_71 ?_
      refine lv_aload_n hx hb dX6_takeStep_74 rfl (lv_at hl 0 rfl) ?_
      refine va_get (D := g.1) (ci := 6) (v := .int t_his_1) (C := RX6) (T := TX6) (N := 11) hx hb hts inX6 hown hK hP 0 rfl rfl 5 (by decide) k32 (fun _ h9 => h9) rfl dX6_takeStep_75 ?_
      obtain ⟨r_15, hc_16, hf⟩ := ob1_e hf
      refine kV_i (wn := [oX6 t_q t_plan_q t_secondEnds_q t_string_q t_barred t_period t_his_1 t_beast t_habit t_onString_2 t_step t_eaten, oX2 t_plan_q t_plan_firstEnds_q t_plan_rules_q t_plan_rooms t_plan_doorCount t_plan_ruleCount t_plan_stringLength, aI g t_plan_firstEnds_q 10 t_plan_firstEnds, aI g t_plan_rules_q 6 t_plan_rules, aI g t_secondEnds_q 10 t_secondEnds, aI g t_string_q 12 t_string_3]) (As := [.int t_habit, .int t_beast, .int t_his_1]) (rest := [.ref t_q]) (c_X6_prowl l g _ t_q t_plan_q t_secondEnds_q t_string_q t_plan_firstEnds_q t_plan_rules_q t_barred t_period t_his_1 t_beast t_habit t_onString_2 t_step t_eaten t_plan_rooms t_plan_doorCount t_plan_ruleCount t_plan_stringLength t_plan_firstEnds t_secondEnds t_habit t_beast t_his_1 r_15 hc_16) ⟨hx, hb, hml, hown, hts⟩ (cwV 3 hts gX6_takeStep_X6_prowl rfl rfl rfl (by decide +kernel) ⟨by decide, by decide⟩) hK hz hk hP (hD.re rfl) hS hA [0, 1, 2, 4] rfl rfl rfl rfl rfl rfl rfl hl.1 rfl (Nat.le_of_ble_eq_true rfl) dX6_takeStep_78 (fun H locs hP hS => ?_)
      refine va_put (D := g.1) (ci := 6) (v := .int r_15) (ty := .int) (C := RX6) (T := TX6) (N := 11) hx hb hts inX6 tyX6 tyX6_ok nmX6 hown hK hP (hD.re rfl) hS 0 rfl rfl 6 (by decide) k35 (fun _ h9 => h9) rfl (by decide +kernel) rfl rfl (Nat.le_of_ble_eq_true rfl) dX6_takeStep_81 (fun H locs hP _ hS => ?_)
      have hP : va_P g.1 vwCl [oX6 t_q t_plan_q t_secondEnds_q t_string_q t_barred t_period t_his_1 r_15 t_habit t_onString_2 t_step t_eaten, oX2 t_plan_q t_plan_firstEnds_q t_plan_rules_q t_plan_rooms t_plan_doorCount t_plan_ruleCount t_plan_stringLength, aI g t_plan_firstEnds_q 10 t_plan_firstEnds, aI g t_plan_rules_q 6 t_plan_rules, aI g t_secondEnds_q 10 t_secondEnds, aI g t_string_q 12 t_string_3] H := hP
      exact J_6 r_15 hf _ _ _ hP hS (lv_sub hl [0] rfl)
  refine lv_icmp_eq (tgt := 53) hx hb dX6_takeStep_3 (by decide) (fun c_17 => ?_) (fun c_17 => ?_)
  · have hf := ite_t hf c_17
    exact J_4 t_his t_onString t_string hf _ _ _ hP hS (lv_sub hl [0] rfl)
  · have hf := ite_f hf c_17
    refine lv_aload_n hx hb dX6_takeStep_6 rfl (lv_at hl 0 rfl) ?_
    refine lv_aload_n hx hb dX6_takeStep_7 rfl (lv_at hl 0 rfl) ?_
    refine lv_iload_n hx hb dX6_takeStep_8 rfl (lv_at hl 1 rfl) ?_
    refine lv_aload_n hx hb dX6_takeStep_9 rfl (lv_at hl 0 rfl) ?_
    refine va_get (D := g.1) (ci := 6) (v := .int t_his) (C := RX6) (T := TX6) (N := 11) hx hb hts inX6 hown hK hP 0 rfl rfl 5 (by decide) k32 (fun _ h9 => h9) rfl dX6_takeStep_10 ?_
    obtain ⟨r_18, hc_19, hf⟩ := ob1_e hf
    refine kV_i (wn := [oX6 t_q t_plan_q t_secondEnds_q t_string_q t_barred t_period t_his t_beast t_habit t_onString t_step t_eaten, oX2 t_plan_q t_plan_firstEnds_q t_plan_rules_q t_plan_rooms t_plan_doorCount t_plan_ruleCount t_plan_stringLength, aI g t_plan_firstEnds_q 10 t_plan_firstEnds, aI g t_plan_rules_q 6 t_plan_rules, aI g t_secondEnds_q 10 t_secondEnds, aI g t_string_q 12 t_string]) (As := [.int p1, .int t_his]) (rest := [.ref t_q]) (c_X6_across l g _ t_q t_plan_q t_secondEnds_q t_string_q t_plan_firstEnds_q t_plan_rules_q t_barred t_period t_his t_beast t_habit t_onString t_step t_eaten t_plan_rooms t_plan_doorCount t_plan_ruleCount t_plan_stringLength t_plan_firstEnds t_secondEnds p1 t_his r_18 hc_19) ⟨hx, hb, hml, hown, hts⟩ (cwV 2 hts gX6_takeStep_X6_across rfl rfl rfl (by decide +kernel) ⟨by decide, by decide⟩) hK hz hk hP (hD.re rfl) hS hA [0, 1, 2, 4] rfl rfl rfl rfl rfl rfl rfl hl.1 rfl (Nat.le_of_ble_eq_true rfl) dX6_takeStep_13 (fun H locs hP hS => ?_)
    refine va_put (D := g.1) (ci := 6) (v := .int r_18) (ty := .int) (C := RX6) (T := TX6) (N := 11) hx hb hts inX6 tyX6 tyX6_ok nmX6 hown hK hP (hD.re rfl) hS 0 rfl rfl 5 (by decide) k32 (fun _ h9 => h9) rfl (by decide +kernel) rfl rfl (Nat.le_of_ble_eq_true rfl) dX6_takeStep_16 (fun H locs hP _ hS => ?_)
    have hP : va_P g.1 vwCl [oX6 t_q t_plan_q t_secondEnds_q t_string_q t_barred t_period r_18 t_beast t_habit t_onString t_step t_eaten, oX2 t_plan_q t_plan_firstEnds_q t_plan_rules_q t_plan_rooms t_plan_doorCount t_plan_ruleCount t_plan_stringLength, aI g t_plan_firstEnds_q 10 t_plan_firstEnds, aI g t_plan_rules_q 6 t_plan_rules, aI g t_secondEnds_q 10 t_secondEnds, aI g t_string_q 12 t_string] H := hP
    refine lv_aload_n hx hb dX6_takeStep_19 rfl (lv_at hl 0 rfl) ?_
    refine va_get (D := g.1) (ci := 6) (v := .int t_onString) (C := RX6) (T := TX6) (N := 11) hx hb hts inX6 hown hK hP 0 rfl rfl 8 (by decide) k41 (fun _ h9 => h9) rfl dX6_takeStep_20 ?_
    refine lv_aload_n hx hb dX6_takeStep_23 rfl (lv_at hl 0 rfl) ?_
    refine va_get (D := g.1) (ci := 6) (v := .ref t_plan_q) (C := RX6) (T := TX6) (N := 11) hx hb hts inX6 hown hK hP 0 rfl rfl 0 (by decide) k18 (fun _ h9 => h9) rfl dX6_takeStep_24 ?_
    refine va_get (D := g.1) (ci := 2) (v := .int t_plan_stringLength) (C := RX2) (T := TX2) (N := 6) hx hb hts inX2 hown hK hP 1 rfl rfl 5 (by decide) k125 (fun _ h9 => h9) rfl dX6_takeStep_27 ?_
    refine lv_icmp_ge (tgt := 53) hx hb dX6_takeStep_30 (by decide) (fun c_20 => ?_) (fun c_20 => ?_)
    · have hf := ite_t hf c_20
      exact J_4 r_18 t_onString t_string hf _ _ _ hP hS (lv_sub hl [0] rfl)
    · have hf := ite_f hf c_20
      refine lv_aload_n hx hb dX6_takeStep_33 rfl (lv_at hl 0 rfl) ?_
      refine va_get (D := g.1) (ci := 6) (v := .ref t_string_q) (C := RX6) (T := TX6) (N := 11) hx hb hts inX6 hown hK hP 0 rfl rfl 2 (by decide) k15 (fun _ h9 => h9) rfl dX6_takeStep_34 ?_
      refine lv_aload_n hx hb dX6_takeStep_37 rfl (lv_at hl 0 rfl) ?_
      refine va_get (D := g.1) (ci := 6) (v := .int t_onString) (C := RX6) (T := TX6) (N := 11) hx hb hts inX6 hown hK hP 0 rfl rfl 8 (by decide) k41 (fun _ h9 => h9) rfl dX6_takeStep_38 ?_
      refine lv_iload_n hx hb dX6_takeStep_41 rfl (lv_at hl 1 rfl) ?_
      obtain ⟨h_21, hf⟩ := gin_e hf
      obtain ⟨t_string_22, et_string_22, hf⟩ := bnd_e hf
      refine va_iast hx hb hK hP (hD.re rfl) hS 5 0 rfl rfl h_21 dX6_takeStep_42 (fun H locs hP _ hS => ?_)
      have hP : va_P g.1 vwCl [oX6 t_q t_plan_q t_secondEnds_q t_string_q t_barred t_period r_18 t_beast t_habit t_onString t_step t_eaten, oX2 t_plan_q t_plan_firstEnds_q t_plan_rules_q t_plan_rooms t_plan_doorCount t_plan_ruleCount t_plan_stringLength, aI g t_plan_firstEnds_q 10 t_plan_firstEnds, aI g t_plan_rules_q 6 t_plan_rules, aI g t_secondEnds_q 10 t_secondEnds, aI g t_string_q 12 t_string_22] H := by rw [et_string_22]; exact hP
      refine lv_aload_n hx hb dX6_takeStep_43 rfl (lv_at hl 0 rfl) ?_
      refine lv_dup hx hb dX6_takeStep_44 rfl ?_
      refine va_get (D := g.1) (ci := 6) (v := .int t_onString) (C := RX6) (T := TX6) (N := 11) hx hb hts inX6 hown hK hP 0 rfl rfl 8 (by decide) k41 (fun _ h9 => h9) rfl dX6_takeStep_45 ?_
      refine lv_iconst (v := (1 : Int32)) hx hb dX6_takeStep_48 (by decide) ?_
      refine lv_iadd hx hb dX6_takeStep_49 ?_
      obtain ⟨t_onString_23, et_onString_23, hf⟩ := bnd_e hf
      refine tp_i et_onString_23 ?_
      refine va_put (D := g.1) (ci := 6) (v := .int t_onString_23) (ty := .int) (C := RX6) (T := TX6) (N := 11) hx hb hts inX6 tyX6 tyX6_ok nmX6 hown hK hP (hD.re rfl) hS 0 rfl rfl 8 (by decide) k41 (fun _ h9 => h9) rfl (by decide +kernel) rfl rfl (Nat.le_of_ble_eq_true rfl) dX6_takeStep_50 (fun H locs hP _ hS => ?_)
      have hP : va_P g.1 vwCl [oX6 t_q t_plan_q t_secondEnds_q t_string_q t_barred t_period r_18 t_beast t_habit t_onString_23 t_step t_eaten, oX2 t_plan_q t_plan_firstEnds_q t_plan_rules_q t_plan_rooms t_plan_doorCount t_plan_ruleCount t_plan_stringLength, aI g t_plan_firstEnds_q 10 t_plan_firstEnds, aI g t_plan_rules_q 6 t_plan_rules, aI g t_secondEnds_q 10 t_secondEnds, aI g t_string_q 12 t_string_22] H := hP
      exact J_4 r_18 t_onString_23 t_string_22 hf _ _ _ hP hS (lv_sub hl [0] rfl)

def f_X4_begin (a1_barred : Int32) (a1_period : Int32) (a1_his : Int32) (a1_beast : Int32) (a1_habit : Int32) (a1_onString : Int32) (a1_step : Int32) (a1_eaten : Int32) (a1_secondEnds : Nat → Int32) (a1_string : Nat → Int32) (a2_secondEnds : Nat → Int32) (a2_string : Nat → Int32) (t_pairs : Nat → Int32) (t_sizes : Nat → Int32) : Option (Int32 × Int32 × Int32 × Int32 × Int32 × Int32 × Int32 × Int32 × (Nat → Int32) × (Nat → Int32) × (Nat → Int32) × (Nat → Int32)) :=
 (ob10 (f_X6_copyFrom a1_barred a1_period a1_his a1_beast a1_habit a1_onString a1_step a1_eaten a1_secondEnds a1_string a2_secondEnds a2_string) (fun t_barred_1 t_beast_2 t_eaten_3 t_habit_4 t_his_5 t_onString_6 t_period_7 t_step_8 t_secondEnds_9 t_string_10 =>
 (gin (0 : Int32) 25 (bnd (upd t_sizes (0 : Int32).toNatClampNeg (1 : Int32)) (fun t_sizes_13 =>
 (jn1 (fun (s_14 : Int32) => (gin (0 : Int32) 1400 (bnd (upd t_pairs (0 : Int32).toNatClampNeg ((a1_his * (8 : Int32)) + s_14)) (fun t_pairs_17 =>
 (some (t_barred_1, t_beast_2, t_eaten_3, t_habit_4, t_his_5, t_onString_6, t_period_7, t_step_8, t_secondEnds_9, t_string_10, t_pairs_17, t_sizes_13)))))) (fun j_15 =>
 (if a1_beast = (-4 : Int32) then
 (j_15 (7 : Int32))
 else (j_15 a1_beast)))))))))
abbrev rmX4_begin : Room := { frames := 2, cells := 0, slots := 0, locals := 61 }
set_option maxHeartbeats 4000000 in
set_option maxRecDepth 100000 in
theorem c_X4_begin (l : Launch) (g : Gh) (sz : Nat) (t_q t_pairs_q t_parents_q t_steps_q t_sizes_q t_prowls_q a1_q a1_plan_q a1_secondEnds_q a1_string_q a2_q a2_plan_q a2_secondEnds_q a2_string_q : Nat) (t_met : Int64) (a1_barred : Int32) (a1_period : Int32) (a1_his : Int32) (a1_beast : Int32) (a1_habit : Int32) (a1_onString : Int32) (a1_step : Int32) (a1_eaten : Int32) (a1_secondEnds : Nat → Int32) (a1_string : Nat → Int32) (a2_barred : Int32) (a2_period : Int32) (a2_his : Int32) (a2_beast : Int32) (a2_habit : Int32) (a2_onString : Int32) (a2_step : Int32) (a2_eaten : Int32) (a2_secondEnds : Nat → Int32) (a2_string : Nat → Int32) (t_pairs : Nat → Int32) (t_sizes : Nat → Int32) (a2_barred' : Int32) (a2_beast' : Int32) (a2_eaten' : Int32) (a2_habit' : Int32) (a2_his' : Int32) (a2_onString' : Int32) (a2_period' : Int32) (a2_step' : Int32) (a2_secondEnds' : Nat → Int32) (a2_string' : Nat → Int32) (t_pairs' : Nat → Int32) (t_sizes' : Nat → Int32) (hf : f_X4_begin a1_barred a1_period a1_his a1_beast a1_habit a1_onString a1_step a1_eaten a1_secondEnds a1_string a2_secondEnds a2_string t_pairs t_sizes = some (a2_barred', a2_beast', a2_eaten', a2_habit', a2_his', a2_onString', a2_period', a2_step', a2_secondEnds', a2_string', t_pairs', t_sizes')) : CV l yX4_begin wsX4_begin rmX4_begin [.ref t_q, .ref a1_q, .ref a2_q] g sz [oX4 t_q t_pairs_q t_parents_q t_steps_q t_sizes_q t_prowls_q t_met, oX6 a1_q a1_plan_q a1_secondEnds_q a1_string_q a1_barred a1_period a1_his a1_beast a1_habit a1_onString a1_step a1_eaten, aI g a1_secondEnds_q 10 a1_secondEnds, aI g a1_string_q 12 a1_string, oX6 a2_q a2_plan_q a2_secondEnds_q a2_string_q a2_barred a2_period a2_his a2_beast a2_habit a2_onString a2_step a2_eaten, aI g a2_secondEnds_q 10 a2_secondEnds, aI g a2_string_q 12 a2_string, aI g t_pairs_q 1400 t_pairs, aI g t_sizes_q 25 t_sizes] [oX4 t_q t_pairs_q t_parents_q t_steps_q t_sizes_q t_prowls_q t_met, oX6 a1_q a1_plan_q a1_secondEnds_q a1_string_q a1_barred a1_period a1_his a1_beast a1_habit a1_onString a1_step a1_eaten, aI g a1_secondEnds_q 10 a1_secondEnds, aI g a1_string_q 12 a1_string, oX6 a2_q a2_plan_q a2_secondEnds_q a2_string_q a2_barred' a2_period' a2_his' a2_beast' a2_habit' a2_onString' a2_step' a2_eaten', aI g a2_secondEnds_q 10 a2_secondEnds', aI g a2_string_q 12 a2_string', aI g t_pairs_q 1400 t_pairs', aI g t_sizes_q 25 t_sizes'] := by
  refine ent_v (cc := cX4_begin) (maxL := 3) (by decide) rfl (Nat.le_of_ble_eq_true rfl) ?_
  intro p e s m args below meth c A Q hx hb hml hown hts hK hz hk hA hD hP hS hret ls hl
  have hown : s.vm.findClass RX4 = some m.cls := hown
  have inX4 : ∀ w ∈ u_ws RX4 TX4 6, w ∈ wsX4_begin := by decide +kernel
  have inX6 : ∀ w ∈ u_ws RX6 TX6 11, w ∈ wsX4_begin := by decide +kernel
  have k11 := hts (.fieldLink RX4 11 "ThreadMoved$Search" "pairs" "[I") (by decide +kernel)
  have k21 := hts (.fieldLink RX4 21 "ThreadMoved$Search" "sizes" "[I") (by decide +kernel)
  have k33 := hts (.fieldLink RX4 33 "ThreadMoved$State" "his" "I") (by decide +kernel)
  have k37 := hts (.fieldLink RX4 37 "ThreadMoved$State" "beast" "I") (by decide +kernel)
  have hl : lv_has ls 3 [(0, .ref t_q), (1, .ref a1_q), (2, .ref a2_q)] := hl
  have hret : ∀ (a2_barredz : Int32) (a2_beastz : Int32) (a2_eatenz : Int32) (a2_habitz : Int32) (a2_hisz : Int32) (a2_onStringz : Int32) (a2_periodz : Int32) (a2_stepz : Int32) (a2_secondEndsz : Nat → Int32) (a2_stringz : Nat → Int32) (t_pairsz : Nat → Int32) (t_sizesz : Nat → Int32), (a2_barredz, a2_beastz, a2_eatenz, a2_habitz, a2_hisz, a2_onStringz, a2_periodz, a2_stepz, a2_secondEndsz, a2_stringz, t_pairsz, t_sizesz) = (a2_barred', a2_beast', a2_eaten', a2_habit', a2_his', a2_onString', a2_period', a2_step', a2_secondEnds', a2_string', t_pairs', t_sizes') → ∀ (H : Heap) (locs : List Loc) (pc : Nat) (ls : Array Slot), va_P g.1 vwCl [oX4 t_q t_pairs_q t_parents_q t_steps_q t_sizes_q t_prowls_q t_met, oX6 a1_q a1_plan_q a1_secondEnds_q a1_string_q a1_barred a1_period a1_his a1_beast a1_habit a1_onString a1_step a1_eaten, aI g a1_secondEnds_q 10 a1_secondEnds, aI g a1_string_q 12 a1_string, oX6 a2_q a2_plan_q a2_secondEnds_q a2_string_q a2_barredz a2_periodz a2_hisz a2_beastz a2_habitz a2_onStringz a2_stepz a2_eatenz, aI g a2_secondEnds_q 10 a2_secondEndsz, aI g a2_string_q 12 a2_stringz, aI g t_pairs_q 1400 t_pairsz, aI g t_sizes_q 25 t_sizesz] H → va_S A s.heap H locs → decode cX4_begin pc = .ok (.return_, 1) → W p l e rmX4_begin s m args below meth c H locs 0 0 Q (F0 m pc ls []) := by
    intro a2_barredz a2_beastz a2_eatenz a2_habitz a2_hisz a2_onStringz a2_periodz a2_stepz a2_secondEndsz a2_stringz t_pairsz t_sizesz he H locs pc ls hP hS hd
    cases he
    exact hret H locs pc ls hP hS hd
  unfold f_X4_begin at hf
  refine lv_aload_n hx hb dX4_begin_0 rfl (lv_at hl 2 rfl) ?_
  refine lv_aload_n hx hb dX4_begin_1 rfl (lv_at hl 1 rfl) ?_
  obtain ⟨t_barred_1, t_beast_2, t_eaten_3, t_habit_4, t_his_5, t_onString_6, t_period_7, t_step_8, t_secondEnds_9, t_string_10, hc_11, hf⟩ := ob10_e hf
  refine kV_v (wn := [oX4 t_q t_pairs_q t_parents_q t_steps_q t_sizes_q t_prowls_q t_met, oX6 a1_q a1_plan_q a1_secondEnds_q a1_string_q a1_barred a1_period a1_his a1_beast a1_habit a1_onString a1_step a1_eaten, aI g a1_secondEnds_q 10 a1_secondEnds, aI g a1_string_q 12 a1_string, oX6 a2_q a2_plan_q a2_secondEnds_q a2_string_q t_barred_1 t_period_7 t_his_5 t_beast_2 t_habit_4 t_onString_6 t_step_8 t_eaten_3, aI g a2_secondEnds_q 10 t_secondEnds_9, aI g a2_string_q 12 t_string_10, aI g t_pairs_q 1400 t_pairs, aI g t_sizes_q 25 t_sizes]) (As := [.ref a1_q]) (rest := []) (c_X6_copyFrom l g _ a2_q a2_plan_q a2_secondEnds_q a2_string_q a1_q a1_plan_q a1_secondEnds_q a1_string_q a2_barred a2_period a2_his a2_beast a2_habit a2_onString a2_step a2_eaten a1_barred a1_period a1_his a1_beast a1_habit a1_onString a1_step a1_eaten a1_secondEnds a1_string a2_secondEnds a2_string t_barred_1 t_beast_2 t_eaten_3 t_habit_4 t_his_5 t_onString_6 t_period_7 t_step_8 t_secondEnds_9 t_string_10 hc_11) ⟨hx, hb, hml, hown, hts⟩ (cwV 1 hts gX4_begin_X6_copyFrom rfl rfl rfl (by decide +kernel) ⟨by decide, by decide⟩) hK hz hk hP (hD.re rfl) hS hA [4, 1, 2, 3, 5, 6] rfl rfl rfl rfl rfl rfl rfl hl.1 rfl (Nat.le_of_ble_eq_true rfl) dX4_begin_2 (fun H locs hP hS => ?_)
  refine lv_aload_n hx hb dX4_begin_5 rfl (lv_at hl 0 rfl) ?_
  refine va_get (D := g.1) (ci := 4) (v := .ref t_sizes_q) (C := RX4) (T := TX4) (N := 6) hx hb hts inX4 hown hK hP 0 rfl rfl 3 (by decide) k21 (fun _ h9 => h9) rfl dX4_begin_6 ?_
  refine lv_iconst (v := (0 : Int32)) hx hb dX4_begin_9 (by decide) ?_
  refine lv_iconst (v := (1 : Int32)) hx hb dX4_begin_10 (by decide) ?_
  obtain ⟨h_12, hf⟩ := gin_e hf
  obtain ⟨t_sizes_13, et_sizes_13, hf⟩ := bnd_e hf
  refine va_iast hx hb hK hP (hD.re rfl) hS 8 0 rfl rfl h_12 dX4_begin_11 (fun H locs hP _ hS => ?_)
  have hP : va_P g.1 vwCl [oX4 t_q t_pairs_q t_parents_q t_steps_q t_sizes_q t_prowls_q t_met, oX6 a1_q a1_plan_q a1_secondEnds_q a1_string_q a1_barred a1_period a1_his a1_beast a1_habit a1_onString a1_step a1_eaten, aI g a1_secondEnds_q 10 a1_secondEnds, aI g a1_string_q 12 a1_string, oX6 a2_q a2_plan_q a2_secondEnds_q a2_string_q t_barred_1 t_period_7 t_his_5 t_beast_2 t_habit_4 t_onString_6 t_step_8 t_eaten_3, aI g a2_secondEnds_q 10 t_secondEnds_9, aI g a2_string_q 12 t_string_10, aI g t_pairs_q 1400 t_pairs, aI g t_sizes_q 25 t_sizes_13] H := by rw [et_sizes_13]; exact hP
  refine lv_aload_n hx hb dX4_begin_12 rfl (lv_at hl 0 rfl) ?_
  refine va_get (D := g.1) (ci := 4) (v := .ref t_pairs_q) (C := RX4) (T := TX4) (N := 6) hx hb hts inX4 hown hK hP 0 rfl rfl 0 (by decide) k11 (fun _ h9 => h9) rfl dX4_begin_13 ?_
  refine lv_iconst (v := (0 : Int32)) hx hb dX4_begin_16 (by decide) ?_
  refine lv_aload_n hx hb dX4_begin_17 rfl (lv_at hl 1 rfl) ?_
  refine va_get (D := g.1) (ci := 6) (v := .int a1_his) (C := RX6) (T := TX6) (N := 11) hx hb hts inX6 hown hK hP 1 rfl rfl 5 (by decide) k33 (fun _ h9 => h9) rfl dX4_begin_18 ?_
  refine lv_bipush (v := (8 : Int32)) hx hb dX4_begin_21 (by decide) ?_
  refine lv_imul hx hb dX4_begin_23 ?_
  refine lv_aload_n hx hb dX4_begin_24 rfl (lv_at hl 1 rfl) ?_
  refine va_get (D := g.1) (ci := 6) (v := .int a1_beast) (C := RX6) (T := TX6) (N := 11) hx hb hts inX6 hown hK hP 1 rfl rfl 6 (by decide) k37 (fun _ h9 => h9) rfl dX4_begin_25 ?_
  refine lv_bipush (v := (-4 : Int32)) hx hb dX4_begin_28 (by decide) ?_
  obtain ⟨j_15, hj_15, hf⟩ := jn1_e hf
  have J_15 : ∀ (s_14 : Int32), j_15 s_14 = some (a2_barred', a2_beast', a2_eaten', a2_habit', a2_his', a2_onString', a2_period', a2_step', a2_secondEnds', a2_string', t_pairs', t_sizes') → ∀ (H : Heap) (locs : List Loc) (ls : Array Slot), va_P g.1 vwCl [oX4 t_q t_pairs_q t_parents_q t_steps_q t_sizes_q t_prowls_q t_met, oX6 a1_q a1_plan_q a1_secondEnds_q a1_string_q a1_barred a1_period a1_his a1_beast a1_habit a1_onString a1_step a1_eaten, aI g a1_secondEnds_q 10 a1_secondEnds, aI g a1_string_q 12 a1_string, oX6 a2_q a2_plan_q a2_secondEnds_q a2_string_q t_barred_1 t_period_7 t_his_5 t_beast_2 t_habit_4 t_onString_6 t_step_8 t_eaten_3, aI g a2_secondEnds_q 10 t_secondEnds_9, aI g a2_string_q 12 t_string_10, aI g t_pairs_q 1400 t_pairs, aI g t_sizes_q 25 t_sizes_13] H → va_S A s.heap H locs → lv_has ls 3 [] → W p l e rmX4_begin s m args below meth c H locs 0 0 Q (F0 m 42 ls [.int s_14, .int (a1_his * (8 : Int32)), .int (0 : Int32), .ref t_pairs_q]) := by
    intro s_14 hf H locs ls hP hS hl
    rw [hj_15] at hf
    refine lv_iadd hx hb dX4_begin_42 ?_
    obtain ⟨h_16, hf⟩ := gin_e hf
    obtain ⟨t_pairs_17, et_pairs_17, hf⟩ := bnd_e hf
    refine va_iast hx hb hK hP (hD.re rfl) hS 7 0 rfl rfl h_16 dX4_begin_43 (fun H locs hP _ hS => ?_)
    have hP : va_P g.1 vwCl [oX4 t_q t_pairs_q t_parents_q t_steps_q t_sizes_q t_prowls_q t_met, oX6 a1_q a1_plan_q a1_secondEnds_q a1_string_q a1_barred a1_period a1_his a1_beast a1_habit a1_onString a1_step a1_eaten, aI g a1_secondEnds_q 10 a1_secondEnds, aI g a1_string_q 12 a1_string, oX6 a2_q a2_plan_q a2_secondEnds_q a2_string_q t_barred_1 t_period_7 t_his_5 t_beast_2 t_habit_4 t_onString_6 t_step_8 t_eaten_3, aI g a2_secondEnds_q 10 t_secondEnds_9, aI g a2_string_q 12 t_string_10, aI g t_pairs_q 1400 t_pairs_17, aI g t_sizes_q 25 t_sizes_13] H := by rw [et_pairs_17]; exact hP
    exact hret t_barred_1 t_beast_2 t_eaten_3 t_habit_4 t_his_5 t_onString_6 t_period_7 t_step_8 t_secondEnds_9 t_string_10 t_pairs_17 t_sizes_13 (Option.some.inj hf) _ _ _ _ hP hS dX4_begin_44
  refine lv_icmp_ne (tgt := 38) hx hb dX4_begin_30 (by decide) (fun c_18 => ?_) (fun c_18 => ?_)
  · have hf := ite_f hf c_18
    refine lv_aload_n hx hb dX4_begin_38 rfl (lv_at hl 1 rfl) ?_
    refine va_get (D := g.1) (ci := 6) (v := .int a1_beast) (C := RX6) (T := TX6) (N := 11) hx hb hts inX6 hown hK hP 1 rfl rfl 6 (by decide) k37 (fun _ h9 => h9) rfl dX4_begin_39 ?_
    exact J_15 a1_beast hf _ _ _ hP hS (lv_sub hl [] rfl)
  · have hf := ite_t hf c_18
    refine lv_bipush (v := (7 : Int32)) hx hb dX4_begin_33 (by decide) ?_
    refine lv_goto (tgt := 42) hx hb dX4_begin_35 (by decide) ?_
    exact J_15 (7 : Int32) hf _ _ _ hP hS (lv_sub hl [] rfl)

def b_X4_firstIn_2 (t_pairs : Nat → Int32) (t_sizes : Nat → Int32) (p1 : Int32) (p2 : Int32) (v3_1 : Int32) : Option ((Int32) ⊕ ((Int32) ⊕ (Int32))) :=
 (gin p1 25 (if (t_sizes p1.toNatClampNeg) ≤ v3_1 then
 (some (.inr (.inr v3_1)))
 else (gin ((p1 * (56 : Int32)) + v3_1) 1400 (if ((t_pairs ((p1 * (56 : Int32)) + v3_1).toNatClampNeg) / (8 : Int32)) = p2 then
 (some (.inr (.inl v3_1)))
 else (bnd (v3_1 + (1 : Int32)) (fun v3_7 =>
 (some (.inl v3_7))))))))
def f_X4_firstIn (t_pairs : Nat → Int32) (t_sizes : Nat → Int32) (p1 : Int32) (p2 : Int32) : Option (Int32) :=
 (obm1 (itr (un1 (b_X4_firstIn_2 t_pairs t_sizes p1 p2)) FU (0 : Int32)) (fun x3_8 =>
 (some (-4 : Int32))))
abbrev rmX4_firstIn : Room := { frames := 0, cells := 0, slots := 0, locals := 0 }
set_option maxHeartbeats 4000000 in
set_option maxRecDepth 100000 in
theorem c_X4_firstIn (l : Launch) (g : Gh) (sz : Nat) (t_q t_pairs_q t_parents_q t_steps_q t_sizes_q t_prowls_q : Nat) (t_met : Int64) (t_pairs : Nat → Int32) (t_sizes : Nat → Int32) (p1 : Int32) (p2 : Int32) (rr : Int32) (hf : f_X4_firstIn t_pairs t_sizes p1 p2 = some rr) : CI l yX4_firstIn wsX4_firstIn rmX4_firstIn [.ref t_q, .int p1, .int p2] g sz [oX4 t_q t_pairs_q t_parents_q t_steps_q t_sizes_q t_prowls_q t_met, aI g t_pairs_q 1400 t_pairs, aI g t_sizes_q 25 t_sizes] [oX4 t_q t_pairs_q t_parents_q t_steps_q t_sizes_q t_prowls_q t_met, aI g t_pairs_q 1400 t_pairs, aI g t_sizes_q 25 t_sizes] rr := by
  refine ent_i (cc := cX4_firstIn) (maxL := 4) (by decide) rfl (Nat.le_of_ble_eq_true rfl) ?_
  intro p e s m args below meth c A Q hx hb hml hown hts hK hz hk hA hD hP hS hret ls hl
  have hown : s.vm.findClass RX4 = some m.cls := hown
  have inX4 : ∀ w ∈ u_ws RX4 TX4 6, w ∈ wsX4_firstIn := by decide +kernel
  have k11 := hts (.fieldLink RX4 11 "ThreadMoved$Search" "pairs" "[I") (by decide +kernel)
  have k21 := hts (.fieldLink RX4 21 "ThreadMoved$Search" "sizes" "[I") (by decide +kernel)
  have hl : lv_has ls 4 [(0, .ref t_q), (1, .int p1), (2, .int p2)] := hl
  have hret : ∀ (rrz : Int32), rrz = rr → ∀ (H : Heap) (locs : List Loc) (pc : Nat) (ls : Array Slot), va_P g.1 vwCl [oX4 t_q t_pairs_q t_parents_q t_steps_q t_sizes_q t_prowls_q t_met, aI g t_pairs_q 1400 t_pairs, aI g t_sizes_q 25 t_sizes] H → va_S A s.heap H locs → decode cX4_firstIn pc = .ok (.ireturn, 1) → W p l e rmX4_firstIn s m args below meth c H locs 0 0 Q (F0 m pc ls [.int rrz]) := by
    intro rrz he H locs pc ls hP hS hd
    cases he
    exact hret H locs pc ls hP hS hd
  unfold f_X4_firstIn at hf
  refine lv_iconst (v := (0 : Int32)) hx hb dX4_firstIn_0 (by decide) ?_
  refine lv_istore_n (lv' := [(3, .int (0 : Int32)), (0, .ref t_q), (1, .int p1), (2, .int p2)]) hx hb dX4_firstIn_1 rfl hl (by decide) rfl (fun ls hl => ?_)
  obtain ⟨z0_2, ho_2, hkr_2, hke_2⟩ := obm1_e hf
  have K_2 : ∀ (x3_8 : Int32), z0_2 = .inr x3_8 → ∀ (H : Heap) (locs : List Loc) (ls : Array Slot), va_P g.1 vwCl [oX4 t_q t_pairs_q t_parents_q t_steps_q t_sizes_q t_prowls_q t_met, aI g t_pairs_q 1400 t_pairs, aI g t_sizes_q 25 t_sizes] H → va_S A s.heap H locs → lv_has ls 4 [] → W p l e rmX4_firstIn s m args below meth c H locs 0 0 Q (F0 m 38 ls []) := by
    intro x3_8 hz9 H locs ls hP hS hl
    have hf := hke_2 x3_8 hz9
    refine lv_bipush (v := (-4 : Int32)) hx hb dX4_firstIn_38 (by decide) ?_
    exact hret (-4 : Int32) (Option.some.inj hf) _ _ _ _ hP hS dX4_firstIn_40
  have L_2 : ∀ (n : Nat) (v3_1 : Int32), itr (un1 (b_X4_firstIn_2 t_pairs t_sizes p1 p2)) n v3_1 = some z0_2 → ∀ (H : Heap) (locs : List Loc) (ls : Array Slot), va_P g.1 vwCl [oX4 t_q t_pairs_q t_parents_q t_steps_q t_sizes_q t_prowls_q t_met, aI g t_pairs_q 1400 t_pairs, aI g t_sizes_q 25 t_sizes] H → va_S A s.heap H locs → lv_has ls 4 [(0, .ref t_q), (1, .int p1), (2, .int p2), (3, .int v3_1)] → W p l e rmX4_firstIn s m args below meth c H locs 0 0 Q (F0 m 2 ls []) := by
    refine itr_ind1 ?_
    intro v3_1 z_2 hf hrec hex H locs ls hP hS hl
    unfold b_X4_firstIn_2 at hf
    refine lv_iload_n hx hb dX4_firstIn_2 rfl (lv_at hl 3 rfl) ?_
    refine lv_aload_n hx hb dX4_firstIn_3 rfl (lv_at hl 0 rfl) ?_
    refine va_get (D := g.1) (ci := 4) (v := .ref t_sizes_q) (C := RX4) (T := TX4) (N := 6) hx hb hts inX4 hown hK hP 0 rfl rfl 3 (by decide) k21 (fun _ h9 => h9) rfl dX4_firstIn_4 ?_
    refine lv_iload_n hx hb dX4_firstIn_7 rfl (lv_at hl 1 rfl) ?_
    obtain ⟨h_3, hf⟩ := gin_e hf
    refine va_iald hx hb hK hP 2 0 rfl rfl h_3 dX4_firstIn_8 ?_
    refine lv_icmp_ge (tgt := 38) hx hb dX4_firstIn_9 (by decide) (fun c_4 => ?_) (fun c_4 => ?_)
    · have hf := ite_t hf c_4
      exact K_2 v3_1 (hex _ (Option.some.inj hf).symm).symm _ _ _ hP hS (lv_sub hl [] rfl)
    · have hf := ite_f hf c_4
      refine lv_aload_n hx hb dX4_firstIn_12 rfl (lv_at hl 0 rfl) ?_
      refine va_get (D := g.1) (ci := 4) (v := .ref t_pairs_q) (C := RX4) (T := TX4) (N := 6) hx hb hts inX4 hown hK hP 0 rfl rfl 0 (by decide) k11 (fun _ h9 => h9) rfl dX4_firstIn_13 ?_
      refine lv_iload_n hx hb dX4_firstIn_16 rfl (lv_at hl 1 rfl) ?_
      refine lv_bipush (v := (56 : Int32)) hx hb dX4_firstIn_17 (by decide) ?_
      refine lv_imul hx hb dX4_firstIn_19 ?_
      refine lv_iload_n hx hb dX4_firstIn_20 rfl (lv_at hl 3 rfl) ?_
      refine lv_iadd hx hb dX4_firstIn_21 ?_
      obtain ⟨h_5, hf⟩ := gin_e hf
      refine va_iald hx hb hK hP 1 0 rfl rfl h_5 dX4_firstIn_22 ?_
      refine lv_bipush (v := (8 : Int32)) hx hb dX4_firstIn_23 (by decide) ?_
      refine lv_idiv hx hb dX4_firstIn_25 (by decide) ?_
      refine lv_iload_n hx hb dX4_firstIn_26 rfl (lv_at hl 2 rfl) ?_
      refine lv_icmp_ne (tgt := 32) hx hb dX4_firstIn_27 (by decide) (fun c_6 => ?_) (fun c_6 => ?_)
      · have hf := ite_f hf c_6
        obtain ⟨v3_7, ev3_7, hf⟩ := bnd_e hf
        refine lv_iinc (v := v3_7) (lv' := [(3, .int v3_7), (0, .ref t_q), (1, .int p1), (2, .int p2)]) hx hb dX4_firstIn_32 hl (k := 3) rfl (by rw [ev3_7]; rfl) (by decide) rfl (fun ls hl => ?_)
        refine lv_goto (tgt := 2) hx hb dX4_firstIn_35 (by decide) ?_
        exact hrec v3_7 (Option.some.inj hf).symm _ _ _ hP hS (lv_sub hl [1, 2, 3, 0] rfl)
      · have hf := ite_t hf c_6
        refine lv_iload_n hx hb dX4_firstIn_30 rfl (lv_at hl 3 rfl) ?_
        exact hret v3_1 (hkr_2 _ (hex _ (Option.some.inj hf).symm).symm) _ _ _ _ hP hS dX4_firstIn_31
  exact L_2 FU (0 : Int32) ho_2 _ _ _ hP hS (lv_sub hl [1, 2, 3, 0] rfl)

def b_X4_foreseeProwls_15 (a1_barred : Int32) (a1_habit : Int32) (a1_step : Int32) (a1_plan_rooms : Int32) (a1_plan_doorCount : Int32) (a1_plan_firstEnds : Nat → Int32) (a1_secondEnds : Nat → Int32) (v2_1 : Int32) (v3_5 : Int32) (t_prowls_6 : Nat → Int32) : Option ((Int32 × (Nat → Int32)) ⊕ (Int32 × (Nat → Int32))) :=
 (if a1_plan_rooms ≤ v3_5 then
 (some (.inr (v3_5, t_prowls_6)))
 else (ob1 (f_X6_prowl a1_barred a1_step a1_plan_doorCount a1_plan_firstEnds a1_secondEnds a1_habit v3_5 v2_1) (fun r_9 =>
 (gin ((v2_1 * (8 : Int32)) + v3_5) 56 (bnd (upd t_prowls_6 ((v2_1 * (8 : Int32)) + v3_5).toNatClampNeg r_9) (fun t_prowls_12 =>
 (bnd (v3_5 + (1 : Int32)) (fun v3_13 =>
 (some (.inl (v3_13, t_prowls_12)))))))))))
def b_X4_foreseeProwls_2 (a1_barred : Int32) (a1_habit : Int32) (a1_step : Int32) (a1_plan_rooms : Int32) (a1_plan_doorCount : Int32) (a1_plan_firstEnds : Nat → Int32) (a1_secondEnds : Nat → Int32) (v2_1 : Int32) (t_prowls_2 : Nat → Int32) : Option ((Int32 × (Nat → Int32)) ⊕ (Int32 × (Nat → Int32))) :=
 (if a1_plan_rooms ≤ v2_1 then
 (some (.inr (v2_1, t_prowls_2)))
 else (ob2 (itr (un2 (b_X4_foreseeProwls_15 a1_barred a1_habit a1_step a1_plan_rooms a1_plan_doorCount a1_plan_firstEnds a1_secondEnds v2_1)) FU ((0 : Int32), t_prowls_2)) (fun x3_14 t_prowls_15 =>
 (gin ((v2_1 * (8 : Int32)) + (7 : Int32)) 56 (bnd (upd t_prowls_15 ((v2_1 * (8 : Int32)) + (7 : Int32)).toNatClampNeg (7 : Int32)) (fun t_prowls_17 =>
 (bnd (v2_1 + (1 : Int32)) (fun v2_18 =>
 (some (.inl (v2_18, t_prowls_17)))))))))))
def f_X4_foreseeProwls (a1_barred : Int32) (a1_habit : Int32) (a1_step : Int32) (a1_plan_rooms : Int32) (a1_plan_doorCount : Int32) (a1_plan_firstEnds : Nat → Int32) (a1_secondEnds : Nat → Int32) (t_prowls : Nat → Int32) : Option ((Nat → Int32)) :=
 (ob2 (itr (un2 (b_X4_foreseeProwls_2 a1_barred a1_habit a1_step a1_plan_rooms a1_plan_doorCount a1_plan_firstEnds a1_secondEnds)) FU ((0 : Int32), t_prowls)) (fun x2_19 t_prowls_20 =>
 (some t_prowls_20)))
abbrev rmX4_foreseeProwls : Room := { frames := 4, cells := 0, slots := 0, locals := 91 }
set_option maxHeartbeats 4000000 in
set_option maxRecDepth 100000 in
theorem c_X4_foreseeProwls (l : Launch) (g : Gh) (sz : Nat) (t_q t_pairs_q t_parents_q t_steps_q t_sizes_q t_prowls_q a1_q a1_plan_q a1_secondEnds_q a1_string_q a1_plan_firstEnds_q a1_plan_rules_q : Nat) (t_met : Int64) (a1_barred : Int32) (a1_period : Int32) (a1_his : Int32) (a1_beast : Int32) (a1_habit : Int32) (a1_onString : Int32) (a1_step : Int32) (a1_eaten : Int32) (a1_plan_rooms : Int32) (a1_plan_doorCount : Int32) (a1_plan_ruleCount : Int32) (a1_plan_stringLength : Int32) (a1_plan_firstEnds : Nat → Int32) (a1_secondEnds : Nat → Int32) (t_prowls : Nat → Int32) (t_prowls' : Nat → Int32) (hf : f_X4_foreseeProwls a1_barred a1_habit a1_step a1_plan_rooms a1_plan_doorCount a1_plan_firstEnds a1_secondEnds t_prowls = some t_prowls') : CV l yX4_foreseeProwls wsX4_foreseeProwls rmX4_foreseeProwls [.ref t_q, .ref a1_q] g sz [oX4 t_q t_pairs_q t_parents_q t_steps_q t_sizes_q t_prowls_q t_met, oX6 a1_q a1_plan_q a1_secondEnds_q a1_string_q a1_barred a1_period a1_his a1_beast a1_habit a1_onString a1_step a1_eaten, oX2 a1_plan_q a1_plan_firstEnds_q a1_plan_rules_q a1_plan_rooms a1_plan_doorCount a1_plan_ruleCount a1_plan_stringLength, aI g a1_plan_firstEnds_q 10 a1_plan_firstEnds, aI g a1_secondEnds_q 10 a1_secondEnds, aI g t_prowls_q 56 t_prowls] [oX4 t_q t_pairs_q t_parents_q t_steps_q t_sizes_q t_prowls_q t_met, oX6 a1_q a1_plan_q a1_secondEnds_q a1_string_q a1_barred a1_period a1_his a1_beast a1_habit a1_onString a1_step a1_eaten, oX2 a1_plan_q a1_plan_firstEnds_q a1_plan_rules_q a1_plan_rooms a1_plan_doorCount a1_plan_ruleCount a1_plan_stringLength, aI g a1_plan_firstEnds_q 10 a1_plan_firstEnds, aI g a1_secondEnds_q 10 a1_secondEnds, aI g t_prowls_q 56 t_prowls'] := by
  refine ent_v (cc := cX4_foreseeProwls) (maxL := 4) (by decide) rfl (Nat.le_of_ble_eq_true rfl) ?_
  intro p e s m args below meth c A Q hx hb hml hown hts hK hz hk hA hD hP hS hret ls hl
  have hown : s.vm.findClass RX4 = some m.cls := hown
  have inX2 : ∀ w ∈ u_ws RX2 TX2 6, w ∈ wsX4_foreseeProwls := by decide +kernel
  have inX4 : ∀ w ∈ u_ws RX4 TX4 6, w ∈ wsX4_foreseeProwls := by decide +kernel
  have inX6 : ∀ w ∈ u_ws RX6 TX6 11, w ∈ wsX4_foreseeProwls := by decide +kernel
  have k24 := hts (.fieldLink RX4 24 "ThreadMoved$Search" "prowls" "[I") (by decide +kernel)
  have k47 := hts (.fieldLink RX4 47 "ThreadMoved$State" "plan" "LThreadMoved$Plan;") (by decide +kernel)
  have k67 := hts (.fieldLink RX4 67 "ThreadMoved$Plan" "rooms" "I") (by decide +kernel)
  have k70 := hts (.fieldLink RX4 70 "ThreadMoved$State" "habit" "I") (by decide +kernel)
  have hl : lv_has ls 4 [(0, .ref t_q), (1, .ref a1_q)] := hl
  have hret : ∀ (t_prowlsz : Nat → Int32), t_prowlsz = t_prowls' → ∀ (H : Heap) (locs : List Loc) (pc : Nat) (ls : Array Slot), va_P g.1 vwCl [oX4 t_q t_pairs_q t_parents_q t_steps_q t_sizes_q t_prowls_q t_met, oX6 a1_q a1_plan_q a1_secondEnds_q a1_string_q a1_barred a1_period a1_his a1_beast a1_habit a1_onString a1_step a1_eaten, oX2 a1_plan_q a1_plan_firstEnds_q a1_plan_rules_q a1_plan_rooms a1_plan_doorCount a1_plan_ruleCount a1_plan_stringLength, aI g a1_plan_firstEnds_q 10 a1_plan_firstEnds, aI g a1_secondEnds_q 10 a1_secondEnds, aI g t_prowls_q 56 t_prowlsz] H → va_S A s.heap H locs → decode cX4_foreseeProwls pc = .ok (.return_, 1) → W p l e rmX4_foreseeProwls s m args below meth c H locs 0 0 Q (F0 m pc ls []) := by
    intro t_prowlsz he H locs pc ls hP hS hd
    cases he
    exact hret H locs pc ls hP hS hd
  unfold f_X4_foreseeProwls at hf
  refine lv_iconst (v := (0 : Int32)) hx hb dX4_foreseeProwls_0 (by decide) ?_
  refine lv_istore_n (lv' := [(2, .int (0 : Int32)), (0, .ref t_q), (1, .ref a1_q)]) hx hb dX4_foreseeProwls_1 rfl hl (by decide) rfl (fun ls hl => ?_)
  obtain ⟨x2_19, t_prowls_20, ho_3, hf⟩ := ob2_e hf
  have K_3 : ∀ (x2_19y : Int32) (t_prowls_20y : Nat → Int32), x2_19 = x2_19y → t_prowls_20 = t_prowls_20y → ∀ (H : Heap) (locs : List Loc) (ls : Array Slot), va_P g.1 vwCl [oX4 t_q t_pairs_q t_parents_q t_steps_q t_sizes_q t_prowls_q t_met, oX6 a1_q a1_plan_q a1_secondEnds_q a1_string_q a1_barred a1_period a1_his a1_beast a1_habit a1_onString a1_step a1_eaten, oX2 a1_plan_q a1_plan_firstEnds_q a1_plan_rules_q a1_plan_rooms a1_plan_doorCount a1_plan_ruleCount a1_plan_stringLength, aI g a1_plan_firstEnds_q 10 a1_plan_firstEnds, aI g a1_secondEnds_q 10 a1_secondEnds, aI g t_prowls_q 56 t_prowls_20y] H → va_S A s.heap H locs → lv_has ls 4 [] → W p l e rmX4_foreseeProwls s m args below meth c H locs 0 0 Q (F0 m 73 ls []) := by
    intro x2_19y t_prowls_20y ey0 ey1 H locs ls hP hS hl
    subst ey0
    subst ey1
    exact hret t_prowls_20 (Option.some.inj hf) _ _ _ _ hP hS dX4_foreseeProwls_73
  have L_3 : ∀ (n : Nat) (v2_1 : Int32) (t_prowls_2 : Nat → Int32), itr (un2 (b_X4_foreseeProwls_2 a1_barred a1_habit a1_step a1_plan_rooms a1_plan_doorCount a1_plan_firstEnds a1_secondEnds)) n (v2_1, t_prowls_2) = some (x2_19, t_prowls_20) → ∀ (H : Heap) (locs : List Loc) (ls : Array Slot), va_P g.1 vwCl [oX4 t_q t_pairs_q t_parents_q t_steps_q t_sizes_q t_prowls_q t_met, oX6 a1_q a1_plan_q a1_secondEnds_q a1_string_q a1_barred a1_period a1_his a1_beast a1_habit a1_onString a1_step a1_eaten, oX2 a1_plan_q a1_plan_firstEnds_q a1_plan_rules_q a1_plan_rooms a1_plan_doorCount a1_plan_ruleCount a1_plan_stringLength, aI g a1_plan_firstEnds_q 10 a1_plan_firstEnds, aI g a1_secondEnds_q 10 a1_secondEnds, aI g t_prowls_q 56 t_prowls_2] H → va_S A s.heap H locs → lv_has ls 4 [(0, .ref t_q), (1, .ref a1_q), (2, .int v2_1)] → W p l e rmX4_foreseeProwls s m args below meth c H locs 0 0 Q (F0 m 2 ls []) := by
    refine itr_ind2 ?_
    intro v2_1 t_prowls_2 z_3 hf hrec hex H locs ls hP hS hl
    unfold b_X4_foreseeProwls_2 at hf
    refine lv_iload_n hx hb dX4_foreseeProwls_2 rfl (lv_at hl 2 rfl) ?_
    refine lv_aload_n hx hb dX4_foreseeProwls_3 rfl (lv_at hl 1 rfl) ?_
    refine va_get (D := g.1) (ci := 6) (v := .ref a1_plan_q) (C := RX6) (T := TX6) (N := 11) hx hb hts inX6 hown hK hP 1 rfl rfl 0 (by decide) k47 (fun _ h9 => h9) rfl dX4_foreseeProwls_4 ?_
    refine va_get (D := g.1) (ci := 2) (v := .int a1_plan_rooms) (C := RX2) (T := TX2) (N := 6) hx hb hts inX2 hown hK hP 2 rfl rfl 2 (by decide) k67 (fun _ h9 => h9) rfl dX4_foreseeProwls_7 ?_
    refine lv_icmp_ge (tgt := 73) hx hb dX4_foreseeProwls_10 (by decide) (fun c_4 => ?_) (fun c_4 => ?_)
    · have hf := ite_t hf c_4
      exact K_3 v2_1 t_prowls_2 (congrArg (fun t => t.1) (hex _ (Option.some.inj hf).symm).symm) (congrArg (fun t => t.2) (hex _ (Option.some.inj hf).symm).symm) _ _ _ hP hS (lv_sub hl [] rfl)
    · have hf := ite_f hf c_4
      refine lv_iconst (v := (0 : Int32)) hx hb dX4_foreseeProwls_13 (by decide) ?_
      refine lv_istore_n (lv' := [(3, .int (0 : Int32)), (0, .ref t_q), (1, .ref a1_q), (2, .int v2_1)]) hx hb dX4_foreseeProwls_14 rfl hl (by decide) rfl (fun ls hl => ?_)
      obtain ⟨x3_14, t_prowls_15, ho_7, hf⟩ := ob2_e hf
      have K_7 : ∀ (x3_14y : Int32) (t_prowls_15y : Nat → Int32), x3_14 = x3_14y → t_prowls_15 = t_prowls_15y → ∀ (H : Heap) (locs : List Loc) (ls : Array Slot), va_P g.1 vwCl [oX4 t_q t_pairs_q t_parents_q t_steps_q t_sizes_q t_prowls_q t_met, oX6 a1_q a1_plan_q a1_secondEnds_q a1_string_q a1_barred a1_period a1_his a1_beast a1_habit a1_onString a1_step a1_eaten, oX2 a1_plan_q a1_plan_firstEnds_q a1_plan_rules_q a1_plan_rooms a1_plan_doorCount a1_plan_ruleCount a1_plan_stringLength, aI g a1_plan_firstEnds_q 10 a1_plan_firstEnds, aI g a1_secondEnds_q 10 a1_secondEnds, aI g t_prowls_q 56 t_prowls_15y] H → va_S A s.heap H locs → lv_has ls 4 [(0, .ref t_q), (1, .ref a1_q), (2, .int v2_1)] → W p l e rmX4_foreseeProwls s m args below meth c H locs 0 0 Q (F0 m 53 ls []) := by
        intro x3_14y t_prowls_15y ey0 ey1 H locs ls hP hS hl
        subst ey0
        subst ey1
        refine lv_aload_n hx hb dX4_foreseeProwls_53 rfl (lv_at hl 0 rfl) ?_
        refine va_get (D := g.1) (ci := 4) (v := .ref t_prowls_q) (C := RX4) (T := TX4) (N := 6) hx hb hts inX4 hown hK hP 0 rfl rfl 4 (by decide) k24 (fun _ h9 => h9) rfl dX4_foreseeProwls_54 ?_
        refine lv_iload_n hx hb dX4_foreseeProwls_57 rfl (lv_at hl 2 rfl) ?_
        refine lv_bipush (v := (8 : Int32)) hx hb dX4_foreseeProwls_58 (by decide) ?_
        refine lv_imul hx hb dX4_foreseeProwls_60 ?_
        refine lv_bipush (v := (7 : Int32)) hx hb dX4_foreseeProwls_61 (by decide) ?_
        refine lv_iadd hx hb dX4_foreseeProwls_63 ?_
        refine lv_bipush (v := (7 : Int32)) hx hb dX4_foreseeProwls_64 (by decide) ?_
        obtain ⟨h_16, hf⟩ := gin_e hf
        obtain ⟨t_prowls_17, et_prowls_17, hf⟩ := bnd_e hf
        refine va_iast hx hb hK hP (hD.re rfl) hS 5 0 rfl rfl h_16 dX4_foreseeProwls_66 (fun H locs hP _ hS => ?_)
        have hP : va_P g.1 vwCl [oX4 t_q t_pairs_q t_parents_q t_steps_q t_sizes_q t_prowls_q t_met, oX6 a1_q a1_plan_q a1_secondEnds_q a1_string_q a1_barred a1_period a1_his a1_beast a1_habit a1_onString a1_step a1_eaten, oX2 a1_plan_q a1_plan_firstEnds_q a1_plan_rules_q a1_plan_rooms a1_plan_doorCount a1_plan_ruleCount a1_plan_stringLength, aI g a1_plan_firstEnds_q 10 a1_plan_firstEnds, aI g a1_secondEnds_q 10 a1_secondEnds, aI g t_prowls_q 56 t_prowls_17] H := by rw [et_prowls_17]; exact hP
        obtain ⟨v2_18, ev2_18, hf⟩ := bnd_e hf
        refine lv_iinc (v := v2_18) (lv' := [(2, .int v2_18), (0, .ref t_q), (1, .ref a1_q)]) hx hb dX4_foreseeProwls_67 hl (k := 2) rfl (by rw [ev2_18]; rfl) (by decide) rfl (fun ls hl => ?_)
        refine lv_goto (tgt := 2) hx hb dX4_foreseeProwls_70 (by decide) ?_
        exact hrec v2_18 t_prowls_17 (Option.some.inj hf).symm _ _ _ hP hS (lv_sub hl [1, 2, 0] rfl)
      have L_7 : ∀ (n : Nat) (v3_5 : Int32) (t_prowls_6 : Nat → Int32), itr (un2 (b_X4_foreseeProwls_15 a1_barred a1_habit a1_step a1_plan_rooms a1_plan_doorCount a1_plan_firstEnds a1_secondEnds v2_1)) n (v3_5, t_prowls_6) = some (x3_14, t_prowls_15) → ∀ (H : Heap) (locs : List Loc) (ls : Array Slot), va_P g.1 vwCl [oX4 t_q t_pairs_q t_parents_q t_steps_q t_sizes_q t_prowls_q t_met, oX6 a1_q a1_plan_q a1_secondEnds_q a1_string_q a1_barred a1_period a1_his a1_beast a1_habit a1_onString a1_step a1_eaten, oX2 a1_plan_q a1_plan_firstEnds_q a1_plan_rules_q a1_plan_rooms a1_plan_doorCount a1_plan_ruleCount a1_plan_stringLength, aI g a1_plan_firstEnds_q 10 a1_plan_firstEnds, aI g a1_secondEnds_q 10 a1_secondEnds, aI g t_prowls_q 56 t_prowls_6] H → va_S A s.heap H locs → lv_has ls 4 [(0, .ref t_q), (1, .ref a1_q), (2, .int v2_1), (3, .int v3_5)] → W p l e rmX4_foreseeProwls s m args below meth c H locs 0 0 Q (F0 m 15 ls []) := by
        refine itr_ind2 ?_
        intro v3_5 t_prowls_6 z_7 hf hrec hex H locs ls hP hS hl
        unfold b_X4_foreseeProwls_15 at hf
        refine lv_iload_n hx hb dX4_foreseeProwls_15 rfl (lv_at hl 3 rfl) ?_
        refine lv_aload_n hx hb dX4_foreseeProwls_16 rfl (lv_at hl 1 rfl) ?_
        refine va_get (D := g.1) (ci := 6) (v := .ref a1_plan_q) (C := RX6) (T := TX6) (N := 11) hx hb hts inX6 hown hK hP 1 rfl rfl 0 (by decide) k47 (fun _ h9 => h9) rfl dX4_foreseeProwls_17 ?_
        refine va_get (D := g.1) (ci := 2) (v := .int a1_plan_rooms) (C := RX2) (T := TX2) (N := 6) hx hb hts inX2 hown hK hP 2 rfl rfl 2 (by decide) k67 (fun _ h9 => h9) rfl dX4_foreseeProwls_20 ?_
        refine lv_icmp_ge (tgt := 53) hx hb dX4_foreseeProwls_23 (by decide) (fun c_8 => ?_) (fun c_8 => ?_)
        · have hf := ite_t hf c_8
          exact K_7 v3_5 t_prowls_6 (congrArg (fun t => t.1) (hex _ (Option.some.inj hf).symm).symm) (congrArg (fun t => t.2) (hex _ (Option.some.inj hf).symm).symm) _ _ _ hP hS (lv_sub hl [0, 1, 2] rfl)
        · have hf := ite_f hf c_8
          refine lv_aload_n hx hb dX4_foreseeProwls_26 rfl (lv_at hl 0 rfl) ?_
          refine va_get (D := g.1) (ci := 4) (v := .ref t_prowls_q) (C := RX4) (T := TX4) (N := 6) hx hb hts inX4 hown hK hP 0 rfl rfl 4 (by decide) k24 (fun _ h9 => h9) rfl dX4_foreseeProwls_27 ?_
          refine lv_iload_n hx hb dX4_foreseeProwls_30 rfl (lv_at hl 2 rfl) ?_
          refine lv_bipush (v := (8 : Int32)) hx hb dX4_foreseeProwls_31 (by decide) ?_
          refine lv_imul hx hb dX4_foreseeProwls_33 ?_
          refine lv_iload_n hx hb dX4_foreseeProwls_34 rfl (lv_at hl 3 rfl) ?_
          refine lv_iadd hx hb dX4_foreseeProwls_35 ?_
          refine lv_aload_n hx hb dX4_foreseeProwls_36 rfl (lv_at hl 1 rfl) ?_
          refine lv_aload_n hx hb dX4_foreseeProwls_37 rfl (lv_at hl 1 rfl) ?_
          refine va_get (D := g.1) (ci := 6) (v := .int a1_habit) (C := RX6) (T := TX6) (N := 11) hx hb hts inX6 hown hK hP 1 rfl rfl 7 (by decide) k70 (fun _ h9 => h9) rfl dX4_foreseeProwls_38 ?_
          refine lv_iload_n hx hb dX4_foreseeProwls_41 rfl (lv_at hl 3 rfl) ?_
          refine lv_iload_n hx hb dX4_foreseeProwls_42 rfl (lv_at hl 2 rfl) ?_
          obtain ⟨r_9, hc_10, hf⟩ := ob1_e hf
          refine kV_i (wn := [oX4 t_q t_pairs_q t_parents_q t_steps_q t_sizes_q t_prowls_q t_met, oX6 a1_q a1_plan_q a1_secondEnds_q a1_string_q a1_barred a1_period a1_his a1_beast a1_habit a1_onString a1_step a1_eaten, oX2 a1_plan_q a1_plan_firstEnds_q a1_plan_rules_q a1_plan_rooms a1_plan_doorCount a1_plan_ruleCount a1_plan_stringLength, aI g a1_plan_firstEnds_q 10 a1_plan_firstEnds, aI g a1_secondEnds_q 10 a1_secondEnds, aI g t_prowls_q 56 t_prowls_6]) (As := [.int a1_habit, .int v3_5, .int v2_1]) (rest := [.int ((v2_1 * (8 : Int32)) + v3_5), .ref t_prowls_q]) (c_X6_prowl l g _ a1_q a1_plan_q a1_secondEnds_q a1_string_q a1_plan_firstEnds_q a1_plan_rules_q a1_barred a1_period a1_his a1_beast a1_habit a1_onString a1_step a1_eaten a1_plan_rooms a1_plan_doorCount a1_plan_ruleCount a1_plan_stringLength a1_plan_firstEnds a1_secondEnds a1_habit v3_5 v2_1 r_9 hc_10) ⟨hx, hb, hml, hown, hts⟩ (cwV 3 hts gX4_foreseeProwls_X6_prowl rfl rfl rfl (by decide +kernel) ⟨by decide, by decide⟩) hK hz hk hP (hD.re rfl) hS hA [1, 2, 3, 4] rfl rfl rfl rfl rfl rfl rfl hl.1 rfl (Nat.le_of_ble_eq_true rfl) dX4_foreseeProwls_43 (fun H locs hP hS => ?_)
          obtain ⟨h_11, hf⟩ := gin_e hf
          obtain ⟨t_prowls_12, et_prowls_12, hf⟩ := bnd_e hf
          refine va_iast hx hb hK hP (hD.re rfl) hS 5 0 rfl rfl h_11 dX4_foreseeProwls_46 (fun H locs hP _ hS => ?_)
          have hP : va_P g.1 vwCl [oX4 t_q t_pairs_q t_parents_q t_steps_q t_sizes_q t_prowls_q t_met, oX6 a1_q a1_plan_q a1_secondEnds_q a1_string_q a1_barred a1_period a1_his a1_beast a1_habit a1_onString a1_step a1_eaten, oX2 a1_plan_q a1_plan_firstEnds_q a1_plan_rules_q a1_plan_rooms a1_plan_doorCount a1_plan_ruleCount a1_plan_stringLength, aI g a1_plan_firstEnds_q 10 a1_plan_firstEnds, aI g a1_secondEnds_q 10 a1_secondEnds, aI g t_prowls_q 56 t_prowls_12] H := by rw [et_prowls_12]; exact hP
          obtain ⟨v3_13, ev3_13, hf⟩ := bnd_e hf
          refine lv_iinc (v := v3_13) (lv' := [(3, .int v3_13), (0, .ref t_q), (1, .ref a1_q), (2, .int v2_1)]) hx hb dX4_foreseeProwls_47 hl (k := 3) rfl (by rw [ev3_13]; rfl) (by decide) rfl (fun ls hl => ?_)
          refine lv_goto (tgt := 15) hx hb dX4_foreseeProwls_50 (by decide) ?_
          exact hrec v3_13 t_prowls_12 (Option.some.inj hf).symm _ _ _ hP hS (lv_sub hl [1, 2, 3, 0] rfl)
      exact L_7 FU (0 : Int32) t_prowls_2 ho_7 _ _ _ hP hS (lv_sub hl [1, 2, 3, 0] rfl)
  exact L_3 FU (0 : Int32) t_prowls ho_3 _ _ _ hP hS (lv_sub hl [1, 2, 0] rfl)
