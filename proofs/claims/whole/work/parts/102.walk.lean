def f_X6_copyFrom (a1_barred : Int32) (a1_period : Int32) (a1_his : Int32) (a1_beast : Int32) (a1_habit : Int32) (a1_onString : Int32) (a1_step : Int32) (a1_eaten : Int32) (a1_secondEnds : Nat → Int32) (a1_string : Nat → Int32) (t_secondEnds : Nat → Int32) (t_string : Nat → Int32) : Option (Int32 × Int32 × Int32 × Int32 × Int32 × Int32 × Int32 × Int32 × (Nat → Int32) × (Nat → Int32)) :=
 (bnd (va_cpy a1_secondEnds t_secondEnds 0 0 10) (fun t_secondEnds_1 =>
 (bnd (va_cpy a1_string t_string 0 0 12) (fun t_string_2 =>
 (gbl a1_eaten (some (a1_barred, a1_beast, a1_eaten, a1_habit, a1_his, a1_onString, a1_period, a1_step, t_secondEnds_1, t_string_2)))))))
abbrev rmX6_copyFrom : Room := { frames := 1, cells := 0, slots := 0, locals := 40 }
set_option maxHeartbeats 4000000 in
set_option maxRecDepth 100000 in
theorem c_X6_copyFrom (l : Launch) (g : Gh) (sz : Nat) (t_q t_plan_q t_secondEnds_q t_string_q a1_q a1_plan_q a1_secondEnds_q a1_string_q : Nat) (t_barred : Int32) (t_period : Int32) (t_his : Int32) (t_beast : Int32) (t_habit : Int32) (t_onString : Int32) (t_step : Int32) (t_eaten : Int32) (a1_barred : Int32) (a1_period : Int32) (a1_his : Int32) (a1_beast : Int32) (a1_habit : Int32) (a1_onString : Int32) (a1_step : Int32) (a1_eaten : Int32) (a1_secondEnds : Nat → Int32) (a1_string : Nat → Int32) (t_secondEnds : Nat → Int32) (t_string : Nat → Int32) (t_barred' : Int32) (t_beast' : Int32) (t_eaten' : Int32) (t_habit' : Int32) (t_his' : Int32) (t_onString' : Int32) (t_period' : Int32) (t_step' : Int32) (t_secondEnds' : Nat → Int32) (t_string' : Nat → Int32) (hf : f_X6_copyFrom a1_barred a1_period a1_his a1_beast a1_habit a1_onString a1_step a1_eaten a1_secondEnds a1_string t_secondEnds t_string = some (t_barred', t_beast', t_eaten', t_habit', t_his', t_onString', t_period', t_step', t_secondEnds', t_string')) : CV l yX6_copyFrom wsX6_copyFrom rmX6_copyFrom [.ref t_q, .ref a1_q] g sz [oX6 t_q t_plan_q t_secondEnds_q t_string_q t_barred t_period t_his t_beast t_habit t_onString t_step t_eaten, oX6 a1_q a1_plan_q a1_secondEnds_q a1_string_q a1_barred a1_period a1_his a1_beast a1_habit a1_onString a1_step a1_eaten, aI g a1_secondEnds_q 10 a1_secondEnds, aI g a1_string_q 12 a1_string, aI g t_secondEnds_q 10 t_secondEnds, aI g t_string_q 12 t_string] [oX6 t_q t_plan_q t_secondEnds_q t_string_q t_barred' t_period' t_his' t_beast' t_habit' t_onString' t_step' t_eaten', oX6 a1_q a1_plan_q a1_secondEnds_q a1_string_q a1_barred a1_period a1_his a1_beast a1_habit a1_onString a1_step a1_eaten, aI g a1_secondEnds_q 10 a1_secondEnds, aI g a1_string_q 12 a1_string, aI g t_secondEnds_q 10 t_secondEnds', aI g t_string_q 12 t_string'] := by
  refine ent_v (cc := cX6_copyFrom) (maxL := 2) (by decide) rfl (Nat.le_of_ble_eq_true rfl) ?_
  intro p e s m args below meth c A Q hx hb hml hown hts hK hz hk hA hD hP hS hret ls hl
  have hown : s.vm.findClass RX6 = some m.cls := hown
  have inX6 : ∀ w ∈ u_ws RX6 TX6 11, w ∈ wsX6_copyFrom := by decide +kernel
  have k9 := hts (.fieldLink RX6 9 "ThreadMoved$State" "secondEnds" "[I") (by decide +kernel)
  have k15 := hts (.fieldLink RX6 15 "ThreadMoved$State" "string" "[I") (by decide +kernel)
  have k25 := hts (.fieldLink RX6 25 "ThreadMoved$State" "barred" "I") (by decide +kernel)
  have k29 := hts (.fieldLink RX6 29 "ThreadMoved$State" "period" "I") (by decide +kernel)
  have k32 := hts (.fieldLink RX6 32 "ThreadMoved$State" "his" "I") (by decide +kernel)
  have k35 := hts (.fieldLink RX6 35 "ThreadMoved$State" "beast" "I") (by decide +kernel)
  have k38 := hts (.fieldLink RX6 38 "ThreadMoved$State" "habit" "I") (by decide +kernel)
  have k41 := hts (.fieldLink RX6 41 "ThreadMoved$State" "onString" "I") (by decide +kernel)
  have k44 := hts (.fieldLink RX6 44 "ThreadMoved$State" "step" "I") (by decide +kernel)
  have k47 := hts (.fieldLink RX6 47 "ThreadMoved$State" "eaten" "Z") (by decide +kernel)
  have hl : lv_has ls 2 [(0, .ref t_q), (1, .ref a1_q)] := hl
  have hret : ∀ (t_barredz : Int32) (t_beastz : Int32) (t_eatenz : Int32) (t_habitz : Int32) (t_hisz : Int32) (t_onStringz : Int32) (t_periodz : Int32) (t_stepz : Int32) (t_secondEndsz : Nat → Int32) (t_stringz : Nat → Int32), (t_barredz, t_beastz, t_eatenz, t_habitz, t_hisz, t_onStringz, t_periodz, t_stepz, t_secondEndsz, t_stringz) = (t_barred', t_beast', t_eaten', t_habit', t_his', t_onString', t_period', t_step', t_secondEnds', t_string') → ∀ (H : Heap) (locs : List Loc) (pc : Nat) (ls : Array Slot), va_P g.1 vwCl [oX6 t_q t_plan_q t_secondEnds_q t_string_q t_barredz t_periodz t_hisz t_beastz t_habitz t_onStringz t_stepz t_eatenz, oX6 a1_q a1_plan_q a1_secondEnds_q a1_string_q a1_barred a1_period a1_his a1_beast a1_habit a1_onString a1_step a1_eaten, aI g a1_secondEnds_q 10 a1_secondEnds, aI g a1_string_q 12 a1_string, aI g t_secondEnds_q 10 t_secondEndsz, aI g t_string_q 12 t_stringz] H → va_S A s.heap H locs → decode cX6_copyFrom pc = .ok (.return_, 1) → W p l e rmX6_copyFrom s m args below meth c H locs 0 0 Q (F0 m pc ls []) := by
    intro t_barredz t_beastz t_eatenz t_habitz t_hisz t_onStringz t_periodz t_stepz t_secondEndsz t_stringz he H locs pc ls hP hS hd
    cases he
    exact hret H locs pc ls hP hS hd
  unfold f_X6_copyFrom at hf
  refine lv_aload_n hx hb dX6_copyFrom_0 rfl (lv_at hl 1 rfl) ?_
  refine va_get (D := g.1) (ci := 6) (v := .ref a1_secondEnds_q) (C := RX6) (T := TX6) (N := 11) hx hb hts inX6 hown hK hP 1 rfl rfl 1 (by decide) k9 (fun _ h9 => h9) rfl dX6_copyFrom_1 ?_
  refine lv_iconst (v := (0 : Int32)) hx hb dX6_copyFrom_4 (by decide) ?_
  refine lv_aload_n hx hb dX6_copyFrom_5 rfl (lv_at hl 0 rfl) ?_
  refine va_get (D := g.1) (ci := 6) (v := .ref t_secondEnds_q) (C := RX6) (T := TX6) (N := 11) hx hb hts inX6 hown hK hP 0 rfl rfl 1 (by decide) k9 (fun _ h9 => h9) rfl dX6_copyFrom_6 ?_
  refine lv_iconst (v := (0 : Int32)) hx hb dX6_copyFrom_9 (by decide) ?_
  refine lv_bipush (v := (10 : Int32)) hx hb dX6_copyFrom_10 (by decide) ?_
  obtain ⟨t_secondEnds_1, et_secondEnds_1, hf⟩ := bnd_e hf
  refine va_copyi hx hb (hml.trans hl.1.symm) hown (hts (.methodLink RX6 51 arraycopyName) (by decide +kernel)) (hts (.native arraycopyName) (by decide +kernel)) (hts (.static arraycopyName) (by decide +kernel)) (hts (.initialized "java/lang/System") (by decide +kernel)) hK hP (hD.re rfl) hS 2 4 0 0 rfl rfl rfl rfl rfl (by decide) (by decide) (by decide) (by decide) (by decide) (fun _ _ => rfl) (by decide) (by decide) dX6_copyFrom_12 (fun H locs hP _ hS => ?_)
  have hP : va_P g.1 vwCl [oX6 t_q t_plan_q t_secondEnds_q t_string_q t_barred t_period t_his t_beast t_habit t_onString t_step t_eaten, oX6 a1_q a1_plan_q a1_secondEnds_q a1_string_q a1_barred a1_period a1_his a1_beast a1_habit a1_onString a1_step a1_eaten, aI g a1_secondEnds_q 10 a1_secondEnds, aI g a1_string_q 12 a1_string, aI g t_secondEnds_q 10 t_secondEnds_1, aI g t_string_q 12 t_string] H := by rw [et_secondEnds_1]; exact hP
  refine lv_aload_n hx hb dX6_copyFrom_15 rfl (lv_at hl 1 rfl) ?_
  refine va_get (D := g.1) (ci := 6) (v := .ref a1_string_q) (C := RX6) (T := TX6) (N := 11) hx hb hts inX6 hown hK hP 1 rfl rfl 2 (by decide) k15 (fun _ h9 => h9) rfl dX6_copyFrom_16 ?_
  refine lv_iconst (v := (0 : Int32)) hx hb dX6_copyFrom_19 (by decide) ?_
  refine lv_aload_n hx hb dX6_copyFrom_20 rfl (lv_at hl 0 rfl) ?_
  refine va_get (D := g.1) (ci := 6) (v := .ref t_string_q) (C := RX6) (T := TX6) (N := 11) hx hb hts inX6 hown hK hP 0 rfl rfl 2 (by decide) k15 (fun _ h9 => h9) rfl dX6_copyFrom_21 ?_
  refine lv_iconst (v := (0 : Int32)) hx hb dX6_copyFrom_24 (by decide) ?_
  refine lv_bipush (v := (12 : Int32)) hx hb dX6_copyFrom_25 (by decide) ?_
  obtain ⟨t_string_2, et_string_2, hf⟩ := bnd_e hf
  refine va_copyi hx hb (hml.trans hl.1.symm) hown (hts (.methodLink RX6 51 arraycopyName) (by decide +kernel)) (hts (.native arraycopyName) (by decide +kernel)) (hts (.static arraycopyName) (by decide +kernel)) (hts (.initialized "java/lang/System") (by decide +kernel)) hK hP (hD.re rfl) hS 3 5 0 0 rfl rfl rfl rfl rfl (by decide) (by decide) (by decide) (by decide) (by decide) (fun _ _ => rfl) (by decide) (by decide) dX6_copyFrom_27 (fun H locs hP _ hS => ?_)
  have hP : va_P g.1 vwCl [oX6 t_q t_plan_q t_secondEnds_q t_string_q t_barred t_period t_his t_beast t_habit t_onString t_step t_eaten, oX6 a1_q a1_plan_q a1_secondEnds_q a1_string_q a1_barred a1_period a1_his a1_beast a1_habit a1_onString a1_step a1_eaten, aI g a1_secondEnds_q 10 a1_secondEnds, aI g a1_string_q 12 a1_string, aI g t_secondEnds_q 10 t_secondEnds_1, aI g t_string_q 12 t_string_2] H := by rw [et_string_2]; exact hP
  refine lv_aload_n hx hb dX6_copyFrom_30 rfl (lv_at hl 0 rfl) ?_
  refine lv_aload_n hx hb dX6_copyFrom_31 rfl (lv_at hl 1 rfl) ?_
  refine va_get (D := g.1) (ci := 6) (v := .int a1_barred) (C := RX6) (T := TX6) (N := 11) hx hb hts inX6 hown hK hP 1 rfl rfl 3 (by decide) k25 (fun _ h9 => h9) rfl dX6_copyFrom_32 ?_
  refine va_put (D := g.1) (ci := 6) (v := .int a1_barred) (ty := .int) (C := RX6) (T := TX6) (N := 11) hx hb hts inX6 tyX6 tyX6_ok nmX6 hown hK hP (hD.re rfl) hS 0 rfl rfl 3 (by decide) k25 (fun _ h9 => h9) rfl (by decide +kernel) rfl rfl (Nat.le_of_ble_eq_true rfl) dX6_copyFrom_35 (fun H locs hP _ hS => ?_)
  have hP : va_P g.1 vwCl [oX6 t_q t_plan_q t_secondEnds_q t_string_q a1_barred t_period t_his t_beast t_habit t_onString t_step t_eaten, oX6 a1_q a1_plan_q a1_secondEnds_q a1_string_q a1_barred a1_period a1_his a1_beast a1_habit a1_onString a1_step a1_eaten, aI g a1_secondEnds_q 10 a1_secondEnds, aI g a1_string_q 12 a1_string, aI g t_secondEnds_q 10 t_secondEnds_1, aI g t_string_q 12 t_string_2] H := hP
  refine lv_aload_n hx hb dX6_copyFrom_38 rfl (lv_at hl 0 rfl) ?_
  refine lv_aload_n hx hb dX6_copyFrom_39 rfl (lv_at hl 1 rfl) ?_
  refine va_get (D := g.1) (ci := 6) (v := .int a1_period) (C := RX6) (T := TX6) (N := 11) hx hb hts inX6 hown hK hP 1 rfl rfl 4 (by decide) k29 (fun _ h9 => h9) rfl dX6_copyFrom_40 ?_
  refine va_put (D := g.1) (ci := 6) (v := .int a1_period) (ty := .int) (C := RX6) (T := TX6) (N := 11) hx hb hts inX6 tyX6 tyX6_ok nmX6 hown hK hP (hD.re rfl) hS 0 rfl rfl 4 (by decide) k29 (fun _ h9 => h9) rfl (by decide +kernel) rfl rfl (Nat.le_of_ble_eq_true rfl) dX6_copyFrom_43 (fun H locs hP _ hS => ?_)
  have hP : va_P g.1 vwCl [oX6 t_q t_plan_q t_secondEnds_q t_string_q a1_barred a1_period t_his t_beast t_habit t_onString t_step t_eaten, oX6 a1_q a1_plan_q a1_secondEnds_q a1_string_q a1_barred a1_period a1_his a1_beast a1_habit a1_onString a1_step a1_eaten, aI g a1_secondEnds_q 10 a1_secondEnds, aI g a1_string_q 12 a1_string, aI g t_secondEnds_q 10 t_secondEnds_1, aI g t_string_q 12 t_string_2] H := hP
  refine lv_aload_n hx hb dX6_copyFrom_46 rfl (lv_at hl 0 rfl) ?_
  refine lv_aload_n hx hb dX6_copyFrom_47 rfl (lv_at hl 1 rfl) ?_
  refine va_get (D := g.1) (ci := 6) (v := .int a1_his) (C := RX6) (T := TX6) (N := 11) hx hb hts inX6 hown hK hP 1 rfl rfl 5 (by decide) k32 (fun _ h9 => h9) rfl dX6_copyFrom_48 ?_
  refine va_put (D := g.1) (ci := 6) (v := .int a1_his) (ty := .int) (C := RX6) (T := TX6) (N := 11) hx hb hts inX6 tyX6 tyX6_ok nmX6 hown hK hP (hD.re rfl) hS 0 rfl rfl 5 (by decide) k32 (fun _ h9 => h9) rfl (by decide +kernel) rfl rfl (Nat.le_of_ble_eq_true rfl) dX6_copyFrom_51 (fun H locs hP _ hS => ?_)
  have hP : va_P g.1 vwCl [oX6 t_q t_plan_q t_secondEnds_q t_string_q a1_barred a1_period a1_his t_beast t_habit t_onString t_step t_eaten, oX6 a1_q a1_plan_q a1_secondEnds_q a1_string_q a1_barred a1_period a1_his a1_beast a1_habit a1_onString a1_step a1_eaten, aI g a1_secondEnds_q 10 a1_secondEnds, aI g a1_string_q 12 a1_string, aI g t_secondEnds_q 10 t_secondEnds_1, aI g t_string_q 12 t_string_2] H := hP
  refine lv_aload_n hx hb dX6_copyFrom_54 rfl (lv_at hl 0 rfl) ?_
  refine lv_aload_n hx hb dX6_copyFrom_55 rfl (lv_at hl 1 rfl) ?_
  refine va_get (D := g.1) (ci := 6) (v := .int a1_beast) (C := RX6) (T := TX6) (N := 11) hx hb hts inX6 hown hK hP 1 rfl rfl 6 (by decide) k35 (fun _ h9 => h9) rfl dX6_copyFrom_56 ?_
  refine va_put (D := g.1) (ci := 6) (v := .int a1_beast) (ty := .int) (C := RX6) (T := TX6) (N := 11) hx hb hts inX6 tyX6 tyX6_ok nmX6 hown hK hP (hD.re rfl) hS 0 rfl rfl 6 (by decide) k35 (fun _ h9 => h9) rfl (by decide +kernel) rfl rfl (Nat.le_of_ble_eq_true rfl) dX6_copyFrom_59 (fun H locs hP _ hS => ?_)
  have hP : va_P g.1 vwCl [oX6 t_q t_plan_q t_secondEnds_q t_string_q a1_barred a1_period a1_his a1_beast t_habit t_onString t_step t_eaten, oX6 a1_q a1_plan_q a1_secondEnds_q a1_string_q a1_barred a1_period a1_his a1_beast a1_habit a1_onString a1_step a1_eaten, aI g a1_secondEnds_q 10 a1_secondEnds, aI g a1_string_q 12 a1_string, aI g t_secondEnds_q 10 t_secondEnds_1, aI g t_string_q 12 t_string_2] H := hP
  refine lv_aload_n hx hb dX6_copyFrom_62 rfl (lv_at hl 0 rfl) ?_
  refine lv_aload_n hx hb dX6_copyFrom_63 rfl (lv_at hl 1 rfl) ?_
  refine va_get (D := g.1) (ci := 6) (v := .int a1_habit) (C := RX6) (T := TX6) (N := 11) hx hb hts inX6 hown hK hP 1 rfl rfl 7 (by decide) k38 (fun _ h9 => h9) rfl dX6_copyFrom_64 ?_
  refine va_put (D := g.1) (ci := 6) (v := .int a1_habit) (ty := .int) (C := RX6) (T := TX6) (N := 11) hx hb hts inX6 tyX6 tyX6_ok nmX6 hown hK hP (hD.re rfl) hS 0 rfl rfl 7 (by decide) k38 (fun _ h9 => h9) rfl (by decide +kernel) rfl rfl (Nat.le_of_ble_eq_true rfl) dX6_copyFrom_67 (fun H locs hP _ hS => ?_)
  have hP : va_P g.1 vwCl [oX6 t_q t_plan_q t_secondEnds_q t_string_q a1_barred a1_period a1_his a1_beast a1_habit t_onString t_step t_eaten, oX6 a1_q a1_plan_q a1_secondEnds_q a1_string_q a1_barred a1_period a1_his a1_beast a1_habit a1_onString a1_step a1_eaten, aI g a1_secondEnds_q 10 a1_secondEnds, aI g a1_string_q 12 a1_string, aI g t_secondEnds_q 10 t_secondEnds_1, aI g t_string_q 12 t_string_2] H := hP
  refine lv_aload_n hx hb dX6_copyFrom_70 rfl (lv_at hl 0 rfl) ?_
  refine lv_aload_n hx hb dX6_copyFrom_71 rfl (lv_at hl 1 rfl) ?_
  refine va_get (D := g.1) (ci := 6) (v := .int a1_onString) (C := RX6) (T := TX6) (N := 11) hx hb hts inX6 hown hK hP 1 rfl rfl 8 (by decide) k41 (fun _ h9 => h9) rfl dX6_copyFrom_72 ?_
  refine va_put (D := g.1) (ci := 6) (v := .int a1_onString) (ty := .int) (C := RX6) (T := TX6) (N := 11) hx hb hts inX6 tyX6 tyX6_ok nmX6 hown hK hP (hD.re rfl) hS 0 rfl rfl 8 (by decide) k41 (fun _ h9 => h9) rfl (by decide +kernel) rfl rfl (Nat.le_of_ble_eq_true rfl) dX6_copyFrom_75 (fun H locs hP _ hS => ?_)
  have hP : va_P g.1 vwCl [oX6 t_q t_plan_q t_secondEnds_q t_string_q a1_barred a1_period a1_his a1_beast a1_habit a1_onString t_step t_eaten, oX6 a1_q a1_plan_q a1_secondEnds_q a1_string_q a1_barred a1_period a1_his a1_beast a1_habit a1_onString a1_step a1_eaten, aI g a1_secondEnds_q 10 a1_secondEnds, aI g a1_string_q 12 a1_string, aI g t_secondEnds_q 10 t_secondEnds_1, aI g t_string_q 12 t_string_2] H := hP
  refine lv_aload_n hx hb dX6_copyFrom_78 rfl (lv_at hl 0 rfl) ?_
  refine lv_aload_n hx hb dX6_copyFrom_79 rfl (lv_at hl 1 rfl) ?_
  refine va_get (D := g.1) (ci := 6) (v := .int a1_step) (C := RX6) (T := TX6) (N := 11) hx hb hts inX6 hown hK hP 1 rfl rfl 9 (by decide) k44 (fun _ h9 => h9) rfl dX6_copyFrom_80 ?_
  refine va_put (D := g.1) (ci := 6) (v := .int a1_step) (ty := .int) (C := RX6) (T := TX6) (N := 11) hx hb hts inX6 tyX6 tyX6_ok nmX6 hown hK hP (hD.re rfl) hS 0 rfl rfl 9 (by decide) k44 (fun _ h9 => h9) rfl (by decide +kernel) rfl rfl (Nat.le_of_ble_eq_true rfl) dX6_copyFrom_83 (fun H locs hP _ hS => ?_)
  have hP : va_P g.1 vwCl [oX6 t_q t_plan_q t_secondEnds_q t_string_q a1_barred a1_period a1_his a1_beast a1_habit a1_onString a1_step t_eaten, oX6 a1_q a1_plan_q a1_secondEnds_q a1_string_q a1_barred a1_period a1_his a1_beast a1_habit a1_onString a1_step a1_eaten, aI g a1_secondEnds_q 10 a1_secondEnds, aI g a1_string_q 12 a1_string, aI g t_secondEnds_q 10 t_secondEnds_1, aI g t_string_q 12 t_string_2] H := hP
  refine lv_aload_n hx hb dX6_copyFrom_86 rfl (lv_at hl 0 rfl) ?_
  refine lv_aload_n hx hb dX6_copyFrom_87 rfl (lv_at hl 1 rfl) ?_
  refine va_get (D := g.1) (ci := 6) (v := .int a1_eaten) (C := RX6) (T := TX6) (N := 11) hx hb hts inX6 hown hK hP 1 rfl rfl 10 (by decide) k47 (fun _ h9 => h9) rfl dX6_copyFrom_88 ?_
  obtain ⟨b_3, hf⟩ := gbl_e hf
  refine va_put (D := g.1) (ci := 6) (v := .int a1_eaten) (ty := .boolean) (C := RX6) (T := TX6) (N := 11) hx hb hts inX6 tyX6 tyX6_ok nmX6 hown hK hP (hD.re rfl) hS 0 rfl rfl 10 (by decide) k47 (fun _ h9 => h9) rfl (by decide +kernel) (bl_n b_3) (bl_f b_3) (Nat.le_of_ble_eq_true rfl) dX6_copyFrom_91 (fun H locs hP _ hS => ?_)
  have hP : va_P g.1 vwCl [oX6 t_q t_plan_q t_secondEnds_q t_string_q a1_barred a1_period a1_his a1_beast a1_habit a1_onString a1_step a1_eaten, oX6 a1_q a1_plan_q a1_secondEnds_q a1_string_q a1_barred a1_period a1_his a1_beast a1_habit a1_onString a1_step a1_eaten, aI g a1_secondEnds_q 10 a1_secondEnds, aI g a1_string_q 12 a1_string, aI g t_secondEnds_q 10 t_secondEnds_1, aI g t_string_q 12 t_string_2] H := hP
  exact hret a1_barred a1_beast a1_eaten a1_habit a1_his a1_onString a1_period a1_step t_secondEnds_1 t_string_2 (Option.some.inj hf) _ _ _ _ hP hS dX6_copyFrom_94

def b_X6_hasDoorsOf_15 (a1_secondEnds : Nat → Int32) (t_plan_doorCount : Int32) (t_secondEnds : Nat → Int32) (v2_2 : Int32) : Option ((Int32) ⊕ ((Int32) ⊕ (Int32))) :=
 (if t_plan_doorCount ≤ v2_2 then
 (some (.inr (.inr v2_2)))
 else (gin v2_2 10 (gin v2_2 10 (if (t_secondEnds v2_2.toNatClampNeg) = (a1_secondEnds v2_2.toNatClampNeg) then
 (bnd (v2_2 + (1 : Int32)) (fun v2_8 =>
 (some (.inl v2_8))))
 else (some (.inr (.inl (0 : Int32))))))))
def f_X6_hasDoorsOf (t_barred : Int32) (a1_barred : Int32) (a1_secondEnds : Nat → Int32) (t_plan_doorCount : Int32) (t_secondEnds : Nat → Int32) : Option (Int32) :=
 (if t_barred = a1_barred then
 (obm1 (itr (un1 (b_X6_hasDoorsOf_15 a1_secondEnds t_plan_doorCount t_secondEnds)) FU (0 : Int32)) (fun x2_9 =>
 (some (1 : Int32))))
 else (some (0 : Int32)))
abbrev rmX6_hasDoorsOf : Room := { frames := 0, cells := 0, slots := 0, locals := 0 }
set_option maxHeartbeats 4000000 in
set_option maxRecDepth 100000 in
theorem c_X6_hasDoorsOf (l : Launch) (g : Gh) (sz : Nat) (t_q t_plan_q t_secondEnds_q t_string_q a1_q a1_plan_q a1_secondEnds_q a1_string_q t_plan_firstEnds_q t_plan_rules_q : Nat) (t_barred : Int32) (t_period : Int32) (t_his : Int32) (t_beast : Int32) (t_habit : Int32) (t_onString : Int32) (t_step : Int32) (t_eaten : Int32) (a1_barred : Int32) (a1_period : Int32) (a1_his : Int32) (a1_beast : Int32) (a1_habit : Int32) (a1_onString : Int32) (a1_step : Int32) (a1_eaten : Int32) (a1_secondEnds : Nat → Int32) (t_plan_rooms : Int32) (t_plan_doorCount : Int32) (t_plan_ruleCount : Int32) (t_plan_stringLength : Int32) (t_secondEnds : Nat → Int32) (rr : Int32) (hf : f_X6_hasDoorsOf t_barred a1_barred a1_secondEnds t_plan_doorCount t_secondEnds = some rr) : CI l yX6_hasDoorsOf wsX6_hasDoorsOf rmX6_hasDoorsOf [.ref t_q, .ref a1_q] g sz [oX6 t_q t_plan_q t_secondEnds_q t_string_q t_barred t_period t_his t_beast t_habit t_onString t_step t_eaten, oX6 a1_q a1_plan_q a1_secondEnds_q a1_string_q a1_barred a1_period a1_his a1_beast a1_habit a1_onString a1_step a1_eaten, aI g a1_secondEnds_q 10 a1_secondEnds, oX2 t_plan_q t_plan_firstEnds_q t_plan_rules_q t_plan_rooms t_plan_doorCount t_plan_ruleCount t_plan_stringLength, aI g t_secondEnds_q 10 t_secondEnds] [oX6 t_q t_plan_q t_secondEnds_q t_string_q t_barred t_period t_his t_beast t_habit t_onString t_step t_eaten, oX6 a1_q a1_plan_q a1_secondEnds_q a1_string_q a1_barred a1_period a1_his a1_beast a1_habit a1_onString a1_step a1_eaten, aI g a1_secondEnds_q 10 a1_secondEnds, oX2 t_plan_q t_plan_firstEnds_q t_plan_rules_q t_plan_rooms t_plan_doorCount t_plan_ruleCount t_plan_stringLength, aI g t_secondEnds_q 10 t_secondEnds] rr := by
  refine ent_z (cc := cX6_hasDoorsOf) (maxL := 3) (by decide) rfl (Nat.le_of_ble_eq_true rfl) ?_
  intro p e s m args below meth c A Q hx hb hml hown hts hK hz hk hA hD hP hS hret ls hl
  have hown : s.vm.findClass RX6 = some m.cls := hown
  have inX2 : ∀ w ∈ u_ws RX2 TX2 6, w ∈ wsX6_hasDoorsOf := by decide +kernel
  have inX6 : ∀ w ∈ u_ws RX6 TX6 11, w ∈ wsX6_hasDoorsOf := by decide +kernel
  have k9 := hts (.fieldLink RX6 9 "ThreadMoved$State" "secondEnds" "[I") (by decide +kernel)
  have k18 := hts (.fieldLink RX6 18 "ThreadMoved$State" "plan" "LThreadMoved$Plan;") (by decide +kernel)
  have k25 := hts (.fieldLink RX6 25 "ThreadMoved$State" "barred" "I") (by decide +kernel)
  have k77 := hts (.fieldLink RX6 77 "ThreadMoved$Plan" "doorCount" "I") (by decide +kernel)
  have hl : lv_has ls 3 [(0, .ref t_q), (1, .ref a1_q)] := hl
  have hret : ∀ (rrz : Int32), rrz = rr → narrow .boolean (.int rrz) = .int rrz → ∀ (H : Heap) (locs : List Loc) (pc : Nat) (ls : Array Slot), va_P g.1 vwCl [oX6 t_q t_plan_q t_secondEnds_q t_string_q t_barred t_period t_his t_beast t_habit t_onString t_step t_eaten, oX6 a1_q a1_plan_q a1_secondEnds_q a1_string_q a1_barred a1_period a1_his a1_beast a1_habit a1_onString a1_step a1_eaten, aI g a1_secondEnds_q 10 a1_secondEnds, oX2 t_plan_q t_plan_firstEnds_q t_plan_rules_q t_plan_rooms t_plan_doorCount t_plan_ruleCount t_plan_stringLength, aI g t_secondEnds_q 10 t_secondEnds] H → va_S A s.heap H locs → decode cX6_hasDoorsOf pc = .ok (.ireturn, 1) → W p l e rmX6_hasDoorsOf s m args below meth c H locs 0 0 Q (F0 m pc ls [.int rrz]) := by
    intro rrz he hzz H locs pc ls hP hS hd
    cases he
    exact hret H locs pc ls hzz hP hS hd
  unfold f_X6_hasDoorsOf at hf
  refine lv_aload_n hx hb dX6_hasDoorsOf_0 rfl (lv_at hl 0 rfl) ?_
  refine va_get (D := g.1) (ci := 6) (v := .int t_barred) (C := RX6) (T := TX6) (N := 11) hx hb hts inX6 hown hK hP 0 rfl rfl 3 (by decide) k25 (fun _ h9 => h9) rfl dX6_hasDoorsOf_1 ?_
  refine lv_aload_n hx hb dX6_hasDoorsOf_4 rfl (lv_at hl 1 rfl) ?_
  refine va_get (D := g.1) (ci := 6) (v := .int a1_barred) (C := RX6) (T := TX6) (N := 11) hx hb hts inX6 hown hK hP 1 rfl rfl 3 (by decide) k25 (fun _ h9 => h9) rfl dX6_hasDoorsOf_5 ?_
  refine lv_icmp_eq (tgt := 13) hx hb dX6_hasDoorsOf_8 (by decide) (fun c_1 => ?_) (fun c_1 => ?_)
  · have hf := ite_t hf c_1
    refine lv_iconst (v := (0 : Int32)) hx hb dX6_hasDoorsOf_13 (by decide) ?_
    refine lv_istore_n (lv' := [(2, .int (0 : Int32)), (0, .ref t_q), (1, .ref a1_q)]) hx hb dX6_hasDoorsOf_14 rfl hl (by decide) rfl (fun ls hl => ?_)
    obtain ⟨z0_3, ho_3, hkr_3, hke_3⟩ := obm1_e hf
    have K_3 : ∀ (x2_9 : Int32), z0_3 = .inr x2_9 → ∀ (H : Heap) (locs : List Loc) (ls : Array Slot), va_P g.1 vwCl [oX6 t_q t_plan_q t_secondEnds_q t_string_q t_barred t_period t_his t_beast t_habit t_onString t_step t_eaten, oX6 a1_q a1_plan_q a1_secondEnds_q a1_string_q a1_barred a1_period a1_his a1_beast a1_habit a1_onString a1_step a1_eaten, aI g a1_secondEnds_q 10 a1_secondEnds, oX2 t_plan_q t_plan_firstEnds_q t_plan_rules_q t_plan_rooms t_plan_doorCount t_plan_ruleCount t_plan_stringLength, aI g t_secondEnds_q 10 t_secondEnds] H → va_S A s.heap H locs → lv_has ls 3 [] → W p l e rmX6_hasDoorsOf s m args below meth c H locs 0 0 Q (F0 m 49 ls []) := by
      intro x2_9 hz9 H locs ls hP hS hl
      have hf := hke_3 x2_9 hz9
      refine lv_iconst (v := (1 : Int32)) hx hb dX6_hasDoorsOf_49 (by decide) ?_
      exact hret (1 : Int32) (Option.some.inj hf) rfl _ _ _ _ hP hS dX6_hasDoorsOf_50
    have L_3 : ∀ (n : Nat) (v2_2 : Int32), itr (un1 (b_X6_hasDoorsOf_15 a1_secondEnds t_plan_doorCount t_secondEnds)) n v2_2 = some z0_3 → ∀ (H : Heap) (locs : List Loc) (ls : Array Slot), va_P g.1 vwCl [oX6 t_q t_plan_q t_secondEnds_q t_string_q t_barred t_period t_his t_beast t_habit t_onString t_step t_eaten, oX6 a1_q a1_plan_q a1_secondEnds_q a1_string_q a1_barred a1_period a1_his a1_beast a1_habit a1_onString a1_step a1_eaten, aI g a1_secondEnds_q 10 a1_secondEnds, oX2 t_plan_q t_plan_firstEnds_q t_plan_rules_q t_plan_rooms t_plan_doorCount t_plan_ruleCount t_plan_stringLength, aI g t_secondEnds_q 10 t_secondEnds] H → va_S A s.heap H locs → lv_has ls 3 [(0, .ref t_q), (1, .ref a1_q), (2, .int v2_2)] → W p l e rmX6_hasDoorsOf s m args below meth c H locs 0 0 Q (F0 m 15 ls []) := by
      refine itr_ind1 ?_
      intro v2_2 z_3 hf hrec hex H locs ls hP hS hl
      unfold b_X6_hasDoorsOf_15 at hf
      refine lv_iload_n hx hb dX6_hasDoorsOf_15 rfl (lv_at hl 2 rfl) ?_
      refine lv_aload_n hx hb dX6_hasDoorsOf_16 rfl (lv_at hl 0 rfl) ?_
      refine va_get (D := g.1) (ci := 6) (v := .ref t_plan_q) (C := RX6) (T := TX6) (N := 11) hx hb hts inX6 hown hK hP 0 rfl rfl 0 (by decide) k18 (fun _ h9 => h9) rfl dX6_hasDoorsOf_17 ?_
      refine va_get (D := g.1) (ci := 2) (v := .int t_plan_doorCount) (C := RX2) (T := TX2) (N := 6) hx hb hts inX2 hown hK hP 3 rfl rfl 3 (by decide) k77 (fun _ h9 => h9) rfl dX6_hasDoorsOf_20 ?_
      refine lv_icmp_ge (tgt := 49) hx hb dX6_hasDoorsOf_23 (by decide) (fun c_4 => ?_) (fun c_4 => ?_)
      · have hf := ite_t hf c_4
        exact K_3 v2_2 (hex _ (Option.some.inj hf).symm).symm _ _ _ hP hS (lv_sub hl [] rfl)
      · have hf := ite_f hf c_4
        refine lv_aload_n hx hb dX6_hasDoorsOf_26 rfl (lv_at hl 0 rfl) ?_
        refine va_get (D := g.1) (ci := 6) (v := .ref t_secondEnds_q) (C := RX6) (T := TX6) (N := 11) hx hb hts inX6 hown hK hP 0 rfl rfl 1 (by decide) k9 (fun _ h9 => h9) rfl dX6_hasDoorsOf_27 ?_
        refine lv_iload_n hx hb dX6_hasDoorsOf_30 rfl (lv_at hl 2 rfl) ?_
        obtain ⟨h_5, hf⟩ := gin_e hf
        refine va_iald hx hb hK hP 4 0 rfl rfl h_5 dX6_hasDoorsOf_31 ?_
        refine lv_aload_n hx hb dX6_hasDoorsOf_32 rfl (lv_at hl 1 rfl) ?_
        refine va_get (D := g.1) (ci := 6) (v := .ref a1_secondEnds_q) (C := RX6) (T := TX6) (N := 11) hx hb hts inX6 hown hK hP 1 rfl rfl 1 (by decide) k9 (fun _ h9 => h9) rfl dX6_hasDoorsOf_33 ?_
        refine lv_iload_n hx hb dX6_hasDoorsOf_36 rfl (lv_at hl 2 rfl) ?_
        obtain ⟨h_6, hf⟩ := gin_e hf
        refine va_iald hx hb hK hP 2 0 rfl rfl h_6 dX6_hasDoorsOf_37 ?_
        refine lv_icmp_eq (tgt := 43) hx hb dX6_hasDoorsOf_38 (by decide) (fun c_7 => ?_) (fun c_7 => ?_)
        · have hf := ite_t hf c_7
          obtain ⟨v2_8, ev2_8, hf⟩ := bnd_e hf
          refine lv_iinc (v := v2_8) (lv' := [(2, .int v2_8), (0, .ref t_q), (1, .ref a1_q)]) hx hb dX6_hasDoorsOf_43 hl (k := 2) rfl (by rw [ev2_8]; rfl) (by decide) rfl (fun ls hl => ?_)
          refine lv_goto (tgt := 15) hx hb dX6_hasDoorsOf_46 (by decide) ?_
          exact hrec v2_8 (Option.some.inj hf).symm _ _ _ hP hS (lv_sub hl [1, 2, 0] rfl)
        · have hf := ite_f hf c_7
          refine lv_iconst (v := (0 : Int32)) hx hb dX6_hasDoorsOf_41 (by decide) ?_
          exact hret (0 : Int32) (hkr_3 _ (hex _ (Option.some.inj hf).symm).symm) rfl _ _ _ _ hP hS dX6_hasDoorsOf_42
    exact L_3 FU (0 : Int32) ho_3 _ _ _ hP hS (lv_sub hl [1, 2, 0] rfl)
  · have hf := ite_f hf c_1
    refine lv_iconst (v := (0 : Int32)) hx hb dX6_hasDoorsOf_11 (by decide) ?_
    exact hret (0 : Int32) (Option.some.inj hf) rfl _ _ _ _ hP hS dX6_hasDoorsOf_12

def b_X6_isDoorBetween_2 (t_barred : Int32) (t_plan_doorCount : Int32) (t_plan_firstEnds : Nat → Int32) (t_secondEnds : Nat → Int32) (p1 : Int32) (p2 : Int32) (v3_1 : Int32) : Option ((Int32) ⊕ ((Int32) ⊕ (Int32))) :=
 (if t_plan_doorCount ≤ v3_1 then
 (some (.inr (.inr v3_1)))
 else (ob1 (f_X6_across t_barred t_plan_doorCount t_plan_firstEnds t_secondEnds v3_1 p1) (fun r_4 =>
 (if r_4 = p2 then
 (some (.inr (.inl (1 : Int32))))
 else (bnd (v3_1 + (1 : Int32)) (fun v3_7 =>
 (some (.inl v3_7))))))))
def f_X6_isDoorBetween (t_barred : Int32) (t_plan_doorCount : Int32) (t_plan_firstEnds : Nat → Int32) (t_secondEnds : Nat → Int32) (p1 : Int32) (p2 : Int32) : Option (Int32) :=
 (obm1 (itr (un1 (b_X6_isDoorBetween_2 t_barred t_plan_doorCount t_plan_firstEnds t_secondEnds p1 p2)) FU (0 : Int32)) (fun x3_8 =>
 (some (0 : Int32))))
abbrev rmX6_isDoorBetween : Room := { frames := 2, cells := 0, slots := 0, locals := 43 }
set_option maxHeartbeats 4000000 in
set_option maxRecDepth 100000 in
theorem c_X6_isDoorBetween (l : Launch) (g : Gh) (sz : Nat) (t_q t_plan_q t_secondEnds_q t_string_q t_plan_firstEnds_q t_plan_rules_q : Nat) (t_barred : Int32) (t_period : Int32) (t_his : Int32) (t_beast : Int32) (t_habit : Int32) (t_onString : Int32) (t_step : Int32) (t_eaten : Int32) (t_plan_rooms : Int32) (t_plan_doorCount : Int32) (t_plan_ruleCount : Int32) (t_plan_stringLength : Int32) (t_plan_firstEnds : Nat → Int32) (t_secondEnds : Nat → Int32) (p1 : Int32) (p2 : Int32) (rr : Int32) (hf : f_X6_isDoorBetween t_barred t_plan_doorCount t_plan_firstEnds t_secondEnds p1 p2 = some rr) : CI l yX6_isDoorBetween wsX6_isDoorBetween rmX6_isDoorBetween [.ref t_q, .int p1, .int p2] g sz [oX6 t_q t_plan_q t_secondEnds_q t_string_q t_barred t_period t_his t_beast t_habit t_onString t_step t_eaten, oX2 t_plan_q t_plan_firstEnds_q t_plan_rules_q t_plan_rooms t_plan_doorCount t_plan_ruleCount t_plan_stringLength, aI g t_plan_firstEnds_q 10 t_plan_firstEnds, aI g t_secondEnds_q 10 t_secondEnds] [oX6 t_q t_plan_q t_secondEnds_q t_string_q t_barred t_period t_his t_beast t_habit t_onString t_step t_eaten, oX2 t_plan_q t_plan_firstEnds_q t_plan_rules_q t_plan_rooms t_plan_doorCount t_plan_ruleCount t_plan_stringLength, aI g t_plan_firstEnds_q 10 t_plan_firstEnds, aI g t_secondEnds_q 10 t_secondEnds] rr := by
  refine ent_z (cc := cX6_isDoorBetween) (maxL := 4) (by decide) rfl (Nat.le_of_ble_eq_true rfl) ?_
  intro p e s m args below meth c A Q hx hb hml hown hts hK hz hk hA hD hP hS hret ls hl
  have hown : s.vm.findClass RX6 = some m.cls := hown
  have inX2 : ∀ w ∈ u_ws RX2 TX2 6, w ∈ wsX6_isDoorBetween := by decide +kernel
  have inX6 : ∀ w ∈ u_ws RX6 TX6 11, w ∈ wsX6_isDoorBetween := by decide +kernel
  have k18 := hts (.fieldLink RX6 18 "ThreadMoved$State" "plan" "LThreadMoved$Plan;") (by decide +kernel)
  have k77 := hts (.fieldLink RX6 77 "ThreadMoved$Plan" "doorCount" "I") (by decide +kernel)
  have hl : lv_has ls 4 [(0, .ref t_q), (1, .int p1), (2, .int p2)] := hl
  have hret : ∀ (rrz : Int32), rrz = rr → narrow .boolean (.int rrz) = .int rrz → ∀ (H : Heap) (locs : List Loc) (pc : Nat) (ls : Array Slot), va_P g.1 vwCl [oX6 t_q t_plan_q t_secondEnds_q t_string_q t_barred t_period t_his t_beast t_habit t_onString t_step t_eaten, oX2 t_plan_q t_plan_firstEnds_q t_plan_rules_q t_plan_rooms t_plan_doorCount t_plan_ruleCount t_plan_stringLength, aI g t_plan_firstEnds_q 10 t_plan_firstEnds, aI g t_secondEnds_q 10 t_secondEnds] H → va_S A s.heap H locs → decode cX6_isDoorBetween pc = .ok (.ireturn, 1) → W p l e rmX6_isDoorBetween s m args below meth c H locs 0 0 Q (F0 m pc ls [.int rrz]) := by
    intro rrz he hzz H locs pc ls hP hS hd
    cases he
    exact hret H locs pc ls hzz hP hS hd
  unfold f_X6_isDoorBetween at hf
  refine lv_iconst (v := (0 : Int32)) hx hb dX6_isDoorBetween_0 (by decide) ?_
  refine lv_istore_n (lv' := [(3, .int (0 : Int32)), (0, .ref t_q), (1, .int p1), (2, .int p2)]) hx hb dX6_isDoorBetween_1 rfl hl (by decide) rfl (fun ls hl => ?_)
  obtain ⟨z0_2, ho_2, hkr_2, hke_2⟩ := obm1_e hf
  have K_2 : ∀ (x3_8 : Int32), z0_2 = .inr x3_8 → ∀ (H : Heap) (locs : List Loc) (ls : Array Slot), va_P g.1 vwCl [oX6 t_q t_plan_q t_secondEnds_q t_string_q t_barred t_period t_his t_beast t_habit t_onString t_step t_eaten, oX2 t_plan_q t_plan_firstEnds_q t_plan_rules_q t_plan_rooms t_plan_doorCount t_plan_ruleCount t_plan_stringLength, aI g t_plan_firstEnds_q 10 t_plan_firstEnds, aI g t_secondEnds_q 10 t_secondEnds] H → va_S A s.heap H locs → lv_has ls 4 [] → W p l e rmX6_isDoorBetween s m args below meth c H locs 0 0 Q (F0 m 31 ls []) := by
    intro x3_8 hz9 H locs ls hP hS hl
    have hf := hke_2 x3_8 hz9
    refine lv_iconst (v := (0 : Int32)) hx hb dX6_isDoorBetween_31 (by decide) ?_
    exact hret (0 : Int32) (Option.some.inj hf) rfl _ _ _ _ hP hS dX6_isDoorBetween_32
  have L_2 : ∀ (n : Nat) (v3_1 : Int32), itr (un1 (b_X6_isDoorBetween_2 t_barred t_plan_doorCount t_plan_firstEnds t_secondEnds p1 p2)) n v3_1 = some z0_2 → ∀ (H : Heap) (locs : List Loc) (ls : Array Slot), va_P g.1 vwCl [oX6 t_q t_plan_q t_secondEnds_q t_string_q t_barred t_period t_his t_beast t_habit t_onString t_step t_eaten, oX2 t_plan_q t_plan_firstEnds_q t_plan_rules_q t_plan_rooms t_plan_doorCount t_plan_ruleCount t_plan_stringLength, aI g t_plan_firstEnds_q 10 t_plan_firstEnds, aI g t_secondEnds_q 10 t_secondEnds] H → va_S A s.heap H locs → lv_has ls 4 [(0, .ref t_q), (1, .int p1), (2, .int p2), (3, .int v3_1)] → W p l e rmX6_isDoorBetween s m args below meth c H locs 0 0 Q (F0 m 2 ls []) := by
    refine itr_ind1 ?_
    intro v3_1 z_2 hf hrec hex H locs ls hP hS hl
    unfold b_X6_isDoorBetween_2 at hf
    refine lv_iload_n hx hb dX6_isDoorBetween_2 rfl (lv_at hl 3 rfl) ?_
    refine lv_aload_n hx hb dX6_isDoorBetween_3 rfl (lv_at hl 0 rfl) ?_
    refine va_get (D := g.1) (ci := 6) (v := .ref t_plan_q) (C := RX6) (T := TX6) (N := 11) hx hb hts inX6 hown hK hP 0 rfl rfl 0 (by decide) k18 (fun _ h9 => h9) rfl dX6_isDoorBetween_4 ?_
    refine va_get (D := g.1) (ci := 2) (v := .int t_plan_doorCount) (C := RX2) (T := TX2) (N := 6) hx hb hts inX2 hown hK hP 1 rfl rfl 3 (by decide) k77 (fun _ h9 => h9) rfl dX6_isDoorBetween_7 ?_
    refine lv_icmp_ge (tgt := 31) hx hb dX6_isDoorBetween_10 (by decide) (fun c_3 => ?_) (fun c_3 => ?_)
    · have hf := ite_t hf c_3
      exact K_2 v3_1 (hex _ (Option.some.inj hf).symm).symm _ _ _ hP hS (lv_sub hl [] rfl)
    · have hf := ite_f hf c_3
      refine lv_aload_n hx hb dX6_isDoorBetween_13 rfl (lv_at hl 0 rfl) ?_
      refine lv_iload_n hx hb dX6_isDoorBetween_14 rfl (lv_at hl 3 rfl) ?_
      refine lv_iload_n hx hb dX6_isDoorBetween_15 rfl (lv_at hl 1 rfl) ?_
      obtain ⟨r_4, hc_5, hf⟩ := ob1_e hf
      refine kV_i (wn := [oX6 t_q t_plan_q t_secondEnds_q t_string_q t_barred t_period t_his t_beast t_habit t_onString t_step t_eaten, oX2 t_plan_q t_plan_firstEnds_q t_plan_rules_q t_plan_rooms t_plan_doorCount t_plan_ruleCount t_plan_stringLength, aI g t_plan_firstEnds_q 10 t_plan_firstEnds, aI g t_secondEnds_q 10 t_secondEnds]) (As := [.int v3_1, .int p1]) (rest := []) (c_X6_across l g _ t_q t_plan_q t_secondEnds_q t_string_q t_plan_firstEnds_q t_plan_rules_q t_barred t_period t_his t_beast t_habit t_onString t_step t_eaten t_plan_rooms t_plan_doorCount t_plan_ruleCount t_plan_stringLength t_plan_firstEnds t_secondEnds v3_1 p1 r_4 hc_5) ⟨hx, hb, hml, hown, hts⟩ (cwV 2 hts gX6_isDoorBetween_X6_across rfl rfl rfl (by decide +kernel) ⟨by decide, by decide⟩) hK hz hk hP (hD.re rfl) hS hA [0, 1, 2, 3] rfl rfl rfl rfl rfl rfl rfl hl.1 rfl (Nat.le_of_ble_eq_true rfl) dX6_isDoorBetween_16 (fun H locs hP hS => ?_)
      refine lv_iload_n hx hb dX6_isDoorBetween_19 rfl (lv_at hl 2 rfl) ?_
      refine lv_icmp_ne (tgt := 25) hx hb dX6_isDoorBetween_20 (by decide) (fun c_6 => ?_) (fun c_6 => ?_)
      · have hf := ite_f hf c_6
        obtain ⟨v3_7, ev3_7, hf⟩ := bnd_e hf
        refine lv_iinc (v := v3_7) (lv' := [(3, .int v3_7), (0, .ref t_q), (1, .int p1), (2, .int p2)]) hx hb dX6_isDoorBetween_25 hl (k := 3) rfl (by rw [ev3_7]; rfl) (by decide) rfl (fun ls hl => ?_)
        refine lv_goto (tgt := 2) hx hb dX6_isDoorBetween_28 (by decide) ?_
        exact hrec v3_7 (Option.some.inj hf).symm _ _ _ hP hS (lv_sub hl [1, 2, 3, 0] rfl)
      · have hf := ite_t hf c_6
        refine lv_iconst (v := (1 : Int32)) hx hb dX6_isDoorBetween_23 (by decide) ?_
        exact hret (1 : Int32) (hkr_2 _ (hex _ (Option.some.inj hf).symm).symm) rfl _ _ _ _ hP hS dX6_isDoorBetween_24
  exact L_2 FU (0 : Int32) ho_2 _ _ _ hP hS (lv_sub hl [1, 2, 3, 0] rfl)

def f_X7_asNumber (p0 : Int32) : Option (Int32) :=
 (if p0 = (0 : Int32) then
 (some (0 : Int32))
 else (some (1 : Int32)))
abbrev rmX7_asNumber : Room := { frames := 0, cells := 0, slots := 0, locals := 0 }
set_option maxHeartbeats 4000000 in
set_option maxRecDepth 100000 in
theorem c_X7_asNumber (l : Launch) (g : Gh) (sz : Nat) (p0 : Int32) (rr : Int32) (hf : f_X7_asNumber p0 = some rr) : CI l yX7_asNumber wsX7_asNumber rmX7_asNumber [.int p0] g sz [] [] rr := by
  refine ent_i (cc := cX7_asNumber) (maxL := 1) (by decide) rfl (Nat.le_of_ble_eq_true rfl) ?_
  intro p e s m args below meth c A Q hx hb hml hown hts hK hz hk hA hD hP hS hret ls hl
  have hown : s.vm.findClass RX7 = some m.cls := hown
  have hl : lv_has ls 1 [(0, .int p0)] := hl
  have hret : ∀ (rrz : Int32), rrz = rr → ∀ (H : Heap) (locs : List Loc) (pc : Nat) (ls : Array Slot), va_P g.1 vwCl [] H → va_S A s.heap H locs → decode cX7_asNumber pc = .ok (.ireturn, 1) → W p l e rmX7_asNumber s m args below meth c H locs 0 0 Q (F0 m pc ls [.int rrz]) := by
    intro rrz he H locs pc ls hP hS hd
    cases he
    exact hret H locs pc ls hP hS hd
  unfold f_X7_asNumber at hf
  refine lv_iload_n hx hb dX7_asNumber_0 rfl (lv_at hl 0 rfl) ?_
  refine lv_if_eq (tgt := 8) hx hb dX7_asNumber_1 (by decide) (fun c_1 => ?_) (fun c_1 => ?_)
  · have hf := ite_t hf c_1
    refine lv_iconst (v := (0 : Int32)) hx hb dX7_asNumber_8 (by decide) ?_
    exact hret (0 : Int32) (Option.some.inj hf) _ _ _ _ hP hS dX7_asNumber_9
  · have hf := ite_f hf c_1
    refine lv_iconst (v := (1 : Int32)) hx hb dX7_asNumber_4 (by decide) ?_
    refine lv_goto (tgt := 9) hx hb dX7_asNumber_5 (by decide) ?_
    exact hret (1 : Int32) (Option.some.inj hf) _ _ _ _ hP hS dX7_asNumber_9

def f_X6_ofDoor (t_barred : Int32) (t_plan_doorCount : Int32) (t_plan_firstEnds : Nat → Int32) (t_secondEnds : Nat → Int32) (p1 : Int32) (p2 : Int32) : Option (Int32) :=
 (ob1 (f_X2_hasDoor t_plan_doorCount p1) (fun r_1 =>
 (if r_1 = (0 : Int32) then
 (some (-1 : Int32))
 else (ob1 (f_X7_isWithin p2 (0 : Int32) (2 : Int32)) (fun r_4 =>
 (if r_4 = (0 : Int32) then
 (some (-1 : Int32))
 else (if p2 = (2 : Int32) then
 (ob1 (f_X6_isBarred t_barred p1) (fun r_11 =>
 (ob1 (f_X7_asNumber r_11) (fun r_13 =>
 (some r_13)))))
 else (if p2 = (0 : Int32) then
 (gin p1 10 (some (t_plan_firstEnds p1.toNatClampNeg)))
 else (gin p1 10 (some (t_secondEnds p1.toNatClampNeg)))))))))))
abbrev rmX6_ofDoor : Room := { frames := 1, cells := 0, slots := 0, locals := 22 }
set_option maxHeartbeats 4000000 in
set_option maxRecDepth 100000 in
theorem c_X6_ofDoor (l : Launch) (g : Gh) (sz : Nat) (t_q t_plan_q t_secondEnds_q t_string_q t_plan_firstEnds_q t_plan_rules_q : Nat) (t_barred : Int32) (t_period : Int32) (t_his : Int32) (t_beast : Int32) (t_habit : Int32) (t_onString : Int32) (t_step : Int32) (t_eaten : Int32) (t_plan_rooms : Int32) (t_plan_doorCount : Int32) (t_plan_ruleCount : Int32) (t_plan_stringLength : Int32) (t_plan_firstEnds : Nat → Int32) (t_secondEnds : Nat → Int32) (p1 : Int32) (p2 : Int32) (rr : Int32) (hf : f_X6_ofDoor t_barred t_plan_doorCount t_plan_firstEnds t_secondEnds p1 p2 = some rr) : CI l yX6_ofDoor wsX6_ofDoor rmX6_ofDoor [.ref t_q, .int p1, .int p2] g sz [oX6 t_q t_plan_q t_secondEnds_q t_string_q t_barred t_period t_his t_beast t_habit t_onString t_step t_eaten, oX2 t_plan_q t_plan_firstEnds_q t_plan_rules_q t_plan_rooms t_plan_doorCount t_plan_ruleCount t_plan_stringLength, aI g t_plan_firstEnds_q 10 t_plan_firstEnds, aI g t_secondEnds_q 10 t_secondEnds] [oX6 t_q t_plan_q t_secondEnds_q t_string_q t_barred t_period t_his t_beast t_habit t_onString t_step t_eaten, oX2 t_plan_q t_plan_firstEnds_q t_plan_rules_q t_plan_rooms t_plan_doorCount t_plan_ruleCount t_plan_stringLength, aI g t_plan_firstEnds_q 10 t_plan_firstEnds, aI g t_secondEnds_q 10 t_secondEnds] rr := by
  refine ent_i (cc := cX6_ofDoor) (maxL := 3) (by decide) rfl (Nat.le_of_ble_eq_true rfl) ?_
  intro p e s m args below meth c A Q hx hb hml hown hts hK hz hk hA hD hP hS hret ls hl
  have hown : s.vm.findClass RX6 = some m.cls := hown
  have inX2 : ∀ w ∈ u_ws RX2 TX2 6, w ∈ wsX6_ofDoor := by decide +kernel
  have inX6 : ∀ w ∈ u_ws RX6 TX6 11, w ∈ wsX6_ofDoor := by decide +kernel
  have k9 := hts (.fieldLink RX6 9 "ThreadMoved$State" "secondEnds" "[I") (by decide +kernel)
  have k18 := hts (.fieldLink RX6 18 "ThreadMoved$State" "plan" "LThreadMoved$Plan;") (by decide +kernel)
  have k74 := hts (.fieldLink RX6 74 "ThreadMoved$Plan" "firstEnds" "[I") (by decide +kernel)
  have hl : lv_has ls 3 [(0, .ref t_q), (1, .int p1), (2, .int p2)] := hl
  have hret : ∀ (rrz : Int32), rrz = rr → ∀ (H : Heap) (locs : List Loc) (pc : Nat) (ls : Array Slot), va_P g.1 vwCl [oX6 t_q t_plan_q t_secondEnds_q t_string_q t_barred t_period t_his t_beast t_habit t_onString t_step t_eaten, oX2 t_plan_q t_plan_firstEnds_q t_plan_rules_q t_plan_rooms t_plan_doorCount t_plan_ruleCount t_plan_stringLength, aI g t_plan_firstEnds_q 10 t_plan_firstEnds, aI g t_secondEnds_q 10 t_secondEnds] H → va_S A s.heap H locs → decode cX6_ofDoor pc = .ok (.ireturn, 1) → W p l e rmX6_ofDoor s m args below meth c H locs 0 0 Q (F0 m pc ls [.int rrz]) := by
    intro rrz he H locs pc ls hP hS hd
    cases he
    exact hret H locs pc ls hP hS hd
  unfold f_X6_ofDoor at hf
  refine lv_aload_n hx hb dX6_ofDoor_0 rfl (lv_at hl 0 rfl) ?_
  refine va_get (D := g.1) (ci := 6) (v := .ref t_plan_q) (C := RX6) (T := TX6) (N := 11) hx hb hts inX6 hown hK hP 0 rfl rfl 0 (by decide) k18 (fun _ h9 => h9) rfl dX6_ofDoor_1 ?_
  refine lv_iload_n hx hb dX6_ofDoor_4 rfl (lv_at hl 1 rfl) ?_
  obtain ⟨r_1, hc_2, hf⟩ := ob1_e hf
  refine kV_i (wn := [oX6 t_q t_plan_q t_secondEnds_q t_string_q t_barred t_period t_his t_beast t_habit t_onString t_step t_eaten, oX2 t_plan_q t_plan_firstEnds_q t_plan_rules_q t_plan_rooms t_plan_doorCount t_plan_ruleCount t_plan_stringLength, aI g t_plan_firstEnds_q 10 t_plan_firstEnds, aI g t_secondEnds_q 10 t_secondEnds]) (As := [.int p1]) (rest := []) (c_X2_hasDoor l g _ t_plan_q t_plan_firstEnds_q t_plan_rules_q t_plan_rooms t_plan_doorCount t_plan_ruleCount t_plan_stringLength p1 r_1 hc_2) ⟨hx, hb, hml, hown, hts⟩ (cwV 1 hts gX6_ofDoor_X2_hasDoor rfl rfl rfl (by decide +kernel) ⟨by decide, by decide⟩) hK hz hk hP (hD.re rfl) hS hA [1] rfl rfl rfl rfl rfl rfl rfl hl.1 rfl (Nat.le_of_ble_eq_true rfl) dX6_ofDoor_5 (fun H locs hP hS => ?_)
  refine lv_if_eq (tgt := 20) hx hb dX6_ofDoor_8 (by decide) (fun c_3 => ?_) (fun c_3 => ?_)
  · have hf := ite_t hf c_3
    refine lv_iconst (v := (-1 : Int32)) hx hb dX6_ofDoor_20 (by decide) ?_
    exact hret (-1 : Int32) (Option.some.inj hf) _ _ _ _ hP hS dX6_ofDoor_21
  · have hf := ite_f hf c_3
    refine lv_iload_n hx hb dX6_ofDoor_11 rfl (lv_at hl 2 rfl) ?_
    refine lv_iconst (v := (0 : Int32)) hx hb dX6_ofDoor_12 (by decide) ?_
    refine lv_iconst (v := (2 : Int32)) hx hb dX6_ofDoor_13 (by decide) ?_
    obtain ⟨r_4, hc_5, hf⟩ := ob1_e hf
    refine kSN_i (wn := [oX6 t_q t_plan_q t_secondEnds_q t_string_q t_barred t_period t_his t_beast t_habit t_onString t_step t_eaten, oX2 t_plan_q t_plan_firstEnds_q t_plan_rules_q t_plan_rooms t_plan_doorCount t_plan_ruleCount t_plan_stringLength, aI g t_plan_firstEnds_q 10 t_plan_firstEnds, aI g t_secondEnds_q 10 t_secondEnds]) (As := [.int p2, .int (0 : Int32), .int (2 : Int32)]) (rest := []) (c_X7_isWithin l g _ p2 (0 : Int32) (2 : Int32) r_4 hc_5) ⟨hx, hb, hml, hown, hts⟩ ⟨va_cnB 3 hts gX6_ofDoor_X7_isWithin_n63 rfl rfl rfl (hz.1 (RX6, 63, yX7_isWithin, RX7) (by decide +kernel)) (hts (.initialized RX7) (by decide +kernel)) (by decide +kernel) ⟨by decide, by decide⟩, hts (.static yX7_isWithin) (by decide +kernel), trivial⟩ hK hz hk hP (hD.re rfl) hS hA [] rfl rfl rfl rfl rfl hl.1 rfl (Nat.le_of_ble_eq_true rfl) dX6_ofDoor_14 (fun H locs hP hS => ?_)
    refine lv_if_ne (tgt := 22) hx hb dX6_ofDoor_17 (by decide) (fun c_6 => ?_) (fun c_6 => ?_)
    · have hf := ite_f hf c_6
      refine lv_iload_n hx hb dX6_ofDoor_22 rfl (lv_at hl 2 rfl) ?_
      refine lv_iconst (v := (2 : Int32)) hx hb dX6_ofDoor_23 (by decide) ?_
      refine lv_icmp_ne (tgt := 36) hx hb dX6_ofDoor_24 (by decide) (fun c_7 => ?_) (fun c_7 => ?_)
      · have hf := ite_f hf c_7
        refine lv_iload_n hx hb dX6_ofDoor_36 rfl (lv_at hl 2 rfl) ?_
        refine lv_if_ne (tgt := 52) hx hb dX6_ofDoor_37 (by decide) (fun c_8 => ?_) (fun c_8 => ?_)
        · have hf := ite_f hf c_8
          refine lv_aload_n hx hb dX6_ofDoor_52 rfl (lv_at hl 0 rfl) ?_
          refine va_get (D := g.1) (ci := 6) (v := .ref t_secondEnds_q) (C := RX6) (T := TX6) (N := 11) hx hb hts inX6 hown hK hP 0 rfl rfl 1 (by decide) k9 (fun _ h9 => h9) rfl dX6_ofDoor_53 ?_
          refine lv_iload_n hx hb dX6_ofDoor_56 rfl (lv_at hl 1 rfl) ?_
          obtain ⟨h_9, hf⟩ := gin_e hf
          refine va_iald hx hb hK hP 3 0 rfl rfl h_9 dX6_ofDoor_57 ?_
          exact hret (t_secondEnds p1.toNatClampNeg) (Option.some.inj hf) _ _ _ _ hP hS dX6_ofDoor_58
        · have hf := ite_t hf c_8
          refine lv_aload_n hx hb dX6_ofDoor_40 rfl (lv_at hl 0 rfl) ?_
          refine va_get (D := g.1) (ci := 6) (v := .ref t_plan_q) (C := RX6) (T := TX6) (N := 11) hx hb hts inX6 hown hK hP 0 rfl rfl 0 (by decide) k18 (fun _ h9 => h9) rfl dX6_ofDoor_41 ?_
          refine va_get (D := g.1) (ci := 2) (v := .ref t_plan_firstEnds_q) (C := RX2) (T := TX2) (N := 6) hx hb hts inX2 hown hK hP 1 rfl rfl 0 (by decide) k74 (fun _ h9 => h9) rfl dX6_ofDoor_44 ?_
          refine lv_iload_n hx hb dX6_ofDoor_47 rfl (lv_at hl 1 rfl) ?_
          obtain ⟨h_10, hf⟩ := gin_e hf
          refine va_iald hx hb hK hP 2 0 rfl rfl h_10 dX6_ofDoor_48 ?_
          refine lv_goto (tgt := 58) hx hb dX6_ofDoor_49 (by decide) ?_
          exact hret (t_plan_firstEnds p1.toNatClampNeg) (Option.some.inj hf) _ _ _ _ hP hS dX6_ofDoor_58
      · have hf := ite_t hf c_7
        refine lv_aload_n hx hb dX6_ofDoor_27 rfl (lv_at hl 0 rfl) ?_
        refine lv_iload_n hx hb dX6_ofDoor_28 rfl (lv_at hl 1 rfl) ?_
        obtain ⟨r_11, hc_12, hf⟩ := ob1_e hf
        refine kV_i (wn := [oX6 t_q t_plan_q t_secondEnds_q t_string_q t_barred t_period t_his t_beast t_habit t_onString t_step t_eaten, oX2 t_plan_q t_plan_firstEnds_q t_plan_rules_q t_plan_rooms t_plan_doorCount t_plan_ruleCount t_plan_stringLength, aI g t_plan_firstEnds_q 10 t_plan_firstEnds, aI g t_secondEnds_q 10 t_secondEnds]) (As := [.int p1]) (rest := []) (c_X6_isBarred l g _ t_q t_plan_q t_secondEnds_q t_string_q t_barred t_period t_his t_beast t_habit t_onString t_step t_eaten p1 r_11 hc_12) ⟨hx, hb, hml, hown, hts⟩ (cwV 1 hts gX6_ofDoor_X6_isBarred rfl rfl rfl (by decide +kernel) ⟨by decide, by decide⟩) hK hz hk hP (hD.re rfl) hS hA [0] rfl rfl rfl rfl rfl rfl rfl hl.1 rfl (Nat.le_of_ble_eq_true rfl) dX6_ofDoor_29 (fun H locs hP hS => ?_)
        obtain ⟨r_13, hc_14, hf⟩ := ob1_e hf
        refine kSN_i (wn := [oX6 t_q t_plan_q t_secondEnds_q t_string_q t_barred t_period t_his t_beast t_habit t_onString t_step t_eaten, oX2 t_plan_q t_plan_firstEnds_q t_plan_rules_q t_plan_rooms t_plan_doorCount t_plan_ruleCount t_plan_stringLength, aI g t_plan_firstEnds_q 10 t_plan_firstEnds, aI g t_secondEnds_q 10 t_secondEnds]) (As := [.int r_11]) (rest := []) (c_X7_asNumber l g _ r_11 r_13 hc_14) ⟨hx, hb, hml, hown, hts⟩ ⟨va_cnB 1 hts gX6_ofDoor_X7_asNumber_n70 rfl rfl rfl (hz.1 (RX6, 70, yX7_asNumber, RX7) (by decide +kernel)) (hts (.initialized RX7) (by decide +kernel)) (by decide +kernel) ⟨by decide, by decide⟩, hts (.static yX7_asNumber) (by decide +kernel), trivial⟩ hK hz hk hP (hD.re rfl) hS hA [] rfl rfl rfl rfl rfl hl.1 rfl (Nat.le_of_ble_eq_true rfl) dX6_ofDoor_32 (fun H locs hP hS => ?_)
        exact hret r_13 (Option.some.inj hf) _ _ _ _ hP hS dX6_ofDoor_35
    · have hf := ite_t hf c_6
      refine lv_iconst (v := (-1 : Int32)) hx hb dX6_ofDoor_20 (by decide) ?_
      exact hret (-1 : Int32) (Option.some.inj hf) _ _ _ _ hP hS dX6_ofDoor_21

def b_X6_openFrom_4 (t_barred : Int32) (t_plan_doorCount : Int32) (t_plan_firstEnds : Nat → Int32) (t_secondEnds : Nat → Int32) (p1 : Int32) (v2_1 : Int32) (v3_2 : Int32) : Option ((Int32 × Int32) ⊕ (Int32 × Int32)) :=
 (if t_plan_doorCount ≤ v3_2 then
 (some (.inr (v2_1, v3_2)))
 else (ob1 (f_X6_across t_barred t_plan_doorCount t_plan_firstEnds t_secondEnds v3_2 p1) (fun r_5 =>
 (jn1 (fun (v2_7 : Int32) => (bnd (v3_2 + (1 : Int32)) (fun v3_9 =>
 (some (.inl (v2_7, v3_9)))))) (fun j_8 =>
 (if r_5 = (-4 : Int32) then
 (j_8 v2_1)
 else (bnd (v2_1 ||| ((1 : Int32) <<< (v3_2 &&& 31))) (fun v2_11 =>
 (j_8 v2_11)))))))))
def f_X6_openFrom (t_barred : Int32) (t_plan_doorCount : Int32) (t_plan_firstEnds : Nat → Int32) (t_secondEnds : Nat → Int32) (p1 : Int32) : Option (Int32) :=
 (ob2 (itr (un2 (b_X6_openFrom_4 t_barred t_plan_doorCount t_plan_firstEnds t_secondEnds p1)) FU ((0 : Int32), (0 : Int32))) (fun x2_12 x3_13 =>
 (some x2_12)))
abbrev rmX6_openFrom : Room := { frames := 2, cells := 0, slots := 0, locals := 43 }
set_option maxHeartbeats 4000000 in
set_option maxRecDepth 100000 in
theorem c_X6_openFrom (l : Launch) (g : Gh) (sz : Nat) (t_q t_plan_q t_secondEnds_q t_string_q t_plan_firstEnds_q t_plan_rules_q : Nat) (t_barred : Int32) (t_period : Int32) (t_his : Int32) (t_beast : Int32) (t_habit : Int32) (t_onString : Int32) (t_step : Int32) (t_eaten : Int32) (t_plan_rooms : Int32) (t_plan_doorCount : Int32) (t_plan_ruleCount : Int32) (t_plan_stringLength : Int32) (t_plan_firstEnds : Nat → Int32) (t_secondEnds : Nat → Int32) (p1 : Int32) (rr : Int32) (hf : f_X6_openFrom t_barred t_plan_doorCount t_plan_firstEnds t_secondEnds p1 = some rr) : CI l yX6_openFrom wsX6_openFrom rmX6_openFrom [.ref t_q, .int p1] g sz [oX6 t_q t_plan_q t_secondEnds_q t_string_q t_barred t_period t_his t_beast t_habit t_onString t_step t_eaten, oX2 t_plan_q t_plan_firstEnds_q t_plan_rules_q t_plan_rooms t_plan_doorCount t_plan_ruleCount t_plan_stringLength, aI g t_plan_firstEnds_q 10 t_plan_firstEnds, aI g t_secondEnds_q 10 t_secondEnds] [oX6 t_q t_plan_q t_secondEnds_q t_string_q t_barred t_period t_his t_beast t_habit t_onString t_step t_eaten, oX2 t_plan_q t_plan_firstEnds_q t_plan_rules_q t_plan_rooms t_plan_doorCount t_plan_ruleCount t_plan_stringLength, aI g t_plan_firstEnds_q 10 t_plan_firstEnds, aI g t_secondEnds_q 10 t_secondEnds] rr := by
  refine ent_i (cc := cX6_openFrom) (maxL := 4) (by decide) rfl (Nat.le_of_ble_eq_true rfl) ?_
  intro p e s m args below meth c A Q hx hb hml hown hts hK hz hk hA hD hP hS hret ls hl
  have hown : s.vm.findClass RX6 = some m.cls := hown
  have inX2 : ∀ w ∈ u_ws RX2 TX2 6, w ∈ wsX6_openFrom := by decide +kernel
  have inX6 : ∀ w ∈ u_ws RX6 TX6 11, w ∈ wsX6_openFrom := by decide +kernel
  have k18 := hts (.fieldLink RX6 18 "ThreadMoved$State" "plan" "LThreadMoved$Plan;") (by decide +kernel)
  have k77 := hts (.fieldLink RX6 77 "ThreadMoved$Plan" "doorCount" "I") (by decide +kernel)
  have hl : lv_has ls 4 [(0, .ref t_q), (1, .int p1)] := hl
  have hret : ∀ (rrz : Int32), rrz = rr → ∀ (H : Heap) (locs : List Loc) (pc : Nat) (ls : Array Slot), va_P g.1 vwCl [oX6 t_q t_plan_q t_secondEnds_q t_string_q t_barred t_period t_his t_beast t_habit t_onString t_step t_eaten, oX2 t_plan_q t_plan_firstEnds_q t_plan_rules_q t_plan_rooms t_plan_doorCount t_plan_ruleCount t_plan_stringLength, aI g t_plan_firstEnds_q 10 t_plan_firstEnds, aI g t_secondEnds_q 10 t_secondEnds] H → va_S A s.heap H locs → decode cX6_openFrom pc = .ok (.ireturn, 1) → W p l e rmX6_openFrom s m args below meth c H locs 0 0 Q (F0 m pc ls [.int rrz]) := by
    intro rrz he H locs pc ls hP hS hd
    cases he
    exact hret H locs pc ls hP hS hd
  unfold f_X6_openFrom at hf
  refine lv_iconst (v := (0 : Int32)) hx hb dX6_openFrom_0 (by decide) ?_
  refine lv_istore_n (lv' := [(2, .int (0 : Int32)), (0, .ref t_q), (1, .int p1)]) hx hb dX6_openFrom_1 rfl hl (by decide) rfl (fun ls hl => ?_)
  refine lv_iconst (v := (0 : Int32)) hx hb dX6_openFrom_2 (by decide) ?_
  refine lv_istore_n (lv' := [(3, .int (0 : Int32)), (2, .int (0 : Int32)), (0, .ref t_q), (1, .int p1)]) hx hb dX6_openFrom_3 rfl hl (by decide) rfl (fun ls hl => ?_)
  obtain ⟨x2_12, x3_13, ho_3, hf⟩ := ob2_e hf
  have K_3 : ∀ (x2_12y : Int32) (x3_13y : Int32), x2_12 = x2_12y → x3_13 = x3_13y → ∀ (H : Heap) (locs : List Loc) (ls : Array Slot), va_P g.1 vwCl [oX6 t_q t_plan_q t_secondEnds_q t_string_q t_barred t_period t_his t_beast t_habit t_onString t_step t_eaten, oX2 t_plan_q t_plan_firstEnds_q t_plan_rules_q t_plan_rooms t_plan_doorCount t_plan_ruleCount t_plan_stringLength, aI g t_plan_firstEnds_q 10 t_plan_firstEnds, aI g t_secondEnds_q 10 t_secondEnds] H → va_S A s.heap H locs → lv_has ls 4 [(2, .int x2_12y)] → W p l e rmX6_openFrom s m args below meth c H locs 0 0 Q (F0 m 38 ls []) := by
    intro x2_12y x3_13y ey0 ey1 H locs ls hP hS hl
    subst ey0
    subst ey1
    refine lv_iload_n hx hb dX6_openFrom_38 rfl (lv_at hl 0 rfl) ?_
    exact hret x2_12 (Option.some.inj hf) _ _ _ _ hP hS dX6_openFrom_39
  have L_3 : ∀ (n : Nat) (v2_1 : Int32) (v3_2 : Int32), itr (un2 (b_X6_openFrom_4 t_barred t_plan_doorCount t_plan_firstEnds t_secondEnds p1)) n (v2_1, v3_2) = some (x2_12, x3_13) → ∀ (H : Heap) (locs : List Loc) (ls : Array Slot), va_P g.1 vwCl [oX6 t_q t_plan_q t_secondEnds_q t_string_q t_barred t_period t_his t_beast t_habit t_onString t_step t_eaten, oX2 t_plan_q t_plan_firstEnds_q t_plan_rules_q t_plan_rooms t_plan_doorCount t_plan_ruleCount t_plan_stringLength, aI g t_plan_firstEnds_q 10 t_plan_firstEnds, aI g t_secondEnds_q 10 t_secondEnds] H → va_S A s.heap H locs → lv_has ls 4 [(0, .ref t_q), (1, .int p1), (2, .int v2_1), (3, .int v3_2)] → W p l e rmX6_openFrom s m args below meth c H locs 0 0 Q (F0 m 4 ls []) := by
    refine itr_ind2 ?_
    intro v2_1 v3_2 z_3 hf hrec hex H locs ls hP hS hl
    unfold b_X6_openFrom_4 at hf
    refine lv_iload_n hx hb dX6_openFrom_4 rfl (lv_at hl 3 rfl) ?_
    refine lv_aload_n hx hb dX6_openFrom_5 rfl (lv_at hl 0 rfl) ?_
    refine va_get (D := g.1) (ci := 6) (v := .ref t_plan_q) (C := RX6) (T := TX6) (N := 11) hx hb hts inX6 hown hK hP 0 rfl rfl 0 (by decide) k18 (fun _ h9 => h9) rfl dX6_openFrom_6 ?_
    refine va_get (D := g.1) (ci := 2) (v := .int t_plan_doorCount) (C := RX2) (T := TX2) (N := 6) hx hb hts inX2 hown hK hP 1 rfl rfl 3 (by decide) k77 (fun _ h9 => h9) rfl dX6_openFrom_9 ?_
    refine lv_icmp_ge (tgt := 38) hx hb dX6_openFrom_12 (by decide) (fun c_4 => ?_) (fun c_4 => ?_)
    · have hf := ite_t hf c_4
      exact K_3 v2_1 v3_2 (congrArg (fun t => t.1) (hex _ (Option.some.inj hf).symm).symm) (congrArg (fun t => t.2) (hex _ (Option.some.inj hf).symm).symm) _ _ _ hP hS (lv_sub hl [2] rfl)
    · have hf := ite_f hf c_4
      refine lv_aload_n hx hb dX6_openFrom_15 rfl (lv_at hl 0 rfl) ?_
      refine lv_iload_n hx hb dX6_openFrom_16 rfl (lv_at hl 3 rfl) ?_
      refine lv_iload_n hx hb dX6_openFrom_17 rfl (lv_at hl 1 rfl) ?_
      obtain ⟨r_5, hc_6, hf⟩ := ob1_e hf
      refine kV_i (wn := [oX6 t_q t_plan_q t_secondEnds_q t_string_q t_barred t_period t_his t_beast t_habit t_onString t_step t_eaten, oX2 t_plan_q t_plan_firstEnds_q t_plan_rules_q t_plan_rooms t_plan_doorCount t_plan_ruleCount t_plan_stringLength, aI g t_plan_firstEnds_q 10 t_plan_firstEnds, aI g t_secondEnds_q 10 t_secondEnds]) (As := [.int v3_2, .int p1]) (rest := []) (c_X6_across l g _ t_q t_plan_q t_secondEnds_q t_string_q t_plan_firstEnds_q t_plan_rules_q t_barred t_period t_his t_beast t_habit t_onString t_step t_eaten t_plan_rooms t_plan_doorCount t_plan_ruleCount t_plan_stringLength t_plan_firstEnds t_secondEnds v3_2 p1 r_5 hc_6) ⟨hx, hb, hml, hown, hts⟩ (cwV 2 hts gX6_openFrom_X6_across rfl rfl rfl (by decide +kernel) ⟨by decide, by decide⟩) hK hz hk hP (hD.re rfl) hS hA [0, 1, 2, 3] rfl rfl rfl rfl rfl rfl rfl hl.1 rfl (Nat.le_of_ble_eq_true rfl) dX6_openFrom_18 (fun H locs hP hS => ?_)
      refine lv_bipush (v := (-4 : Int32)) hx hb dX6_openFrom_21 (by decide) ?_
      obtain ⟨j_8, hj_8, hf⟩ := jn1_e hf
      have J_8 : ∀ (v2_7 : Int32), j_8 v2_7 = some z_3 → ∀ (H : Heap) (locs : List Loc) (ls : Array Slot), va_P g.1 vwCl [oX6 t_q t_plan_q t_secondEnds_q t_string_q t_barred t_period t_his t_beast t_habit t_onString t_step t_eaten, oX2 t_plan_q t_plan_firstEnds_q t_plan_rules_q t_plan_rooms t_plan_doorCount t_plan_ruleCount t_plan_stringLength, aI g t_plan_firstEnds_q 10 t_plan_firstEnds, aI g t_secondEnds_q 10 t_secondEnds] H → va_S A s.heap H locs → lv_has ls 4 [(0, .ref t_q), (1, .int p1), (2, .int v2_7), (3, .int v3_2)] → W p l e rmX6_openFrom s m args below meth c H locs 0 0 Q (F0 m 32 ls []) := by
        intro v2_7 hf H locs ls hP hS hl
        rw [hj_8] at hf
        obtain ⟨v3_9, ev3_9, hf⟩ := bnd_e hf
        refine lv_iinc (v := v3_9) (lv' := [(3, .int v3_9), (0, .ref t_q), (1, .int p1), (2, .int v2_7)]) hx hb dX6_openFrom_32 hl (k := 3) rfl (by rw [ev3_9]; rfl) (by decide) rfl (fun ls hl => ?_)
        refine lv_goto (tgt := 4) hx hb dX6_openFrom_35 (by decide) ?_
        exact hrec v2_7 v3_9 (Option.some.inj hf).symm _ _ _ hP hS (lv_sub hl [1, 2, 3, 0] rfl)
      refine lv_icmp_eq (tgt := 32) hx hb dX6_openFrom_23 (by decide) (fun c_10 => ?_) (fun c_10 => ?_)
      · have hf := ite_t hf c_10
        exact J_8 v2_1 hf _ _ _ hP hS (lv_sub hl [0, 1, 2, 3] rfl)
      · have hf := ite_f hf c_10
        refine lv_iload_n hx hb dX6_openFrom_26 rfl (lv_at hl 2 rfl) ?_
        refine lv_iconst (v := (1 : Int32)) hx hb dX6_openFrom_27 (by decide) ?_
        refine lv_iload_n hx hb dX6_openFrom_28 rfl (lv_at hl 3 rfl) ?_
        refine lv_ishl hx hb dX6_openFrom_29 ?_
        refine lv_ior hx hb dX6_openFrom_30 ?_
        obtain ⟨v2_11, ev2_11, hf⟩ := bnd_e hf
        refine tp_i ev2_11 ?_
        refine lv_istore_n (lv' := [(2, .int v2_11), (0, .ref t_q), (1, .int p1), (3, .int v3_2)]) hx hb dX6_openFrom_31 rfl hl (by decide) rfl (fun ls hl => ?_)
        exact J_8 v2_11 hf _ _ _ hP hS (lv_sub hl [1, 2, 0, 3] rfl)
  exact L_3 FU (0 : Int32) (0 : Int32) ho_3 _ _ _ hP hS (lv_sub hl [2, 3, 1, 0] rfl)
