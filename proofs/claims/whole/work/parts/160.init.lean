abbrev rmX2_init : Room := { frames := 1, cells := 2, slots := 16, locals := 20 }
set_option maxHeartbeats 4000000 in
set_option maxRecDepth 100000 in
theorem c_X2_init (l : Launch) (g : Gh) (sz : Nat) (t_q : Nat) : CN l yX2_init wsX2_init rmX2_init [.ref t_q] g sz [(t_q, .inr (2, [.null, .null, .int 0, .int 0, .int 0, .int 0]))] 2 16 (fun ad => [(t_q, .inr (2, [.ref (ad 0), .ref (ad 1), .int (2 : Int32), .int (0 : Int32), .int (0 : Int32), .int (12 : Int32)])), aI g (ad 0) 10 (fun _ => 0), aI g (ad 1) 6 (fun _ => 0)]) := by
  refine ent_n (cc := cX2_init) (maxL := 1) (by decide) rfl (Nat.le_of_ble_eq_true rfl) ?_
  intro p e s m args below meth c A Q hx hb hml hin hown hts hK hz hk hA hD hP hS hret ls hl
  have hin : meth.name = "<init>" := hin
  have hown : s.vm.findClass RX2 = some m.cls := hown
  have inX2 : ∀ w ∈ u_ws RX2 TX2 6, w ∈ wsX2_init := by decide +kernel
  have k9 := hts (.fieldLink RX2 9 "ThreadMoved$Plan" "firstEnds" "[I") (by decide +kernel)
  have k15 := hts (.fieldLink RX2 15 "ThreadMoved$Plan" "rules" "[I") (by decide +kernel)
  have hl : lv_has ls 1 [(0, .ref t_q)] := hl
  refine lv_aload_n hx hb dX2_init_0 rfl (lv_at hl 0 rfl) ?_
  refine W.objInit hx hb hown (hts (.methodLink RX2 3 objectInit) (by decide +kernel)) (hts (.instanceMethod objectInit) (by decide +kernel)) (hts (.code objectInit ⟨#[0xb1]⟩ 1 none) (by decide +kernel)) rfl (by rw [hml]; exact hl.1) rfl dX2_init_1 (Nat.le_of_ble_eq_true rfl) (Nat.le_of_ble_eq_true rfl) ?_
  refine W.eq (g2 := F0 m 4 ls []) rfl ?_
  refine lv_aload_n hx hb dX2_init_4 rfl (lv_at hl 0 rfl) ?_
  refine lv_bipush (v := (10 : Int32)) hx hb dX2_init_5 (by decide) ?_
  refine va_newa (atype := .int) (ty := .int) (N' := 10) (a0 := (10, .inl (fun _ => 0))) hx hb (hts (.arrayClass .int) (by decide +kernel)) rfl hK hP (hD.re rfl) hS hA (new_I 10) (by decide) (by decide) (by decide) (by decide) (by decide) dX2_init_7 (fun q_1 cA H hK2 hP hD hS => ?_)
  obtain rfl := arr_I hK hK2
  have hP : va_P g.1 vwCl [(t_q, .inr (2, [.null, .null, .int 0, .int 0, .int 0, .int 0])), aI g q_1 10 (fun _ => 0)] H := hP
  have hD : va_D A [(t_q, .inr (2, [.null, .null, .int 0, .int 0, .int 0, .int 0])), aI g q_1 10 (fun _ => 0)] := hD
  refine va_putF (D := g.1) (ci := 2) (v := .ref q_1) (ty := .array .int) (C := RX2) (T := TX2) (N := 6) hx hb hts inX2 tyX2 tyX2_ok nmX2 hown hK hP (hD.re rfl) hS 0 rfl rfl 0 (by decide) k9 (fun _ h9 => h9) rfl hin rfl (by decide +kernel) rfl rfl (Nat.le_of_ble_eq_true rfl) dX2_init_9 (fun H locs hP _ hS => ?_)
  have hP : va_P g.1 vwCl [(t_q, .inr (2, [.ref q_1, .null, .int 0, .int 0, .int 0, .int 0])), aI g q_1 10 (fun _ => 0)] H := hP
  refine lv_aload_n hx hb dX2_init_12 rfl (lv_at hl 0 rfl) ?_
  refine lv_bipush (v := (6 : Int32)) hx hb dX2_init_13 (by decide) ?_
  refine va_newa (atype := .int) (ty := .int) (N' := 6) (a0 := (6, .inl (fun _ => 0))) hx hb (hts (.arrayClass .int) (by decide +kernel)) rfl hK hP (hD.re rfl) hS hA (new_I 6) (by decide) (by decide) (by decide) (by decide) (by decide) dX2_init_15 (fun q_2 cA H hK2 hP hD hS => ?_)
  obtain rfl := arr_I hK hK2
  have hP : va_P g.1 vwCl [(t_q, .inr (2, [.ref q_1, .null, .int 0, .int 0, .int 0, .int 0])), aI g q_1 10 (fun _ => 0), aI g q_2 6 (fun _ => 0)] H := hP
  have hD : va_D A [(t_q, .inr (2, [.ref q_1, .null, .int 0, .int 0, .int 0, .int 0])), aI g q_1 10 (fun _ => 0), aI g q_2 6 (fun _ => 0)] := hD
  refine va_putF (D := g.1) (ci := 2) (v := .ref q_2) (ty := .array .int) (C := RX2) (T := TX2) (N := 6) hx hb hts inX2 tyX2 tyX2_ok nmX2 hown hK hP (hD.re rfl) hS 0 rfl rfl 1 (by decide) k15 (fun _ h9 => h9) rfl hin rfl (by decide +kernel) rfl rfl (Nat.le_of_ble_eq_true rfl) dX2_init_17 (fun H locs hP _ hS => ?_)
  have hP : va_P g.1 vwCl [(t_q, .inr (2, [.ref q_1, .ref q_2, .int 0, .int 0, .int 0, .int 0])), aI g q_1 10 (fun _ => 0), aI g q_2 6 (fun _ => 0)] H := hP
  refine lv_aload_n hx hb dX2_init_20 rfl (lv_at hl 0 rfl) ?_
  refine kVg_v (wn := [(t_q, .inr (2, [.ref q_1, .ref q_2, .int (2 : Int32), .int (0 : Int32), .int (0 : Int32), .int (12 : Int32)])), aI g q_1 10 (fun _ => 0), aI g q_2 6 (fun _ => 0)]) (As := []) (rest := []) (c_X2_reset l g _ t_q q_1 q_2 (0) (0) (0) (0) (0 : Int32) (2 : Int32) (0 : Int32) (12 : Int32) rfl) ⟨hx, hb, hml, hown, hts⟩ (cwV 0 hts gX2_init_X2_reset rfl rfl rfl (by decide +kernel) ⟨by decide, by decide⟩) ⟨by decide, by decide⟩ hK hz hk hP (hD.re rfl) hS hA [0] rfl rfl rfl rfl rfl rfl rfl hl.1 rfl (Nat.le_of_ble_eq_true rfl) dX2_init_21 (fun H locs hP hS => ?_)
  have hP : va_P g.1 vwCl [(t_q, .inr (2, [.ref q_1, .ref q_2, .int (2 : Int32), .int (0 : Int32), .int (0 : Int32), .int (12 : Int32)])), aI g q_1 10 (fun _ => 0), aI g q_2 6 (fun _ => 0)] H := hP
  have hP : va_P g.1 vwCl ((fun ad : Nat → Nat => ([(t_q, .inr (2, [.ref (ad 0), .ref (ad 1), .int (2 : Int32), .int (0 : Int32), .int (0 : Int32), .int (12 : Int32)])), aI g (ad 0) 10 (fun _ => 0), aI g (ad 1) 6 (fun _ => 0)] : va_W)) (fun k => ([q_1, q_2] : List Nat).getD k 0)) H := hP
  have hD : va_D A ((fun ad : Nat → Nat => ([(t_q, .inr (2, [.ref (ad 0), .ref (ad 1), .int (2 : Int32), .int (0 : Int32), .int (0 : Int32), .int (12 : Int32)])), aI g (ad 0) 10 (fun _ => 0), aI g (ad 1) 6 (fun _ => 0)] : va_W)) (fun k => ([q_1, q_2] : List Nat).getD k 0)) := hD.re rfl
  exact hret (fun k => ([q_1, q_2] : List Nat).getD k 0) _ _ _ _ hP hD hS dX2_init_24

abbrev rmX6_init : Room := { frames := 1, cells := 2, slots := 22, locals := 20 }
set_option maxHeartbeats 4000000 in
set_option maxRecDepth 100000 in
theorem c_X6_init (l : Launch) (g : Gh) (sz : Nat) (t_q a1_q : Nat) : CN l yX6_init wsX6_init rmX6_init [.ref t_q, .ref a1_q] g sz [(t_q, .inr (6, [.null, .null, .null, .int 0, .int 0, .int 0, .int 0, .int 0, .int 0, .int 0, .int 0]))] 2 22 (fun ad => [(t_q, .inr (6, [.ref a1_q, .ref (ad 0), .ref (ad 1), .int (0 : Int32), .int (1 : Int32), .int (0 : Int32), .int (-4 : Int32), .int (0 : Int32), .int (0 : Int32), .int (0 : Int32), .int (0 : Int32)])), aI g (ad 0) 10 (fun _ => 0), aI g (ad 1) 12 (fun _ => 0)]) := by
  refine ent_n (cc := cX6_init) (maxL := 2) (by decide) rfl (Nat.le_of_ble_eq_true rfl) ?_
  intro p e s m args below meth c A Q hx hb hml hin hown hts hK hz hk hA hD hP hS hret ls hl
  have hin : meth.name = "<init>" := hin
  have hown : s.vm.findClass RX6 = some m.cls := hown
  have inX6 : ∀ w ∈ u_ws RX6 TX6 11, w ∈ wsX6_init := by decide +kernel
  have k9 := hts (.fieldLink RX6 9 "ThreadMoved$State" "secondEnds" "[I") (by decide +kernel)
  have k15 := hts (.fieldLink RX6 15 "ThreadMoved$State" "string" "[I") (by decide +kernel)
  have k18 := hts (.fieldLink RX6 18 "ThreadMoved$State" "plan" "LThreadMoved$Plan;") (by decide +kernel)
  have hl : lv_has ls 2 [(0, .ref t_q), (1, .ref a1_q)] := hl
  refine lv_aload_n hx hb dX6_init_0 rfl (lv_at hl 0 rfl) ?_
  refine W.objInit hx hb hown (hts (.methodLink RX6 3 objectInit) (by decide +kernel)) (hts (.instanceMethod objectInit) (by decide +kernel)) (hts (.code objectInit ⟨#[0xb1]⟩ 1 none) (by decide +kernel)) rfl (by rw [hml]; exact hl.1) rfl dX6_init_1 (Nat.le_of_ble_eq_true rfl) (Nat.le_of_ble_eq_true rfl) ?_
  refine W.eq (g2 := F0 m 4 ls []) rfl ?_
  refine lv_aload_n hx hb dX6_init_4 rfl (lv_at hl 0 rfl) ?_
  refine lv_bipush (v := (10 : Int32)) hx hb dX6_init_5 (by decide) ?_
  refine va_newa (atype := .int) (ty := .int) (N' := 10) (a0 := (10, .inl (fun _ => 0))) hx hb (hts (.arrayClass .int) (by decide +kernel)) rfl hK hP (hD.re rfl) hS hA (new_I 10) (by decide) (by decide) (by decide) (by decide) (by decide) dX6_init_7 (fun q_1 cA H hK2 hP hD hS => ?_)
  obtain rfl := arr_I hK hK2
  have hP : va_P g.1 vwCl [(t_q, .inr (6, [.null, .null, .null, .int 0, .int 0, .int 0, .int 0, .int 0, .int 0, .int 0, .int 0])), aI g q_1 10 (fun _ => 0)] H := hP
  have hD : va_D A [(t_q, .inr (6, [.null, .null, .null, .int 0, .int 0, .int 0, .int 0, .int 0, .int 0, .int 0, .int 0])), aI g q_1 10 (fun _ => 0)] := hD
  refine va_putF (D := g.1) (ci := 6) (v := .ref q_1) (ty := .array .int) (C := RX6) (T := TX6) (N := 11) hx hb hts inX6 tyX6 tyX6_ok nmX6 hown hK hP (hD.re rfl) hS 0 rfl rfl 1 (by decide) k9 (fun _ h9 => h9) rfl hin rfl (by decide +kernel) rfl rfl (Nat.le_of_ble_eq_true rfl) dX6_init_9 (fun H locs hP _ hS => ?_)
  have hP : va_P g.1 vwCl [(t_q, .inr (6, [.null, .ref q_1, .null, .int 0, .int 0, .int 0, .int 0, .int 0, .int 0, .int 0, .int 0])), aI g q_1 10 (fun _ => 0)] H := hP
  refine lv_aload_n hx hb dX6_init_12 rfl (lv_at hl 0 rfl) ?_
  refine lv_bipush (v := (12 : Int32)) hx hb dX6_init_13 (by decide) ?_
  refine va_newa (atype := .int) (ty := .int) (N' := 12) (a0 := (12, .inl (fun _ => 0))) hx hb (hts (.arrayClass .int) (by decide +kernel)) rfl hK hP (hD.re rfl) hS hA (new_I 12) (by decide) (by decide) (by decide) (by decide) (by decide) dX6_init_15 (fun q_2 cA H hK2 hP hD hS => ?_)
  obtain rfl := arr_I hK hK2
  have hP : va_P g.1 vwCl [(t_q, .inr (6, [.null, .ref q_1, .null, .int 0, .int 0, .int 0, .int 0, .int 0, .int 0, .int 0, .int 0])), aI g q_1 10 (fun _ => 0), aI g q_2 12 (fun _ => 0)] H := hP
  have hD : va_D A [(t_q, .inr (6, [.null, .ref q_1, .null, .int 0, .int 0, .int 0, .int 0, .int 0, .int 0, .int 0, .int 0])), aI g q_1 10 (fun _ => 0), aI g q_2 12 (fun _ => 0)] := hD
  refine va_putF (D := g.1) (ci := 6) (v := .ref q_2) (ty := .array .int) (C := RX6) (T := TX6) (N := 11) hx hb hts inX6 tyX6 tyX6_ok nmX6 hown hK hP (hD.re rfl) hS 0 rfl rfl 2 (by decide) k15 (fun _ h9 => h9) rfl hin rfl (by decide +kernel) rfl rfl (Nat.le_of_ble_eq_true rfl) dX6_init_17 (fun H locs hP _ hS => ?_)
  have hP : va_P g.1 vwCl [(t_q, .inr (6, [.null, .ref q_1, .ref q_2, .int 0, .int 0, .int 0, .int 0, .int 0, .int 0, .int 0, .int 0])), aI g q_1 10 (fun _ => 0), aI g q_2 12 (fun _ => 0)] H := hP
  refine lv_aload_n hx hb dX6_init_20 rfl (lv_at hl 0 rfl) ?_
  refine lv_aload_n hx hb dX6_init_21 rfl (lv_at hl 1 rfl) ?_
  refine va_putF (D := g.1) (ci := 6) (v := .ref a1_q) (ty := .object "ThreadMoved$Plan") (C := RX6) (T := TX6) (N := 11) hx hb hts inX6 tyX6 tyX6_ok nmX6 hown hK hP (hD.re rfl) hS 0 rfl rfl 0 (by decide) k18 (fun _ h9 => h9) rfl hin rfl (by decide +kernel) rfl rfl (Nat.le_of_ble_eq_true rfl) dX6_init_22 (fun H locs hP _ hS => ?_)
  have hP : va_P g.1 vwCl [(t_q, .inr (6, [.ref a1_q, .ref q_1, .ref q_2, .int 0, .int 0, .int 0, .int 0, .int 0, .int 0, .int 0, .int 0])), aI g q_1 10 (fun _ => 0), aI g q_2 12 (fun _ => 0)] H := hP
  refine lv_aload_n hx hb dX6_init_25 rfl (lv_at hl 0 rfl) ?_
  refine kVg_v (wn := [(t_q, .inr (6, [.ref a1_q, .ref q_1, .ref q_2, .int (0 : Int32), .int (1 : Int32), .int (0 : Int32), .int (-4 : Int32), .int (0 : Int32), .int (0 : Int32), .int (0 : Int32), .int (0 : Int32)])), aI g q_1 10 (fun _ => 0), aI g q_2 12 (fun _ => 0)]) (As := []) (rest := []) (c_X6_reset l g _ t_q a1_q q_1 q_2 (0) (0) (0) (0) (0) (0) (0) (0) (0 : Int32) (-4 : Int32) (0 : Int32) (0 : Int32) (0 : Int32) (0 : Int32) (1 : Int32) (0 : Int32) rfl) ⟨hx, hb, hml, hown, hts⟩ (cwV 0 hts gX6_init_X6_reset rfl rfl rfl (by decide +kernel) ⟨by decide, by decide⟩) ⟨by decide, by decide⟩ hK hz hk hP (hD.re rfl) hS hA [0] rfl rfl rfl rfl rfl rfl rfl hl.1 rfl (Nat.le_of_ble_eq_true rfl) dX6_init_26 (fun H locs hP hS => ?_)
  have hP : va_P g.1 vwCl [(t_q, .inr (6, [.ref a1_q, .ref q_1, .ref q_2, .int (0 : Int32), .int (1 : Int32), .int (0 : Int32), .int (-4 : Int32), .int (0 : Int32), .int (0 : Int32), .int (0 : Int32), .int (0 : Int32)])), aI g q_1 10 (fun _ => 0), aI g q_2 12 (fun _ => 0)] H := hP
  have hP : va_P g.1 vwCl ((fun ad : Nat → Nat => ([(t_q, .inr (6, [.ref a1_q, .ref (ad 0), .ref (ad 1), .int (0 : Int32), .int (1 : Int32), .int (0 : Int32), .int (-4 : Int32), .int (0 : Int32), .int (0 : Int32), .int (0 : Int32), .int (0 : Int32)])), aI g (ad 0) 10 (fun _ => 0), aI g (ad 1) 12 (fun _ => 0)] : va_W)) (fun k => ([q_1, q_2] : List Nat).getD k 0)) H := hP
  have hD : va_D A ((fun ad : Nat → Nat => ([(t_q, .inr (6, [.ref a1_q, .ref (ad 0), .ref (ad 1), .int (0 : Int32), .int (1 : Int32), .int (0 : Int32), .int (-4 : Int32), .int (0 : Int32), .int (0 : Int32), .int (0 : Int32), .int (0 : Int32)])), aI g (ad 0) 10 (fun _ => 0), aI g (ad 1) 12 (fun _ => 0)] : va_W)) (fun k => ([q_1, q_2] : List Nat).getD k 0)) := hD.re rfl
  exact hret (fun k => ([q_1, q_2] : List Nat).getD k 0) _ _ _ _ hP hD hS dX6_init_29

abbrev rmX0_init : Room := { frames := 1, cells := 3, slots := 18, locals := 12 }
set_option maxHeartbeats 4000000 in
set_option maxRecDepth 100000 in
theorem c_X0_init (l : Launch) (g : Gh) (sz : Nat) (t_q : Nat) : CN l yX0_init wsX0_init rmX0_init [.ref t_q] g sz [(t_q, .inr (0, [.null, .null, .null, .int 0]))] 3 18 (fun ad => [(t_q, .inr (0, [.ref (ad 0), .ref (ad 1), .ref (ad 2), .int (0 : Int32)])), aI g (ad 0) 6 (fun _ => 0), aI g (ad 1) 6 (fun _ => 0), aI g (ad 2) 6 (fun _ => 0)]) := by
  refine ent_n (cc := cX0_init) (maxL := 1) (by decide) rfl (Nat.le_of_ble_eq_true rfl) ?_
  intro p e s m args below meth c A Q hx hb hml hin hown hts hK hz hk hA hD hP hS hret ls hl
  have hin : meth.name = "<init>" := hin
  have hown : s.vm.findClass RX0 = some m.cls := hown
  have inX0 : ∀ w ∈ u_ws RX0 TX0 4, w ∈ wsX0_init := by decide +kernel
  have k9 := hts (.fieldLink RX0 9 "ThreadMoved$Notes" "times" "[I") (by decide +kernel)
  have k15 := hts (.fieldLink RX0 15 "ThreadMoved$Notes" "subjects" "[I") (by decide +kernel)
  have k18 := hts (.fieldLink RX0 18 "ThreadMoved$Notes" "values" "[I") (by decide +kernel)
  have k21 := hts (.fieldLink RX0 21 "ThreadMoved$Notes" "size" "I") (by decide +kernel)
  have hl : lv_has ls 1 [(0, .ref t_q)] := hl
  refine lv_aload_n hx hb dX0_init_0 rfl (lv_at hl 0 rfl) ?_
  refine W.objInit hx hb hown (hts (.methodLink RX0 3 objectInit) (by decide +kernel)) (hts (.instanceMethod objectInit) (by decide +kernel)) (hts (.code objectInit ⟨#[0xb1]⟩ 1 none) (by decide +kernel)) rfl (by rw [hml]; exact hl.1) rfl dX0_init_1 (Nat.le_of_ble_eq_true rfl) (Nat.le_of_ble_eq_true rfl) ?_
  refine W.eq (g2 := F0 m 4 ls []) rfl ?_
  refine lv_aload_n hx hb dX0_init_4 rfl (lv_at hl 0 rfl) ?_
  refine lv_bipush (v := (6 : Int32)) hx hb dX0_init_5 (by decide) ?_
  refine va_newa (atype := .int) (ty := .int) (N' := 6) (a0 := (6, .inl (fun _ => 0))) hx hb (hts (.arrayClass .int) (by decide +kernel)) rfl hK hP (hD.re rfl) hS hA (new_I 6) (by decide) (by decide) (by decide) (by decide) (by decide) dX0_init_7 (fun q_1 cA H hK2 hP hD hS => ?_)
  obtain rfl := arr_I hK hK2
  have hP : va_P g.1 vwCl [(t_q, .inr (0, [.null, .null, .null, .int 0])), aI g q_1 6 (fun _ => 0)] H := hP
  have hD : va_D A [(t_q, .inr (0, [.null, .null, .null, .int 0])), aI g q_1 6 (fun _ => 0)] := hD
  refine va_putF (D := g.1) (ci := 0) (v := .ref q_1) (ty := .array .int) (C := RX0) (T := TX0) (N := 4) hx hb hts inX0 tyX0 tyX0_ok nmX0 hown hK hP (hD.re rfl) hS 0 rfl rfl 0 (by decide) k9 (fun _ h9 => h9) rfl hin rfl (by decide +kernel) rfl rfl (Nat.le_of_ble_eq_true rfl) dX0_init_9 (fun H locs hP _ hS => ?_)
  have hP : va_P g.1 vwCl [(t_q, .inr (0, [.ref q_1, .null, .null, .int 0])), aI g q_1 6 (fun _ => 0)] H := hP
  refine lv_aload_n hx hb dX0_init_12 rfl (lv_at hl 0 rfl) ?_
  refine lv_bipush (v := (6 : Int32)) hx hb dX0_init_13 (by decide) ?_
  refine va_newa (atype := .int) (ty := .int) (N' := 6) (a0 := (6, .inl (fun _ => 0))) hx hb (hts (.arrayClass .int) (by decide +kernel)) rfl hK hP (hD.re rfl) hS hA (new_I 6) (by decide) (by decide) (by decide) (by decide) (by decide) dX0_init_15 (fun q_2 cA H hK2 hP hD hS => ?_)
  obtain rfl := arr_I hK hK2
  have hP : va_P g.1 vwCl [(t_q, .inr (0, [.ref q_1, .null, .null, .int 0])), aI g q_1 6 (fun _ => 0), aI g q_2 6 (fun _ => 0)] H := hP
  have hD : va_D A [(t_q, .inr (0, [.ref q_1, .null, .null, .int 0])), aI g q_1 6 (fun _ => 0), aI g q_2 6 (fun _ => 0)] := hD
  refine va_putF (D := g.1) (ci := 0) (v := .ref q_2) (ty := .array .int) (C := RX0) (T := TX0) (N := 4) hx hb hts inX0 tyX0 tyX0_ok nmX0 hown hK hP (hD.re rfl) hS 0 rfl rfl 1 (by decide) k15 (fun _ h9 => h9) rfl hin rfl (by decide +kernel) rfl rfl (Nat.le_of_ble_eq_true rfl) dX0_init_17 (fun H locs hP _ hS => ?_)
  have hP : va_P g.1 vwCl [(t_q, .inr (0, [.ref q_1, .ref q_2, .null, .int 0])), aI g q_1 6 (fun _ => 0), aI g q_2 6 (fun _ => 0)] H := hP
  refine lv_aload_n hx hb dX0_init_20 rfl (lv_at hl 0 rfl) ?_
  refine lv_bipush (v := (6 : Int32)) hx hb dX0_init_21 (by decide) ?_
  refine va_newa (atype := .int) (ty := .int) (N' := 6) (a0 := (6, .inl (fun _ => 0))) hx hb (hts (.arrayClass .int) (by decide +kernel)) rfl hK hP (hD.re rfl) hS hA (new_I 6) (by decide) (by decide) (by decide) (by decide) (by decide) dX0_init_23 (fun q_3 cA H hK2 hP hD hS => ?_)
  obtain rfl := arr_I hK hK2
  have hP : va_P g.1 vwCl [(t_q, .inr (0, [.ref q_1, .ref q_2, .null, .int 0])), aI g q_1 6 (fun _ => 0), aI g q_2 6 (fun _ => 0), aI g q_3 6 (fun _ => 0)] H := hP
  have hD : va_D A [(t_q, .inr (0, [.ref q_1, .ref q_2, .null, .int 0])), aI g q_1 6 (fun _ => 0), aI g q_2 6 (fun _ => 0), aI g q_3 6 (fun _ => 0)] := hD
  refine va_putF (D := g.1) (ci := 0) (v := .ref q_3) (ty := .array .int) (C := RX0) (T := TX0) (N := 4) hx hb hts inX0 tyX0 tyX0_ok nmX0 hown hK hP (hD.re rfl) hS 0 rfl rfl 2 (by decide) k18 (fun _ h9 => h9) rfl hin rfl (by decide +kernel) rfl rfl (Nat.le_of_ble_eq_true rfl) dX0_init_25 (fun H locs hP _ hS => ?_)
  have hP : va_P g.1 vwCl [(t_q, .inr (0, [.ref q_1, .ref q_2, .ref q_3, .int 0])), aI g q_1 6 (fun _ => 0), aI g q_2 6 (fun _ => 0), aI g q_3 6 (fun _ => 0)] H := hP
  refine lv_aload_n hx hb dX0_init_28 rfl (lv_at hl 0 rfl) ?_
  refine lv_iconst (v := (0 : Int32)) hx hb dX0_init_29 (by decide) ?_
  refine va_put (D := g.1) (ci := 0) (v := .int (0 : Int32)) (ty := .int) (C := RX0) (T := TX0) (N := 4) hx hb hts inX0 tyX0 tyX0_ok nmX0 hown hK hP (hD.re rfl) hS 0 rfl rfl 3 (by decide) k21 (fun _ h9 => h9) rfl (by decide +kernel) rfl rfl (Nat.le_of_ble_eq_true rfl) dX0_init_30 (fun H locs hP _ hS => ?_)
  have hP : va_P g.1 vwCl [(t_q, .inr (0, [.ref q_1, .ref q_2, .ref q_3, .int (0 : Int32)])), aI g q_1 6 (fun _ => 0), aI g q_2 6 (fun _ => 0), aI g q_3 6 (fun _ => 0)] H := hP
  have hP : va_P g.1 vwCl ((fun ad : Nat → Nat => ([(t_q, .inr (0, [.ref (ad 0), .ref (ad 1), .ref (ad 2), .int (0 : Int32)])), aI g (ad 0) 6 (fun _ => 0), aI g (ad 1) 6 (fun _ => 0), aI g (ad 2) 6 (fun _ => 0)] : va_W)) (fun k => ([q_1, q_2, q_3] : List Nat).getD k 0)) H := hP
  have hD : va_D A ((fun ad : Nat → Nat => ([(t_q, .inr (0, [.ref (ad 0), .ref (ad 1), .ref (ad 2), .int (0 : Int32)])), aI g (ad 0) 6 (fun _ => 0), aI g (ad 1) 6 (fun _ => 0), aI g (ad 2) 6 (fun _ => 0)] : va_W)) (fun k => ([q_1, q_2, q_3] : List Nat).getD k 0)) := hD.re rfl
  exact hret (fun k => ([q_1, q_2, q_3] : List Nat).getD k 0) _ _ _ _ hP hD hS dX0_init_33

abbrev rmX1_init : Room := { frames := 1, cells := 1, slots := 240, locals := 12 }
set_option maxHeartbeats 4000000 in
set_option maxRecDepth 100000 in
theorem c_X1_init (l : Launch) (g : Gh) (sz : Nat) (t_q : Nat) : CN l yX1_init wsX1_init rmX1_init [.ref t_q] g sz [(t_q, .inr (1, [.null, .int 0]))] 1 240 (fun ad => [(t_q, .inr (1, [.ref (ad 0), .int 0])), aI g (ad 0) 240 (fun _ => 0)]) := by
  refine ent_n (cc := cX1_init) (maxL := 1) (by decide) rfl (Nat.le_of_ble_eq_true rfl) ?_
  intro p e s m args below meth c A Q hx hb hml hin hown hts hK hz hk hA hD hP hS hret ls hl
  have hin : meth.name = "<init>" := hin
  have hown : s.vm.findClass RX1 = some m.cls := hown
  have inX1 : ∀ w ∈ u_ws RX1 TX1 2, w ∈ wsX1_init := by decide +kernel
  have k9 := hts (.fieldLink RX1 9 "ThreadMoved$Passages" "ends" "[I") (by decide +kernel)
  have hl : lv_has ls 1 [(0, .ref t_q)] := hl
  refine lv_aload_n hx hb dX1_init_0 rfl (lv_at hl 0 rfl) ?_
  refine W.objInit hx hb hown (hts (.methodLink RX1 3 objectInit) (by decide +kernel)) (hts (.instanceMethod objectInit) (by decide +kernel)) (hts (.code objectInit ⟨#[0xb1]⟩ 1 none) (by decide +kernel)) rfl (by rw [hml]; exact hl.1) rfl dX1_init_1 (Nat.le_of_ble_eq_true rfl) (Nat.le_of_ble_eq_true rfl) ?_
  refine W.eq (g2 := F0 m 4 ls []) rfl ?_
  refine lv_aload_n hx hb dX1_init_4 rfl (lv_at hl 0 rfl) ?_
  refine lv_sipush (v := (240 : Int32)) hx hb dX1_init_5 (by decide) ?_
  refine va_newa (atype := .int) (ty := .int) (N' := 240) (a0 := (240, .inl (fun _ => 0))) hx hb (hts (.arrayClass .int) (by decide +kernel)) rfl hK hP (hD.re rfl) hS hA (new_I 240) (by decide) (by decide) (by decide) (by decide) (by decide) dX1_init_8 (fun q_1 cA H hK2 hP hD hS => ?_)
  obtain rfl := arr_I hK hK2
  have hP : va_P g.1 vwCl [(t_q, .inr (1, [.null, .int 0])), aI g q_1 240 (fun _ => 0)] H := hP
  have hD : va_D A [(t_q, .inr (1, [.null, .int 0])), aI g q_1 240 (fun _ => 0)] := hD
  refine va_putF (D := g.1) (ci := 1) (v := .ref q_1) (ty := .array .int) (C := RX1) (T := TX1) (N := 2) hx hb hts inX1 tyX1 tyX1_ok nmX1 hown hK hP (hD.re rfl) hS 0 rfl rfl 0 (by decide) k9 (fun _ h9 => h9) rfl hin rfl (by decide +kernel) rfl rfl (Nat.le_of_ble_eq_true rfl) dX1_init_10 (fun H locs hP _ hS => ?_)
  have hP : va_P g.1 vwCl [(t_q, .inr (1, [.ref q_1, .int 0])), aI g q_1 240 (fun _ => 0)] H := hP
  have hP : va_P g.1 vwCl ((fun ad : Nat → Nat => ([(t_q, .inr (1, [.ref (ad 0), .int 0])), aI g (ad 0) 240 (fun _ => 0)] : va_W)) (fun k => ([q_1] : List Nat).getD k 0)) H := hP
  have hD : va_D A ((fun ad : Nat → Nat => ([(t_q, .inr (1, [.ref (ad 0), .int 0])), aI g (ad 0) 240 (fun _ => 0)] : va_W)) (fun k => ([q_1] : List Nat).getD k 0)) := hD.re rfl
  exact hret (fun k => ([q_1] : List Nat).getD k 0) _ _ _ _ hP hD hS dX1_init_13

abbrev rmX4_init : Room := { frames := 1, cells := 5, slots := 4281, locals := 12 }
set_option maxHeartbeats 4000000 in
set_option maxRecDepth 100000 in
theorem c_X4_init (l : Launch) (g : Gh) (sz : Nat) (t_q : Nat) : CN l yX4_init wsX4_init rmX4_init [.ref t_q] g sz [(t_q, .inr (4, [.null, .null, .null, .null, .null, .long 0]))] 5 4281 (fun ad => [(t_q, .inr (4, [.ref (ad 0), .ref (ad 1), .ref (ad 2), .ref (ad 3), .ref (ad 4), .long 0])), aI g (ad 0) 1400 (fun _ => 0), aI g (ad 1) 1400 (fun _ => 0), aI g (ad 2) 1400 (fun _ => 0), aI g (ad 3) 25 (fun _ => 0), aI g (ad 4) 56 (fun _ => 0)]) := by
  refine ent_n (cc := cX4_init) (maxL := 1) (by decide) rfl (Nat.le_of_ble_eq_true rfl) ?_
  intro p e s m args below meth c A Q hx hb hml hin hown hts hK hz hk hA hD hP hS hret ls hl
  have hin : meth.name = "<init>" := hin
  have hown : s.vm.findClass RX4 = some m.cls := hown
  have inX4 : ∀ w ∈ u_ws RX4 TX4 6, w ∈ wsX4_init := by decide +kernel
  have k11 := hts (.fieldLink RX4 11 "ThreadMoved$Search" "pairs" "[I") (by decide +kernel)
  have k15 := hts (.fieldLink RX4 15 "ThreadMoved$Search" "parents" "[I") (by decide +kernel)
  have k18 := hts (.fieldLink RX4 18 "ThreadMoved$Search" "steps" "[I") (by decide +kernel)
  have k21 := hts (.fieldLink RX4 21 "ThreadMoved$Search" "sizes" "[I") (by decide +kernel)
  have k24 := hts (.fieldLink RX4 24 "ThreadMoved$Search" "prowls" "[I") (by decide +kernel)
  have hl : lv_has ls 1 [(0, .ref t_q)] := hl
  refine lv_aload_n hx hb dX4_init_0 rfl (lv_at hl 0 rfl) ?_
  refine W.objInit hx hb hown (hts (.methodLink RX4 5 objectInit) (by decide +kernel)) (hts (.instanceMethod objectInit) (by decide +kernel)) (hts (.code objectInit ⟨#[0xb1]⟩ 1 none) (by decide +kernel)) rfl (by rw [hml]; exact hl.1) rfl dX4_init_1 (Nat.le_of_ble_eq_true rfl) (Nat.le_of_ble_eq_true rfl) ?_
  refine W.eq (g2 := F0 m 4 ls []) rfl ?_
  refine lv_aload_n hx hb dX4_init_4 rfl (lv_at hl 0 rfl) ?_
  refine lv_sipush (v := (1400 : Int32)) hx hb dX4_init_5 (by decide) ?_
  refine va_newa (atype := .int) (ty := .int) (N' := 1400) (a0 := (1400, .inl (fun _ => 0))) hx hb (hts (.arrayClass .int) (by decide +kernel)) rfl hK hP (hD.re rfl) hS hA (new_I 1400) (by decide) (by decide) (by decide) (by decide) (by decide) dX4_init_8 (fun q_1 cA H hK2 hP hD hS => ?_)
  obtain rfl := arr_I hK hK2
  have hP : va_P g.1 vwCl [(t_q, .inr (4, [.null, .null, .null, .null, .null, .long 0])), aI g q_1 1400 (fun _ => 0)] H := hP
  have hD : va_D A [(t_q, .inr (4, [.null, .null, .null, .null, .null, .long 0])), aI g q_1 1400 (fun _ => 0)] := hD
  refine va_putF (D := g.1) (ci := 4) (v := .ref q_1) (ty := .array .int) (C := RX4) (T := TX4) (N := 6) hx hb hts inX4 tyX4 tyX4_ok nmX4 hown hK hP (hD.re rfl) hS 0 rfl rfl 0 (by decide) k11 (fun _ h9 => h9) rfl hin rfl (by decide +kernel) rfl rfl (Nat.le_of_ble_eq_true rfl) dX4_init_10 (fun H locs hP _ hS => ?_)
  have hP : va_P g.1 vwCl [(t_q, .inr (4, [.ref q_1, .null, .null, .null, .null, .long 0])), aI g q_1 1400 (fun _ => 0)] H := hP
  refine lv_aload_n hx hb dX4_init_13 rfl (lv_at hl 0 rfl) ?_
  refine lv_sipush (v := (1400 : Int32)) hx hb dX4_init_14 (by decide) ?_
  refine va_newa (atype := .int) (ty := .int) (N' := 1400) (a0 := (1400, .inl (fun _ => 0))) hx hb (hts (.arrayClass .int) (by decide +kernel)) rfl hK hP (hD.re rfl) hS hA (new_I 1400) (by decide) (by decide) (by decide) (by decide) (by decide) dX4_init_17 (fun q_2 cA H hK2 hP hD hS => ?_)
  obtain rfl := arr_I hK hK2
  have hP : va_P g.1 vwCl [(t_q, .inr (4, [.ref q_1, .null, .null, .null, .null, .long 0])), aI g q_1 1400 (fun _ => 0), aI g q_2 1400 (fun _ => 0)] H := hP
  have hD : va_D A [(t_q, .inr (4, [.ref q_1, .null, .null, .null, .null, .long 0])), aI g q_1 1400 (fun _ => 0), aI g q_2 1400 (fun _ => 0)] := hD
  refine va_putF (D := g.1) (ci := 4) (v := .ref q_2) (ty := .array .int) (C := RX4) (T := TX4) (N := 6) hx hb hts inX4 tyX4 tyX4_ok nmX4 hown hK hP (hD.re rfl) hS 0 rfl rfl 1 (by decide) k15 (fun _ h9 => h9) rfl hin rfl (by decide +kernel) rfl rfl (Nat.le_of_ble_eq_true rfl) dX4_init_19 (fun H locs hP _ hS => ?_)
  have hP : va_P g.1 vwCl [(t_q, .inr (4, [.ref q_1, .ref q_2, .null, .null, .null, .long 0])), aI g q_1 1400 (fun _ => 0), aI g q_2 1400 (fun _ => 0)] H := hP
  refine lv_aload_n hx hb dX4_init_22 rfl (lv_at hl 0 rfl) ?_
  refine lv_sipush (v := (1400 : Int32)) hx hb dX4_init_23 (by decide) ?_
  refine va_newa (atype := .int) (ty := .int) (N' := 1400) (a0 := (1400, .inl (fun _ => 0))) hx hb (hts (.arrayClass .int) (by decide +kernel)) rfl hK hP (hD.re rfl) hS hA (new_I 1400) (by decide) (by decide) (by decide) (by decide) (by decide) dX4_init_26 (fun q_3 cA H hK2 hP hD hS => ?_)
  obtain rfl := arr_I hK hK2
  have hP : va_P g.1 vwCl [(t_q, .inr (4, [.ref q_1, .ref q_2, .null, .null, .null, .long 0])), aI g q_1 1400 (fun _ => 0), aI g q_2 1400 (fun _ => 0), aI g q_3 1400 (fun _ => 0)] H := hP
  have hD : va_D A [(t_q, .inr (4, [.ref q_1, .ref q_2, .null, .null, .null, .long 0])), aI g q_1 1400 (fun _ => 0), aI g q_2 1400 (fun _ => 0), aI g q_3 1400 (fun _ => 0)] := hD
  refine va_putF (D := g.1) (ci := 4) (v := .ref q_3) (ty := .array .int) (C := RX4) (T := TX4) (N := 6) hx hb hts inX4 tyX4 tyX4_ok nmX4 hown hK hP (hD.re rfl) hS 0 rfl rfl 2 (by decide) k18 (fun _ h9 => h9) rfl hin rfl (by decide +kernel) rfl rfl (Nat.le_of_ble_eq_true rfl) dX4_init_28 (fun H locs hP _ hS => ?_)
  have hP : va_P g.1 vwCl [(t_q, .inr (4, [.ref q_1, .ref q_2, .ref q_3, .null, .null, .long 0])), aI g q_1 1400 (fun _ => 0), aI g q_2 1400 (fun _ => 0), aI g q_3 1400 (fun _ => 0)] H := hP
  refine lv_aload_n hx hb dX4_init_31 rfl (lv_at hl 0 rfl) ?_
  refine lv_bipush (v := (25 : Int32)) hx hb dX4_init_32 (by decide) ?_
  refine va_newa (atype := .int) (ty := .int) (N' := 25) (a0 := (25, .inl (fun _ => 0))) hx hb (hts (.arrayClass .int) (by decide +kernel)) rfl hK hP (hD.re rfl) hS hA (new_I 25) (by decide) (by decide) (by decide) (by decide) (by decide) dX4_init_34 (fun q_4 cA H hK2 hP hD hS => ?_)
  obtain rfl := arr_I hK hK2
  have hP : va_P g.1 vwCl [(t_q, .inr (4, [.ref q_1, .ref q_2, .ref q_3, .null, .null, .long 0])), aI g q_1 1400 (fun _ => 0), aI g q_2 1400 (fun _ => 0), aI g q_3 1400 (fun _ => 0), aI g q_4 25 (fun _ => 0)] H := hP
  have hD : va_D A [(t_q, .inr (4, [.ref q_1, .ref q_2, .ref q_3, .null, .null, .long 0])), aI g q_1 1400 (fun _ => 0), aI g q_2 1400 (fun _ => 0), aI g q_3 1400 (fun _ => 0), aI g q_4 25 (fun _ => 0)] := hD
  refine va_putF (D := g.1) (ci := 4) (v := .ref q_4) (ty := .array .int) (C := RX4) (T := TX4) (N := 6) hx hb hts inX4 tyX4 tyX4_ok nmX4 hown hK hP (hD.re rfl) hS 0 rfl rfl 3 (by decide) k21 (fun _ h9 => h9) rfl hin rfl (by decide +kernel) rfl rfl (Nat.le_of_ble_eq_true rfl) dX4_init_36 (fun H locs hP _ hS => ?_)
  have hP : va_P g.1 vwCl [(t_q, .inr (4, [.ref q_1, .ref q_2, .ref q_3, .ref q_4, .null, .long 0])), aI g q_1 1400 (fun _ => 0), aI g q_2 1400 (fun _ => 0), aI g q_3 1400 (fun _ => 0), aI g q_4 25 (fun _ => 0)] H := hP
  refine lv_aload_n hx hb dX4_init_39 rfl (lv_at hl 0 rfl) ?_
  refine lv_bipush (v := (56 : Int32)) hx hb dX4_init_40 (by decide) ?_
  refine va_newa (atype := .int) (ty := .int) (N' := 56) (a0 := (56, .inl (fun _ => 0))) hx hb (hts (.arrayClass .int) (by decide +kernel)) rfl hK hP (hD.re rfl) hS hA (new_I 56) (by decide) (by decide) (by decide) (by decide) (by decide) dX4_init_42 (fun q_5 cA H hK2 hP hD hS => ?_)
  obtain rfl := arr_I hK hK2
  have hP : va_P g.1 vwCl [(t_q, .inr (4, [.ref q_1, .ref q_2, .ref q_3, .ref q_4, .null, .long 0])), aI g q_1 1400 (fun _ => 0), aI g q_2 1400 (fun _ => 0), aI g q_3 1400 (fun _ => 0), aI g q_4 25 (fun _ => 0), aI g q_5 56 (fun _ => 0)] H := hP
  have hD : va_D A [(t_q, .inr (4, [.ref q_1, .ref q_2, .ref q_3, .ref q_4, .null, .long 0])), aI g q_1 1400 (fun _ => 0), aI g q_2 1400 (fun _ => 0), aI g q_3 1400 (fun _ => 0), aI g q_4 25 (fun _ => 0), aI g q_5 56 (fun _ => 0)] := hD
  refine va_putF (D := g.1) (ci := 4) (v := .ref q_5) (ty := .array .int) (C := RX4) (T := TX4) (N := 6) hx hb hts inX4 tyX4 tyX4_ok nmX4 hown hK hP (hD.re rfl) hS 0 rfl rfl 4 (by decide) k24 (fun _ h9 => h9) rfl hin rfl (by decide +kernel) rfl rfl (Nat.le_of_ble_eq_true rfl) dX4_init_44 (fun H locs hP _ hS => ?_)
  have hP : va_P g.1 vwCl [(t_q, .inr (4, [.ref q_1, .ref q_2, .ref q_3, .ref q_4, .ref q_5, .long 0])), aI g q_1 1400 (fun _ => 0), aI g q_2 1400 (fun _ => 0), aI g q_3 1400 (fun _ => 0), aI g q_4 25 (fun _ => 0), aI g q_5 56 (fun _ => 0)] H := hP
  have hP : va_P g.1 vwCl ((fun ad : Nat → Nat => ([(t_q, .inr (4, [.ref (ad 0), .ref (ad 1), .ref (ad 2), .ref (ad 3), .ref (ad 4), .long 0])), aI g (ad 0) 1400 (fun _ => 0), aI g (ad 1) 1400 (fun _ => 0), aI g (ad 2) 1400 (fun _ => 0), aI g (ad 3) 25 (fun _ => 0), aI g (ad 4) 56 (fun _ => 0)] : va_W)) (fun k => ([q_1, q_2, q_3, q_4, q_5] : List Nat).getD k 0)) H := hP
  have hD : va_D A ((fun ad : Nat → Nat => ([(t_q, .inr (4, [.ref (ad 0), .ref (ad 1), .ref (ad 2), .ref (ad 3), .ref (ad 4), .long 0])), aI g (ad 0) 1400 (fun _ => 0), aI g (ad 1) 1400 (fun _ => 0), aI g (ad 2) 1400 (fun _ => 0), aI g (ad 3) 25 (fun _ => 0), aI g (ad 4) 56 (fun _ => 0)] : va_W)) (fun k => ([q_1, q_2, q_3, q_4, q_5] : List Nat).getD k 0)) := hD.re rfl
  exact hret (fun k => ([q_1, q_2, q_3, q_4, q_5] : List Nat).getD k 0) _ _ _ _ hP hD hS dX4_init_47

abbrev rmX5_init : Room := { frames := 1, cells := 1, slots := 40, locals := 12 }
set_option maxHeartbeats 4000000 in
set_option maxRecDepth 100000 in
theorem c_X5_init (l : Launch) (g : Gh) (sz : Nat) (t_q : Nat) : CN l yX5_init wsX5_init rmX5_init [.ref t_q] g sz [(t_q, .inr (5, [.null, .int 0, .int 0]))] 1 40 (fun ad => [(t_q, .inr (5, [.ref (ad 0), .int (0 : Int32), .int (-4 : Int32)])), aI g (ad 0) 40 (fun _ => 0)]) := by
  refine ent_n (cc := cX5_init) (maxL := 1) (by decide) rfl (Nat.le_of_ble_eq_true rfl) ?_
  intro p e s m args below meth c A Q hx hb hml hin hown hts hK hz hk hA hD hP hS hret ls hl
  have hin : meth.name = "<init>" := hin
  have hown : s.vm.findClass RX5 = some m.cls := hown
  have inX5 : ∀ w ∈ u_ws RX5 TX5 3, w ∈ wsX5_init := by decide +kernel
  have k9 := hts (.fieldLink RX5 9 "ThreadMoved$Sheet" "cells" "[I") (by decide +kernel)
  have k15 := hts (.fieldLink RX5 15 "ThreadMoved$Sheet" "lane" "I") (by decide +kernel)
  have k19 := hts (.fieldLink RX5 19 "ThreadMoved$Sheet" "size" "I") (by decide +kernel)
  have hl : lv_has ls 1 [(0, .ref t_q)] := hl
  refine lv_aload_n hx hb dX5_init_0 rfl (lv_at hl 0 rfl) ?_
  refine W.objInit hx hb hown (hts (.methodLink RX5 3 objectInit) (by decide +kernel)) (hts (.instanceMethod objectInit) (by decide +kernel)) (hts (.code objectInit ⟨#[0xb1]⟩ 1 none) (by decide +kernel)) rfl (by rw [hml]; exact hl.1) rfl dX5_init_1 (Nat.le_of_ble_eq_true rfl) (Nat.le_of_ble_eq_true rfl) ?_
  refine W.eq (g2 := F0 m 4 ls []) rfl ?_
  refine lv_aload_n hx hb dX5_init_4 rfl (lv_at hl 0 rfl) ?_
  refine lv_bipush (v := (40 : Int32)) hx hb dX5_init_5 (by decide) ?_
  refine va_newa (atype := .int) (ty := .int) (N' := 40) (a0 := (40, .inl (fun _ => 0))) hx hb (hts (.arrayClass .int) (by decide +kernel)) rfl hK hP (hD.re rfl) hS hA (new_I 40) (by decide) (by decide) (by decide) (by decide) (by decide) dX5_init_7 (fun q_1 cA H hK2 hP hD hS => ?_)
  obtain rfl := arr_I hK hK2
  have hP : va_P g.1 vwCl [(t_q, .inr (5, [.null, .int 0, .int 0])), aI g q_1 40 (fun _ => 0)] H := hP
  have hD : va_D A [(t_q, .inr (5, [.null, .int 0, .int 0])), aI g q_1 40 (fun _ => 0)] := hD
  refine va_putF (D := g.1) (ci := 5) (v := .ref q_1) (ty := .array .int) (C := RX5) (T := TX5) (N := 3) hx hb hts inX5 tyX5 tyX5_ok nmX5 hown hK hP (hD.re rfl) hS 0 rfl rfl 0 (by decide) k9 (fun _ h9 => h9) rfl hin rfl (by decide +kernel) rfl rfl (Nat.le_of_ble_eq_true rfl) dX5_init_9 (fun H locs hP _ hS => ?_)
  have hP : va_P g.1 vwCl [(t_q, .inr (5, [.ref q_1, .int 0, .int 0])), aI g q_1 40 (fun _ => 0)] H := hP
  refine lv_aload_n hx hb dX5_init_12 rfl (lv_at hl 0 rfl) ?_
  refine lv_iconst (v := (0 : Int32)) hx hb dX5_init_13 (by decide) ?_
  refine va_put (D := g.1) (ci := 5) (v := .int (0 : Int32)) (ty := .int) (C := RX5) (T := TX5) (N := 3) hx hb hts inX5 tyX5 tyX5_ok nmX5 hown hK hP (hD.re rfl) hS 0 rfl rfl 1 (by decide) k15 (fun _ h9 => h9) rfl (by decide +kernel) rfl rfl (Nat.le_of_ble_eq_true rfl) dX5_init_14 (fun H locs hP _ hS => ?_)
  have hP : va_P g.1 vwCl [(t_q, .inr (5, [.ref q_1, .int (0 : Int32), .int 0])), aI g q_1 40 (fun _ => 0)] H := hP
  refine lv_aload_n hx hb dX5_init_17 rfl (lv_at hl 0 rfl) ?_
  refine lv_bipush (v := (-4 : Int32)) hx hb dX5_init_18 (by decide) ?_
  refine va_put (D := g.1) (ci := 5) (v := .int (-4 : Int32)) (ty := .int) (C := RX5) (T := TX5) (N := 3) hx hb hts inX5 tyX5 tyX5_ok nmX5 hown hK hP (hD.re rfl) hS 0 rfl rfl 2 (by decide) k19 (fun _ h9 => h9) rfl (by decide +kernel) rfl rfl (Nat.le_of_ble_eq_true rfl) dX5_init_20 (fun H locs hP _ hS => ?_)
  have hP : va_P g.1 vwCl [(t_q, .inr (5, [.ref q_1, .int (0 : Int32), .int (-4 : Int32)])), aI g q_1 40 (fun _ => 0)] H := hP
  have hP : va_P g.1 vwCl ((fun ad : Nat → Nat => ([(t_q, .inr (5, [.ref (ad 0), .int (0 : Int32), .int (-4 : Int32)])), aI g (ad 0) 40 (fun _ => 0)] : va_W)) (fun k => ([q_1] : List Nat).getD k 0)) H := hP
  have hD : va_D A ((fun ad : Nat → Nat => ([(t_q, .inr (5, [.ref (ad 0), .int (0 : Int32), .int (-4 : Int32)])), aI g (ad 0) 40 (fun _ => 0)] : va_W)) (fun k => ([q_1] : List Nat).getD k 0)) := hD.re rfl
  exact hret (fun k => ([q_1] : List Nat).getD k 0) _ _ _ _ hP hD hS dX5_init_23

abbrev rmX3_init : Room := { frames := 2, cells := 7, slots := 375, locals := 41 }
set_option maxHeartbeats 4000000 in
set_option maxRecDepth 100000 in
theorem c_X3_init (l : Launch) (g : Gh) (sz : Nat) (t_q : Nat) : CN l yX3_init wsX3_init rmX3_init [.ref t_q] g sz [(t_q, .inr (3, [.null, .null, .int 0, .int 0, .int 0, .int 0, .null, .int 0, .int 0, .int 0, .int 0, .int 0]))] 7 375 (fun ad => [(t_q, .inr (3, [.ref (ad 0), .ref (ad 3), .int (0 : Int32), .int (0 : Int32), .int 0, .int 0, .ref (ad 6), .int 0, .int 0, .int 0, .int 0, .int 0])), ((ad 0), .inr (2, [.ref (ad 1), .ref (ad 2), .int (2 : Int32), .int (0 : Int32), .int (0 : Int32), .int (12 : Int32)])), aI g (ad 1) 10 (fun _ => 0), aI g (ad 2) 6 (fun _ => 0), ((ad 3), .inr (6, [.ref (ad 0), .ref (ad 4), .ref (ad 5), .int (0 : Int32), .int (1 : Int32), .int (0 : Int32), .int (-4 : Int32), .int (0 : Int32), .int (0 : Int32), .int (0 : Int32), .int (0 : Int32)])), aI g (ad 4) 10 (fun _ => 0), aI g (ad 5) 12 (fun _ => 0), aB g (ad 6) 320 (fun _ => 0)]) := by
  refine ent_n (cc := cX3_init) (maxL := 1) (by decide) rfl (Nat.le_of_ble_eq_true rfl) ?_
  intro p e s m args below meth c A Q hx hb hml hin hown hts hK hz hk hA hD hP hS hret ls hl
  have hin : meth.name = "<init>" := hin
  have hown : s.vm.findClass RX3 = some m.cls := hown
  have inX2 : ∀ w ∈ u_ws RX2 TX2 6, w ∈ wsX3_init := by decide +kernel
  have inX3 : ∀ w ∈ u_ws RX3 TX3 12, w ∈ wsX3_init := by decide +kernel
  have inX6 : ∀ w ∈ u_ws RX6 TX6 11, w ∈ wsX3_init := by decide +kernel
  have k12 := hts (.fieldLink RX3 12 "ThreadMoved$Reader" "plan" "LThreadMoved$Plan;") (by decide +kernel)
  have k23 := hts (.fieldLink RX3 23 "ThreadMoved$Reader" "state" "LThreadMoved$State;") (by decide +kernel)
  have k27 := hts (.fieldLink RX3 27 "ThreadMoved$Reader" "length" "I") (by decide +kernel)
  have k31 := hts (.fieldLink RX3 31 "ThreadMoved$Reader" "fault" "I") (by decide +kernel)
  have k34 := hts (.fieldLink RX3 34 "ThreadMoved$Reader" "tape" "[B") (by decide +kernel)
  have hl : lv_has ls 1 [(0, .ref t_q)] := hl
  refine lv_aload_n hx hb dX3_init_0 rfl (lv_at hl 0 rfl) ?_
  refine W.objInit hx hb hown (hts (.methodLink RX3 3 objectInit) (by decide +kernel)) (hts (.instanceMethod objectInit) (by decide +kernel)) (hts (.code objectInit ⟨#[0xb1]⟩ 1 none) (by decide +kernel)) rfl (by rw [hml]; exact hl.1) rfl dX3_init_1 (Nat.le_of_ble_eq_true rfl) (Nat.le_of_ble_eq_true rfl) ?_
  refine W.eq (g2 := F0 m 4 ls []) rfl ?_
  refine lv_aload_n hx hb dX3_init_4 rfl (lv_at hl 0 rfl) ?_
  refine va_new (ci := 2) (fs := [.null, .null, .int 0, .int 0, .int 0, .int 0]) (C := RX2) (T := TX2) (N := 6) hx hb hts inX2 tyX2 tyX2_ok hown (hts (.classLink RX3 9 RX2) (by decide +kernel)) (hts (.instantiable RX2 6) (by decide +kernel)) (hts (.initialized RX2) (by decide +kernel)) hK hP (hD.re rfl) hS hA rfl (by decide) (by decide) (by decide) dX3_init_5 (fun q_1 H hP hD hS => ?_)
  have hP : va_P g.1 vwCl [(t_q, .inr (3, [.null, .null, .int 0, .int 0, .int 0, .int 0, .null, .int 0, .int 0, .int 0, .int 0, .int 0])), (q_1, .inr (2, [.null, .null, .int 0, .int 0, .int 0, .int 0]))] H := hP
  have hD : va_D A [(t_q, .inr (3, [.null, .null, .int 0, .int 0, .int 0, .int 0, .null, .int 0, .int 0, .int 0, .int 0, .int 0])), (q_1, .inr (2, [.null, .null, .int 0, .int 0, .int 0, .int 0]))] := hD
  refine lv_dup hx hb dX3_init_8 rfl ?_
  refine kI_n (ret := none) (wr := [(t_q, .inr (3, [.null, .null, .int 0, .int 0, .int 0, .int 0, .null, .int 0, .int 0, .int 0, .int 0, .int 0]))]) (As := []) (rest := [.ref q_1, .ref t_q]) (c_X2_init l g _ q_1) ⟨hx, hb, hml, hown, hts⟩ (cwI 0 hts gX3_init_X2_init rfl rfl rfl (hts (.initialized RX2) (by decide +kernel)) (hts (.methodLink RX3 11 yX2_init) (by decide +kernel)) (hts (.instanceMethod yX2_init) (by decide +kernel)) rfl (by decide +kernel) ⟨by decide, by decide⟩) ⟨by decide, by decide⟩ hK hz hk hP (hD.re rfl) hS hA [1] rfl rfl [0] rfl rfl (by decide) rfl hl.1 rfl (Nat.le_of_ble_eq_true rfl) dX3_init_9 (fun ad_2 H locs hP hD hS => ?_)
  have hP : va_P g.1 vwCl [(t_q, .inr (3, [.null, .null, .int 0, .int 0, .int 0, .int 0, .null, .int 0, .int 0, .int 0, .int 0, .int 0])), (q_1, .inr (2, [.ref (ad_2 0), .ref (ad_2 1), .int (2 : Int32), .int (0 : Int32), .int (0 : Int32), .int (12 : Int32)])), aI g (ad_2 0) 10 (fun _ => 0), aI g (ad_2 1) 6 (fun _ => 0)] H := hP
  have hD : va_D A [(t_q, .inr (3, [.null, .null, .int 0, .int 0, .int 0, .int 0, .null, .int 0, .int 0, .int 0, .int 0, .int 0])), (q_1, .inr (2, [.ref (ad_2 0), .ref (ad_2 1), .int (2 : Int32), .int (0 : Int32), .int (0 : Int32), .int (12 : Int32)])), aI g (ad_2 0) 10 (fun _ => 0), aI g (ad_2 1) 6 (fun _ => 0)] := hD
  refine va_putF (D := g.1) (ci := 3) (v := .ref q_1) (ty := .object "ThreadMoved$Plan") (C := RX3) (T := TX3) (N := 12) hx hb hts inX3 tyX3 tyX3_ok nmX3 hown hK hP (hD.re rfl) hS 0 rfl rfl 0 (by decide) k12 (fun _ h9 => h9) rfl hin rfl (by decide +kernel) rfl rfl (Nat.le_of_ble_eq_true rfl) dX3_init_12 (fun H locs hP _ hS => ?_)
  have hP : va_P g.1 vwCl [(t_q, .inr (3, [.ref q_1, .null, .int 0, .int 0, .int 0, .int 0, .null, .int 0, .int 0, .int 0, .int 0, .int 0])), (q_1, .inr (2, [.ref (ad_2 0), .ref (ad_2 1), .int (2 : Int32), .int (0 : Int32), .int (0 : Int32), .int (12 : Int32)])), aI g (ad_2 0) 10 (fun _ => 0), aI g (ad_2 1) 6 (fun _ => 0)] H := hP
  refine lv_aload_n hx hb dX3_init_15 rfl (lv_at hl 0 rfl) ?_
  refine va_new (ci := 6) (fs := [.null, .null, .null, .int 0, .int 0, .int 0, .int 0, .int 0, .int 0, .int 0, .int 0]) (C := RX6) (T := TX6) (N := 11) hx hb hts inX6 tyX6 tyX6_ok hown (hts (.classLink RX3 18 RX6) (by decide +kernel)) (hts (.instantiable RX6 11) (by decide +kernel)) (hts (.initialized RX6) (by decide +kernel)) hK hP (hD.re rfl) hS hA rfl (by decide) (by decide) (by decide) dX3_init_16 (fun q_3 H hP hD hS => ?_)
  have hP : va_P g.1 vwCl [(t_q, .inr (3, [.ref q_1, .null, .int 0, .int 0, .int 0, .int 0, .null, .int 0, .int 0, .int 0, .int 0, .int 0])), (q_1, .inr (2, [.ref (ad_2 0), .ref (ad_2 1), .int (2 : Int32), .int (0 : Int32), .int (0 : Int32), .int (12 : Int32)])), aI g (ad_2 0) 10 (fun _ => 0), aI g (ad_2 1) 6 (fun _ => 0), (q_3, .inr (6, [.null, .null, .null, .int 0, .int 0, .int 0, .int 0, .int 0, .int 0, .int 0, .int 0]))] H := hP
  have hD : va_D A [(t_q, .inr (3, [.ref q_1, .null, .int 0, .int 0, .int 0, .int 0, .null, .int 0, .int 0, .int 0, .int 0, .int 0])), (q_1, .inr (2, [.ref (ad_2 0), .ref (ad_2 1), .int (2 : Int32), .int (0 : Int32), .int (0 : Int32), .int (12 : Int32)])), aI g (ad_2 0) 10 (fun _ => 0), aI g (ad_2 1) 6 (fun _ => 0), (q_3, .inr (6, [.null, .null, .null, .int 0, .int 0, .int 0, .int 0, .int 0, .int 0, .int 0, .int 0]))] := hD
  refine lv_dup hx hb dX3_init_19 rfl ?_
  refine lv_aload_n hx hb dX3_init_20 rfl (lv_at hl 0 rfl) ?_
  refine va_get (D := g.1) (ci := 3) (v := .ref q_1) (C := RX3) (T := TX3) (N := 12) hx hb hts inX3 hown hK hP 0 rfl rfl 0 (by decide) k12 (fun _ h9 => h9) rfl dX3_init_21 ?_
  refine kI_n (ret := none) (wr := [(t_q, .inr (3, [.ref q_1, .null, .int 0, .int 0, .int 0, .int 0, .null, .int 0, .int 0, .int 0, .int 0, .int 0])), (q_1, .inr (2, [.ref (ad_2 0), .ref (ad_2 1), .int (2 : Int32), .int (0 : Int32), .int (0 : Int32), .int (12 : Int32)])), aI g (ad_2 0) 10 (fun _ => 0), aI g (ad_2 1) 6 (fun _ => 0)]) (As := [.ref q_1]) (rest := [.ref q_3, .ref t_q]) (c_X6_init l g _ q_3 q_1) ⟨hx, hb, hml, hown, hts⟩ (cwI 1 hts gX3_init_X6_init rfl rfl rfl (hts (.initialized RX6) (by decide +kernel)) (hts (.methodLink RX3 20 yX6_init) (by decide +kernel)) (hts (.instanceMethod yX6_init) (by decide +kernel)) rfl (by decide +kernel) ⟨by decide, by decide⟩) ⟨by decide, by decide⟩ hK hz hk hP (hD.re rfl) hS hA [4] rfl rfl [0, 1, 2, 3] rfl rfl (by decide) rfl hl.1 rfl (Nat.le_of_ble_eq_true rfl) dX3_init_24 (fun ad_4 H locs hP hD hS => ?_)
  have hP : va_P g.1 vwCl [(t_q, .inr (3, [.ref q_1, .null, .int 0, .int 0, .int 0, .int 0, .null, .int 0, .int 0, .int 0, .int 0, .int 0])), (q_1, .inr (2, [.ref (ad_2 0), .ref (ad_2 1), .int (2 : Int32), .int (0 : Int32), .int (0 : Int32), .int (12 : Int32)])), aI g (ad_2 0) 10 (fun _ => 0), aI g (ad_2 1) 6 (fun _ => 0), (q_3, .inr (6, [.ref q_1, .ref (ad_4 0), .ref (ad_4 1), .int (0 : Int32), .int (1 : Int32), .int (0 : Int32), .int (-4 : Int32), .int (0 : Int32), .int (0 : Int32), .int (0 : Int32), .int (0 : Int32)])), aI g (ad_4 0) 10 (fun _ => 0), aI g (ad_4 1) 12 (fun _ => 0)] H := hP
  have hD : va_D A [(t_q, .inr (3, [.ref q_1, .null, .int 0, .int 0, .int 0, .int 0, .null, .int 0, .int 0, .int 0, .int 0, .int 0])), (q_1, .inr (2, [.ref (ad_2 0), .ref (ad_2 1), .int (2 : Int32), .int (0 : Int32), .int (0 : Int32), .int (12 : Int32)])), aI g (ad_2 0) 10 (fun _ => 0), aI g (ad_2 1) 6 (fun _ => 0), (q_3, .inr (6, [.ref q_1, .ref (ad_4 0), .ref (ad_4 1), .int (0 : Int32), .int (1 : Int32), .int (0 : Int32), .int (-4 : Int32), .int (0 : Int32), .int (0 : Int32), .int (0 : Int32), .int (0 : Int32)])), aI g (ad_4 0) 10 (fun _ => 0), aI g (ad_4 1) 12 (fun _ => 0)] := hD
  refine va_putF (D := g.1) (ci := 3) (v := .ref q_3) (ty := .object "ThreadMoved$State") (C := RX3) (T := TX3) (N := 12) hx hb hts inX3 tyX3 tyX3_ok nmX3 hown hK hP (hD.re rfl) hS 0 rfl rfl 1 (by decide) k23 (fun _ h9 => h9) rfl hin rfl (by decide +kernel) rfl rfl (Nat.le_of_ble_eq_true rfl) dX3_init_27 (fun H locs hP _ hS => ?_)
  have hP : va_P g.1 vwCl [(t_q, .inr (3, [.ref q_1, .ref q_3, .int 0, .int 0, .int 0, .int 0, .null, .int 0, .int 0, .int 0, .int 0, .int 0])), (q_1, .inr (2, [.ref (ad_2 0), .ref (ad_2 1), .int (2 : Int32), .int (0 : Int32), .int (0 : Int32), .int (12 : Int32)])), aI g (ad_2 0) 10 (fun _ => 0), aI g (ad_2 1) 6 (fun _ => 0), (q_3, .inr (6, [.ref q_1, .ref (ad_4 0), .ref (ad_4 1), .int (0 : Int32), .int (1 : Int32), .int (0 : Int32), .int (-4 : Int32), .int (0 : Int32), .int (0 : Int32), .int (0 : Int32), .int (0 : Int32)])), aI g (ad_4 0) 10 (fun _ => 0), aI g (ad_4 1) 12 (fun _ => 0)] H := hP
  refine lv_aload_n hx hb dX3_init_30 rfl (lv_at hl 0 rfl) ?_
  refine lv_iconst (v := (0 : Int32)) hx hb dX3_init_31 (by decide) ?_
  refine va_put (D := g.1) (ci := 3) (v := .int (0 : Int32)) (ty := .int) (C := RX3) (T := TX3) (N := 12) hx hb hts inX3 tyX3 tyX3_ok nmX3 hown hK hP (hD.re rfl) hS 0 rfl rfl 2 (by decide) k27 (fun _ h9 => h9) rfl (by decide +kernel) rfl rfl (Nat.le_of_ble_eq_true rfl) dX3_init_32 (fun H locs hP _ hS => ?_)
  have hP : va_P g.1 vwCl [(t_q, .inr (3, [.ref q_1, .ref q_3, .int (0 : Int32), .int 0, .int 0, .int 0, .null, .int 0, .int 0, .int 0, .int 0, .int 0])), (q_1, .inr (2, [.ref (ad_2 0), .ref (ad_2 1), .int (2 : Int32), .int (0 : Int32), .int (0 : Int32), .int (12 : Int32)])), aI g (ad_2 0) 10 (fun _ => 0), aI g (ad_2 1) 6 (fun _ => 0), (q_3, .inr (6, [.ref q_1, .ref (ad_4 0), .ref (ad_4 1), .int (0 : Int32), .int (1 : Int32), .int (0 : Int32), .int (-4 : Int32), .int (0 : Int32), .int (0 : Int32), .int (0 : Int32), .int (0 : Int32)])), aI g (ad_4 0) 10 (fun _ => 0), aI g (ad_4 1) 12 (fun _ => 0)] H := hP
  refine lv_aload_n hx hb dX3_init_35 rfl (lv_at hl 0 rfl) ?_
  refine lv_iconst (v := (0 : Int32)) hx hb dX3_init_36 (by decide) ?_
  refine va_put (D := g.1) (ci := 3) (v := .int (0 : Int32)) (ty := .int) (C := RX3) (T := TX3) (N := 12) hx hb hts inX3 tyX3 tyX3_ok nmX3 hown hK hP (hD.re rfl) hS 0 rfl rfl 3 (by decide) k31 (fun _ h9 => h9) rfl (by decide +kernel) rfl rfl (Nat.le_of_ble_eq_true rfl) dX3_init_37 (fun H locs hP _ hS => ?_)
  have hP : va_P g.1 vwCl [(t_q, .inr (3, [.ref q_1, .ref q_3, .int (0 : Int32), .int (0 : Int32), .int 0, .int 0, .null, .int 0, .int 0, .int 0, .int 0, .int 0])), (q_1, .inr (2, [.ref (ad_2 0), .ref (ad_2 1), .int (2 : Int32), .int (0 : Int32), .int (0 : Int32), .int (12 : Int32)])), aI g (ad_2 0) 10 (fun _ => 0), aI g (ad_2 1) 6 (fun _ => 0), (q_3, .inr (6, [.ref q_1, .ref (ad_4 0), .ref (ad_4 1), .int (0 : Int32), .int (1 : Int32), .int (0 : Int32), .int (-4 : Int32), .int (0 : Int32), .int (0 : Int32), .int (0 : Int32), .int (0 : Int32)])), aI g (ad_4 0) 10 (fun _ => 0), aI g (ad_4 1) 12 (fun _ => 0)] H := hP
  refine lv_aload_n hx hb dX3_init_40 rfl (lv_at hl 0 rfl) ?_
  refine lv_sipush (v := (320 : Int32)) hx hb dX3_init_41 (by decide) ?_
  refine va_newa (atype := .byte) (ty := .byte) (N' := 320) (a0 := (320, .inl (fun _ => 0))) hx hb (hts (.arrayClass .byte) (by decide +kernel)) rfl hK hP (hD.re rfl) hS hA (new_B 320) (by decide) (by decide) (by decide) (by decide) (by decide) dX3_init_44 (fun q_5 cA H hK2 hP hD hS => ?_)
  obtain rfl := arr_B hK hK2
  have hP : va_P g.1 vwCl [(t_q, .inr (3, [.ref q_1, .ref q_3, .int (0 : Int32), .int (0 : Int32), .int 0, .int 0, .null, .int 0, .int 0, .int 0, .int 0, .int 0])), (q_1, .inr (2, [.ref (ad_2 0), .ref (ad_2 1), .int (2 : Int32), .int (0 : Int32), .int (0 : Int32), .int (12 : Int32)])), aI g (ad_2 0) 10 (fun _ => 0), aI g (ad_2 1) 6 (fun _ => 0), (q_3, .inr (6, [.ref q_1, .ref (ad_4 0), .ref (ad_4 1), .int (0 : Int32), .int (1 : Int32), .int (0 : Int32), .int (-4 : Int32), .int (0 : Int32), .int (0 : Int32), .int (0 : Int32), .int (0 : Int32)])), aI g (ad_4 0) 10 (fun _ => 0), aI g (ad_4 1) 12 (fun _ => 0), aB g q_5 320 (fun _ => 0)] H := hP
  have hD : va_D A [(t_q, .inr (3, [.ref q_1, .ref q_3, .int (0 : Int32), .int (0 : Int32), .int 0, .int 0, .null, .int 0, .int 0, .int 0, .int 0, .int 0])), (q_1, .inr (2, [.ref (ad_2 0), .ref (ad_2 1), .int (2 : Int32), .int (0 : Int32), .int (0 : Int32), .int (12 : Int32)])), aI g (ad_2 0) 10 (fun _ => 0), aI g (ad_2 1) 6 (fun _ => 0), (q_3, .inr (6, [.ref q_1, .ref (ad_4 0), .ref (ad_4 1), .int (0 : Int32), .int (1 : Int32), .int (0 : Int32), .int (-4 : Int32), .int (0 : Int32), .int (0 : Int32), .int (0 : Int32), .int (0 : Int32)])), aI g (ad_4 0) 10 (fun _ => 0), aI g (ad_4 1) 12 (fun _ => 0), aB g q_5 320 (fun _ => 0)] := hD
  refine va_putF (D := g.1) (ci := 3) (v := .ref q_5) (ty := .array .byte) (C := RX3) (T := TX3) (N := 12) hx hb hts inX3 tyX3 tyX3_ok nmX3 hown hK hP (hD.re rfl) hS 0 rfl rfl 6 (by decide) k34 (fun _ h9 => h9) rfl hin rfl (by decide +kernel) rfl rfl (Nat.le_of_ble_eq_true rfl) dX3_init_46 (fun H locs hP _ hS => ?_)
  have hP : va_P g.1 vwCl [(t_q, .inr (3, [.ref q_1, .ref q_3, .int (0 : Int32), .int (0 : Int32), .int 0, .int 0, .ref q_5, .int 0, .int 0, .int 0, .int 0, .int 0])), (q_1, .inr (2, [.ref (ad_2 0), .ref (ad_2 1), .int (2 : Int32), .int (0 : Int32), .int (0 : Int32), .int (12 : Int32)])), aI g (ad_2 0) 10 (fun _ => 0), aI g (ad_2 1) 6 (fun _ => 0), (q_3, .inr (6, [.ref q_1, .ref (ad_4 0), .ref (ad_4 1), .int (0 : Int32), .int (1 : Int32), .int (0 : Int32), .int (-4 : Int32), .int (0 : Int32), .int (0 : Int32), .int (0 : Int32), .int (0 : Int32)])), aI g (ad_4 0) 10 (fun _ => 0), aI g (ad_4 1) 12 (fun _ => 0), aB g q_5 320 (fun _ => 0)] H := hP
  have hP : va_P g.1 vwCl ((fun ad : Nat → Nat => ([(t_q, .inr (3, [.ref (ad 0), .ref (ad 3), .int (0 : Int32), .int (0 : Int32), .int 0, .int 0, .ref (ad 6), .int 0, .int 0, .int 0, .int 0, .int 0])), ((ad 0), .inr (2, [.ref (ad 1), .ref (ad 2), .int (2 : Int32), .int (0 : Int32), .int (0 : Int32), .int (12 : Int32)])), aI g (ad 1) 10 (fun _ => 0), aI g (ad 2) 6 (fun _ => 0), ((ad 3), .inr (6, [.ref (ad 0), .ref (ad 4), .ref (ad 5), .int (0 : Int32), .int (1 : Int32), .int (0 : Int32), .int (-4 : Int32), .int (0 : Int32), .int (0 : Int32), .int (0 : Int32), .int (0 : Int32)])), aI g (ad 4) 10 (fun _ => 0), aI g (ad 5) 12 (fun _ => 0), aB g (ad 6) 320 (fun _ => 0)] : va_W)) (fun k => ([q_1, (ad_2 0), (ad_2 1), q_3, (ad_4 0), (ad_4 1), q_5] : List Nat).getD k 0)) H := hP
  have hD : va_D A ((fun ad : Nat → Nat => ([(t_q, .inr (3, [.ref (ad 0), .ref (ad 3), .int (0 : Int32), .int (0 : Int32), .int 0, .int 0, .ref (ad 6), .int 0, .int 0, .int 0, .int 0, .int 0])), ((ad 0), .inr (2, [.ref (ad 1), .ref (ad 2), .int (2 : Int32), .int (0 : Int32), .int (0 : Int32), .int (12 : Int32)])), aI g (ad 1) 10 (fun _ => 0), aI g (ad 2) 6 (fun _ => 0), ((ad 3), .inr (6, [.ref (ad 0), .ref (ad 4), .ref (ad 5), .int (0 : Int32), .int (1 : Int32), .int (0 : Int32), .int (-4 : Int32), .int (0 : Int32), .int (0 : Int32), .int (0 : Int32), .int (0 : Int32)])), aI g (ad 4) 10 (fun _ => 0), aI g (ad 5) 12 (fun _ => 0), aB g (ad 6) 320 (fun _ => 0)] : va_W)) (fun k => ([q_1, (ad_2 0), (ad_2 1), q_3, (ad_4 0), (ad_4 1), q_5] : List Nat).getD k 0)) := hD.re rfl
  exact hret (fun k => ([q_1, (ad_2 0), (ad_2 1), q_3, (ad_4 0), (ad_4 1), q_5] : List Nat).getD k 0) _ _ _ _ hP hD hS dX3_init_49
