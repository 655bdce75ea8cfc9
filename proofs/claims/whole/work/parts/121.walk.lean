def f_X7_lay (t_sheets_0_lane : Int32) (t_sheets_0_size : Int32) (t_sheets_0_cells : Nat → Int32) (t_sheets_1_lane : Int32) (t_sheets_1_size : Int32) (t_sheets_1_cells : Nat → Int32) (t_sheets_2_lane : Int32) (t_sheets_2_size : Int32) (t_sheets_2_cells : Nat → Int32) (t_sheets_3_lane : Int32) (t_sheets_3_size : Int32) (t_sheets_3_cells : Nat → Int32) (p1 : Int32) (p2 : Int32) (p3 : Int32) : Option (Int32 × (Nat → Int32) × (Nat → Int32) × (Nat → Int32) × (Nat → Int32)) :=
 (ob1 (f_X7_isSheet p1) (fun r_1 =>
 (if r_1 = (0 : Int32) then
 (some ((-1 : Int32), t_sheets_0_cells, t_sheets_1_cells, t_sheets_2_cells, t_sheets_3_cells))
 else (gin p1 4 (if p1 = (0 : Int32) then
 (gin p1 4 (ob1 (f_X5_faultAt t_sheets_0_lane t_sheets_0_size t_sheets_0_lane p2) (fun r_7 =>
 (if r_7 = (0 : Int32) then
 (gin p1 4 (ob1 (f_X5_setCell t_sheets_0_lane t_sheets_0_cells p2 p3) (fun t_cells_11 =>
 (some ((1 : Int32), t_cells_11, t_sheets_1_cells, t_sheets_2_cells, t_sheets_3_cells)))))
 else (some (((-10 : Int32) - r_7), t_sheets_0_cells, t_sheets_1_cells, t_sheets_2_cells, t_sheets_3_cells))))))
 else (if p1 = (1 : Int32) then
 (gin p1 4 (ob1 (f_X5_faultAt t_sheets_1_lane t_sheets_1_size t_sheets_1_lane p2) (fun r_15 =>
 (if r_15 = (0 : Int32) then
 (gin p1 4 (ob1 (f_X5_setCell t_sheets_1_lane t_sheets_1_cells p2 p3) (fun t_cells_19 =>
 (some ((1 : Int32), t_sheets_0_cells, t_cells_19, t_sheets_2_cells, t_sheets_3_cells)))))
 else (some (((-10 : Int32) - r_15), t_sheets_0_cells, t_sheets_1_cells, t_sheets_2_cells, t_sheets_3_cells))))))
 else (if p1 = (2 : Int32) then
 (gin p1 4 (ob1 (f_X5_faultAt t_sheets_2_lane t_sheets_2_size t_sheets_2_lane p2) (fun r_23 =>
 (if r_23 = (0 : Int32) then
 (gin p1 4 (ob1 (f_X5_setCell t_sheets_2_lane t_sheets_2_cells p2 p3) (fun t_cells_27 =>
 (some ((1 : Int32), t_sheets_0_cells, t_sheets_1_cells, t_cells_27, t_sheets_3_cells)))))
 else (some (((-10 : Int32) - r_23), t_sheets_0_cells, t_sheets_1_cells, t_sheets_2_cells, t_sheets_3_cells))))))
 else (if p1 = (3 : Int32) then
 (gin p1 4 (ob1 (f_X5_faultAt t_sheets_3_lane t_sheets_3_size t_sheets_3_lane p2) (fun r_31 =>
 (if r_31 = (0 : Int32) then
 (gin p1 4 (ob1 (f_X5_setCell t_sheets_3_lane t_sheets_3_cells p2 p3) (fun t_cells_35 =>
 (some ((1 : Int32), t_sheets_0_cells, t_sheets_1_cells, t_sheets_2_cells, t_cells_35)))))
 else (some (((-10 : Int32) - r_31), t_sheets_0_cells, t_sheets_1_cells, t_sheets_2_cells, t_sheets_3_cells))))))
 else none))))))))
abbrev rmX7_lay : Room := { frames := 2, cells := 0, slots := 0, locals := 44 }
set_option maxHeartbeats 4000000 in
set_option maxRecDepth 100000 in
theorem c_X7_lay (l : Launch) (g : Gh) (sz : Nat) (t_q t_plan_q t_now_q t_ahead_q t_before_q t_images_q t_reader_q t_seen_q t_heard_q t_search_q t_passages_q t_sheets_q t_sheets_0_q t_sheets_1_q t_sheets_2_q t_sheets_3_q t_sheets_0_cells_q t_sheets_1_cells_q t_sheets_2_cells_q t_sheets_3_cells_q : Nat) (t_keptImages : Int32) (t_tornFault : Int32) (t_sheets_0_lane : Int32) (t_sheets_0_size : Int32) (t_sheets_0_cells : Nat → Int32) (t_sheets_1_lane : Int32) (t_sheets_1_size : Int32) (t_sheets_1_cells : Nat → Int32) (t_sheets_2_lane : Int32) (t_sheets_2_size : Int32) (t_sheets_2_cells : Nat → Int32) (t_sheets_3_lane : Int32) (t_sheets_3_size : Int32) (t_sheets_3_cells : Nat → Int32) (p1 : Int32) (p2 : Int32) (p3 : Int32) (rr : Int32) (t_sheets_0_cells' : Nat → Int32) (t_sheets_1_cells' : Nat → Int32) (t_sheets_2_cells' : Nat → Int32) (t_sheets_3_cells' : Nat → Int32) (hf : f_X7_lay t_sheets_0_lane t_sheets_0_size t_sheets_0_cells t_sheets_1_lane t_sheets_1_size t_sheets_1_cells t_sheets_2_lane t_sheets_2_size t_sheets_2_cells t_sheets_3_lane t_sheets_3_size t_sheets_3_cells p1 p2 p3 = some (rr, t_sheets_0_cells', t_sheets_1_cells', t_sheets_2_cells', t_sheets_3_cells')) : CI l yX7_lay wsX7_lay rmX7_lay [.ref t_q, .int p1, .int p2, .int p3] g sz [oX7 t_q t_plan_q t_now_q t_ahead_q t_before_q t_images_q t_keptImages t_reader_q t_seen_q t_heard_q t_search_q t_passages_q t_sheets_q t_tornFault, aH g t_sheets_q 4 (va_up (va_up (va_up (va_up (fun _ => none) 0 (some t_sheets_0_q)) 1 (some t_sheets_1_q)) 2 (some t_sheets_2_q)) 3 (some t_sheets_3_q)), oX5 t_sheets_0_q t_sheets_0_cells_q t_sheets_0_lane t_sheets_0_size, aI g t_sheets_0_cells_q 40 t_sheets_0_cells, oX5 t_sheets_1_q t_sheets_1_cells_q t_sheets_1_lane t_sheets_1_size, aI g t_sheets_1_cells_q 40 t_sheets_1_cells, oX5 t_sheets_2_q t_sheets_2_cells_q t_sheets_2_lane t_sheets_2_size, aI g t_sheets_2_cells_q 40 t_sheets_2_cells, oX5 t_sheets_3_q t_sheets_3_cells_q t_sheets_3_lane t_sheets_3_size, aI g t_sheets_3_cells_q 40 t_sheets_3_cells] [oX7 t_q t_plan_q t_now_q t_ahead_q t_before_q t_images_q t_keptImages t_reader_q t_seen_q t_heard_q t_search_q t_passages_q t_sheets_q t_tornFault, aH g t_sheets_q 4 (va_up (va_up (va_up (va_up (fun _ => none) 0 (some t_sheets_0_q)) 1 (some t_sheets_1_q)) 2 (some t_sheets_2_q)) 3 (some t_sheets_3_q)), oX5 t_sheets_0_q t_sheets_0_cells_q t_sheets_0_lane t_sheets_0_size, aI g t_sheets_0_cells_q 40 t_sheets_0_cells', oX5 t_sheets_1_q t_sheets_1_cells_q t_sheets_1_lane t_sheets_1_size, aI g t_sheets_1_cells_q 40 t_sheets_1_cells', oX5 t_sheets_2_q t_sheets_2_cells_q t_sheets_2_lane t_sheets_2_size, aI g t_sheets_2_cells_q 40 t_sheets_2_cells', oX5 t_sheets_3_q t_sheets_3_cells_q t_sheets_3_lane t_sheets_3_size, aI g t_sheets_3_cells_q 40 t_sheets_3_cells'] rr := by
  refine ent_i (cc := cX7_lay) (maxL := 5) (by decide) rfl (Nat.le_of_ble_eq_true rfl) ?_
  intro p e s m args below meth c A Q hx hb hml hown hts hK hz hk hA hD hP hS hret ls hl
  have hown : s.vm.findClass RX7 = some m.cls := hown
  have inX5 : ∀ w ∈ u_ws RX5 TX5 3, w ∈ wsX7_lay := by decide +kernel
  have inX7 : ∀ w ∈ u_ws RX7 TX7 13, w ∈ wsX7_lay := by decide +kernel
  have k72 := hts (.fieldLink RX7 72 "ThreadMoved" "sheets" "[LThreadMoved$Sheet;") (by decide +kernel)
  have k294 := hts (.fieldLink RX7 294 "ThreadMoved$Sheet" "lane" "I") (by decide +kernel)
  have hl : lv_has ls 5 [(0, .ref t_q), (1, .int p1), (2, .int p2), (3, .int p3)] := hl
  have hret : ∀ (rrz : Int32) (t_sheets_0_cellsz : Nat → Int32) (t_sheets_1_cellsz : Nat → Int32) (t_sheets_2_cellsz : Nat → Int32) (t_sheets_3_cellsz : Nat → Int32), (rrz, t_sheets_0_cellsz, t_sheets_1_cellsz, t_sheets_2_cellsz, t_sheets_3_cellsz) = (rr, t_sheets_0_cells', t_sheets_1_cells', t_sheets_2_cells', t_sheets_3_cells') → ∀ (H : Heap) (locs : List Loc) (pc : Nat) (ls : Array Slot), va_P g.1 vwCl [oX7 t_q t_plan_q t_now_q t_ahead_q t_before_q t_images_q t_keptImages t_reader_q t_seen_q t_heard_q t_search_q t_passages_q t_sheets_q t_tornFault, aH g t_sheets_q 4 (va_up (va_up (va_up (va_up (fun _ => none) 0 (some t_sheets_0_q)) 1 (some t_sheets_1_q)) 2 (some t_sheets_2_q)) 3 (some t_sheets_3_q)), oX5 t_sheets_0_q t_sheets_0_cells_q t_sheets_0_lane t_sheets_0_size, aI g t_sheets_0_cells_q 40 t_sheets_0_cellsz, oX5 t_sheets_1_q t_sheets_1_cells_q t_sheets_1_lane t_sheets_1_size, aI g t_sheets_1_cells_q 40 t_sheets_1_cellsz, oX5 t_sheets_2_q t_sheets_2_cells_q t_sheets_2_lane t_sheets_2_size, aI g t_sheets_2_cells_q 40 t_sheets_2_cellsz, oX5 t_sheets_3_q t_sheets_3_cells_q t_sheets_3_lane t_sheets_3_size, aI g t_sheets_3_cells_q 40 t_sheets_3_cellsz] H → va_S A s.heap H locs → decode cX7_lay pc = .ok (.ireturn, 1) → W p l e rmX7_lay s m args below meth c H locs 0 0 Q (F0 m pc ls [.int rrz]) := by
    intro rrz t_sheets_0_cellsz t_sheets_1_cellsz t_sheets_2_cellsz t_sheets_3_cellsz he H locs pc ls hP hS hd
    cases he
    exact hret H locs pc ls hP hS hd
  unfold f_X7_lay at hf
  refine lv_aload_n hx hb dX7_lay_0 rfl (lv_at hl 0 rfl) ?_
  refine lv_iload_n hx hb dX7_lay_1 rfl (lv_at hl 1 rfl) ?_
  obtain ⟨r_1, hc_2, hf⟩ := ob1_e hf
  refine kV_i (wn := [oX7 t_q t_plan_q t_now_q t_ahead_q t_before_q t_images_q t_keptImages t_reader_q t_seen_q t_heard_q t_search_q t_passages_q t_sheets_q t_tornFault, aH g t_sheets_q 4 (va_up (va_up (va_up (va_up (fun _ => none) 0 (some t_sheets_0_q)) 1 (some t_sheets_1_q)) 2 (some t_sheets_2_q)) 3 (some t_sheets_3_q)), oX5 t_sheets_0_q t_sheets_0_cells_q t_sheets_0_lane t_sheets_0_size, aI g t_sheets_0_cells_q 40 t_sheets_0_cells, oX5 t_sheets_1_q t_sheets_1_cells_q t_sheets_1_lane t_sheets_1_size, aI g t_sheets_1_cells_q 40 t_sheets_1_cells, oX5 t_sheets_2_q t_sheets_2_cells_q t_sheets_2_lane t_sheets_2_size, aI g t_sheets_2_cells_q 40 t_sheets_2_cells, oX5 t_sheets_3_q t_sheets_3_cells_q t_sheets_3_lane t_sheets_3_size, aI g t_sheets_3_cells_q 40 t_sheets_3_cells]) (As := [.int p1]) (rest := []) (c_X7_isSheet l g _ t_q t_plan_q t_now_q t_ahead_q t_before_q t_images_q t_reader_q t_seen_q t_heard_q t_search_q t_passages_q t_sheets_q t_sheets_0_q t_sheets_1_q t_sheets_2_q t_sheets_3_q t_keptImages t_tornFault p1 r_1 hc_2) ⟨hx, hb, hml, hown, hts⟩ (cwV 1 hts gX7_lay_X7_isSheet rfl rfl rfl (by decide +kernel) ⟨by decide, by decide⟩) hK hz hk hP (hD.re rfl) hS hA [0, 1] rfl rfl rfl rfl rfl rfl rfl hl.1 rfl (Nat.le_of_ble_eq_true rfl) dX7_lay_2 (fun H locs hP hS => ?_)
  refine lv_if_ne (tgt := 10) hx hb dX7_lay_5 (by decide) (fun c_3 => ?_) (fun c_3 => ?_)
  · have hf := ite_f hf c_3
    refine lv_aload_n hx hb dX7_lay_10 rfl (lv_at hl 0 rfl) ?_
    refine va_get (D := g.1) (ci := 7) (v := .ref t_sheets_q) (C := RX7) (T := TX7) (N := 13) hx hb hts inX7 hown hK hP 0 rfl rfl 11 (by decide) k72 (fun _ h9 => h9) rfl dX7_lay_11 ?_
    refine lv_iload_n hx hb dX7_lay_14 rfl (lv_at hl 1 rfl) ?_
    obtain ⟨h_4, hf⟩ := gin_e hf
    refine va_aldq hx hb hK hP 1 4 rfl rfl h_4 dX7_lay_15 ?_
    by_cases c_5 : p1 = (0 : Int32)
    · have hf := ite_t hf c_5
      refine tp_v (show _ = Value.ref t_sheets_0_q by rw [c_5]; rfl) ?_
      refine lv_aload_n hx hb dX7_lay_16 rfl (lv_at hl 0 rfl) ?_
      refine va_get (D := g.1) (ci := 7) (v := .ref t_sheets_q) (C := RX7) (T := TX7) (N := 13) hx hb hts inX7 hown hK hP 0 rfl rfl 11 (by decide) k72 (fun _ h9 => h9) rfl dX7_lay_17 ?_
      refine lv_iload_n hx hb dX7_lay_20 rfl (lv_at hl 1 rfl) ?_
      obtain ⟨h_6, hf⟩ := gin_e hf
      refine va_aldq hx hb hK hP 1 4 rfl rfl h_6 dX7_lay_21 ?_
      refine tp_v (show _ = Value.ref t_sheets_0_q by rw [c_5]; rfl) ?_
      refine va_get (D := g.1) (ci := 5) (v := .int t_sheets_0_lane) (C := RX5) (T := TX5) (N := 3) hx hb hts inX5 hown hK hP 2 rfl rfl 1 (by decide) k294 (fun _ h9 => h9) rfl dX7_lay_22 ?_
      refine lv_iload_n hx hb dX7_lay_25 rfl (lv_at hl 2 rfl) ?_
      obtain ⟨r_7, hc_8, hf⟩ := ob1_e hf
      refine kV_i (wn := [oX7 t_q t_plan_q t_now_q t_ahead_q t_before_q t_images_q t_keptImages t_reader_q t_seen_q t_heard_q t_search_q t_passages_q t_sheets_q t_tornFault, aH g t_sheets_q 4 (va_up (va_up (va_up (va_up (fun _ => none) 0 (some t_sheets_0_q)) 1 (some t_sheets_1_q)) 2 (some t_sheets_2_q)) 3 (some t_sheets_3_q)), oX5 t_sheets_0_q t_sheets_0_cells_q t_sheets_0_lane t_sheets_0_size, aI g t_sheets_0_cells_q 40 t_sheets_0_cells, oX5 t_sheets_1_q t_sheets_1_cells_q t_sheets_1_lane t_sheets_1_size, aI g t_sheets_1_cells_q 40 t_sheets_1_cells, oX5 t_sheets_2_q t_sheets_2_cells_q t_sheets_2_lane t_sheets_2_size, aI g t_sheets_2_cells_q 40 t_sheets_2_cells, oX5 t_sheets_3_q t_sheets_3_cells_q t_sheets_3_lane t_sheets_3_size, aI g t_sheets_3_cells_q 40 t_sheets_3_cells]) (As := [.int t_sheets_0_lane, .int p2]) (rest := []) (c_X5_faultAt l g _ t_sheets_0_q t_sheets_0_cells_q t_sheets_0_lane t_sheets_0_size t_sheets_0_lane p2 r_7 hc_8) ⟨hx, hb, hml, hown, hts⟩ (cwV 2 hts gX7_lay_X5_faultAt rfl rfl rfl (by decide +kernel) ⟨by decide, by decide⟩) hK hz hk hP (hD.re rfl) hS hA [2] rfl rfl rfl rfl rfl rfl rfl hl.1 rfl (Nat.le_of_ble_eq_true rfl) dX7_lay_26 (fun H locs hP hS => ?_)
      refine lv_istore (lv' := [(4, .int r_7), (0, .ref t_q), (1, .int p1), (2, .int p2), (3, .int p3)]) hx hb dX7_lay_29 hl (by decide) rfl (fun ls hl => ?_)
      refine lv_iload hx hb dX7_lay_31 (lv_at hl 0 rfl) ?_
      refine lv_if_eq (tgt := 42) hx hb dX7_lay_33 (by decide) (fun c_9 => ?_) (fun c_9 => ?_)
      · have hf := ite_t hf c_9
        refine lv_aload_n hx hb dX7_lay_42 rfl (lv_at hl 1 rfl) ?_
        refine va_get (D := g.1) (ci := 7) (v := .ref t_sheets_q) (C := RX7) (T := TX7) (N := 13) hx hb hts inX7 hown hK hP 0 rfl rfl 11 (by decide) k72 (fun _ h9 => h9) rfl dX7_lay_43 ?_
        refine lv_iload_n hx hb dX7_lay_46 rfl (lv_at hl 2 rfl) ?_
        obtain ⟨h_10, hf⟩ := gin_e hf
        refine va_aldq hx hb hK hP 1 4 rfl rfl h_10 dX7_lay_47 ?_
        refine tp_v (show _ = Value.ref t_sheets_0_q by rw [c_5]; rfl) ?_
        refine lv_iload_n hx hb dX7_lay_48 rfl (lv_at hl 3 rfl) ?_
        refine lv_iload_n hx hb dX7_lay_49 rfl (lv_at hl 4 rfl) ?_
        obtain ⟨t_cells_11, hc_12, hf⟩ := ob1_e hf
        refine kV_v (wn := [oX7 t_q t_plan_q t_now_q t_ahead_q t_before_q t_images_q t_keptImages t_reader_q t_seen_q t_heard_q t_search_q t_passages_q t_sheets_q t_tornFault, aH g t_sheets_q 4 (va_up (va_up (va_up (va_up (fun _ => none) 0 (some t_sheets_0_q)) 1 (some t_sheets_1_q)) 2 (some t_sheets_2_q)) 3 (some t_sheets_3_q)), oX5 t_sheets_0_q t_sheets_0_cells_q t_sheets_0_lane t_sheets_0_size, aI g t_sheets_0_cells_q 40 t_cells_11, oX5 t_sheets_1_q t_sheets_1_cells_q t_sheets_1_lane t_sheets_1_size, aI g t_sheets_1_cells_q 40 t_sheets_1_cells, oX5 t_sheets_2_q t_sheets_2_cells_q t_sheets_2_lane t_sheets_2_size, aI g t_sheets_2_cells_q 40 t_sheets_2_cells, oX5 t_sheets_3_q t_sheets_3_cells_q t_sheets_3_lane t_sheets_3_size, aI g t_sheets_3_cells_q 40 t_sheets_3_cells]) (As := [.int p2, .int p3]) (rest := []) (c_X5_setCell l g _ t_sheets_0_q t_sheets_0_cells_q t_sheets_0_lane t_sheets_0_size t_sheets_0_cells p2 p3 t_cells_11 hc_12) ⟨hx, hb, hml, hown, hts⟩ (cwV 2 hts gX7_lay_X5_setCell rfl rfl rfl (by decide +kernel) ⟨by decide, by decide⟩) hK hz hk hP (hD.re rfl) hS hA [2, 3] rfl rfl rfl rfl rfl rfl rfl hl.1 rfl (Nat.le_of_ble_eq_true rfl) dX7_lay_50 (fun H locs hP hS => ?_)
        refine lv_iconst (v := (1 : Int32)) hx hb dX7_lay_53 (by decide) ?_
        exact hret (1 : Int32) t_cells_11 t_sheets_1_cells t_sheets_2_cells t_sheets_3_cells (Option.some.inj hf) _ _ _ _ hP hS dX7_lay_54
      · have hf := ite_f hf c_9
        refine lv_bipush (v := (-10 : Int32)) hx hb dX7_lay_36 (by decide) ?_
        refine lv_iload hx hb dX7_lay_38 (lv_at hl 0 rfl) ?_
        refine lv_isub hx hb dX7_lay_40 ?_
        exact hret ((-10 : Int32) - r_7) t_sheets_0_cells t_sheets_1_cells t_sheets_2_cells t_sheets_3_cells (Option.some.inj hf) _ _ _ _ hP hS dX7_lay_41
    have hf := ite_f hf c_5
    by_cases c_13 : p1 = (1 : Int32)
    · have hf := ite_t hf c_13
      refine tp_v (show _ = Value.ref t_sheets_1_q by rw [c_13]; rfl) ?_
      refine lv_aload_n hx hb dX7_lay_16 rfl (lv_at hl 0 rfl) ?_
      refine va_get (D := g.1) (ci := 7) (v := .ref t_sheets_q) (C := RX7) (T := TX7) (N := 13) hx hb hts inX7 hown hK hP 0 rfl rfl 11 (by decide) k72 (fun _ h9 => h9) rfl dX7_lay_17 ?_
      refine lv_iload_n hx hb dX7_lay_20 rfl (lv_at hl 1 rfl) ?_
      obtain ⟨h_14, hf⟩ := gin_e hf
      refine va_aldq hx hb hK hP 1 4 rfl rfl h_14 dX7_lay_21 ?_
      refine tp_v (show _ = Value.ref t_sheets_1_q by rw [c_13]; rfl) ?_
      refine va_get (D := g.1) (ci := 5) (v := .int t_sheets_1_lane) (C := RX5) (T := TX5) (N := 3) hx hb hts inX5 hown hK hP 4 rfl rfl 1 (by decide) k294 (fun _ h9 => h9) rfl dX7_lay_22 ?_
      refine lv_iload_n hx hb dX7_lay_25 rfl (lv_at hl 2 rfl) ?_
      obtain ⟨r_15, hc_16, hf⟩ := ob1_e hf
      refine kV_i (wn := [oX7 t_q t_plan_q t_now_q t_ahead_q t_before_q t_images_q t_keptImages t_reader_q t_seen_q t_heard_q t_search_q t_passages_q t_sheets_q t_tornFault, aH g t_sheets_q 4 (va_up (va_up (va_up (va_up (fun _ => none) 0 (some t_sheets_0_q)) 1 (some t_sheets_1_q)) 2 (some t_sheets_2_q)) 3 (some t_sheets_3_q)), oX5 t_sheets_0_q t_sheets_0_cells_q t_sheets_0_lane t_sheets_0_size, aI g t_sheets_0_cells_q 40 t_sheets_0_cells, oX5 t_sheets_1_q t_sheets_1_cells_q t_sheets_1_lane t_sheets_1_size, aI g t_sheets_1_cells_q 40 t_sheets_1_cells, oX5 t_sheets_2_q t_sheets_2_cells_q t_sheets_2_lane t_sheets_2_size, aI g t_sheets_2_cells_q 40 t_sheets_2_cells, oX5 t_sheets_3_q t_sheets_3_cells_q t_sheets_3_lane t_sheets_3_size, aI g t_sheets_3_cells_q 40 t_sheets_3_cells]) (As := [.int t_sheets_1_lane, .int p2]) (rest := []) (c_X5_faultAt l g _ t_sheets_1_q t_sheets_1_cells_q t_sheets_1_lane t_sheets_1_size t_sheets_1_lane p2 r_15 hc_16) ⟨hx, hb, hml, hown, hts⟩ (cwV 2 hts gX7_lay_X5_faultAt rfl rfl rfl (by decide +kernel) ⟨by decide, by decide⟩) hK hz hk hP (hD.re rfl) hS hA [4] rfl rfl rfl rfl rfl rfl rfl hl.1 rfl (Nat.le_of_ble_eq_true rfl) dX7_lay_26 (fun H locs hP hS => ?_)
      refine lv_istore (lv' := [(4, .int r_15), (0, .ref t_q), (1, .int p1), (2, .int p2), (3, .int p3)]) hx hb dX7_lay_29 hl (by decide) rfl (fun ls hl => ?_)
      refine lv_iload hx hb dX7_lay_31 (lv_at hl 0 rfl) ?_
      refine lv_if_eq (tgt := 42) hx hb dX7_lay_33 (by decide) (fun c_17 => ?_) (fun c_17 => ?_)
      · have hf := ite_t hf c_17
        refine lv_aload_n hx hb dX7_lay_42 rfl (lv_at hl 1 rfl) ?_
        refine va_get (D := g.1) (ci := 7) (v := .ref t_sheets_q) (C := RX7) (T := TX7) (N := 13) hx hb hts inX7 hown hK hP 0 rfl rfl 11 (by decide) k72 (fun _ h9 => h9) rfl dX7_lay_43 ?_
        refine lv_iload_n hx hb dX7_lay_46 rfl (lv_at hl 2 rfl) ?_
        obtain ⟨h_18, hf⟩ := gin_e hf
        refine va_aldq hx hb hK hP 1 4 rfl rfl h_18 dX7_lay_47 ?_
        refine tp_v (show _ = Value.ref t_sheets_1_q by rw [c_13]; rfl) ?_
        refine lv_iload_n hx hb dX7_lay_48 rfl (lv_at hl 3 rfl) ?_
        refine lv_iload_n hx hb dX7_lay_49 rfl (lv_at hl 4 rfl) ?_
        obtain ⟨t_cells_19, hc_20, hf⟩ := ob1_e hf
        refine kV_v (wn := [oX7 t_q t_plan_q t_now_q t_ahead_q t_before_q t_images_q t_keptImages t_reader_q t_seen_q t_heard_q t_search_q t_passages_q t_sheets_q t_tornFault, aH g t_sheets_q 4 (va_up (va_up (va_up (va_up (fun _ => none) 0 (some t_sheets_0_q)) 1 (some t_sheets_1_q)) 2 (some t_sheets_2_q)) 3 (some t_sheets_3_q)), oX5 t_sheets_0_q t_sheets_0_cells_q t_sheets_0_lane t_sheets_0_size, aI g t_sheets_0_cells_q 40 t_sheets_0_cells, oX5 t_sheets_1_q t_sheets_1_cells_q t_sheets_1_lane t_sheets_1_size, aI g t_sheets_1_cells_q 40 t_cells_19, oX5 t_sheets_2_q t_sheets_2_cells_q t_sheets_2_lane t_sheets_2_size, aI g t_sheets_2_cells_q 40 t_sheets_2_cells, oX5 t_sheets_3_q t_sheets_3_cells_q t_sheets_3_lane t_sheets_3_size, aI g t_sheets_3_cells_q 40 t_sheets_3_cells]) (As := [.int p2, .int p3]) (rest := []) (c_X5_setCell l g _ t_sheets_1_q t_sheets_1_cells_q t_sheets_1_lane t_sheets_1_size t_sheets_1_cells p2 p3 t_cells_19 hc_20) ⟨hx, hb, hml, hown, hts⟩ (cwV 2 hts gX7_lay_X5_setCell rfl rfl rfl (by decide +kernel) ⟨by decide, by decide⟩) hK hz hk hP (hD.re rfl) hS hA [4, 5] rfl rfl rfl rfl rfl rfl rfl hl.1 rfl (Nat.le_of_ble_eq_true rfl) dX7_lay_50 (fun H locs hP hS => ?_)
        refine lv_iconst (v := (1 : Int32)) hx hb dX7_lay_53 (by decide) ?_
        exact hret (1 : Int32) t_sheets_0_cells t_cells_19 t_sheets_2_cells t_sheets_3_cells (Option.some.inj hf) _ _ _ _ hP hS dX7_lay_54
      · have hf := ite_f hf c_17
        refine lv_bipush (v := (-10 : Int32)) hx hb dX7_lay_36 (by decide) ?_
        refine lv_iload hx hb dX7_lay_38 (lv_at hl 0 rfl) ?_
        refine lv_isub hx hb dX7_lay_40 ?_
        exact hret ((-10 : Int32) - r_15) t_sheets_0_cells t_sheets_1_cells t_sheets_2_cells t_sheets_3_cells (Option.some.inj hf) _ _ _ _ hP hS dX7_lay_41
    have hf := ite_f hf c_13
    by_cases c_21 : p1 = (2 : Int32)
    · have hf := ite_t hf c_21
      refine tp_v (show _ = Value.ref t_sheets_2_q by rw [c_21]; rfl) ?_
      refine lv_aload_n hx hb dX7_lay_16 rfl (lv_at hl 0 rfl) ?_
      refine va_get (D := g.1) (ci := 7) (v := .ref t_sheets_q) (C := RX7) (T := TX7) (N := 13) hx hb hts inX7 hown hK hP 0 rfl rfl 11 (by decide) k72 (fun _ h9 => h9) rfl dX7_lay_17 ?_
      refine lv_iload_n hx hb dX7_lay_20 rfl (lv_at hl 1 rfl) ?_
      obtain ⟨h_22, hf⟩ := gin_e hf
      refine va_aldq hx hb hK hP 1 4 rfl rfl h_22 dX7_lay_21 ?_
      refine tp_v (show _ = Value.ref t_sheets_2_q by rw [c_21]; rfl) ?_
      refine va_get (D := g.1) (ci := 5) (v := .int t_sheets_2_lane) (C := RX5) (T := TX5) (N := 3) hx hb hts inX5 hown hK hP 6 rfl rfl 1 (by decide) k294 (fun _ h9 => h9) rfl dX7_lay_22 ?_
      refine lv_iload_n hx hb dX7_lay_25 rfl (lv_at hl 2 rfl) ?_
      obtain ⟨r_23, hc_24, hf⟩ := ob1_e hf
      refine kV_i (wn := [oX7 t_q t_plan_q t_now_q t_ahead_q t_before_q t_images_q t_keptImages t_reader_q t_seen_q t_heard_q t_search_q t_passages_q t_sheets_q t_tornFault, aH g t_sheets_q 4 (va_up (va_up (va_up (va_up (fun _ => none) 0 (some t_sheets_0_q)) 1 (some t_sheets_1_q)) 2 (some t_sheets_2_q)) 3 (some t_sheets_3_q)), oX5 t_sheets_0_q t_sheets_0_cells_q t_sheets_0_lane t_sheets_0_size, aI g t_sheets_0_cells_q 40 t_sheets_0_cells, oX5 t_sheets_1_q t_sheets_1_cells_q t_sheets_1_lane t_sheets_1_size, aI g t_sheets_1_cells_q 40 t_sheets_1_cells, oX5 t_sheets_2_q t_sheets_2_cells_q t_sheets_2_lane t_sheets_2_size, aI g t_sheets_2_cells_q 40 t_sheets_2_cells, oX5 t_sheets_3_q t_sheets_3_cells_q t_sheets_3_lane t_sheets_3_size, aI g t_sheets_3_cells_q 40 t_sheets_3_cells]) (As := [.int t_sheets_2_lane, .int p2]) (rest := []) (c_X5_faultAt l g _ t_sheets_2_q t_sheets_2_cells_q t_sheets_2_lane t_sheets_2_size t_sheets_2_lane p2 r_23 hc_24) ⟨hx, hb, hml, hown, hts⟩ (cwV 2 hts gX7_lay_X5_faultAt rfl rfl rfl (by decide +kernel) ⟨by decide, by decide⟩) hK hz hk hP (hD.re rfl) hS hA [6] rfl rfl rfl rfl rfl rfl rfl hl.1 rfl (Nat.le_of_ble_eq_true rfl) dX7_lay_26 (fun H locs hP hS => ?_)
      refine lv_istore (lv' := [(4, .int r_23), (0, .ref t_q), (1, .int p1), (2, .int p2), (3, .int p3)]) hx hb dX7_lay_29 hl (by decide) rfl (fun ls hl => ?_)
      refine lv_iload hx hb dX7_lay_31 (lv_at hl 0 rfl) ?_
      refine lv_if_eq (tgt := 42) hx hb dX7_lay_33 (by decide) (fun c_25 => ?_) (fun c_25 => ?_)
      · have hf := ite_t hf c_25
        refine lv_aload_n hx hb dX7_lay_42 rfl (lv_at hl 1 rfl) ?_
        refine va_get (D := g.1) (ci := 7) (v := .ref t_sheets_q) (C := RX7) (T := TX7) (N := 13) hx hb hts inX7 hown hK hP 0 rfl rfl 11 (by decide) k72 (fun _ h9 => h9) rfl dX7_lay_43 ?_
        refine lv_iload_n hx hb dX7_lay_46 rfl (lv_at hl 2 rfl) ?_
        obtain ⟨h_26, hf⟩ := gin_e hf
        refine va_aldq hx hb hK hP 1 4 rfl rfl h_26 dX7_lay_47 ?_
        refine tp_v (show _ = Value.ref t_sheets_2_q by rw [c_21]; rfl) ?_
        refine lv_iload_n hx hb dX7_lay_48 rfl (lv_at hl 3 rfl) ?_
        refine lv_iload_n hx hb dX7_lay_49 rfl (lv_at hl 4 rfl) ?_
        obtain ⟨t_cells_27, hc_28, hf⟩ := ob1_e hf
        refine kV_v (wn := [oX7 t_q t_plan_q t_now_q t_ahead_q t_before_q t_images_q t_keptImages t_reader_q t_seen_q t_heard_q t_search_q t_passages_q t_sheets_q t_tornFault, aH g t_sheets_q 4 (va_up (va_up (va_up (va_up (fun _ => none) 0 (some t_sheets_0_q)) 1 (some t_sheets_1_q)) 2 (some t_sheets_2_q)) 3 (some t_sheets_3_q)), oX5 t_sheets_0_q t_sheets_0_cells_q t_sheets_0_lane t_sheets_0_size, aI g t_sheets_0_cells_q 40 t_sheets_0_cells, oX5 t_sheets_1_q t_sheets_1_cells_q t_sheets_1_lane t_sheets_1_size, aI g t_sheets_1_cells_q 40 t_sheets_1_cells, oX5 t_sheets_2_q t_sheets_2_cells_q t_sheets_2_lane t_sheets_2_size, aI g t_sheets_2_cells_q 40 t_cells_27, oX5 t_sheets_3_q t_sheets_3_cells_q t_sheets_3_lane t_sheets_3_size, aI g t_sheets_3_cells_q 40 t_sheets_3_cells]) (As := [.int p2, .int p3]) (rest := []) (c_X5_setCell l g _ t_sheets_2_q t_sheets_2_cells_q t_sheets_2_lane t_sheets_2_size t_sheets_2_cells p2 p3 t_cells_27 hc_28) ⟨hx, hb, hml, hown, hts⟩ (cwV 2 hts gX7_lay_X5_setCell rfl rfl rfl (by decide +kernel) ⟨by decide, by decide⟩) hK hz hk hP (hD.re rfl) hS hA [6, 7] rfl rfl rfl rfl rfl rfl rfl hl.1 rfl (Nat.le_of_ble_eq_true rfl) dX7_lay_50 (fun H locs hP hS => ?_)
        refine lv_iconst (v := (1 : Int32)) hx hb dX7_lay_53 (by decide) ?_
        exact hret (1 : Int32) t_sheets_0_cells t_sheets_1_cells t_cells_27 t_sheets_3_cells (Option.some.inj hf) _ _ _ _ hP hS dX7_lay_54
      · have hf := ite_f hf c_25
        refine lv_bipush (v := (-10 : Int32)) hx hb dX7_lay_36 (by decide) ?_
        refine lv_iload hx hb dX7_lay_38 (lv_at hl 0 rfl) ?_
        refine lv_isub hx hb dX7_lay_40 ?_
        exact hret ((-10 : Int32) - r_23) t_sheets_0_cells t_sheets_1_cells t_sheets_2_cells t_sheets_3_cells (Option.some.inj hf) _ _ _ _ hP hS dX7_lay_41
    have hf := ite_f hf c_21
    by_cases c_29 : p1 = (3 : Int32)
    · have hf := ite_t hf c_29
      refine tp_v (show _ = Value.ref t_sheets_3_q by rw [c_29]; rfl) ?_
      refine lv_aload_n hx hb dX7_lay_16 rfl (lv_at hl 0 rfl) ?_
      refine va_get (D := g.1) (ci := 7) (v := .ref t_sheets_q) (C := RX7) (T := TX7) (N := 13) hx hb hts inX7 hown hK hP 0 rfl rfl 11 (by decide) k72 (fun _ h9 => h9) rfl dX7_lay_17 ?_
      refine lv_iload_n hx hb dX7_lay_20 rfl (lv_at hl 1 rfl) ?_
      obtain ⟨h_30, hf⟩ := gin_e hf
      refine va_aldq hx hb hK hP 1 4 rfl rfl h_30 dX7_lay_21 ?_
      refine tp_v (show _ = Value.ref t_sheets_3_q by rw [c_29]; rfl) ?_
      refine va_get (D := g.1) (ci := 5) (v := .int t_sheets_3_lane) (C := RX5) (T := TX5) (N := 3) hx hb hts inX5 hown hK hP 8 rfl rfl 1 (by decide) k294 (fun _ h9 => h9) rfl dX7_lay_22 ?_
      refine lv_iload_n hx hb dX7_lay_25 rfl (lv_at hl 2 rfl) ?_
      obtain ⟨r_31, hc_32, hf⟩ := ob1_e hf
      refine kV_i (wn := [oX7 t_q t_plan_q t_now_q t_ahead_q t_before_q t_images_q t_keptImages t_reader_q t_seen_q t_heard_q t_search_q t_passages_q t_sheets_q t_tornFault, aH g t_sheets_q 4 (va_up (va_up (va_up (va_up (fun _ => none) 0 (some t_sheets_0_q)) 1 (some t_sheets_1_q)) 2 (some t_sheets_2_q)) 3 (some t_sheets_3_q)), oX5 t_sheets_0_q t_sheets_0_cells_q t_sheets_0_lane t_sheets_0_size, aI g t_sheets_0_cells_q 40 t_sheets_0_cells, oX5 t_sheets_1_q t_sheets_1_cells_q t_sheets_1_lane t_sheets_1_size, aI g t_sheets_1_cells_q 40 t_sheets_1_cells, oX5 t_sheets_2_q t_sheets_2_cells_q t_sheets_2_lane t_sheets_2_size, aI g t_sheets_2_cells_q 40 t_sheets_2_cells, oX5 t_sheets_3_q t_sheets_3_cells_q t_sheets_3_lane t_sheets_3_size, aI g t_sheets_3_cells_q 40 t_sheets_3_cells]) (As := [.int t_sheets_3_lane, .int p2]) (rest := []) (c_X5_faultAt l g _ t_sheets_3_q t_sheets_3_cells_q t_sheets_3_lane t_sheets_3_size t_sheets_3_lane p2 r_31 hc_32) ⟨hx, hb, hml, hown, hts⟩ (cwV 2 hts gX7_lay_X5_faultAt rfl rfl rfl (by decide +kernel) ⟨by decide, by decide⟩) hK hz hk hP (hD.re rfl) hS hA [8] rfl rfl rfl rfl rfl rfl rfl hl.1 rfl (Nat.le_of_ble_eq_true rfl) dX7_lay_26 (fun H locs hP hS => ?_)
      refine lv_istore (lv' := [(4, .int r_31), (0, .ref t_q), (1, .int p1), (2, .int p2), (3, .int p3)]) hx hb dX7_lay_29 hl (by decide) rfl (fun ls hl => ?_)
      refine lv_iload hx hb dX7_lay_31 (lv_at hl 0 rfl) ?_
      refine lv_if_eq (tgt := 42) hx hb dX7_lay_33 (by decide) (fun c_33 => ?_) (fun c_33 => ?_)
      · have hf := ite_t hf c_33
        refine lv_aload_n hx hb dX7_lay_42 rfl (lv_at hl 1 rfl) ?_
        refine va_get (D := g.1) (ci := 7) (v := .ref t_sheets_q) (C := RX7) (T := TX7) (N := 13) hx hb hts inX7 hown hK hP 0 rfl rfl 11 (by decide) k72 (fun _ h9 => h9) rfl dX7_lay_43 ?_
        refine lv_iload_n hx hb dX7_lay_46 rfl (lv_at hl 2 rfl) ?_
        obtain ⟨h_34, hf⟩ := gin_e hf
        refine va_aldq hx hb hK hP 1 4 rfl rfl h_34 dX7_lay_47 ?_
        refine tp_v (show _ = Value.ref t_sheets_3_q by rw [c_29]; rfl) ?_
        refine lv_iload_n hx hb dX7_lay_48 rfl (lv_at hl 3 rfl) ?_
        refine lv_iload_n hx hb dX7_lay_49 rfl (lv_at hl 4 rfl) ?_
        obtain ⟨t_cells_35, hc_36, hf⟩ := ob1_e hf
        refine kV_v (wn := [oX7 t_q t_plan_q t_now_q t_ahead_q t_before_q t_images_q t_keptImages t_reader_q t_seen_q t_heard_q t_search_q t_passages_q t_sheets_q t_tornFault, aH g t_sheets_q 4 (va_up (va_up (va_up (va_up (fun _ => none) 0 (some t_sheets_0_q)) 1 (some t_sheets_1_q)) 2 (some t_sheets_2_q)) 3 (some t_sheets_3_q)), oX5 t_sheets_0_q t_sheets_0_cells_q t_sheets_0_lane t_sheets_0_size, aI g t_sheets_0_cells_q 40 t_sheets_0_cells, oX5 t_sheets_1_q t_sheets_1_cells_q t_sheets_1_lane t_sheets_1_size, aI g t_sheets_1_cells_q 40 t_sheets_1_cells, oX5 t_sheets_2_q t_sheets_2_cells_q t_sheets_2_lane t_sheets_2_size, aI g t_sheets_2_cells_q 40 t_sheets_2_cells, oX5 t_sheets_3_q t_sheets_3_cells_q t_sheets_3_lane t_sheets_3_size, aI g t_sheets_3_cells_q 40 t_cells_35]) (As := [.int p2, .int p3]) (rest := []) (c_X5_setCell l g _ t_sheets_3_q t_sheets_3_cells_q t_sheets_3_lane t_sheets_3_size t_sheets_3_cells p2 p3 t_cells_35 hc_36) ⟨hx, hb, hml, hown, hts⟩ (cwV 2 hts gX7_lay_X5_setCell rfl rfl rfl (by decide +kernel) ⟨by decide, by decide⟩) hK hz hk hP (hD.re rfl) hS hA [8, 9] rfl rfl rfl rfl rfl rfl rfl hl.1 rfl (Nat.le_of_ble_eq_true rfl) dX7_lay_50 (fun H locs hP hS => ?_)
        refine lv_iconst (v := (1 : Int32)) hx hb dX7_lay_53 (by decide) ?_
        exact hret (1 : Int32) t_sheets_0_cells t_sheets_1_cells t_sheets_2_cells t_cells_35 (Option.some.inj hf) _ _ _ _ hP hS dX7_lay_54
      · have hf := ite_f hf c_33
        refine lv_bipush (v := (-10 : Int32)) hx hb dX7_lay_36 (by decide) ?_
        refine lv_iload hx hb dX7_lay_38 (lv_at hl 0 rfl) ?_
        refine lv_isub hx hb dX7_lay_40 ?_
        exact hret ((-10 : Int32) - r_31) t_sheets_0_cells t_sheets_1_cells t_sheets_2_cells t_sheets_3_cells (Option.some.inj hf) _ _ _ _ hP hS dX7_lay_41
    have hf := ite_f hf c_29
    cases hf
  · have hf := ite_t hf c_3
    refine lv_iconst (v := (-1 : Int32)) hx hb dX7_lay_8 (by decide) ?_
    exact hret (-1 : Int32) t_sheets_0_cells t_sheets_1_cells t_sheets_2_cells t_sheets_3_cells (Option.some.inj hf) _ _ _ _ hP hS dX7_lay_9

def b_X7_leads_29 (t_now_barred : Int32) (t_now_secondEnds : Nat → Int32) (t_now_string : Nat → Int32) (t_plan_doorCount : Int32) (t_plan_firstEnds : Nat → Int32) (p1 : Int32) (v2_5 : Int32) (v3_6 : Int32) : Option ((Int32 × Int32) ⊕ ((Int32) ⊕ (Int32 × Int32))) :=
 (if v3_6 < (0 : Int32) then
 (some (.inr (.inr (v2_5, v3_6))))
 else (gin v3_6 12 (ob1 (f_X6_across t_now_barred t_plan_doorCount t_plan_firstEnds t_now_secondEnds (t_now_string v3_6.toNatClampNeg) v2_5) (fun r_10 =>
 (if r_10 = (-4 : Int32) then
 (if p1 = (0 : Int32) then
 (some (.inr (.inl v2_5)))
 else (some (.inr (.inl v3_6))))
 else (bnd (v3_6 + (-1 : Int32)) (fun v3_13 =>
 (some (.inl (r_10, v3_13))))))))))
def f_X7_leads (t_now_barred : Int32) (t_now_his : Int32) (t_now_onString : Int32) (t_now_secondEnds : Nat → Int32) (t_now_string : Nat → Int32) (t_plan_doorCount : Int32) (t_plan_firstEnds : Nat → Int32) (p1 : Int32) : Option (Int32) :=
 (ob1 (f_X7_isWithin p1 (0 : Int32) (1 : Int32)) (fun r_1 =>
 (if r_1 = (0 : Int32) then
 (some (-1 : Int32))
 else (bnd (t_now_onString - (1 : Int32)) (fun v3_4 =>
 (obm2 (itr (un2 (b_X7_leads_29 t_now_barred t_now_secondEnds t_now_string t_plan_doorCount t_plan_firstEnds p1)) FU (t_now_his, v3_4)) (fun x2_15 x3_16 =>
 (if p1 = (0 : Int32) then
 (some x2_15)
 else (some (-4 : Int32))))))))))
abbrev rmX7_leads : Room := { frames := 2, cells := 0, slots := 0, locals := 43 }
set_option maxHeartbeats 4000000 in
set_option maxRecDepth 100000 in
theorem c_X7_leads (l : Launch) (g : Gh) (sz : Nat) (t_q t_plan_q t_now_q t_ahead_q t_before_q t_images_q t_reader_q t_seen_q t_heard_q t_search_q t_passages_q t_sheets_q t_now_secondEnds_q t_now_string_q t_plan_firstEnds_q t_plan_rules_q : Nat) (t_keptImages : Int32) (t_tornFault : Int32) (t_now_barred : Int32) (t_now_period : Int32) (t_now_his : Int32) (t_now_beast : Int32) (t_now_habit : Int32) (t_now_onString : Int32) (t_now_step : Int32) (t_now_eaten : Int32) (t_now_secondEnds : Nat → Int32) (t_now_string : Nat → Int32) (t_plan_rooms : Int32) (t_plan_doorCount : Int32) (t_plan_ruleCount : Int32) (t_plan_stringLength : Int32) (t_plan_firstEnds : Nat → Int32) (p1 : Int32) (rr : Int32) (hf : f_X7_leads t_now_barred t_now_his t_now_onString t_now_secondEnds t_now_string t_plan_doorCount t_plan_firstEnds p1 = some rr) : CI l yX7_leads wsX7_leads rmX7_leads [.ref t_q, .int p1] g sz [oX7 t_q t_plan_q t_now_q t_ahead_q t_before_q t_images_q t_keptImages t_reader_q t_seen_q t_heard_q t_search_q t_passages_q t_sheets_q t_tornFault, oX6 t_now_q t_plan_q t_now_secondEnds_q t_now_string_q t_now_barred t_now_period t_now_his t_now_beast t_now_habit t_now_onString t_now_step t_now_eaten, aI g t_now_secondEnds_q 10 t_now_secondEnds, aI g t_now_string_q 12 t_now_string, oX2 t_plan_q t_plan_firstEnds_q t_plan_rules_q t_plan_rooms t_plan_doorCount t_plan_ruleCount t_plan_stringLength, aI g t_plan_firstEnds_q 10 t_plan_firstEnds] [oX7 t_q t_plan_q t_now_q t_ahead_q t_before_q t_images_q t_keptImages t_reader_q t_seen_q t_heard_q t_search_q t_passages_q t_sheets_q t_tornFault, oX6 t_now_q t_plan_q t_now_secondEnds_q t_now_string_q t_now_barred t_now_period t_now_his t_now_beast t_now_habit t_now_onString t_now_step t_now_eaten, aI g t_now_secondEnds_q 10 t_now_secondEnds, aI g t_now_string_q 12 t_now_string, oX2 t_plan_q t_plan_firstEnds_q t_plan_rules_q t_plan_rooms t_plan_doorCount t_plan_ruleCount t_plan_stringLength, aI g t_plan_firstEnds_q 10 t_plan_firstEnds] rr := by
  refine ent_i (cc := cX7_leads) (maxL := 5) (by decide) rfl (Nat.le_of_ble_eq_true rfl) ?_
  intro p e s m args below meth c A Q hx hb hml hown hts hK hz hk hA hD hP hS hret ls hl
  have hown : s.vm.findClass RX7 = some m.cls := hown
  have inX6 : ∀ w ∈ u_ws RX6 TX6 11, w ∈ wsX7_leads := by decide +kernel
  have inX7 : ∀ w ∈ u_ws RX7 TX7 13, w ∈ wsX7_leads := by decide +kernel
  have k21 := hts (.fieldLink RX7 21 "ThreadMoved" "now" "LThreadMoved$State;") (by decide +kernel)
  have k134 := hts (.fieldLink RX7 134 "ThreadMoved$State" "his" "I") (by decide +kernel)
  have k179 := hts (.fieldLink RX7 179 "ThreadMoved$State" "onString" "I") (by decide +kernel)
  have k199 := hts (.fieldLink RX7 199 "ThreadMoved$State" "string" "[I") (by decide +kernel)
  have hl : lv_has ls 5 [(0, .ref t_q), (1, .int p1)] := hl
  have hret : ∀ (rrz : Int32), rrz = rr → ∀ (H : Heap) (locs : List Loc) (pc : Nat) (ls : Array Slot), va_P g.1 vwCl [oX7 t_q t_plan_q t_now_q t_ahead_q t_before_q t_images_q t_keptImages t_reader_q t_seen_q t_heard_q t_search_q t_passages_q t_sheets_q t_tornFault, oX6 t_now_q t_plan_q t_now_secondEnds_q t_now_string_q t_now_barred t_now_period t_now_his t_now_beast t_now_habit t_now_onString t_now_step t_now_eaten, aI g t_now_secondEnds_q 10 t_now_secondEnds, aI g t_now_string_q 12 t_now_string, oX2 t_plan_q t_plan_firstEnds_q t_plan_rules_q t_plan_rooms t_plan_doorCount t_plan_ruleCount t_plan_stringLength, aI g t_plan_firstEnds_q 10 t_plan_firstEnds] H → va_S A s.heap H locs → decode cX7_leads pc = .ok (.ireturn, 1) → W p l e rmX7_leads s m args below meth c H locs 0 0 Q (F0 m pc ls [.int rrz]) := by
    intro rrz he H locs pc ls hP hS hd
    cases he
    exact hret H locs pc ls hP hS hd
  unfold f_X7_leads at hf
  refine lv_iload_n hx hb dX7_leads_0 rfl (lv_at hl 1 rfl) ?_
  refine lv_iconst (v := (0 : Int32)) hx hb dX7_leads_1 (by decide) ?_
  refine lv_iconst (v := (1 : Int32)) hx hb dX7_leads_2 (by decide) ?_
  obtain ⟨r_1, hc_2, hf⟩ := ob1_e hf
  refine kS_i (wn := [oX7 t_q t_plan_q t_now_q t_ahead_q t_before_q t_images_q t_keptImages t_reader_q t_seen_q t_heard_q t_search_q t_passages_q t_sheets_q t_tornFault, oX6 t_now_q t_plan_q t_now_secondEnds_q t_now_string_q t_now_barred t_now_period t_now_his t_now_beast t_now_habit t_now_onString t_now_step t_now_eaten, aI g t_now_secondEnds_q 10 t_now_secondEnds, aI g t_now_string_q 12 t_now_string, oX2 t_plan_q t_plan_firstEnds_q t_plan_rules_q t_plan_rooms t_plan_doorCount t_plan_ruleCount t_plan_stringLength, aI g t_plan_firstEnds_q 10 t_plan_firstEnds]) (As := [.int p1, .int (0 : Int32), .int (1 : Int32)]) (rest := []) (c_X7_isWithin l g _ p1 (0 : Int32) (1 : Int32) r_1 hc_2) ⟨hx, hb, hml, hown, hts⟩ (va_cwS 3 hts gX7_leads_X7_isWithin rfl rfl rfl (by decide +kernel) ⟨by decide, by decide⟩) hK hz hk hP (hD.re rfl) hS hA [] rfl rfl rfl rfl rfl hl.1 rfl (Nat.le_of_ble_eq_true rfl) dX7_leads_3 (fun H locs hP hS => ?_)
  refine lv_if_ne (tgt := 11) hx hb dX7_leads_6 (by decide) (fun c_3 => ?_) (fun c_3 => ?_)
  · have hf := ite_f hf c_3
    refine lv_aload_n hx hb dX7_leads_11 rfl (lv_at hl 0 rfl) ?_
    refine va_get (D := g.1) (ci := 7) (v := .ref t_now_q) (C := RX7) (T := TX7) (N := 13) hx hb hts inX7 hown hK hP 0 rfl rfl 1 (by decide) k21 (fun _ h9 => h9) rfl dX7_leads_12 ?_
    refine va_get (D := g.1) (ci := 6) (v := .int t_now_his) (C := RX6) (T := TX6) (N := 11) hx hb hts inX6 hown hK hP 1 rfl rfl 5 (by decide) k134 (fun _ h9 => h9) rfl dX7_leads_15 ?_
    refine lv_istore_n (lv' := [(2, .int t_now_his), (0, .ref t_q), (1, .int p1)]) hx hb dX7_leads_18 rfl hl (by decide) rfl (fun ls hl => ?_)
    refine lv_aload_n hx hb dX7_leads_19 rfl (lv_at hl 1 rfl) ?_
    refine va_get (D := g.1) (ci := 7) (v := .ref t_now_q) (C := RX7) (T := TX7) (N := 13) hx hb hts inX7 hown hK hP 0 rfl rfl 1 (by decide) k21 (fun _ h9 => h9) rfl dX7_leads_20 ?_
    refine va_get (D := g.1) (ci := 6) (v := .int t_now_onString) (C := RX6) (T := TX6) (N := 11) hx hb hts inX6 hown hK hP 1 rfl rfl 8 (by decide) k179 (fun _ h9 => h9) rfl dX7_leads_23 ?_
    refine lv_iconst (v := (1 : Int32)) hx hb dX7_leads_26 (by decide) ?_
    refine lv_isub hx hb dX7_leads_27 ?_
    obtain ⟨v3_4, ev3_4, hf⟩ := bnd_e hf
    refine tp_i ev3_4 ?_
    refine lv_istore_n (lv' := [(3, .int v3_4), (2, .int t_now_his), (0, .ref t_q), (1, .int p1)]) hx hb dX7_leads_28 rfl hl (by decide) rfl (fun ls hl => ?_)
    obtain ⟨z0_7, ho_7, hkr_7, hke_7⟩ := obm2_e hf
    have K_7 : ∀ (x2_15 : Int32) (x3_16 : Int32), z0_7 = .inr (x2_15, x3_16) → ∀ (H : Heap) (locs : List Loc) (ls : Array Slot), va_P g.1 vwCl [oX7 t_q t_plan_q t_now_q t_ahead_q t_before_q t_images_q t_keptImages t_reader_q t_seen_q t_heard_q t_search_q t_passages_q t_sheets_q t_tornFault, oX6 t_now_q t_plan_q t_now_secondEnds_q t_now_string_q t_now_barred t_now_period t_now_his t_now_beast t_now_habit t_now_onString t_now_step t_now_eaten, aI g t_now_secondEnds_q 10 t_now_secondEnds, aI g t_now_string_q 12 t_now_string, oX2 t_plan_q t_plan_firstEnds_q t_plan_rules_q t_plan_rooms t_plan_doorCount t_plan_ruleCount t_plan_stringLength, aI g t_plan_firstEnds_q 10 t_plan_firstEnds] H → va_S A s.heap H locs → lv_has ls 5 [(1, .int p1), (2, .int x2_15)] → W p l e rmX7_leads s m args below meth c H locs 0 0 Q (F0 m 78 ls []) := by
      intro x2_15 x3_16 hz9 H locs ls hP hS hl
      have hf := hke_7 x2_15 x3_16 hz9
      refine lv_iload_n hx hb dX7_leads_78 rfl (lv_at hl 0 rfl) ?_
      refine lv_if_ne (tgt := 86) hx hb dX7_leads_79 (by decide) (fun c_17 => ?_) (fun c_17 => ?_)
      · have hf := ite_f hf c_17
        refine lv_bipush (v := (-4 : Int32)) hx hb dX7_leads_86 (by decide) ?_
        exact hret (-4 : Int32) (Option.some.inj hf) _ _ _ _ hP hS dX7_leads_88
      · have hf := ite_t hf c_17
        refine lv_iload_n hx hb dX7_leads_82 rfl (lv_at hl 1 rfl) ?_
        refine lv_goto (tgt := 88) hx hb dX7_leads_83 (by decide) ?_
        exact hret x2_15 (Option.some.inj hf) _ _ _ _ hP hS dX7_leads_88
    have L_7 : ∀ (n : Nat) (v2_5 : Int32) (v3_6 : Int32), itr (un2 (b_X7_leads_29 t_now_barred t_now_secondEnds t_now_string t_plan_doorCount t_plan_firstEnds p1)) n (v2_5, v3_6) = some z0_7 → ∀ (H : Heap) (locs : List Loc) (ls : Array Slot), va_P g.1 vwCl [oX7 t_q t_plan_q t_now_q t_ahead_q t_before_q t_images_q t_keptImages t_reader_q t_seen_q t_heard_q t_search_q t_passages_q t_sheets_q t_tornFault, oX6 t_now_q t_plan_q t_now_secondEnds_q t_now_string_q t_now_barred t_now_period t_now_his t_now_beast t_now_habit t_now_onString t_now_step t_now_eaten, aI g t_now_secondEnds_q 10 t_now_secondEnds, aI g t_now_string_q 12 t_now_string, oX2 t_plan_q t_plan_firstEnds_q t_plan_rules_q t_plan_rooms t_plan_doorCount t_plan_ruleCount t_plan_stringLength, aI g t_plan_firstEnds_q 10 t_plan_firstEnds] H → va_S A s.heap H locs → lv_has ls 5 [(0, .ref t_q), (1, .int p1), (2, .int v2_5), (3, .int v3_6)] → W p l e rmX7_leads s m args below meth c H locs 0 0 Q (F0 m 29 ls []) := by
      refine itr_ind2 ?_
      intro v2_5 v3_6 z_7 hf hrec hex H locs ls hP hS hl
      unfold b_X7_leads_29 at hf
      refine lv_iload_n hx hb dX7_leads_29 rfl (lv_at hl 3 rfl) ?_
      refine lv_if_lt (tgt := 78) hx hb dX7_leads_30 (by decide) (fun c_8 => ?_) (fun c_8 => ?_)
      · have hf := ite_t hf c_8
        exact K_7 v2_5 v3_6 (hex _ (Option.some.inj hf).symm).symm _ _ _ hP hS (lv_sub hl [1, 2] rfl)
      · have hf := ite_f hf c_8
        refine lv_aload_n hx hb dX7_leads_33 rfl (lv_at hl 0 rfl) ?_
        refine va_get (D := g.1) (ci := 7) (v := .ref t_now_q) (C := RX7) (T := TX7) (N := 13) hx hb hts inX7 hown hK hP 0 rfl rfl 1 (by decide) k21 (fun _ h9 => h9) rfl dX7_leads_34 ?_
        refine lv_aload_n hx hb dX7_leads_37 rfl (lv_at hl 0 rfl) ?_
        refine va_get (D := g.1) (ci := 7) (v := .ref t_now_q) (C := RX7) (T := TX7) (N := 13) hx hb hts inX7 hown hK hP 0 rfl rfl 1 (by decide) k21 (fun _ h9 => h9) rfl dX7_leads_38 ?_
        refine va_get (D := g.1) (ci := 6) (v := .ref t_now_string_q) (C := RX6) (T := TX6) (N := 11) hx hb hts inX6 hown hK hP 1 rfl rfl 2 (by decide) k199 (fun _ h9 => h9) rfl dX7_leads_41 ?_
        refine lv_iload_n hx hb dX7_leads_44 rfl (lv_at hl 3 rfl) ?_
        obtain ⟨h_9, hf⟩ := gin_e hf
        refine va_iald hx hb hK hP 3 0 rfl rfl h_9 dX7_leads_45 ?_
        refine lv_iload_n hx hb dX7_leads_46 rfl (lv_at hl 2 rfl) ?_
        obtain ⟨r_10, hc_11, hf⟩ := ob1_e hf
        refine kV_i (wn := [oX7 t_q t_plan_q t_now_q t_ahead_q t_before_q t_images_q t_keptImages t_reader_q t_seen_q t_heard_q t_search_q t_passages_q t_sheets_q t_tornFault, oX6 t_now_q t_plan_q t_now_secondEnds_q t_now_string_q t_now_barred t_now_period t_now_his t_now_beast t_now_habit t_now_onString t_now_step t_now_eaten, aI g t_now_secondEnds_q 10 t_now_secondEnds, aI g t_now_string_q 12 t_now_string, oX2 t_plan_q t_plan_firstEnds_q t_plan_rules_q t_plan_rooms t_plan_doorCount t_plan_ruleCount t_plan_stringLength, aI g t_plan_firstEnds_q 10 t_plan_firstEnds]) (As := [.int (t_now_string v3_6.toNatClampNeg), .int v2_5]) (rest := []) (c_X6_across l g _ t_now_q t_plan_q t_now_secondEnds_q t_now_string_q t_plan_firstEnds_q t_plan_rules_q t_now_barred t_now_period t_now_his t_now_beast t_now_habit t_now_onString t_now_step t_now_eaten t_plan_rooms t_plan_doorCount t_plan_ruleCount t_plan_stringLength t_plan_firstEnds t_now_secondEnds (t_now_string v3_6.toNatClampNeg) v2_5 r_10 hc_11) ⟨hx, hb, hml, hown, hts⟩ (cwV 2 hts gX7_leads_X6_across rfl rfl rfl (by decide +kernel) ⟨by decide, by decide⟩) hK hz hk hP (hD.re rfl) hS hA [1, 4, 5, 2] rfl rfl rfl rfl rfl rfl rfl hl.1 rfl (Nat.le_of_ble_eq_true rfl) dX7_leads_47 (fun H locs hP hS => ?_)
        refine lv_istore (lv' := [(4, .int r_10), (0, .ref t_q), (1, .int p1), (2, .int v2_5), (3, .int v3_6)]) hx hb dX7_leads_50 hl (by decide) rfl (fun ls hl => ?_)
        refine lv_iload hx hb dX7_leads_52 (lv_at hl 0 rfl) ?_
        refine lv_bipush (v := (-4 : Int32)) hx hb dX7_leads_54 (by decide) ?_
        refine lv_icmp_ne (tgt := 69) hx hb dX7_leads_56 (by decide) (fun c_12 => ?_) (fun c_12 => ?_)
        · have hf := ite_f hf c_12
          refine lv_iload hx hb dX7_leads_69 (lv_at hl 0 rfl) ?_
          refine lv_istore_n (lv' := [(2, .int r_10), (4, .int r_10), (0, .ref t_q), (1, .int p1), (3, .int v3_6)]) hx hb dX7_leads_71 rfl hl (by decide) rfl (fun ls hl => ?_)
          obtain ⟨v3_13, ev3_13, hf⟩ := bnd_e hf
          refine lv_iinc (v := v3_13) (lv' := [(3, .int v3_13), (2, .int r_10), (4, .int r_10), (0, .ref t_q), (1, .int p1)]) hx hb dX7_leads_72 hl (k := 4) rfl (by rw [ev3_13]; rfl) (by decide) rfl (fun ls hl => ?_)
          refine lv_goto (tgt := 29) hx hb dX7_leads_75 (by decide) ?_
          exact hrec r_10 v3_13 (Option.some.inj hf).symm _ _ _ hP hS (lv_sub hl [3, 4, 1, 0] rfl)
        · have hf := ite_t hf c_12
          refine lv_iload_n hx hb dX7_leads_59 rfl (lv_at hl 2 rfl) ?_
          refine lv_if_ne (tgt := 67) hx hb dX7_leads_60 (by decide) (fun c_14 => ?_) (fun c_14 => ?_)
          · have hf := ite_f hf c_14
            refine lv_iload_n hx hb dX7_leads_67 rfl (lv_at hl 4 rfl) ?_
            exact hret v3_6 (hkr_7 _ (hex _ (Option.some.inj hf).symm).symm) _ _ _ _ hP hS dX7_leads_68
          · have hf := ite_t hf c_14
            refine lv_iload_n hx hb dX7_leads_63 rfl (lv_at hl 3 rfl) ?_
            refine lv_goto (tgt := 68) hx hb dX7_leads_64 (by decide) ?_
            exact hret v2_5 (hkr_7 _ (hex _ (Option.some.inj hf).symm).symm) _ _ _ _ hP hS dX7_leads_68
    exact L_7 FU t_now_his v3_4 ho_7 _ _ _ hP hS (lv_sub hl [2, 3, 1, 0] rfl)
  · have hf := ite_t hf c_3
    refine lv_iconst (v := (-1 : Int32)) hx hb dX7_leads_9 (by decide) ?_
    exact hret (-1 : Int32) (Option.some.inj hf) _ _ _ _ hP hS dX7_leads_10

def f_X7_lurk (t_now_his : Int32) (t_now_beast : Int32) (t_now_habit : Int32) (t_plan_rooms : Int32) (p1 : Int32) (p2 : Int32) : Option (Int32 × Int32 × Int32) :=
 (jn0 (ob1 (f_X7_isHabit p2) (fun r_2 =>
 (if r_2 = (0 : Int32) then
 (some ((-1 : Int32), t_now_beast, t_now_habit))
 else (if t_now_his = p1 then
 (some ((-2 : Int32), t_now_beast, t_now_habit))
 else (some (t_now_beast, p1, p2)))))) (fun j_1 =>
 (if p1 = (-4 : Int32) then
 (j_1)
 else (ob1 (f_X2_hasRoom t_plan_rooms p1) (fun r_7 =>
 (if r_7 = (0 : Int32) then
 (some ((-1 : Int32), t_now_beast, t_now_habit))
 else (j_1)))))))
abbrev rmX7_lurk : Room := { frames := 2, cells := 0, slots := 0, locals := 42 }
set_option maxHeartbeats 4000000 in
set_option maxRecDepth 100000 in
theorem c_X7_lurk (l : Launch) (g : Gh) (sz : Nat) (t_q t_plan_q t_now_q t_ahead_q t_before_q t_images_q t_reader_q t_seen_q t_heard_q t_search_q t_passages_q t_sheets_q t_now_secondEnds_q t_now_string_q t_plan_firstEnds_q t_plan_rules_q : Nat) (t_keptImages : Int32) (t_tornFault : Int32) (t_now_barred : Int32) (t_now_period : Int32) (t_now_his : Int32) (t_now_beast : Int32) (t_now_habit : Int32) (t_now_onString : Int32) (t_now_step : Int32) (t_now_eaten : Int32) (t_plan_rooms : Int32) (t_plan_doorCount : Int32) (t_plan_ruleCount : Int32) (t_plan_stringLength : Int32) (p1 : Int32) (p2 : Int32) (rr : Int32) (t_now_beast' : Int32) (t_now_habit' : Int32) (hf : f_X7_lurk t_now_his t_now_beast t_now_habit t_plan_rooms p1 p2 = some (rr, t_now_beast', t_now_habit')) : CI l yX7_lurk wsX7_lurk rmX7_lurk [.ref t_q, .int p1, .int p2] g sz [oX7 t_q t_plan_q t_now_q t_ahead_q t_before_q t_images_q t_keptImages t_reader_q t_seen_q t_heard_q t_search_q t_passages_q t_sheets_q t_tornFault, oX6 t_now_q t_plan_q t_now_secondEnds_q t_now_string_q t_now_barred t_now_period t_now_his t_now_beast t_now_habit t_now_onString t_now_step t_now_eaten, oX2 t_plan_q t_plan_firstEnds_q t_plan_rules_q t_plan_rooms t_plan_doorCount t_plan_ruleCount t_plan_stringLength] [oX7 t_q t_plan_q t_now_q t_ahead_q t_before_q t_images_q t_keptImages t_reader_q t_seen_q t_heard_q t_search_q t_passages_q t_sheets_q t_tornFault, oX6 t_now_q t_plan_q t_now_secondEnds_q t_now_string_q t_now_barred t_now_period t_now_his t_now_beast' t_now_habit' t_now_onString t_now_step t_now_eaten, oX2 t_plan_q t_plan_firstEnds_q t_plan_rules_q t_plan_rooms t_plan_doorCount t_plan_ruleCount t_plan_stringLength] rr := by
  refine ent_i (cc := cX7_lurk) (maxL := 4) (by decide) rfl (Nat.le_of_ble_eq_true rfl) ?_
  intro p e s m args below meth c A Q hx hb hml hown hts hK hz hk hA hD hP hS hret ls hl
  have hown : s.vm.findClass RX7 = some m.cls := hown
  have inX6 : ∀ w ∈ u_ws RX6 TX6 11, w ∈ wsX7_lurk := by decide +kernel
  have inX7 : ∀ w ∈ u_ws RX7 TX7 13, w ∈ wsX7_lurk := by decide +kernel
  have k12 := hts (.fieldLink RX7 12 "ThreadMoved" "plan" "LThreadMoved$Plan;") (by decide +kernel)
  have k21 := hts (.fieldLink RX7 21 "ThreadMoved" "now" "LThreadMoved$State;") (by decide +kernel)
  have k134 := hts (.fieldLink RX7 134 "ThreadMoved$State" "his" "I") (by decide +kernel)
  have k137 := hts (.fieldLink RX7 137 "ThreadMoved$State" "beast" "I") (by decide +kernel)
  have k140 := hts (.fieldLink RX7 140 "ThreadMoved$State" "habit" "I") (by decide +kernel)
  have hl : lv_has ls 4 [(0, .ref t_q), (1, .int p1), (2, .int p2)] := hl
  have hret : ∀ (rrz : Int32) (t_now_beastz : Int32) (t_now_habitz : Int32), (rrz, t_now_beastz, t_now_habitz) = (rr, t_now_beast', t_now_habit') → ∀ (H : Heap) (locs : List Loc) (pc : Nat) (ls : Array Slot), va_P g.1 vwCl [oX7 t_q t_plan_q t_now_q t_ahead_q t_before_q t_images_q t_keptImages t_reader_q t_seen_q t_heard_q t_search_q t_passages_q t_sheets_q t_tornFault, oX6 t_now_q t_plan_q t_now_secondEnds_q t_now_string_q t_now_barred t_now_period t_now_his t_now_beastz t_now_habitz t_now_onString t_now_step t_now_eaten, oX2 t_plan_q t_plan_firstEnds_q t_plan_rules_q t_plan_rooms t_plan_doorCount t_plan_ruleCount t_plan_stringLength] H → va_S A s.heap H locs → decode cX7_lurk pc = .ok (.ireturn, 1) → W p l e rmX7_lurk s m args below meth c H locs 0 0 Q (F0 m pc ls [.int rrz]) := by
    intro rrz t_now_beastz t_now_habitz he H locs pc ls hP hS hd
    cases he
    exact hret H locs pc ls hP hS hd
  unfold f_X7_lurk at hf
  refine lv_iload_n hx hb dX7_lurk_0 rfl (lv_at hl 1 rfl) ?_
  refine lv_bipush (v := (-4 : Int32)) hx hb dX7_lurk_1 (by decide) ?_
  obtain ⟨j_1, hj_1, hf⟩ := jn0_e hf
  have J_1 : j_1 = some (rr, t_now_beast', t_now_habit') → ∀ (H : Heap) (locs : List Loc) (ls : Array Slot), va_P g.1 vwCl [oX7 t_q t_plan_q t_now_q t_ahead_q t_before_q t_images_q t_keptImages t_reader_q t_seen_q t_heard_q t_search_q t_passages_q t_sheets_q t_tornFault, oX6 t_now_q t_plan_q t_now_secondEnds_q t_now_string_q t_now_barred t_now_period t_now_his t_now_beast t_now_habit t_now_onString t_now_step t_now_eaten, oX2 t_plan_q t_plan_firstEnds_q t_plan_rules_q t_plan_rooms t_plan_doorCount t_plan_ruleCount t_plan_stringLength] H → va_S A s.heap H locs → lv_has ls 4 [(0, .ref t_q), (1, .int p1), (2, .int p2)] → W p l e rmX7_lurk s m args below meth c H locs 0 0 Q (F0 m 17 ls []) := by
    intro hf H locs ls hP hS hl
    rw [hj_1] at hf
    refine lv_iload_n hx hb dX7_lurk_17 rfl (lv_at hl 2 rfl) ?_
    obtain ⟨r_2, hc_3, hf⟩ := ob1_e hf
    refine kS_i (wn := [oX7 t_q t_plan_q t_now_q t_ahead_q t_before_q t_images_q t_keptImages t_reader_q t_seen_q t_heard_q t_search_q t_passages_q t_sheets_q t_tornFault, oX6 t_now_q t_plan_q t_now_secondEnds_q t_now_string_q t_now_barred t_now_period t_now_his t_now_beast t_now_habit t_now_onString t_now_step t_now_eaten, oX2 t_plan_q t_plan_firstEnds_q t_plan_rules_q t_plan_rooms t_plan_doorCount t_plan_ruleCount t_plan_stringLength]) (As := [.int p2]) (rest := []) (c_X7_isHabit l g _ p2 r_2 hc_3) ⟨hx, hb, hml, hown, hts⟩ (va_cwS 1 hts gX7_lurk_X7_isHabit rfl rfl rfl (by decide +kernel) ⟨by decide, by decide⟩) hK hz hk hP (hD.re rfl) hS hA [] rfl rfl rfl rfl rfl hl.1 rfl (Nat.le_of_ble_eq_true rfl) dX7_lurk_18 (fun H locs hP hS => ?_)
    refine lv_if_ne (tgt := 26) hx hb dX7_lurk_21 (by decide) (fun c_4 => ?_) (fun c_4 => ?_)
    · have hf := ite_f hf c_4
      refine lv_aload_n hx hb dX7_lurk_26 rfl (lv_at hl 0 rfl) ?_
      refine va_get (D := g.1) (ci := 7) (v := .ref t_now_q) (C := RX7) (T := TX7) (N := 13) hx hb hts inX7 hown hK hP 0 rfl rfl 1 (by decide) k21 (fun _ h9 => h9) rfl dX7_lurk_27 ?_
      refine va_get (D := g.1) (ci := 6) (v := .int t_now_his) (C := RX6) (T := TX6) (N := 11) hx hb hts inX6 hown hK hP 1 rfl rfl 5 (by decide) k134 (fun _ h9 => h9) rfl dX7_lurk_30 ?_
      refine lv_iload_n hx hb dX7_lurk_33 rfl (lv_at hl 1 rfl) ?_
      refine lv_icmp_ne (tgt := 40) hx hb dX7_lurk_34 (by decide) (fun c_5 => ?_) (fun c_5 => ?_)
      · have hf := ite_f hf c_5
        refine lv_aload_n hx hb dX7_lurk_40 rfl (lv_at hl 0 rfl) ?_
        refine va_get (D := g.1) (ci := 7) (v := .ref t_now_q) (C := RX7) (T := TX7) (N := 13) hx hb hts inX7 hown hK hP 0 rfl rfl 1 (by decide) k21 (fun _ h9 => h9) rfl dX7_lurk_41 ?_
        refine va_get (D := g.1) (ci := 6) (v := .int t_now_beast) (C := RX6) (T := TX6) (N := 11) hx hb hts inX6 hown hK hP 1 rfl rfl 6 (by decide) k137 (fun _ h9 => h9) rfl dX7_lurk_44 ?_
        refine lv_istore_n (lv' := [(3, .int t_now_beast), (0, .ref t_q), (1, .int p1), (2, .int p2)]) hx hb dX7_lurk_47 rfl hl (by decide) rfl (fun ls hl => ?_)
        refine lv_aload_n hx hb dX7_lurk_48 rfl (lv_at hl 1 rfl) ?_
        refine va_get (D := g.1) (ci := 7) (v := .ref t_now_q) (C := RX7) (T := TX7) (N := 13) hx hb hts inX7 hown hK hP 0 rfl rfl 1 (by decide) k21 (fun _ h9 => h9) rfl dX7_lurk_49 ?_
        refine lv_iload_n hx hb dX7_lurk_52 rfl (lv_at hl 2 rfl) ?_
        refine va_put (D := g.1) (ci := 6) (v := .int p1) (ty := .int) (C := RX6) (T := TX6) (N := 11) hx hb hts inX6 tyX6 tyX6_ok nmX6 hown hK hP (hD.re rfl) hS 1 rfl rfl 6 (by decide) k137 (fun _ h9 => h9) rfl (by decide +kernel) rfl rfl (Nat.le_of_ble_eq_true rfl) dX7_lurk_53 (fun H locs hP _ hS => ?_)
        have hP : va_P g.1 vwCl [oX7 t_q t_plan_q t_now_q t_ahead_q t_before_q t_images_q t_keptImages t_reader_q t_seen_q t_heard_q t_search_q t_passages_q t_sheets_q t_tornFault, oX6 t_now_q t_plan_q t_now_secondEnds_q t_now_string_q t_now_barred t_now_period t_now_his p1 t_now_habit t_now_onString t_now_step t_now_eaten, oX2 t_plan_q t_plan_firstEnds_q t_plan_rules_q t_plan_rooms t_plan_doorCount t_plan_ruleCount t_plan_stringLength] H := hP
        refine lv_aload_n hx hb dX7_lurk_56 rfl (lv_at hl 1 rfl) ?_
        refine va_get (D := g.1) (ci := 7) (v := .ref t_now_q) (C := RX7) (T := TX7) (N := 13) hx hb hts inX7 hown hK hP 0 rfl rfl 1 (by decide) k21 (fun _ h9 => h9) rfl dX7_lurk_57 ?_
        refine lv_iload_n hx hb dX7_lurk_60 rfl (lv_at hl 3 rfl) ?_
        refine va_put (D := g.1) (ci := 6) (v := .int p2) (ty := .int) (C := RX6) (T := TX6) (N := 11) hx hb hts inX6 tyX6 tyX6_ok nmX6 hown hK hP (hD.re rfl) hS 1 rfl rfl 7 (by decide) k140 (fun _ h9 => h9) rfl (by decide +kernel) rfl rfl (Nat.le_of_ble_eq_true rfl) dX7_lurk_61 (fun H locs hP _ hS => ?_)
        have hP : va_P g.1 vwCl [oX7 t_q t_plan_q t_now_q t_ahead_q t_before_q t_images_q t_keptImages t_reader_q t_seen_q t_heard_q t_search_q t_passages_q t_sheets_q t_tornFault, oX6 t_now_q t_plan_q t_now_secondEnds_q t_now_string_q t_now_barred t_now_period t_now_his p1 p2 t_now_onString t_now_step t_now_eaten, oX2 t_plan_q t_plan_firstEnds_q t_plan_rules_q t_plan_rooms t_plan_doorCount t_plan_ruleCount t_plan_stringLength] H := hP
        refine lv_iload_n hx hb dX7_lurk_64 rfl (lv_at hl 0 rfl) ?_
        exact hret t_now_beast p1 p2 (Option.some.inj hf) _ _ _ _ hP hS dX7_lurk_65
      · have hf := ite_t hf c_5
        refine lv_bipush (v := (-2 : Int32)) hx hb dX7_lurk_37 (by decide) ?_
        exact hret (-2 : Int32) t_now_beast t_now_habit (Option.some.inj hf) _ _ _ _ hP hS dX7_lurk_39
    · have hf := ite_t hf c_4
      refine lv_iconst (v := (-1 : Int32)) hx hb dX7_lurk_24 (by decide) ?_
      exact hret (-1 : Int32) t_now_beast t_now_habit (Option.some.inj hf) _ _ _ _ hP hS dX7_lurk_25
  refine lv_icmp_eq (tgt := 17) hx hb dX7_lurk_3 (by decide) (fun c_6 => ?_) (fun c_6 => ?_)
  · have hf := ite_t hf c_6
    exact J_1 hf _ _ _ hP hS (lv_sub hl [0, 1, 2] rfl)
  · have hf := ite_f hf c_6
    refine lv_aload_n hx hb dX7_lurk_6 rfl (lv_at hl 0 rfl) ?_
    refine va_get (D := g.1) (ci := 7) (v := .ref t_plan_q) (C := RX7) (T := TX7) (N := 13) hx hb hts inX7 hown hK hP 0 rfl rfl 0 (by decide) k12 (fun _ h9 => h9) rfl dX7_lurk_7 ?_
    refine lv_iload_n hx hb dX7_lurk_10 rfl (lv_at hl 1 rfl) ?_
    obtain ⟨r_7, hc_8, hf⟩ := ob1_e hf
    refine kV_i (wn := [oX7 t_q t_plan_q t_now_q t_ahead_q t_before_q t_images_q t_keptImages t_reader_q t_seen_q t_heard_q t_search_q t_passages_q t_sheets_q t_tornFault, oX6 t_now_q t_plan_q t_now_secondEnds_q t_now_string_q t_now_barred t_now_period t_now_his t_now_beast t_now_habit t_now_onString t_now_step t_now_eaten, oX2 t_plan_q t_plan_firstEnds_q t_plan_rules_q t_plan_rooms t_plan_doorCount t_plan_ruleCount t_plan_stringLength]) (As := [.int p1]) (rest := []) (c_X2_hasRoom l g _ t_plan_q t_plan_firstEnds_q t_plan_rules_q t_plan_rooms t_plan_doorCount t_plan_ruleCount t_plan_stringLength p1 r_7 hc_8) ⟨hx, hb, hml, hown, hts⟩ (cwV 1 hts gX7_lurk_X2_hasRoom rfl rfl rfl (by decide +kernel) ⟨by decide, by decide⟩) hK hz hk hP (hD.re rfl) hS hA [2] rfl rfl rfl rfl rfl rfl rfl hl.1 rfl (Nat.le_of_ble_eq_true rfl) dX7_lurk_11 (fun H locs hP hS => ?_)
    refine lv_if_eq (tgt := 24) hx hb dX7_lurk_14 (by decide) (fun c_9 => ?_) (fun c_9 => ?_)
    · have hf := ite_t hf c_9
      refine lv_iconst (v := (-1 : Int32)) hx hb dX7_lurk_24 (by decide) ?_
      exact hret (-1 : Int32) t_now_beast t_now_habit (Option.some.inj hf) _ _ _ _ hP hS dX7_lurk_25
    · have hf := ite_f hf c_9
      exact J_1 hf _ _ _ hP hS (lv_sub hl [0, 1, 2] rfl)
