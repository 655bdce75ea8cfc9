def b_J7_fill_53178_5 (a0_n : Nat) (p1 : Int32) (v3_1 : Int32) (v2_2 : Int32) (a0_3 : Nat → Int32) : Option ((Int32 × (Nat → Int32)) ⊕ (Int32 × (Nat → Int32))) :=
 (if v3_1 ≤ v2_2 then
 (some (.inr (v2_2, a0_3)))
 else (gin v2_2 a0_n (bnd (upd a0_3 v2_2.toNatClampNeg p1) (fun a0_7 =>
 (bnd (v2_2 + (1 : Int32)) (fun v2_8 =>
 (some (.inl (v2_8, a0_7)))))))))
def f_J7_fill_53178 (a0_n : Nat) (a0 : Nat → Int32) (p1 : Int32) : Option ((Nat → Int32)) :=
 (bnd (Int32.ofNat a0_n) (fun v3_1 =>
 (ob2 (itr (un2 (b_J7_fill_53178_5 a0_n p1 v3_1)) FU ((0 : Int32), a0)) (fun x2_9 a0_10 =>
 (some a0_10)))))
abbrev rmJ7_fill_53178 : Room := { frames := 0, cells := 0, slots := 0, locals := 0 }
set_option maxHeartbeats 4000000 in
set_option maxRecDepth 100000 in
theorem c_J7_fill_53178 (l : Launch) (g : Gh) (sz : Nat) (a0_q : Nat) (a0_n : Nat) (a0 : Nat → Int32) (p1 : Int32) (a0' : Nat → Int32) (hf : f_J7_fill_53178 a0_n a0 p1 = some a0') : CV l yJ7_fill_53178 wsJ7_fill_53178 rmJ7_fill_53178 [.ref a0_q, .int p1] g sz [aI g a0_q a0_n a0] [aI g a0_q a0_n a0'] := by
  refine ent_v (cc := cJ7_fill_53178) (maxL := 4) (by decide) rfl (Nat.le_of_ble_eq_true rfl) ?_
  intro p e s m args below meth c A Q hx hb hml hown hts hK hz hk hA hD hP hS hret ls hl
  have hown : s.vm.findClass RJ7 = some m.cls := hown
  have hl : lv_has ls 4 [(0, .ref a0_q), (1, .int p1)] := hl
  have hret : ∀ (a0z : Nat → Int32), a0z = a0' → ∀ (H : Heap) (locs : List Loc) (pc : Nat) (ls : Array Slot), va_P g.1 vwCl [aI g a0_q a0_n a0z] H → va_S A s.heap H locs → decode cJ7_fill_53178 pc = .ok (.return_, 1) → W p l e rmJ7_fill_53178 s m args below meth c H locs 0 0 Q (F0 m pc ls []) := by
    intro a0z he H locs pc ls hP hS hd
    cases he
    exact hret H locs pc ls hP hS hd
  unfold f_J7_fill_53178 at hf
  refine lv_iconst (v := (0 : Int32)) hx hb dJ7_fill_53178_0 (by decide) ?_
  refine lv_istore_n (lv' := [(2, .int (0 : Int32)), (0, .ref a0_q), (1, .int p1)]) hx hb dJ7_fill_53178_1 rfl hl (by decide) rfl (fun ls hl => ?_)
  refine lv_aload_n hx hb dJ7_fill_53178_2 rfl (lv_at hl 1 rfl) ?_
  refine va_alen (v := (Int32.ofNat a0_n)) hx hb hK hP 0 0 rfl rfl rfl dJ7_fill_53178_3 ?_
  obtain ⟨v3_1, ev3_1, hf⟩ := bnd_e hf
  refine tp_i ev3_1 ?_
  refine lv_istore_n (lv' := [(3, .int v3_1), (2, .int (0 : Int32)), (0, .ref a0_q), (1, .int p1)]) hx hb dJ7_fill_53178_4 rfl hl (by decide) rfl (fun ls hl => ?_)
  obtain ⟨x2_9, a0_10, ho_4, hf⟩ := ob2_e hf
  have K_4 : ∀ (x2_9y : Int32) (a0_10y : Nat → Int32), x2_9 = x2_9y → a0_10 = a0_10y → ∀ (H : Heap) (locs : List Loc) (ls : Array Slot), va_P g.1 vwCl [aI g a0_q a0_n a0_10y] H → va_S A s.heap H locs → lv_has ls 4 [] → W p l e rmJ7_fill_53178 s m args below meth c H locs 0 0 Q (F0 m 20 ls []) := by
    intro x2_9y a0_10y ey0 ey1 H locs ls hP hS hl
    subst ey0
    subst ey1
    exact hret a0_10 (Option.some.inj hf) _ _ _ _ hP hS dJ7_fill_53178_20
  have L_4 : ∀ (n : Nat) (v2_2 : Int32) (a0_3 : Nat → Int32), itr (un2 (b_J7_fill_53178_5 a0_n p1 v3_1)) n (v2_2, a0_3) = some (x2_9, a0_10) → ∀ (H : Heap) (locs : List Loc) (ls : Array Slot), va_P g.1 vwCl [aI g a0_q a0_n a0_3] H → va_S A s.heap H locs → lv_has ls 4 [(0, .ref a0_q), (1, .int p1), (2, .int v2_2), (3, .int v3_1)] → W p l e rmJ7_fill_53178 s m args below meth c H locs 0 0 Q (F0 m 5 ls []) := by
    refine itr_ind2 ?_
    intro v2_2 a0_3 z_4 hf hrec hex H locs ls hP hS hl
    unfold b_J7_fill_53178_5 at hf
    refine lv_iload_n hx hb dJ7_fill_53178_5 rfl (lv_at hl 2 rfl) ?_
    refine lv_iload_n hx hb dJ7_fill_53178_6 rfl (lv_at hl 3 rfl) ?_
    refine lv_icmp_ge (tgt := 20) hx hb dJ7_fill_53178_7 (by decide) (fun c_5 => ?_) (fun c_5 => ?_)
    · have hf := ite_t hf c_5
      exact K_4 v2_2 a0_3 (congrArg (fun t => t.1) (hex _ (Option.some.inj hf).symm).symm) (congrArg (fun t => t.2) (hex _ (Option.some.inj hf).symm).symm) _ _ _ hP hS (lv_sub hl [] rfl)
    · have hf := ite_f hf c_5
      refine lv_aload_n hx hb dJ7_fill_53178_10 rfl (lv_at hl 0 rfl) ?_
      refine lv_iload_n hx hb dJ7_fill_53178_11 rfl (lv_at hl 2 rfl) ?_
      refine lv_iload_n hx hb dJ7_fill_53178_12 rfl (lv_at hl 1 rfl) ?_
      obtain ⟨h_6, hf⟩ := gin_e hf
      obtain ⟨a0_7, ea0_7, hf⟩ := bnd_e hf
      refine va_iast hx hb hK hP (hD.re rfl) hS 0 0 rfl rfl h_6 dJ7_fill_53178_13 (fun H locs hP _ hS => ?_)
      have hP : va_P g.1 vwCl [aI g a0_q a0_n a0_7] H := by rw [ea0_7]; exact hP
      obtain ⟨v2_8, ev2_8, hf⟩ := bnd_e hf
      refine lv_iinc (v := v2_8) (lv' := [(2, .int v2_8), (0, .ref a0_q), (1, .int p1), (3, .int v3_1)]) hx hb dJ7_fill_53178_14 hl (k := 2) rfl (by rw [ev2_8]; rfl) (by decide) rfl (fun ls hl => ?_)
      refine lv_goto (tgt := 5) hx hb dJ7_fill_53178_17 (by decide) ?_
      exact hrec v2_8 a0_7 (Option.some.inj hf).symm _ _ _ hP hS (lv_sub hl [1, 2, 0, 3] rfl)
  exact L_4 FU (0 : Int32) a0 ho_4 _ _ _ hP hS (lv_sub hl [2, 3, 1, 0] rfl)

def f_X5_renew (t_cells : Nat → Int32) (p1 : Int32) (p2 : Int32) : Option (Int32 × Int32 × (Nat → Int32)) :=
 (ob1 (f_J7_fill_53178 40 t_cells (0 : Int32)) (fun a0_1 =>
 (some (p1, p2, a0_1))))
abbrev rmX5_renew : Room := { frames := 1, cells := 0, slots := 0, locals := 23 }
set_option maxHeartbeats 4000000 in
set_option maxRecDepth 100000 in
theorem c_X5_renew (l : Launch) (g : Gh) (sz : Nat) (t_q t_cells_q : Nat) (t_lane : Int32) (t_size : Int32) (t_cells : Nat → Int32) (p1 : Int32) (p2 : Int32) (t_lane' : Int32) (t_size' : Int32) (t_cells' : Nat → Int32) (hf : f_X5_renew t_cells p1 p2 = some (t_lane', t_size', t_cells')) : CV l yX5_renew wsX5_renew rmX5_renew [.ref t_q, .int p1, .int p2] g sz [oX5 t_q t_cells_q t_lane t_size, aI g t_cells_q 40 t_cells] [oX5 t_q t_cells_q t_lane' t_size', aI g t_cells_q 40 t_cells'] := by
  refine ent_v (cc := cX5_renew) (maxL := 3) (by decide) rfl (Nat.le_of_ble_eq_true rfl) ?_
  intro p e s m args below meth c A Q hx hb hml hown hts hK hz hk hA hD hP hS hret ls hl
  have hown : s.vm.findClass RX5 = some m.cls := hown
  have inX5 : ∀ w ∈ u_ws RX5 TX5 3, w ∈ wsX5_renew := by decide +kernel
  have k9 := hts (.fieldLink RX5 9 "ThreadMoved$Sheet" "cells" "[I") (by decide +kernel)
  have k15 := hts (.fieldLink RX5 15 "ThreadMoved$Sheet" "lane" "I") (by decide +kernel)
  have k19 := hts (.fieldLink RX5 19 "ThreadMoved$Sheet" "size" "I") (by decide +kernel)
  have hl : lv_has ls 3 [(0, .ref t_q), (1, .int p1), (2, .int p2)] := hl
  have hret : ∀ (t_lanez : Int32) (t_sizez : Int32) (t_cellsz : Nat → Int32), (t_lanez, t_sizez, t_cellsz) = (t_lane', t_size', t_cells') → ∀ (H : Heap) (locs : List Loc) (pc : Nat) (ls : Array Slot), va_P g.1 vwCl [oX5 t_q t_cells_q t_lanez t_sizez, aI g t_cells_q 40 t_cellsz] H → va_S A s.heap H locs → decode cX5_renew pc = .ok (.return_, 1) → W p l e rmX5_renew s m args below meth c H locs 0 0 Q (F0 m pc ls []) := by
    intro t_lanez t_sizez t_cellsz he H locs pc ls hP hS hd
    cases he
    exact hret H locs pc ls hP hS hd
  unfold f_X5_renew at hf
  refine lv_aload_n hx hb dX5_renew_0 rfl (lv_at hl 0 rfl) ?_
  refine lv_iload_n hx hb dX5_renew_1 rfl (lv_at hl 1 rfl) ?_
  refine va_put (D := g.1) (ci := 5) (v := .int p1) (ty := .int) (C := RX5) (T := TX5) (N := 3) hx hb hts inX5 tyX5 tyX5_ok nmX5 hown hK hP (hD.re rfl) hS 0 rfl rfl 1 (by decide) k15 (fun _ h9 => h9) rfl (by decide +kernel) rfl rfl (Nat.le_of_ble_eq_true rfl) dX5_renew_2 (fun H locs hP _ hS => ?_)
  have hP : va_P g.1 vwCl [oX5 t_q t_cells_q p1 t_size, aI g t_cells_q 40 t_cells] H := hP
  refine lv_aload_n hx hb dX5_renew_5 rfl (lv_at hl 0 rfl) ?_
  refine lv_iload_n hx hb dX5_renew_6 rfl (lv_at hl 2 rfl) ?_
  refine va_put (D := g.1) (ci := 5) (v := .int p2) (ty := .int) (C := RX5) (T := TX5) (N := 3) hx hb hts inX5 tyX5 tyX5_ok nmX5 hown hK hP (hD.re rfl) hS 0 rfl rfl 2 (by decide) k19 (fun _ h9 => h9) rfl (by decide +kernel) rfl rfl (Nat.le_of_ble_eq_true rfl) dX5_renew_7 (fun H locs hP _ hS => ?_)
  have hP : va_P g.1 vwCl [oX5 t_q t_cells_q p1 p2, aI g t_cells_q 40 t_cells] H := hP
  refine lv_aload_n hx hb dX5_renew_10 rfl (lv_at hl 0 rfl) ?_
  refine va_get (D := g.1) (ci := 5) (v := .ref t_cells_q) (C := RX5) (T := TX5) (N := 3) hx hb hts inX5 hown hK hP 0 rfl rfl 0 (by decide) k9 (fun _ h9 => h9) rfl dX5_renew_11 ?_
  refine lv_iconst (v := (0 : Int32)) hx hb dX5_renew_14 (by decide) ?_
  obtain ⟨a0_1, hc_2, hf⟩ := ob1_e hf
  refine kS_v (wn := [oX5 t_q t_cells_q p1 p2, aI g t_cells_q 40 a0_1]) (As := [.ref t_cells_q, .int (0 : Int32)]) (rest := []) (c_J7_fill_53178 l g _ t_cells_q 40 t_cells (0 : Int32) a0_1 hc_2) ⟨hx, hb, hml, hown, hts⟩ (va_cwS 2 hts gX5_renew_J7_fill_53178 rfl rfl rfl (by decide +kernel) ⟨by decide, by decide⟩) hK hz hk hP (hD.re rfl) hS hA [1] rfl rfl rfl rfl rfl hl.1 rfl (Nat.le_of_ble_eq_true rfl) dX5_renew_15 (fun H locs hP hS => ?_)
  exact hret p1 p2 a0_1 (Option.some.inj hf) _ _ _ _ hP hS dX5_renew_18

def f_X5_setCell (t_lane : Int32) (t_cells : Nat → Int32) (p1 : Int32) (p2 : Int32) : Option ((Nat → Int32)) :=
 (if t_lane = (0 : Int32) then
 (gin p1 40 (bnd (upd t_cells p1.toNatClampNeg (p2.toInt8.toInt32)) (fun t_cells_8 =>
 (some t_cells_8))))
 else (if t_lane = (1 : Int32) then
 (gin p1 40 (bnd (upd t_cells p1.toNatClampNeg (p2.toInt16.toInt32)) (fun t_cells_6 =>
 (some t_cells_6))))
 else (gin p1 40 (bnd (upd t_cells p1.toNatClampNeg p2) (fun t_cells_4 =>
 (some t_cells_4))))))
abbrev rmX5_setCell : Room := { frames := 0, cells := 0, slots := 0, locals := 0 }
set_option maxHeartbeats 4000000 in
set_option maxRecDepth 100000 in
theorem c_X5_setCell (l : Launch) (g : Gh) (sz : Nat) (t_q t_cells_q : Nat) (t_lane : Int32) (t_size : Int32) (t_cells : Nat → Int32) (p1 : Int32) (p2 : Int32) (t_cells' : Nat → Int32) (hf : f_X5_setCell t_lane t_cells p1 p2 = some t_cells') : CV l yX5_setCell wsX5_setCell rmX5_setCell [.ref t_q, .int p1, .int p2] g sz [oX5 t_q t_cells_q t_lane t_size, aI g t_cells_q 40 t_cells] [oX5 t_q t_cells_q t_lane t_size, aI g t_cells_q 40 t_cells'] := by
  refine ent_v (cc := cX5_setCell) (maxL := 3) (by decide) rfl (Nat.le_of_ble_eq_true rfl) ?_
  intro p e s m args below meth c A Q hx hb hml hown hts hK hz hk hA hD hP hS hret ls hl
  have hown : s.vm.findClass RX5 = some m.cls := hown
  have inX5 : ∀ w ∈ u_ws RX5 TX5 3, w ∈ wsX5_setCell := by decide +kernel
  have k9 := hts (.fieldLink RX5 9 "ThreadMoved$Sheet" "cells" "[I") (by decide +kernel)
  have k15 := hts (.fieldLink RX5 15 "ThreadMoved$Sheet" "lane" "I") (by decide +kernel)
  have hl : lv_has ls 3 [(0, .ref t_q), (1, .int p1), (2, .int p2)] := hl
  have hret : ∀ (t_cellsz : Nat → Int32), t_cellsz = t_cells' → ∀ (H : Heap) (locs : List Loc) (pc : Nat) (ls : Array Slot), va_P g.1 vwCl [oX5 t_q t_cells_q t_lane t_size, aI g t_cells_q 40 t_cellsz] H → va_S A s.heap H locs → decode cX5_setCell pc = .ok (.return_, 1) → W p l e rmX5_setCell s m args below meth c H locs 0 0 Q (F0 m pc ls []) := by
    intro t_cellsz he H locs pc ls hP hS hd
    cases he
    exact hret H locs pc ls hP hS hd
  unfold f_X5_setCell at hf
  refine lv_aload_n hx hb dX5_setCell_0 rfl (lv_at hl 0 rfl) ?_
  refine va_get (D := g.1) (ci := 5) (v := .int t_lane) (C := RX5) (T := TX5) (N := 3) hx hb hts inX5 hown hK hP 0 rfl rfl 1 (by decide) k15 (fun _ h9 => h9) rfl dX5_setCell_1 ?_
  refine lv_if_ne (tgt := 18) hx hb dX5_setCell_4 (by decide) (fun c_1 => ?_) (fun c_1 => ?_)
  · have hf := ite_f hf c_1
    refine lv_aload_n hx hb dX5_setCell_18 rfl (lv_at hl 0 rfl) ?_
    refine va_get (D := g.1) (ci := 5) (v := .int t_lane) (C := RX5) (T := TX5) (N := 3) hx hb hts inX5 hown hK hP 0 rfl rfl 1 (by decide) k15 (fun _ h9 => h9) rfl dX5_setCell_19 ?_
    refine lv_iconst (v := (1 : Int32)) hx hb dX5_setCell_22 (by decide) ?_
    refine lv_icmp_ne (tgt := 37) hx hb dX5_setCell_23 (by decide) (fun c_2 => ?_) (fun c_2 => ?_)
    · have hf := ite_f hf c_2
      refine lv_aload_n hx hb dX5_setCell_37 rfl (lv_at hl 0 rfl) ?_
      refine va_get (D := g.1) (ci := 5) (v := .ref t_cells_q) (C := RX5) (T := TX5) (N := 3) hx hb hts inX5 hown hK hP 0 rfl rfl 0 (by decide) k9 (fun _ h9 => h9) rfl dX5_setCell_38 ?_
      refine lv_iload_n hx hb dX5_setCell_41 rfl (lv_at hl 1 rfl) ?_
      refine lv_iload_n hx hb dX5_setCell_42 rfl (lv_at hl 2 rfl) ?_
      obtain ⟨h_3, hf⟩ := gin_e hf
      obtain ⟨t_cells_4, et_cells_4, hf⟩ := bnd_e hf
      refine va_iast hx hb hK hP (hD.re rfl) hS 1 0 rfl rfl h_3 dX5_setCell_43 (fun H locs hP _ hS => ?_)
      have hP : va_P g.1 vwCl [oX5 t_q t_cells_q t_lane t_size, aI g t_cells_q 40 t_cells_4] H := by rw [et_cells_4]; exact hP
      exact hret t_cells_4 (Option.some.inj hf) _ _ _ _ hP hS dX5_setCell_44
    · have hf := ite_t hf c_2
      refine lv_aload_n hx hb dX5_setCell_26 rfl (lv_at hl 0 rfl) ?_
      refine va_get (D := g.1) (ci := 5) (v := .ref t_cells_q) (C := RX5) (T := TX5) (N := 3) hx hb hts inX5 hown hK hP 0 rfl rfl 0 (by decide) k9 (fun _ h9 => h9) rfl dX5_setCell_27 ?_
      refine lv_iload_n hx hb dX5_setCell_30 rfl (lv_at hl 1 rfl) ?_
      refine lv_iload_n hx hb dX5_setCell_31 rfl (lv_at hl 2 rfl) ?_
      refine lv_i2s hx hb dX5_setCell_32 rfl ?_
      obtain ⟨h_5, hf⟩ := gin_e hf
      obtain ⟨t_cells_6, et_cells_6, hf⟩ := bnd_e hf
      refine va_iast hx hb hK hP (hD.re rfl) hS 1 0 rfl rfl h_5 dX5_setCell_33 (fun H locs hP _ hS => ?_)
      have hP : va_P g.1 vwCl [oX5 t_q t_cells_q t_lane t_size, aI g t_cells_q 40 t_cells_6] H := by rw [et_cells_6]; exact hP
      refine lv_goto (tgt := 44) hx hb dX5_setCell_34 (by decide) ?_
      exact hret t_cells_6 (Option.some.inj hf) _ _ _ _ hP hS dX5_setCell_44
  · have hf := ite_t hf c_1
    refine lv_aload_n hx hb dX5_setCell_7 rfl (lv_at hl 0 rfl) ?_
    refine va_get (D := g.1) (ci := 5) (v := .ref t_cells_q) (C := RX5) (T := TX5) (N := 3) hx hb hts inX5 hown hK hP 0 rfl rfl 0 (by decide) k9 (fun _ h9 => h9) rfl dX5_setCell_8 ?_
    refine lv_iload_n hx hb dX5_setCell_11 rfl (lv_at hl 1 rfl) ?_
    refine lv_iload_n hx hb dX5_setCell_12 rfl (lv_at hl 2 rfl) ?_
    refine lv_i2b hx hb dX5_setCell_13 rfl ?_
    obtain ⟨h_7, hf⟩ := gin_e hf
    obtain ⟨t_cells_8, et_cells_8, hf⟩ := bnd_e hf
    refine va_iast hx hb hK hP (hD.re rfl) hS 1 0 rfl rfl h_7 dX5_setCell_14 (fun H locs hP _ hS => ?_)
    have hP : va_P g.1 vwCl [oX5 t_q t_cells_q t_lane t_size, aI g t_cells_q 40 t_cells_8] H := by rw [et_cells_8]; exact hP
    refine lv_goto (tgt := 44) hx hb dX5_setCell_15 (by decide) ?_
    exact hret t_cells_8 (Option.some.inj hf) _ _ _ _ hP hS dX5_setCell_44

def f_X6_isBarred (t_barred : Int32) (p1 : Int32) : Option (Int32) :=
 (if ((t_barred >>> (p1 &&& 31)) &&& (1 : Int32)) = (0 : Int32) then
 (some (0 : Int32))
 else (some (1 : Int32)))
abbrev rmX6_isBarred : Room := { frames := 0, cells := 0, slots := 0, locals := 0 }
set_option maxHeartbeats 4000000 in
set_option maxRecDepth 100000 in
theorem c_X6_isBarred (l : Launch) (g : Gh) (sz : Nat) (t_q t_plan_q t_secondEnds_q t_string_q : Nat) (t_barred : Int32) (t_period : Int32) (t_his : Int32) (t_beast : Int32) (t_habit : Int32) (t_onString : Int32) (t_step : Int32) (t_eaten : Int32) (p1 : Int32) (rr : Int32) (hf : f_X6_isBarred t_barred p1 = some rr) : CI l yX6_isBarred wsX6_isBarred rmX6_isBarred [.ref t_q, .int p1] g sz [oX6 t_q t_plan_q t_secondEnds_q t_string_q t_barred t_period t_his t_beast t_habit t_onString t_step t_eaten] [oX6 t_q t_plan_q t_secondEnds_q t_string_q t_barred t_period t_his t_beast t_habit t_onString t_step t_eaten] rr := by
  refine ent_z (cc := cX6_isBarred) (maxL := 2) (by decide) rfl (Nat.le_of_ble_eq_true rfl) ?_
  intro p e s m args below meth c A Q hx hb hml hown hts hK hz hk hA hD hP hS hret ls hl
  have hown : s.vm.findClass RX6 = some m.cls := hown
  have inX6 : ∀ w ∈ u_ws RX6 TX6 11, w ∈ wsX6_isBarred := by decide +kernel
  have k25 := hts (.fieldLink RX6 25 "ThreadMoved$State" "barred" "I") (by decide +kernel)
  have hl : lv_has ls 2 [(0, .ref t_q), (1, .int p1)] := hl
  have hret : ∀ (rrz : Int32), rrz = rr → narrow .boolean (.int rrz) = .int rrz → ∀ (H : Heap) (locs : List Loc) (pc : Nat) (ls : Array Slot), va_P g.1 vwCl [oX6 t_q t_plan_q t_secondEnds_q t_string_q t_barred t_period t_his t_beast t_habit t_onString t_step t_eaten] H → va_S A s.heap H locs → decode cX6_isBarred pc = .ok (.ireturn, 1) → W p l e rmX6_isBarred s m args below meth c H locs 0 0 Q (F0 m pc ls [.int rrz]) := by
    intro rrz he hzz H locs pc ls hP hS hd
    cases he
    exact hret H locs pc ls hzz hP hS hd
  unfold f_X6_isBarred at hf
  refine lv_aload_n hx hb dX6_isBarred_0 rfl (lv_at hl 0 rfl) ?_
  refine va_get (D := g.1) (ci := 6) (v := .int t_barred) (C := RX6) (T := TX6) (N := 11) hx hb hts inX6 hown hK hP 0 rfl rfl 3 (by decide) k25 (fun _ h9 => h9) rfl dX6_isBarred_1 ?_
  refine lv_iload_n hx hb dX6_isBarred_4 rfl (lv_at hl 1 rfl) ?_
  refine lv_ishr hx hb dX6_isBarred_5 ?_
  refine lv_iconst (v := (1 : Int32)) hx hb dX6_isBarred_6 (by decide) ?_
  refine lv_iand hx hb dX6_isBarred_7 ?_
  refine lv_if_eq (tgt := 15) hx hb dX6_isBarred_8 (by decide) (fun c_1 => ?_) (fun c_1 => ?_)
  · have hf := ite_t hf c_1
    refine lv_iconst (v := (0 : Int32)) hx hb dX6_isBarred_15 (by decide) ?_
    exact hret (0 : Int32) (Option.some.inj hf) rfl _ _ _ _ hP hS dX6_isBarred_16
  · have hf := ite_f hf c_1
    refine lv_iconst (v := (1 : Int32)) hx hb dX6_isBarred_11 (by decide) ?_
    refine lv_goto (tgt := 16) hx hb dX6_isBarred_12 (by decide) ?_
    exact hret (1 : Int32) (Option.some.inj hf) rfl _ _ _ _ hP hS dX6_isBarred_16

def f_X6_across (t_barred : Int32) (t_plan_doorCount : Int32) (t_plan_firstEnds : Nat → Int32) (t_secondEnds : Nat → Int32) (p1 : Int32) (p2 : Int32) : Option (Int32) :=
 (ob1 (f_X2_hasDoor t_plan_doorCount p1) (fun r_1 =>
 (if r_1 = (0 : Int32) then
 (some (-4 : Int32))
 else (ob1 (f_X6_isBarred t_barred p1) (fun r_4 =>
 (if r_4 = (0 : Int32) then
 (gin p1 10 (if (t_plan_firstEnds p1.toNatClampNeg) = p2 then
 (gin p1 10 (some (t_secondEnds p1.toNatClampNeg)))
 else (gin p1 10 (if (t_secondEnds p1.toNatClampNeg) = p2 then
 (gin p1 10 (some (t_plan_firstEnds p1.toNatClampNeg)))
 else (some (-4 : Int32))))))
 else (some (-4 : Int32))))))))
abbrev rmX6_across : Room := { frames := 1, cells := 0, slots := 0, locals := 21 }
set_option maxHeartbeats 4000000 in
set_option maxRecDepth 100000 in
theorem c_X6_across (l : Launch) (g : Gh) (sz : Nat) (t_q t_plan_q t_secondEnds_q t_string_q t_plan_firstEnds_q t_plan_rules_q : Nat) (t_barred : Int32) (t_period : Int32) (t_his : Int32) (t_beast : Int32) (t_habit : Int32) (t_onString : Int32) (t_step : Int32) (t_eaten : Int32) (t_plan_rooms : Int32) (t_plan_doorCount : Int32) (t_plan_ruleCount : Int32) (t_plan_stringLength : Int32) (t_plan_firstEnds : Nat → Int32) (t_secondEnds : Nat → Int32) (p1 : Int32) (p2 : Int32) (rr : Int32) (hf : f_X6_across t_barred t_plan_doorCount t_plan_firstEnds t_secondEnds p1 p2 = some rr) : CI l yX6_across wsX6_across rmX6_across [.ref t_q, .int p1, .int p2] g sz [oX6 t_q t_plan_q t_secondEnds_q t_string_q t_barred t_period t_his t_beast t_habit t_onString t_step t_eaten, oX2 t_plan_q t_plan_firstEnds_q t_plan_rules_q t_plan_rooms t_plan_doorCount t_plan_ruleCount t_plan_stringLength, aI g t_plan_firstEnds_q 10 t_plan_firstEnds, aI g t_secondEnds_q 10 t_secondEnds] [oX6 t_q t_plan_q t_secondEnds_q t_string_q t_barred t_period t_his t_beast t_habit t_onString t_step t_eaten, oX2 t_plan_q t_plan_firstEnds_q t_plan_rules_q t_plan_rooms t_plan_doorCount t_plan_ruleCount t_plan_stringLength, aI g t_plan_firstEnds_q 10 t_plan_firstEnds, aI g t_secondEnds_q 10 t_secondEnds] rr := by
  refine ent_i (cc := cX6_across) (maxL := 3) (by decide) rfl (Nat.le_of_ble_eq_true rfl) ?_
  intro p e s m args below meth c A Q hx hb hml hown hts hK hz hk hA hD hP hS hret ls hl
  have hown : s.vm.findClass RX6 = some m.cls := hown
  have inX2 : ∀ w ∈ u_ws RX2 TX2 6, w ∈ wsX6_across := by decide +kernel
  have inX6 : ∀ w ∈ u_ws RX6 TX6 11, w ∈ wsX6_across := by decide +kernel
  have k9 := hts (.fieldLink RX6 9 "ThreadMoved$State" "secondEnds" "[I") (by decide +kernel)
  have k18 := hts (.fieldLink RX6 18 "ThreadMoved$State" "plan" "LThreadMoved$Plan;") (by decide +kernel)
  have k74 := hts (.fieldLink RX6 74 "ThreadMoved$Plan" "firstEnds" "[I") (by decide +kernel)
  have hl : lv_has ls 3 [(0, .ref t_q), (1, .int p1), (2, .int p2)] := hl
  have hret : ∀ (rrz : Int32), rrz = rr → ∀ (H : Heap) (locs : List Loc) (pc : Nat) (ls : Array Slot), va_P g.1 vwCl [oX6 t_q t_plan_q t_secondEnds_q t_string_q t_barred t_period t_his t_beast t_habit t_onString t_step t_eaten, oX2 t_plan_q t_plan_firstEnds_q t_plan_rules_q t_plan_rooms t_plan_doorCount t_plan_ruleCount t_plan_stringLength, aI g t_plan_firstEnds_q 10 t_plan_firstEnds, aI g t_secondEnds_q 10 t_secondEnds] H → va_S A s.heap H locs → decode cX6_across pc = .ok (.ireturn, 1) → W p l e rmX6_across s m args below meth c H locs 0 0 Q (F0 m pc ls [.int rrz]) := by
    intro rrz he H locs pc ls hP hS hd
    cases he
    exact hret H locs pc ls hP hS hd
  unfold f_X6_across at hf
  refine lv_aload_n hx hb dX6_across_0 rfl (lv_at hl 0 rfl) ?_
  refine va_get (D := g.1) (ci := 6) (v := .ref t_plan_q) (C := RX6) (T := TX6) (N := 11) hx hb hts inX6 hown hK hP 0 rfl rfl 0 (by decide) k18 (fun _ h9 => h9) rfl dX6_across_1 ?_
  refine lv_iload_n hx hb dX6_across_4 rfl (lv_at hl 1 rfl) ?_
  obtain ⟨r_1, hc_2, hf⟩ := ob1_e hf
  refine kV_i (wn := [oX6 t_q t_plan_q t_secondEnds_q t_string_q t_barred t_period t_his t_beast t_habit t_onString t_step t_eaten, oX2 t_plan_q t_plan_firstEnds_q t_plan_rules_q t_plan_rooms t_plan_doorCount t_plan_ruleCount t_plan_stringLength, aI g t_plan_firstEnds_q 10 t_plan_firstEnds, aI g t_secondEnds_q 10 t_secondEnds]) (As := [.int p1]) (rest := []) (c_X2_hasDoor l g _ t_plan_q t_plan_firstEnds_q t_plan_rules_q t_plan_rooms t_plan_doorCount t_plan_ruleCount t_plan_stringLength p1 r_1 hc_2) ⟨hx, hb, hml, hown, hts⟩ (cwV 1 hts gX6_across_X2_hasDoor rfl rfl rfl (by decide +kernel) ⟨by decide, by decide⟩) hK hz hk hP (hD.re rfl) hS hA [1] rfl rfl rfl rfl rfl rfl rfl hl.1 rfl (Nat.le_of_ble_eq_true rfl) dX6_across_5 (fun H locs hP hS => ?_)
  refine lv_if_eq (tgt := 19) hx hb dX6_across_8 (by decide) (fun c_3 => ?_) (fun c_3 => ?_)
  · have hf := ite_t hf c_3
    refine lv_bipush (v := (-4 : Int32)) hx hb dX6_across_19 (by decide) ?_
    exact hret (-4 : Int32) (Option.some.inj hf) _ _ _ _ hP hS dX6_across_21
  · have hf := ite_f hf c_3
    refine lv_aload_n hx hb dX6_across_11 rfl (lv_at hl 0 rfl) ?_
    refine lv_iload_n hx hb dX6_across_12 rfl (lv_at hl 1 rfl) ?_
    obtain ⟨r_4, hc_5, hf⟩ := ob1_e hf
    refine kV_i (wn := [oX6 t_q t_plan_q t_secondEnds_q t_string_q t_barred t_period t_his t_beast t_habit t_onString t_step t_eaten, oX2 t_plan_q t_plan_firstEnds_q t_plan_rules_q t_plan_rooms t_plan_doorCount t_plan_ruleCount t_plan_stringLength, aI g t_plan_firstEnds_q 10 t_plan_firstEnds, aI g t_secondEnds_q 10 t_secondEnds]) (As := [.int p1]) (rest := []) (c_X6_isBarred l g _ t_q t_plan_q t_secondEnds_q t_string_q t_barred t_period t_his t_beast t_habit t_onString t_step t_eaten p1 r_4 hc_5) ⟨hx, hb, hml, hown, hts⟩ (cwV 1 hts gX6_across_X6_isBarred rfl rfl rfl (by decide +kernel) ⟨by decide, by decide⟩) hK hz hk hP (hD.re rfl) hS hA [0] rfl rfl rfl rfl rfl rfl rfl hl.1 rfl (Nat.le_of_ble_eq_true rfl) dX6_across_13 (fun H locs hP hS => ?_)
    refine lv_if_eq (tgt := 22) hx hb dX6_across_16 (by decide) (fun c_6 => ?_) (fun c_6 => ?_)
    · have hf := ite_t hf c_6
      refine lv_aload_n hx hb dX6_across_22 rfl (lv_at hl 0 rfl) ?_
      refine va_get (D := g.1) (ci := 6) (v := .ref t_plan_q) (C := RX6) (T := TX6) (N := 11) hx hb hts inX6 hown hK hP 0 rfl rfl 0 (by decide) k18 (fun _ h9 => h9) rfl dX6_across_23 ?_
      refine va_get (D := g.1) (ci := 2) (v := .ref t_plan_firstEnds_q) (C := RX2) (T := TX2) (N := 6) hx hb hts inX2 hown hK hP 1 rfl rfl 0 (by decide) k74 (fun _ h9 => h9) rfl dX6_across_26 ?_
      refine lv_iload_n hx hb dX6_across_29 rfl (lv_at hl 1 rfl) ?_
      obtain ⟨h_7, hf⟩ := gin_e hf
      refine va_iald hx hb hK hP 2 0 rfl rfl h_7 dX6_across_30 ?_
      refine lv_iload_n hx hb dX6_across_31 rfl (lv_at hl 2 rfl) ?_
      refine lv_icmp_ne (tgt := 42) hx hb dX6_across_32 (by decide) (fun c_8 => ?_) (fun c_8 => ?_)
      · have hf := ite_f hf c_8
        refine lv_aload_n hx hb dX6_across_42 rfl (lv_at hl 0 rfl) ?_
        refine va_get (D := g.1) (ci := 6) (v := .ref t_secondEnds_q) (C := RX6) (T := TX6) (N := 11) hx hb hts inX6 hown hK hP 0 rfl rfl 1 (by decide) k9 (fun _ h9 => h9) rfl dX6_across_43 ?_
        refine lv_iload_n hx hb dX6_across_46 rfl (lv_at hl 1 rfl) ?_
        obtain ⟨h_9, hf⟩ := gin_e hf
        refine va_iald hx hb hK hP 3 0 rfl rfl h_9 dX6_across_47 ?_
        refine lv_iload_n hx hb dX6_across_48 rfl (lv_at hl 2 rfl) ?_
        refine lv_icmp_ne (tgt := 64) hx hb dX6_across_49 (by decide) (fun c_10 => ?_) (fun c_10 => ?_)
        · have hf := ite_f hf c_10
          refine lv_bipush (v := (-4 : Int32)) hx hb dX6_across_64 (by decide) ?_
          exact hret (-4 : Int32) (Option.some.inj hf) _ _ _ _ hP hS dX6_across_66
        · have hf := ite_t hf c_10
          refine lv_aload_n hx hb dX6_across_52 rfl (lv_at hl 0 rfl) ?_
          refine va_get (D := g.1) (ci := 6) (v := .ref t_plan_q) (C := RX6) (T := TX6) (N := 11) hx hb hts inX6 hown hK hP 0 rfl rfl 0 (by decide) k18 (fun _ h9 => h9) rfl dX6_across_53 ?_
          refine va_get (D := g.1) (ci := 2) (v := .ref t_plan_firstEnds_q) (C := RX2) (T := TX2) (N := 6) hx hb hts inX2 hown hK hP 1 rfl rfl 0 (by decide) k74 (fun _ h9 => h9) rfl dX6_across_56 ?_
          refine lv_iload_n hx hb dX6_across_59 rfl (lv_at hl 1 rfl) ?_
          obtain ⟨h_11, hf⟩ := gin_e hf
          refine va_iald hx hb hK hP 2 0 rfl rfl h_11 dX6_across_60 ?_
          refine lv_goto (tgt := 66) hx hb dX6_across_61 (by decide) ?_
          exact hret (t_plan_firstEnds p1.toNatClampNeg) (Option.some.inj hf) _ _ _ _ hP hS dX6_across_66
      · have hf := ite_t hf c_8
        refine lv_aload_n hx hb dX6_across_35 rfl (lv_at hl 0 rfl) ?_
        refine va_get (D := g.1) (ci := 6) (v := .ref t_secondEnds_q) (C := RX6) (T := TX6) (N := 11) hx hb hts inX6 hown hK hP 0 rfl rfl 1 (by decide) k9 (fun _ h9 => h9) rfl dX6_across_36 ?_
        refine lv_iload_n hx hb dX6_across_39 rfl (lv_at hl 1 rfl) ?_
        obtain ⟨h_12, hf⟩ := gin_e hf
        refine va_iald hx hb hK hP 3 0 rfl rfl h_12 dX6_across_40 ?_
        exact hret (t_secondEnds p1.toNatClampNeg) (Option.some.inj hf) _ _ _ _ hP hS dX6_across_41
    · have hf := ite_f hf c_6
      refine lv_bipush (v := (-4 : Int32)) hx hb dX6_across_19 (by decide) ?_
      exact hret (-4 : Int32) (Option.some.inj hf) _ _ _ _ hP hS dX6_across_21

def f_X7_modulo (p0 : Int32) (p1 : Int32) : Option (Int32) :=
 (if p1 ≤ (0 : Int32) then
 (some (0 : Int32))
 else (gnz p1 (some (p0 - p0 / p1 * p1))))
abbrev rmX7_modulo : Room := { frames := 0, cells := 0, slots := 0, locals := 0 }
set_option maxHeartbeats 4000000 in
set_option maxRecDepth 100000 in
theorem c_X7_modulo (l : Launch) (g : Gh) (sz : Nat) (p0 : Int32) (p1 : Int32) (rr : Int32) (hf : f_X7_modulo p0 p1 = some rr) : CI l yX7_modulo wsX7_modulo rmX7_modulo [.int p0, .int p1] g sz [] [] rr := by
  refine ent_i (cc := cX7_modulo) (maxL := 2) (by decide) rfl (Nat.le_of_ble_eq_true rfl) ?_
  intro p e s m args below meth c A Q hx hb hml hown hts hK hz hk hA hD hP hS hret ls hl
  have hown : s.vm.findClass RX7 = some m.cls := hown
  have hl : lv_has ls 2 [(0, .int p0), (1, .int p1)] := hl
  have hret : ∀ (rrz : Int32), rrz = rr → ∀ (H : Heap) (locs : List Loc) (pc : Nat) (ls : Array Slot), va_P g.1 vwCl [] H → va_S A s.heap H locs → decode cX7_modulo pc = .ok (.ireturn, 1) → W p l e rmX7_modulo s m args below meth c H locs 0 0 Q (F0 m pc ls [.int rrz]) := by
    intro rrz he H locs pc ls hP hS hd
    cases he
    exact hret H locs pc ls hP hS hd
  unfold f_X7_modulo at hf
  refine lv_iload_n hx hb dX7_modulo_0 rfl (lv_at hl 1 rfl) ?_
  refine lv_if_le (tgt := 10) hx hb dX7_modulo_1 (by decide) (fun c_1 => ?_) (fun c_1 => ?_)
  · have hf := ite_t hf c_1
    refine lv_iconst (v := (0 : Int32)) hx hb dX7_modulo_10 (by decide) ?_
    exact hret (0 : Int32) (Option.some.inj hf) _ _ _ _ hP hS dX7_modulo_11
  · have hf := ite_f hf c_1
    refine lv_iload_n hx hb dX7_modulo_4 rfl (lv_at hl 0 rfl) ?_
    refine lv_iload_n hx hb dX7_modulo_5 rfl (lv_at hl 1 rfl) ?_
    obtain ⟨z_2, hf⟩ := gnz_e hf
    refine lv_irem hx hb dX7_modulo_6 z_2 ?_
    refine lv_goto (tgt := 11) hx hb dX7_modulo_7 (by decide) ?_
    exact hret (p0 - p0 / p1 * p1) (Option.some.inj hf) _ _ _ _ hP hS dX7_modulo_11

def f_X6_change (t_barred : Int32) (t_plan_rooms : Int32) (t_secondEnds : Nat → Int32) (p1 : Int32) : Option (Int32 × (Nat → Int32)) :=
 (ob1 (f_X7_firstDoorOf p1) (fun r_1 =>
 (ob1 (f_X7_secondPartOf p1) (fun r_3 =>
 (if p1 < (200 : Int32) then
 (if p1 < (100 : Int32) then
 (gin r_1 10 (bnd (t_secondEnds r_1.toNatClampNeg) (fun v4_8 =>
 (gin r_3 10 (gin r_1 10 (bnd (upd t_secondEnds r_1.toNatClampNeg (t_secondEnds r_3.toNatClampNeg)) (fun t_secondEnds_11 =>
 (gin r_3 10 (bnd (upd t_secondEnds_11 r_3.toNatClampNeg v4_8) (fun t_secondEnds_13 =>
 (some (t_barred, t_secondEnds_13))))))))))))
 else (gin r_1 10 (ob1 (f_X7_modulo ((t_secondEnds r_1.toNatClampNeg) + r_3) t_plan_rooms) (fun r_15 =>
 (gin r_1 10 (bnd (upd t_secondEnds r_1.toNatClampNeg r_15) (fun t_secondEnds_18 =>
 (some (t_barred, t_secondEnds_18)))))))))
 else (bnd (t_barred ^^^ ((1 : Int32) <<< (r_1 &&& 31))) (fun t_barred_19 =>
 (some (t_barred_19, t_secondEnds)))))))))
abbrev rmX6_change : Room := { frames := 1, cells := 0, slots := 0, locals := 21 }
set_option maxHeartbeats 4000000 in
set_option maxRecDepth 100000 in
theorem c_X6_change (l : Launch) (g : Gh) (sz : Nat) (t_q t_plan_q t_secondEnds_q t_string_q t_plan_firstEnds_q t_plan_rules_q : Nat) (t_barred : Int32) (t_period : Int32) (t_his : Int32) (t_beast : Int32) (t_habit : Int32) (t_onString : Int32) (t_step : Int32) (t_eaten : Int32) (t_plan_rooms : Int32) (t_plan_doorCount : Int32) (t_plan_ruleCount : Int32) (t_plan_stringLength : Int32) (t_secondEnds : Nat → Int32) (p1 : Int32) (t_barred' : Int32) (t_secondEnds' : Nat → Int32) (hf : f_X6_change t_barred t_plan_rooms t_secondEnds p1 = some (t_barred', t_secondEnds')) : CV l yX6_change wsX6_change rmX6_change [.ref t_q, .int p1] g sz [oX6 t_q t_plan_q t_secondEnds_q t_string_q t_barred t_period t_his t_beast t_habit t_onString t_step t_eaten, oX2 t_plan_q t_plan_firstEnds_q t_plan_rules_q t_plan_rooms t_plan_doorCount t_plan_ruleCount t_plan_stringLength, aI g t_secondEnds_q 10 t_secondEnds] [oX6 t_q t_plan_q t_secondEnds_q t_string_q t_barred' t_period t_his t_beast t_habit t_onString t_step t_eaten, oX2 t_plan_q t_plan_firstEnds_q t_plan_rules_q t_plan_rooms t_plan_doorCount t_plan_ruleCount t_plan_stringLength, aI g t_secondEnds_q 10 t_secondEnds'] := by
  refine ent_v (cc := cX6_change) (maxL := 5) (by decide) rfl (Nat.le_of_ble_eq_true rfl) ?_
  intro p e s m args below meth c A Q hx hb hml hown hts hK hz hk hA hD hP hS hret ls hl
  have hown : s.vm.findClass RX6 = some m.cls := hown
  have inX2 : ∀ w ∈ u_ws RX2 TX2 6, w ∈ wsX6_change := by decide +kernel
  have inX6 : ∀ w ∈ u_ws RX6 TX6 11, w ∈ wsX6_change := by decide +kernel
  have k9 := hts (.fieldLink RX6 9 "ThreadMoved$State" "secondEnds" "[I") (by decide +kernel)
  have k18 := hts (.fieldLink RX6 18 "ThreadMoved$State" "plan" "LThreadMoved$Plan;") (by decide +kernel)
  have k25 := hts (.fieldLink RX6 25 "ThreadMoved$State" "barred" "I") (by decide +kernel)
  have k91 := hts (.fieldLink RX6 91 "ThreadMoved$Plan" "rooms" "I") (by decide +kernel)
  have hl : lv_has ls 5 [(0, .ref t_q), (1, .int p1)] := hl
  have hret : ∀ (t_barredz : Int32) (t_secondEndsz : Nat → Int32), (t_barredz, t_secondEndsz) = (t_barred', t_secondEnds') → ∀ (H : Heap) (locs : List Loc) (pc : Nat) (ls : Array Slot), va_P g.1 vwCl [oX6 t_q t_plan_q t_secondEnds_q t_string_q t_barredz t_period t_his t_beast t_habit t_onString t_step t_eaten, oX2 t_plan_q t_plan_firstEnds_q t_plan_rules_q t_plan_rooms t_plan_doorCount t_plan_ruleCount t_plan_stringLength, aI g t_secondEnds_q 10 t_secondEndsz] H → va_S A s.heap H locs → decode cX6_change pc = .ok (.return_, 1) → W p l e rmX6_change s m args below meth c H locs 0 0 Q (F0 m pc ls []) := by
    intro t_barredz t_secondEndsz he H locs pc ls hP hS hd
    cases he
    exact hret H locs pc ls hP hS hd
  unfold f_X6_change at hf
  refine lv_iload_n hx hb dX6_change_0 rfl (lv_at hl 1 rfl) ?_
  obtain ⟨r_1, hc_2, hf⟩ := ob1_e hf
  refine kSN_i (wn := [oX6 t_q t_plan_q t_secondEnds_q t_string_q t_barred t_period t_his t_beast t_habit t_onString t_step t_eaten, oX2 t_plan_q t_plan_firstEnds_q t_plan_rules_q t_plan_rooms t_plan_doorCount t_plan_ruleCount t_plan_stringLength, aI g t_secondEnds_q 10 t_secondEnds]) (As := [.int p1]) (rest := []) (c_X7_firstDoorOf l g _ p1 r_1 hc_2) ⟨hx, hb, hml, hown, hts⟩ ⟨va_cnB 1 hts gX6_change_X7_firstDoorOf_n84 rfl rfl rfl (hz.1 (RX6, 84, yX7_firstDoorOf, RX7) (by decide +kernel)) (hts (.initialized RX7) (by decide +kernel)) (by decide +kernel) ⟨by decide, by decide⟩, hts (.static yX7_firstDoorOf) (by decide +kernel), trivial⟩ hK hz hk hP (hD.re rfl) hS hA [] rfl rfl rfl rfl rfl hl.1 rfl (Nat.le_of_ble_eq_true rfl) dX6_change_1 (fun H locs hP hS => ?_)
  refine lv_istore_n (lv' := [(2, .int r_1), (0, .ref t_q), (1, .int p1)]) hx hb dX6_change_4 rfl hl (by decide) rfl (fun ls hl => ?_)
  refine lv_iload_n hx hb dX6_change_5 rfl (lv_at hl 2 rfl) ?_
  obtain ⟨r_3, hc_4, hf⟩ := ob1_e hf
  refine kSN_i (wn := [oX6 t_q t_plan_q t_secondEnds_q t_string_q t_barred t_period t_his t_beast t_habit t_onString t_step t_eaten, oX2 t_plan_q t_plan_firstEnds_q t_plan_rules_q t_plan_rooms t_plan_doorCount t_plan_ruleCount t_plan_stringLength, aI g t_secondEnds_q 10 t_secondEnds]) (As := [.int p1]) (rest := []) (c_X7_secondPartOf l g _ p1 r_3 hc_4) ⟨hx, hb, hml, hown, hts⟩ ⟨va_cnB 1 hts gX6_change_X7_secondPartOf_n88 rfl rfl rfl (hz.1 (RX6, 88, yX7_secondPartOf, RX7) (by decide +kernel)) (hts (.initialized RX7) (by decide +kernel)) (by decide +kernel) ⟨by decide, by decide⟩, hts (.static yX7_secondPartOf) (by decide +kernel), trivial⟩ hK hz hk hP (hD.re rfl) hS hA [] rfl rfl rfl rfl rfl hl.1 rfl (Nat.le_of_ble_eq_true rfl) dX6_change_6 (fun H locs hP hS => ?_)
  refine lv_istore_n (lv' := [(3, .int r_3), (2, .int r_1), (0, .ref t_q), (1, .int p1)]) hx hb dX6_change_9 rfl hl (by decide) rfl (fun ls hl => ?_)
  refine lv_iload_n hx hb dX6_change_10 rfl (lv_at hl 3 rfl) ?_
  refine lv_sipush (v := (200 : Int32)) hx hb dX6_change_11 (by decide) ?_
  refine lv_icmp_lt (tgt := 32) hx hb dX6_change_14 (by decide) (fun c_5 => ?_) (fun c_5 => ?_)
  · have hf := ite_t hf c_5
    refine lv_iload_n hx hb dX6_change_32 rfl (lv_at hl 3 rfl) ?_
    refine lv_bipush (v := (100 : Int32)) hx hb dX6_change_33 (by decide) ?_
    refine lv_icmp_lt (tgt := 65) hx hb dX6_change_35 (by decide) (fun c_6 => ?_) (fun c_6 => ?_)
    · have hf := ite_t hf c_6
      refine lv_aload_n hx hb dX6_change_65 rfl (lv_at hl 2 rfl) ?_
      refine va_get (D := g.1) (ci := 6) (v := .ref t_secondEnds_q) (C := RX6) (T := TX6) (N := 11) hx hb hts inX6 hown hK hP 0 rfl rfl 1 (by decide) k9 (fun _ h9 => h9) rfl dX6_change_66 ?_
      refine lv_iload_n hx hb dX6_change_69 rfl (lv_at hl 1 rfl) ?_
      obtain ⟨h_7, hf⟩ := gin_e hf
      refine va_iald hx hb hK hP 2 0 rfl rfl h_7 dX6_change_70 ?_
      obtain ⟨v4_8, ev4_8, hf⟩ := bnd_e hf
      refine tp_i ev4_8 ?_
      refine lv_istore (lv' := [(4, .int v4_8), (3, .int r_3), (2, .int r_1), (0, .ref t_q), (1, .int p1)]) hx hb dX6_change_71 hl (by decide) rfl (fun ls hl => ?_)
      refine lv_aload_n hx hb dX6_change_73 rfl (lv_at hl 3 rfl) ?_
      refine va_get (D := g.1) (ci := 6) (v := .ref t_secondEnds_q) (C := RX6) (T := TX6) (N := 11) hx hb hts inX6 hown hK hP 0 rfl rfl 1 (by decide) k9 (fun _ h9 => h9) rfl dX6_change_74 ?_
      refine lv_iload_n hx hb dX6_change_77 rfl (lv_at hl 2 rfl) ?_
      refine lv_aload_n hx hb dX6_change_78 rfl (lv_at hl 3 rfl) ?_
      refine va_get (D := g.1) (ci := 6) (v := .ref t_secondEnds_q) (C := RX6) (T := TX6) (N := 11) hx hb hts inX6 hown hK hP 0 rfl rfl 1 (by decide) k9 (fun _ h9 => h9) rfl dX6_change_79 ?_
      refine lv_iload_n hx hb dX6_change_82 rfl (lv_at hl 1 rfl) ?_
      obtain ⟨h_9, hf⟩ := gin_e hf
      refine va_iald hx hb hK hP 2 0 rfl rfl h_9 dX6_change_83 ?_
      obtain ⟨h_10, hf⟩ := gin_e hf
      obtain ⟨t_secondEnds_11, et_secondEnds_11, hf⟩ := bnd_e hf
      refine va_iast hx hb hK hP (hD.re rfl) hS 2 0 rfl rfl h_10 dX6_change_84 (fun H locs hP _ hS => ?_)
      have hP : va_P g.1 vwCl [oX6 t_q t_plan_q t_secondEnds_q t_string_q t_barred t_period t_his t_beast t_habit t_onString t_step t_eaten, oX2 t_plan_q t_plan_firstEnds_q t_plan_rules_q t_plan_rooms t_plan_doorCount t_plan_ruleCount t_plan_stringLength, aI g t_secondEnds_q 10 t_secondEnds_11] H := by rw [et_secondEnds_11]; exact hP
      refine lv_aload_n hx hb dX6_change_85 rfl (lv_at hl 3 rfl) ?_
      refine va_get (D := g.1) (ci := 6) (v := .ref t_secondEnds_q) (C := RX6) (T := TX6) (N := 11) hx hb hts inX6 hown hK hP 0 rfl rfl 1 (by decide) k9 (fun _ h9 => h9) rfl dX6_change_86 ?_
      refine lv_iload_n hx hb dX6_change_89 rfl (lv_at hl 1 rfl) ?_
      refine lv_iload hx hb dX6_change_90 (lv_at hl 0 rfl) ?_
      obtain ⟨h_12, hf⟩ := gin_e hf
      obtain ⟨t_secondEnds_13, et_secondEnds_13, hf⟩ := bnd_e hf
      refine va_iast hx hb hK hP (hD.re rfl) hS 2 0 rfl rfl h_12 dX6_change_92 (fun H locs hP _ hS => ?_)
      have hP : va_P g.1 vwCl [oX6 t_q t_plan_q t_secondEnds_q t_string_q t_barred t_period t_his t_beast t_habit t_onString t_step t_eaten, oX2 t_plan_q t_plan_firstEnds_q t_plan_rules_q t_plan_rooms t_plan_doorCount t_plan_ruleCount t_plan_stringLength, aI g t_secondEnds_q 10 t_secondEnds_13] H := by rw [et_secondEnds_13]; exact hP
      exact hret t_barred t_secondEnds_13 (Option.some.inj hf) _ _ _ _ hP hS dX6_change_93
    · have hf := ite_f hf c_6
      refine lv_aload_n hx hb dX6_change_38 rfl (lv_at hl 2 rfl) ?_
      refine va_get (D := g.1) (ci := 6) (v := .ref t_secondEnds_q) (C := RX6) (T := TX6) (N := 11) hx hb hts inX6 hown hK hP 0 rfl rfl 1 (by decide) k9 (fun _ h9 => h9) rfl dX6_change_39 ?_
      refine lv_iload_n hx hb dX6_change_42 rfl (lv_at hl 1 rfl) ?_
      refine lv_aload_n hx hb dX6_change_43 rfl (lv_at hl 2 rfl) ?_
      refine va_get (D := g.1) (ci := 6) (v := .ref t_secondEnds_q) (C := RX6) (T := TX6) (N := 11) hx hb hts inX6 hown hK hP 0 rfl rfl 1 (by decide) k9 (fun _ h9 => h9) rfl dX6_change_44 ?_
      refine lv_iload_n hx hb dX6_change_47 rfl (lv_at hl 1 rfl) ?_
      obtain ⟨h_14, hf⟩ := gin_e hf
      refine va_iald hx hb hK hP 2 0 rfl rfl h_14 dX6_change_48 ?_
      refine lv_iload_n hx hb dX6_change_49 rfl (lv_at hl 0 rfl) ?_
      refine lv_iadd hx hb dX6_change_50 ?_
      refine lv_aload_n hx hb dX6_change_51 rfl (lv_at hl 2 rfl) ?_
      refine va_get (D := g.1) (ci := 6) (v := .ref t_plan_q) (C := RX6) (T := TX6) (N := 11) hx hb hts inX6 hown hK hP 0 rfl rfl 0 (by decide) k18 (fun _ h9 => h9) rfl dX6_change_52 ?_
      refine va_get (D := g.1) (ci := 2) (v := .int t_plan_rooms) (C := RX2) (T := TX2) (N := 6) hx hb hts inX2 hown hK hP 1 rfl rfl 2 (by decide) k91 (fun _ h9 => h9) rfl dX6_change_55 ?_
      obtain ⟨r_15, hc_16, hf⟩ := ob1_e hf
      refine kSN_i (wn := [oX6 t_q t_plan_q t_secondEnds_q t_string_q t_barred t_period t_his t_beast t_habit t_onString t_step t_eaten, oX2 t_plan_q t_plan_firstEnds_q t_plan_rules_q t_plan_rooms t_plan_doorCount t_plan_ruleCount t_plan_stringLength, aI g t_secondEnds_q 10 t_secondEnds]) (As := [.int ((t_secondEnds r_1.toNatClampNeg) + r_3), .int t_plan_rooms]) (rest := [.int r_1, .ref t_secondEnds_q]) (c_X7_modulo l g _ ((t_secondEnds r_1.toNatClampNeg) + r_3) t_plan_rooms r_15 hc_16) ⟨hx, hb, hml, hown, hts⟩ ⟨va_cnB 2 hts gX6_change_X7_modulo_n94 rfl rfl rfl (hz.1 (RX6, 94, yX7_modulo, RX7) (by decide +kernel)) (hts (.initialized RX7) (by decide +kernel)) (by decide +kernel) ⟨by decide, by decide⟩, hts (.static yX7_modulo) (by decide +kernel), trivial⟩ hK hz hk hP (hD.re rfl) hS hA [] rfl rfl rfl rfl rfl hl.1 rfl (Nat.le_of_ble_eq_true rfl) dX6_change_58 (fun H locs hP hS => ?_)
      obtain ⟨h_17, hf⟩ := gin_e hf
      obtain ⟨t_secondEnds_18, et_secondEnds_18, hf⟩ := bnd_e hf
      refine va_iast hx hb hK hP (hD.re rfl) hS 2 0 rfl rfl h_17 dX6_change_61 (fun H locs hP _ hS => ?_)
      have hP : va_P g.1 vwCl [oX6 t_q t_plan_q t_secondEnds_q t_string_q t_barred t_period t_his t_beast t_habit t_onString t_step t_eaten, oX2 t_plan_q t_plan_firstEnds_q t_plan_rules_q t_plan_rooms t_plan_doorCount t_plan_ruleCount t_plan_stringLength, aI g t_secondEnds_q 10 t_secondEnds_18] H := by rw [et_secondEnds_18]; exact hP
      refine lv_goto (tgt := 93) hx hb dX6_change_62 (by decide) ?_
      exact hret t_barred t_secondEnds_18 (Option.some.inj hf) _ _ _ _ hP hS dX6_change_93
  · have hf := ite_f hf c_5
    refine lv_aload_n hx hb dX6_change_17 rfl (lv_at hl 2 rfl) ?_
    refine lv_dup hx hb dX6_change_18 rfl ?_
    refine va_get (D := g.1) (ci := 6) (v := .int t_barred) (C := RX6) (T := TX6) (N := 11) hx hb hts inX6 hown hK hP 0 rfl rfl 3 (by decide) k25 (fun _ h9 => h9) rfl dX6_change_19 ?_
    refine lv_iconst (v := (1 : Int32)) hx hb dX6_change_22 (by decide) ?_
    refine lv_iload_n hx hb dX6_change_23 rfl (lv_at hl 1 rfl) ?_
    refine lv_ishl hx hb dX6_change_24 ?_
    refine lv_ixor hx hb dX6_change_25 ?_
    obtain ⟨t_barred_19, et_barred_19, hf⟩ := bnd_e hf
    refine tp_i et_barred_19 ?_
    refine va_put (D := g.1) (ci := 6) (v := .int t_barred_19) (ty := .int) (C := RX6) (T := TX6) (N := 11) hx hb hts inX6 tyX6 tyX6_ok nmX6 hown hK hP (hD.re rfl) hS 0 rfl rfl 3 (by decide) k25 (fun _ h9 => h9) rfl (by decide +kernel) rfl rfl (Nat.le_of_ble_eq_true rfl) dX6_change_26 (fun H locs hP _ hS => ?_)
    have hP : va_P g.1 vwCl [oX6 t_q t_plan_q t_secondEnds_q t_string_q t_barred_19 t_period t_his t_beast t_habit t_onString t_step t_eaten, oX2 t_plan_q t_plan_firstEnds_q t_plan_rules_q t_plan_rooms t_plan_doorCount t_plan_ruleCount t_plan_stringLength, aI g t_secondEnds_q 10 t_secondEnds] H := hP
    refine lv_goto (tgt := 93) hx hb dX6_change_29 (by decide) ?_
    exact hret t_barred_19 t_secondEnds (Option.some.inj hf) _ _ _ _ hP hS dX6_change_93

def b_X6_applyRules_2 (t_plan_rooms : Int32) (t_plan_ruleCount : Int32) (t_plan_rules : Nat → Int32) (v1_1 : Int32) (t_barred_2 : Int32) (t_secondEnds_3 : Nat → Int32) : Option ((Int32 × Int32 × (Nat → Int32)) ⊕ (Int32 × Int32 × (Nat → Int32))) :=
 (if t_plan_ruleCount ≤ v1_1 then
 (some (.inr (v1_1, t_barred_2, t_secondEnds_3)))
 else (gin v1_1 6 (ob2 (f_X6_change t_barred_2 t_plan_rooms t_secondEnds_3 (t_plan_rules v1_1.toNatClampNeg)) (fun t_barred_7 t_secondEnds_8 =>
 (bnd (v1_1 + (1 : Int32)) (fun v1_10 =>
 (some (.inl (v1_10, t_barred_7, t_secondEnds_8)))))))))
def f_X6_applyRules (t_barred : Int32) (t_plan_rooms : Int32) (t_plan_ruleCount : Int32) (t_plan_rules : Nat → Int32) (t_secondEnds : Nat → Int32) : Option (Int32 × (Nat → Int32)) :=
 (ob3 (itr (un3 (b_X6_applyRules_2 t_plan_rooms t_plan_ruleCount t_plan_rules)) FU ((0 : Int32), t_barred, t_secondEnds)) (fun x1_11 t_barred_12 t_secondEnds_13 =>
 (some (t_barred_12, t_secondEnds_13))))
abbrev rmX6_applyRules : Room := { frames := 2, cells := 0, slots := 0, locals := 45 }
set_option maxHeartbeats 4000000 in
set_option maxRecDepth 100000 in
theorem c_X6_applyRules (l : Launch) (g : Gh) (sz : Nat) (t_q t_plan_q t_secondEnds_q t_string_q t_plan_firstEnds_q t_plan_rules_q : Nat) (t_barred : Int32) (t_period : Int32) (t_his : Int32) (t_beast : Int32) (t_habit : Int32) (t_onString : Int32) (t_step : Int32) (t_eaten : Int32) (t_plan_rooms : Int32) (t_plan_doorCount : Int32) (t_plan_ruleCount : Int32) (t_plan_stringLength : Int32) (t_plan_rules : Nat → Int32) (t_secondEnds : Nat → Int32) (t_barred' : Int32) (t_secondEnds' : Nat → Int32) (hf : f_X6_applyRules t_barred t_plan_rooms t_plan_ruleCount t_plan_rules t_secondEnds = some (t_barred', t_secondEnds')) : CV l yX6_applyRules wsX6_applyRules rmX6_applyRules [.ref t_q] g sz [oX6 t_q t_plan_q t_secondEnds_q t_string_q t_barred t_period t_his t_beast t_habit t_onString t_step t_eaten, oX2 t_plan_q t_plan_firstEnds_q t_plan_rules_q t_plan_rooms t_plan_doorCount t_plan_ruleCount t_plan_stringLength, aI g t_plan_rules_q 6 t_plan_rules, aI g t_secondEnds_q 10 t_secondEnds] [oX6 t_q t_plan_q t_secondEnds_q t_string_q t_barred' t_period t_his t_beast t_habit t_onString t_step t_eaten, oX2 t_plan_q t_plan_firstEnds_q t_plan_rules_q t_plan_rooms t_plan_doorCount t_plan_ruleCount t_plan_stringLength, aI g t_plan_rules_q 6 t_plan_rules, aI g t_secondEnds_q 10 t_secondEnds'] := by
  refine ent_v (cc := cX6_applyRules) (maxL := 2) (by decide) rfl (Nat.le_of_ble_eq_true rfl) ?_
  intro p e s m args below meth c A Q hx hb hml hown hts hK hz hk hA hD hP hS hret ls hl
  have hown : s.vm.findClass RX6 = some m.cls := hown
  have inX2 : ∀ w ∈ u_ws RX2 TX2 6, w ∈ wsX6_applyRules := by decide +kernel
  have inX6 : ∀ w ∈ u_ws RX6 TX6 11, w ∈ wsX6_applyRules := by decide +kernel
  have k18 := hts (.fieldLink RX6 18 "ThreadMoved$State" "plan" "LThreadMoved$Plan;") (by decide +kernel)
  have k97 := hts (.fieldLink RX6 97 "ThreadMoved$Plan" "ruleCount" "I") (by decide +kernel)
  have k100 := hts (.fieldLink RX6 100 "ThreadMoved$Plan" "rules" "[I") (by decide +kernel)
  have hl : lv_has ls 2 [(0, .ref t_q)] := hl
  have hret : ∀ (t_barredz : Int32) (t_secondEndsz : Nat → Int32), (t_barredz, t_secondEndsz) = (t_barred', t_secondEnds') → ∀ (H : Heap) (locs : List Loc) (pc : Nat) (ls : Array Slot), va_P g.1 vwCl [oX6 t_q t_plan_q t_secondEnds_q t_string_q t_barredz t_period t_his t_beast t_habit t_onString t_step t_eaten, oX2 t_plan_q t_plan_firstEnds_q t_plan_rules_q t_plan_rooms t_plan_doorCount t_plan_ruleCount t_plan_stringLength, aI g t_plan_rules_q 6 t_plan_rules, aI g t_secondEnds_q 10 t_secondEndsz] H → va_S A s.heap H locs → decode cX6_applyRules pc = .ok (.return_, 1) → W p l e rmX6_applyRules s m args below meth c H locs 0 0 Q (F0 m pc ls []) := by
    intro t_barredz t_secondEndsz he H locs pc ls hP hS hd
    cases he
    exact hret H locs pc ls hP hS hd
  unfold f_X6_applyRules at hf
  refine lv_iconst (v := (0 : Int32)) hx hb dX6_applyRules_0 (by decide) ?_
  refine lv_istore_n (lv' := [(1, .int (0 : Int32)), (0, .ref t_q)]) hx hb dX6_applyRules_1 rfl hl (by decide) rfl (fun ls hl => ?_)
  obtain ⟨x1_11, t_barred_12, t_secondEnds_13, ho_4, hf⟩ := ob3_e hf
  have K_4 : ∀ (x1_11y : Int32) (t_barred_12y : Int32) (t_secondEnds_13y : Nat → Int32), x1_11 = x1_11y → t_barred_12 = t_barred_12y → t_secondEnds_13 = t_secondEnds_13y → ∀ (H : Heap) (locs : List Loc) (ls : Array Slot), va_P g.1 vwCl [oX6 t_q t_plan_q t_secondEnds_q t_string_q t_barred_12y t_period t_his t_beast t_habit t_onString t_step t_eaten, oX2 t_plan_q t_plan_firstEnds_q t_plan_rules_q t_plan_rooms t_plan_doorCount t_plan_ruleCount t_plan_stringLength, aI g t_plan_rules_q 6 t_plan_rules, aI g t_secondEnds_q 10 t_secondEnds_13y] H → va_S A s.heap H locs → lv_has ls 2 [] → W p l e rmX6_applyRules s m args below meth c H locs 0 0 Q (F0 m 32 ls []) := by
    intro x1_11y t_barred_12y t_secondEnds_13y ey0 ey1 ey2 H locs ls hP hS hl
    subst ey0
    subst ey1
    subst ey2
    exact hret t_barred_12 t_secondEnds_13 (Option.some.inj hf) _ _ _ _ hP hS dX6_applyRules_32
  have L_4 : ∀ (n : Nat) (v1_1 : Int32) (t_barred_2 : Int32) (t_secondEnds_3 : Nat → Int32), itr (un3 (b_X6_applyRules_2 t_plan_rooms t_plan_ruleCount t_plan_rules)) n (v1_1, t_barred_2, t_secondEnds_3) = some (x1_11, t_barred_12, t_secondEnds_13) → ∀ (H : Heap) (locs : List Loc) (ls : Array Slot), va_P g.1 vwCl [oX6 t_q t_plan_q t_secondEnds_q t_string_q t_barred_2 t_period t_his t_beast t_habit t_onString t_step t_eaten, oX2 t_plan_q t_plan_firstEnds_q t_plan_rules_q t_plan_rooms t_plan_doorCount t_plan_ruleCount t_plan_stringLength, aI g t_plan_rules_q 6 t_plan_rules, aI g t_secondEnds_q 10 t_secondEnds_3] H → va_S A s.heap H locs → lv_has ls 2 [(0, .ref t_q), (1, .int v1_1)] → W p l e rmX6_applyRules s m args below meth c H locs 0 0 Q (F0 m 2 ls []) := by
    refine itr_ind3 ?_
    intro v1_1 t_barred_2 t_secondEnds_3 z_4 hf hrec hex H locs ls hP hS hl
    unfold b_X6_applyRules_2 at hf
    refine lv_iload_n hx hb dX6_applyRules_2 rfl (lv_at hl 1 rfl) ?_
    refine lv_aload_n hx hb dX6_applyRules_3 rfl (lv_at hl 0 rfl) ?_
    refine va_get (D := g.1) (ci := 6) (v := .ref t_plan_q) (C := RX6) (T := TX6) (N := 11) hx hb hts inX6 hown hK hP 0 rfl rfl 0 (by decide) k18 (fun _ h9 => h9) rfl dX6_applyRules_4 ?_
    refine va_get (D := g.1) (ci := 2) (v := .int t_plan_ruleCount) (C := RX2) (T := TX2) (N := 6) hx hb hts inX2 hown hK hP 1 rfl rfl 4 (by decide) k97 (fun _ h9 => h9) rfl dX6_applyRules_7 ?_
    refine lv_icmp_ge (tgt := 32) hx hb dX6_applyRules_10 (by decide) (fun c_5 => ?_) (fun c_5 => ?_)
    · have hf := ite_t hf c_5
      exact K_4 v1_1 t_barred_2 t_secondEnds_3 (congrArg (fun t => t.1) (hex _ (Option.some.inj hf).symm).symm) (congrArg (fun t => t.2.1) (hex _ (Option.some.inj hf).symm).symm) (congrArg (fun t => t.2.2) (hex _ (Option.some.inj hf).symm).symm) _ _ _ hP hS (lv_sub hl [] rfl)
    · have hf := ite_f hf c_5
      refine lv_aload_n hx hb dX6_applyRules_13 rfl (lv_at hl 0 rfl) ?_
      refine lv_aload_n hx hb dX6_applyRules_14 rfl (lv_at hl 0 rfl) ?_
      refine va_get (D := g.1) (ci := 6) (v := .ref t_plan_q) (C := RX6) (T := TX6) (N := 11) hx hb hts inX6 hown hK hP 0 rfl rfl 0 (by decide) k18 (fun _ h9 => h9) rfl dX6_applyRules_15 ?_
      refine va_get (D := g.1) (ci := 2) (v := .ref t_plan_rules_q) (C := RX2) (T := TX2) (N := 6) hx hb hts inX2 hown hK hP 1 rfl rfl 1 (by decide) k100 (fun _ h9 => h9) rfl dX6_applyRules_18 ?_
      refine lv_iload_n hx hb dX6_applyRules_21 rfl (lv_at hl 1 rfl) ?_
      obtain ⟨h_6, hf⟩ := gin_e hf
      refine va_iald hx hb hK hP 2 0 rfl rfl h_6 dX6_applyRules_22 ?_
      obtain ⟨t_barred_7, t_secondEnds_8, hc_9, hf⟩ := ob2_e hf
      refine kV_v (wn := [oX6 t_q t_plan_q t_secondEnds_q t_string_q t_barred_7 t_period t_his t_beast t_habit t_onString t_step t_eaten, oX2 t_plan_q t_plan_firstEnds_q t_plan_rules_q t_plan_rooms t_plan_doorCount t_plan_ruleCount t_plan_stringLength, aI g t_plan_rules_q 6 t_plan_rules, aI g t_secondEnds_q 10 t_secondEnds_8]) (As := [.int (t_plan_rules v1_1.toNatClampNeg)]) (rest := []) (c_X6_change l g _ t_q t_plan_q t_secondEnds_q t_string_q t_plan_firstEnds_q t_plan_rules_q t_barred_2 t_period t_his t_beast t_habit t_onString t_step t_eaten t_plan_rooms t_plan_doorCount t_plan_ruleCount t_plan_stringLength t_secondEnds_3 (t_plan_rules v1_1.toNatClampNeg) t_barred_7 t_secondEnds_8 hc_9) ⟨hx, hb, hml, hown, hts⟩ (cwV 1 hts gX6_applyRules_X6_change rfl rfl rfl (by decide +kernel) ⟨by decide, by decide⟩) hK hz hk hP (hD.re rfl) hS hA [0, 1, 3] rfl rfl rfl rfl rfl rfl rfl hl.1 rfl (Nat.le_of_ble_eq_true rfl) dX6_applyRules_23 (fun H locs hP hS => ?_)
      obtain ⟨v1_10, ev1_10, hf⟩ := bnd_e hf
      refine lv_iinc (v := v1_10) (lv' := [(1, .int v1_10), (0, .ref t_q)]) hx hb dX6_applyRules_26 hl (k := 1) rfl (by rw [ev1_10]; rfl) (by decide) rfl (fun ls hl => ?_)
      refine lv_goto (tgt := 2) hx hb dX6_applyRules_29 (by decide) ?_
      exact hrec v1_10 t_barred_7 t_secondEnds_8 (Option.some.inj hf).symm _ _ _ hP hS (lv_sub hl [1, 0] rfl)
  exact L_4 FU (0 : Int32) t_barred t_secondEnds ho_4 _ _ _ hP hS (lv_sub hl [1, 0] rfl)
