def f_X2_copyFrom (a1_rooms : Int32) (a1_doorCount : Int32) (a1_ruleCount : Int32) (a1_stringLength : Int32) (a1_firstEnds : Nat → Int32) (a1_rules : Nat → Int32) (t_firstEnds : Nat → Int32) (t_rules : Nat → Int32) : Option (Int32 × Int32 × Int32 × Int32 × (Nat → Int32) × (Nat → Int32)) :=
 (bnd (va_cpy a1_firstEnds t_firstEnds 0 0 10) (fun t_firstEnds_1 =>
 (bnd (va_cpy a1_rules t_rules 0 0 6) (fun t_rules_2 =>
 (some (a1_doorCount, a1_rooms, a1_ruleCount, a1_stringLength, t_firstEnds_1, t_rules_2))))))
abbrev rmX2_copyFrom : Room := { frames := 1, cells := 0, slots := 0, locals := 40 }
set_option maxHeartbeats 4000000 in
set_option maxRecDepth 100000 in
theorem c_X2_copyFrom (l : Launch) (g : Gh) (sz : Nat) (t_q t_firstEnds_q t_rules_q a1_q a1_firstEnds_q a1_rules_q : Nat) (t_rooms : Int32) (t_doorCount : Int32) (t_ruleCount : Int32) (t_stringLength : Int32) (a1_rooms : Int32) (a1_doorCount : Int32) (a1_ruleCount : Int32) (a1_stringLength : Int32) (a1_firstEnds : Nat → Int32) (a1_rules : Nat → Int32) (t_firstEnds : Nat → Int32) (t_rules : Nat → Int32) (t_doorCount' : Int32) (t_rooms' : Int32) (t_ruleCount' : Int32) (t_stringLength' : Int32) (t_firstEnds' : Nat → Int32) (t_rules' : Nat → Int32) (hf : f_X2_copyFrom a1_rooms a1_doorCount a1_ruleCount a1_stringLength a1_firstEnds a1_rules t_firstEnds t_rules = some (t_doorCount', t_rooms', t_ruleCount', t_stringLength', t_firstEnds', t_rules')) : CV l yX2_copyFrom wsX2_copyFrom rmX2_copyFrom [.ref t_q, .ref a1_q] g sz [oX2 t_q t_firstEnds_q t_rules_q t_rooms t_doorCount t_ruleCount t_stringLength, oX2 a1_q a1_firstEnds_q a1_rules_q a1_rooms a1_doorCount a1_ruleCount a1_stringLength, aI g a1_firstEnds_q 10 a1_firstEnds, aI g a1_rules_q 6 a1_rules, aI g t_firstEnds_q 10 t_firstEnds, aI g t_rules_q 6 t_rules] [oX2 t_q t_firstEnds_q t_rules_q t_rooms' t_doorCount' t_ruleCount' t_stringLength', oX2 a1_q a1_firstEnds_q a1_rules_q a1_rooms a1_doorCount a1_ruleCount a1_stringLength, aI g a1_firstEnds_q 10 a1_firstEnds, aI g a1_rules_q 6 a1_rules, aI g t_firstEnds_q 10 t_firstEnds', aI g t_rules_q 6 t_rules'] := by
  refine ent_v (cc := cX2_copyFrom) (maxL := 2) (by decide) rfl (Nat.le_of_ble_eq_true rfl) ?_
  intro p e s m args below meth c A Q hx hb hml hown hts hK hz hk hA hD hP hS hret ls hl
  have hown : s.vm.findClass RX2 = some m.cls := hown
  have inX2 : ∀ w ∈ u_ws RX2 TX2 6, w ∈ wsX2_copyFrom := by decide +kernel
  have k9 := hts (.fieldLink RX2 9 "ThreadMoved$Plan" "firstEnds" "[I") (by decide +kernel)
  have k15 := hts (.fieldLink RX2 15 "ThreadMoved$Plan" "rules" "[I") (by decide +kernel)
  have k21 := hts (.fieldLink RX2 21 "ThreadMoved$Plan" "rooms" "I") (by decide +kernel)
  have k25 := hts (.fieldLink RX2 25 "ThreadMoved$Plan" "doorCount" "I") (by decide +kernel)
  have k28 := hts (.fieldLink RX2 28 "ThreadMoved$Plan" "ruleCount" "I") (by decide +kernel)
  have k31 := hts (.fieldLink RX2 31 "ThreadMoved$Plan" "stringLength" "I") (by decide +kernel)
  have hl : lv_has ls 2 [(0, .ref t_q), (1, .ref a1_q)] := hl
  have hret : ∀ (t_doorCountz : Int32) (t_roomsz : Int32) (t_ruleCountz : Int32) (t_stringLengthz : Int32) (t_firstEndsz : Nat → Int32) (t_rulesz : Nat → Int32), (t_doorCountz, t_roomsz, t_ruleCountz, t_stringLengthz, t_firstEndsz, t_rulesz) = (t_doorCount', t_rooms', t_ruleCount', t_stringLength', t_firstEnds', t_rules') → ∀ (H : Heap) (locs : List Loc) (pc : Nat) (ls : Array Slot), va_P g.1 vwCl [oX2 t_q t_firstEnds_q t_rules_q t_roomsz t_doorCountz t_ruleCountz t_stringLengthz, oX2 a1_q a1_firstEnds_q a1_rules_q a1_rooms a1_doorCount a1_ruleCount a1_stringLength, aI g a1_firstEnds_q 10 a1_firstEnds, aI g a1_rules_q 6 a1_rules, aI g t_firstEnds_q 10 t_firstEndsz, aI g t_rules_q 6 t_rulesz] H → va_S A s.heap H locs → decode cX2_copyFrom pc = .ok (.return_, 1) → W p l e rmX2_copyFrom s m args below meth c H locs 0 0 Q (F0 m pc ls []) := by
    intro t_doorCountz t_roomsz t_ruleCountz t_stringLengthz t_firstEndsz t_rulesz he H locs pc ls hP hS hd
    cases he
    exact hret H locs pc ls hP hS hd
  unfold f_X2_copyFrom at hf
  refine lv_aload_n hx hb dX2_copyFrom_0 rfl (lv_at hl 1 rfl) ?_
  refine va_get (D := g.1) (ci := 2) (v := .ref a1_firstEnds_q) (C := RX2) (T := TX2) (N := 6) hx hb hts inX2 hown hK hP 1 rfl rfl 0 (by decide) k9 (fun _ h9 => h9) rfl dX2_copyFrom_1 ?_
  refine lv_iconst (v := (0 : Int32)) hx hb dX2_copyFrom_4 (by decide) ?_
  refine lv_aload_n hx hb dX2_copyFrom_5 rfl (lv_at hl 0 rfl) ?_
  refine va_get (D := g.1) (ci := 2) (v := .ref t_firstEnds_q) (C := RX2) (T := TX2) (N := 6) hx hb hts inX2 hown hK hP 0 rfl rfl 0 (by decide) k9 (fun _ h9 => h9) rfl dX2_copyFrom_6 ?_
  refine lv_iconst (v := (0 : Int32)) hx hb dX2_copyFrom_9 (by decide) ?_
  refine lv_bipush (v := (10 : Int32)) hx hb dX2_copyFrom_10 (by decide) ?_
  obtain ⟨t_firstEnds_1, et_firstEnds_1, hf⟩ := bnd_e hf
  refine va_copyi hx hb (hml.trans hl.1.symm) hown (hts (.methodLink RX2 34 arraycopyName) (by decide +kernel)) (hts (.native arraycopyName) (by decide +kernel)) (hts (.static arraycopyName) (by decide +kernel)) (hts (.initialized "java/lang/System") (by decide +kernel)) hK hP (hD.re rfl) hS 2 4 0 0 rfl rfl rfl rfl rfl (by decide) (by decide) (by decide) (by decide) (by decide) (fun _ _ => rfl) (by decide) (by decide) dX2_copyFrom_12 (fun H locs hP _ hS => ?_)
  have hP : va_P g.1 vwCl [oX2 t_q t_firstEnds_q t_rules_q t_rooms t_doorCount t_ruleCount t_stringLength, oX2 a1_q a1_firstEnds_q a1_rules_q a1_rooms a1_doorCount a1_ruleCount a1_stringLength, aI g a1_firstEnds_q 10 a1_firstEnds, aI g a1_rules_q 6 a1_rules, aI g t_firstEnds_q 10 t_firstEnds_1, aI g t_rules_q 6 t_rules] H := by rw [et_firstEnds_1]; exact hP
  refine lv_aload_n hx hb dX2_copyFrom_15 rfl (lv_at hl 1 rfl) ?_
  refine va_get (D := g.1) (ci := 2) (v := .ref a1_rules_q) (C := RX2) (T := TX2) (N := 6) hx hb hts inX2 hown hK hP 1 rfl rfl 1 (by decide) k15 (fun _ h9 => h9) rfl dX2_copyFrom_16 ?_
  refine lv_iconst (v := (0 : Int32)) hx hb dX2_copyFrom_19 (by decide) ?_
  refine lv_aload_n hx hb dX2_copyFrom_20 rfl (lv_at hl 0 rfl) ?_
  refine va_get (D := g.1) (ci := 2) (v := .ref t_rules_q) (C := RX2) (T := TX2) (N := 6) hx hb hts inX2 hown hK hP 0 rfl rfl 1 (by decide) k15 (fun _ h9 => h9) rfl dX2_copyFrom_21 ?_
  refine lv_iconst (v := (0 : Int32)) hx hb dX2_copyFrom_24 (by decide) ?_
  refine lv_bipush (v := (6 : Int32)) hx hb dX2_copyFrom_25 (by decide) ?_
  obtain ⟨t_rules_2, et_rules_2, hf⟩ := bnd_e hf
  refine va_copyi hx hb (hml.trans hl.1.symm) hown (hts (.methodLink RX2 34 arraycopyName) (by decide +kernel)) (hts (.native arraycopyName) (by decide +kernel)) (hts (.static arraycopyName) (by decide +kernel)) (hts (.initialized "java/lang/System") (by decide +kernel)) hK hP (hD.re rfl) hS 3 5 0 0 rfl rfl rfl rfl rfl (by decide) (by decide) (by decide) (by decide) (by decide) (fun _ _ => rfl) (by decide) (by decide) dX2_copyFrom_27 (fun H locs hP _ hS => ?_)
  have hP : va_P g.1 vwCl [oX2 t_q t_firstEnds_q t_rules_q t_rooms t_doorCount t_ruleCount t_stringLength, oX2 a1_q a1_firstEnds_q a1_rules_q a1_rooms a1_doorCount a1_ruleCount a1_stringLength, aI g a1_firstEnds_q 10 a1_firstEnds, aI g a1_rules_q 6 a1_rules, aI g t_firstEnds_q 10 t_firstEnds_1, aI g t_rules_q 6 t_rules_2] H := by rw [et_rules_2]; exact hP
  refine lv_aload_n hx hb dX2_copyFrom_30 rfl (lv_at hl 0 rfl) ?_
  refine lv_aload_n hx hb dX2_copyFrom_31 rfl (lv_at hl 1 rfl) ?_
  refine va_get (D := g.1) (ci := 2) (v := .int a1_rooms) (C := RX2) (T := TX2) (N := 6) hx hb hts inX2 hown hK hP 1 rfl rfl 2 (by decide) k21 (fun _ h9 => h9) rfl dX2_copyFrom_32 ?_
  refine va_put (D := g.1) (ci := 2) (v := .int a1_rooms) (ty := .int) (C := RX2) (T := TX2) (N := 6) hx hb hts inX2 tyX2 tyX2_ok nmX2 hown hK hP (hD.re rfl) hS 0 rfl rfl 2 (by decide) k21 (fun _ h9 => h9) rfl (by decide +kernel) rfl rfl (Nat.le_of_ble_eq_true rfl) dX2_copyFrom_35 (fun H locs hP _ hS => ?_)
  have hP : va_P g.1 vwCl [oX2 t_q t_firstEnds_q t_rules_q a1_rooms t_doorCount t_ruleCount t_stringLength, oX2 a1_q a1_firstEnds_q a1_rules_q a1_rooms a1_doorCount a1_ruleCount a1_stringLength, aI g a1_firstEnds_q 10 a1_firstEnds, aI g a1_rules_q 6 a1_rules, aI g t_firstEnds_q 10 t_firstEnds_1, aI g t_rules_q 6 t_rules_2] H := hP
  refine lv_aload_n hx hb dX2_copyFrom_38 rfl (lv_at hl 0 rfl) ?_
  refine lv_aload_n hx hb dX2_copyFrom_39 rfl (lv_at hl 1 rfl) ?_
  refine va_get (D := g.1) (ci := 2) (v := .int a1_doorCount) (C := RX2) (T := TX2) (N := 6) hx hb hts inX2 hown hK hP 1 rfl rfl 3 (by decide) k25 (fun _ h9 => h9) rfl dX2_copyFrom_40 ?_
  refine va_put (D := g.1) (ci := 2) (v := .int a1_doorCount) (ty := .int) (C := RX2) (T := TX2) (N := 6) hx hb hts inX2 tyX2 tyX2_ok nmX2 hown hK hP (hD.re rfl) hS 0 rfl rfl 3 (by decide) k25 (fun _ h9 => h9) rfl (by decide +kernel) rfl rfl (Nat.le_of_ble_eq_true rfl) dX2_copyFrom_43 (fun H locs hP _ hS => ?_)
  have hP : va_P g.1 vwCl [oX2 t_q t_firstEnds_q t_rules_q a1_rooms a1_doorCount t_ruleCount t_stringLength, oX2 a1_q a1_firstEnds_q a1_rules_q a1_rooms a1_doorCount a1_ruleCount a1_stringLength, aI g a1_firstEnds_q 10 a1_firstEnds, aI g a1_rules_q 6 a1_rules, aI g t_firstEnds_q 10 t_firstEnds_1, aI g t_rules_q 6 t_rules_2] H := hP
  refine lv_aload_n hx hb dX2_copyFrom_46 rfl (lv_at hl 0 rfl) ?_
  refine lv_aload_n hx hb dX2_copyFrom_47 rfl (lv_at hl 1 rfl) ?_
  refine va_get (D := g.1) (ci := 2) (v := .int a1_ruleCount) (C := RX2) (T := TX2) (N := 6) hx hb hts inX2 hown hK hP 1 rfl rfl 4 (by decide) k28 (fun _ h9 => h9) rfl dX2_copyFrom_48 ?_
  refine va_put (D := g.1) (ci := 2) (v := .int a1_ruleCount) (ty := .int) (C := RX2) (T := TX2) (N := 6) hx hb hts inX2 tyX2 tyX2_ok nmX2 hown hK hP (hD.re rfl) hS 0 rfl rfl 4 (by decide) k28 (fun _ h9 => h9) rfl (by decide +kernel) rfl rfl (Nat.le_of_ble_eq_true rfl) dX2_copyFrom_51 (fun H locs hP _ hS => ?_)
  have hP : va_P g.1 vwCl [oX2 t_q t_firstEnds_q t_rules_q a1_rooms a1_doorCount a1_ruleCount t_stringLength, oX2 a1_q a1_firstEnds_q a1_rules_q a1_rooms a1_doorCount a1_ruleCount a1_stringLength, aI g a1_firstEnds_q 10 a1_firstEnds, aI g a1_rules_q 6 a1_rules, aI g t_firstEnds_q 10 t_firstEnds_1, aI g t_rules_q 6 t_rules_2] H := hP
  refine lv_aload_n hx hb dX2_copyFrom_54 rfl (lv_at hl 0 rfl) ?_
  refine lv_aload_n hx hb dX2_copyFrom_55 rfl (lv_at hl 1 rfl) ?_
  refine va_get (D := g.1) (ci := 2) (v := .int a1_stringLength) (C := RX2) (T := TX2) (N := 6) hx hb hts inX2 hown hK hP 1 rfl rfl 5 (by decide) k31 (fun _ h9 => h9) rfl dX2_copyFrom_56 ?_
  refine va_put (D := g.1) (ci := 2) (v := .int a1_stringLength) (ty := .int) (C := RX2) (T := TX2) (N := 6) hx hb hts inX2 tyX2 tyX2_ok nmX2 hown hK hP (hD.re rfl) hS 0 rfl rfl 5 (by decide) k31 (fun _ h9 => h9) rfl (by decide +kernel) rfl rfl (Nat.le_of_ble_eq_true rfl) dX2_copyFrom_59 (fun H locs hP _ hS => ?_)
  have hP : va_P g.1 vwCl [oX2 t_q t_firstEnds_q t_rules_q a1_rooms a1_doorCount a1_ruleCount a1_stringLength, oX2 a1_q a1_firstEnds_q a1_rules_q a1_rooms a1_doorCount a1_ruleCount a1_stringLength, aI g a1_firstEnds_q 10 a1_firstEnds, aI g a1_rules_q 6 a1_rules, aI g t_firstEnds_q 10 t_firstEnds_1, aI g t_rules_q 6 t_rules_2] H := hP
  exact hret a1_doorCount a1_rooms a1_ruleCount a1_stringLength t_firstEnds_1 t_rules_2 (Option.some.inj hf) _ _ _ _ hP hS dX2_copyFrom_62

def f_X2_hasDoor (t_doorCount : Int32) (p1 : Int32) : Option (Int32) :=
 (if p1 < (0 : Int32) then
 (some (0 : Int32))
 else (if t_doorCount ≤ p1 then
 (some (0 : Int32))
 else (some (1 : Int32))))
abbrev rmX2_hasDoor : Room := { frames := 0, cells := 0, slots := 0, locals := 0 }
set_option maxHeartbeats 4000000 in
set_option maxRecDepth 100000 in
theorem c_X2_hasDoor (l : Launch) (g : Gh) (sz : Nat) (t_q t_firstEnds_q t_rules_q : Nat) (t_rooms : Int32) (t_doorCount : Int32) (t_ruleCount : Int32) (t_stringLength : Int32) (p1 : Int32) (rr : Int32) (hf : f_X2_hasDoor t_doorCount p1 = some rr) : CI l yX2_hasDoor wsX2_hasDoor rmX2_hasDoor [.ref t_q, .int p1] g sz [oX2 t_q t_firstEnds_q t_rules_q t_rooms t_doorCount t_ruleCount t_stringLength] [oX2 t_q t_firstEnds_q t_rules_q t_rooms t_doorCount t_ruleCount t_stringLength] rr := by
  refine ent_z (cc := cX2_hasDoor) (maxL := 2) (by decide) rfl (Nat.le_of_ble_eq_true rfl) ?_
  intro p e s m args below meth c A Q hx hb hml hown hts hK hz hk hA hD hP hS hret ls hl
  have hown : s.vm.findClass RX2 = some m.cls := hown
  have inX2 : ∀ w ∈ u_ws RX2 TX2 6, w ∈ wsX2_hasDoor := by decide +kernel
  have k25 := hts (.fieldLink RX2 25 "ThreadMoved$Plan" "doorCount" "I") (by decide +kernel)
  have hl : lv_has ls 2 [(0, .ref t_q), (1, .int p1)] := hl
  have hret : ∀ (rrz : Int32), rrz = rr → narrow .boolean (.int rrz) = .int rrz → ∀ (H : Heap) (locs : List Loc) (pc : Nat) (ls : Array Slot), va_P g.1 vwCl [oX2 t_q t_firstEnds_q t_rules_q t_rooms t_doorCount t_ruleCount t_stringLength] H → va_S A s.heap H locs → decode cX2_hasDoor pc = .ok (.ireturn, 1) → W p l e rmX2_hasDoor s m args below meth c H locs 0 0 Q (F0 m pc ls [.int rrz]) := by
    intro rrz he hzz H locs pc ls hP hS hd
    cases he
    exact hret H locs pc ls hzz hP hS hd
  unfold f_X2_hasDoor at hf
  refine lv_iload_n hx hb dX2_hasDoor_0 rfl (lv_at hl 1 rfl) ?_
  refine lv_if_lt (tgt := 16) hx hb dX2_hasDoor_1 (by decide) (fun c_1 => ?_) (fun c_1 => ?_)
  · have hf := ite_t hf c_1
    refine lv_iconst (v := (0 : Int32)) hx hb dX2_hasDoor_16 (by decide) ?_
    exact hret (0 : Int32) (Option.some.inj hf) rfl _ _ _ _ hP hS dX2_hasDoor_17
  · have hf := ite_f hf c_1
    refine lv_iload_n hx hb dX2_hasDoor_4 rfl (lv_at hl 1 rfl) ?_
    refine lv_aload_n hx hb dX2_hasDoor_5 rfl (lv_at hl 0 rfl) ?_
    refine va_get (D := g.1) (ci := 2) (v := .int t_doorCount) (C := RX2) (T := TX2) (N := 6) hx hb hts inX2 hown hK hP 0 rfl rfl 3 (by decide) k25 (fun _ h9 => h9) rfl dX2_hasDoor_6 ?_
    refine lv_icmp_ge (tgt := 16) hx hb dX2_hasDoor_9 (by decide) (fun c_2 => ?_) (fun c_2 => ?_)
    · have hf := ite_t hf c_2
      refine lv_iconst (v := (0 : Int32)) hx hb dX2_hasDoor_16 (by decide) ?_
      exact hret (0 : Int32) (Option.some.inj hf) rfl _ _ _ _ hP hS dX2_hasDoor_17
    · have hf := ite_f hf c_2
      refine lv_iconst (v := (1 : Int32)) hx hb dX2_hasDoor_12 (by decide) ?_
      refine lv_goto (tgt := 17) hx hb dX2_hasDoor_13 (by decide) ?_
      exact hret (1 : Int32) (Option.some.inj hf) rfl _ _ _ _ hP hS dX2_hasDoor_17

def f_X7_firstDoorOf (p0 : Int32) : Option (Int32) :=
 (if p0 < (200 : Int32) then
 (some ((p0 - p0 / (100 : Int32) * (100 : Int32)) / (10 : Int32)))
 else (some (p0 - (200 : Int32))))
abbrev rmX7_firstDoorOf : Room := { frames := 0, cells := 0, slots := 0, locals := 0 }
set_option maxHeartbeats 4000000 in
set_option maxRecDepth 100000 in
theorem c_X7_firstDoorOf (l : Launch) (g : Gh) (sz : Nat) (p0 : Int32) (rr : Int32) (hf : f_X7_firstDoorOf p0 = some rr) : CI l yX7_firstDoorOf wsX7_firstDoorOf rmX7_firstDoorOf [.int p0] g sz [] [] rr := by
  refine ent_i (cc := cX7_firstDoorOf) (maxL := 1) (by decide) rfl (Nat.le_of_ble_eq_true rfl) ?_
  intro p e s m args below meth c A Q hx hb hml hown hts hK hz hk hA hD hP hS hret ls hl
  have hown : s.vm.findClass RX7 = some m.cls := hown
  have hl : lv_has ls 1 [(0, .int p0)] := hl
  have hret : ∀ (rrz : Int32), rrz = rr → ∀ (H : Heap) (locs : List Loc) (pc : Nat) (ls : Array Slot), va_P g.1 vwCl [] H → va_S A s.heap H locs → decode cX7_firstDoorOf pc = .ok (.ireturn, 1) → W p l e rmX7_firstDoorOf s m args below meth c H locs 0 0 Q (F0 m pc ls [.int rrz]) := by
    intro rrz he H locs pc ls hP hS hd
    cases he
    exact hret H locs pc ls hP hS hd
  unfold f_X7_firstDoorOf at hf
  refine lv_iload_n hx hb dX7_firstDoorOf_0 rfl (lv_at hl 0 rfl) ?_
  refine lv_sipush (v := (200 : Int32)) hx hb dX7_firstDoorOf_1 (by decide) ?_
  refine lv_icmp_lt (tgt := 15) hx hb dX7_firstDoorOf_4 (by decide) (fun c_1 => ?_) (fun c_1 => ?_)
  · have hf := ite_t hf c_1
    refine lv_iload_n hx hb dX7_firstDoorOf_15 rfl (lv_at hl 0 rfl) ?_
    refine lv_bipush (v := (100 : Int32)) hx hb dX7_firstDoorOf_16 (by decide) ?_
    refine lv_irem hx hb dX7_firstDoorOf_18 (by decide) ?_
    refine lv_bipush (v := (10 : Int32)) hx hb dX7_firstDoorOf_19 (by decide) ?_
    refine lv_idiv hx hb dX7_firstDoorOf_21 (by decide) ?_
    exact hret ((p0 - p0 / (100 : Int32) * (100 : Int32)) / (10 : Int32)) (Option.some.inj hf) _ _ _ _ hP hS dX7_firstDoorOf_22
  · have hf := ite_f hf c_1
    refine lv_iload_n hx hb dX7_firstDoorOf_7 rfl (lv_at hl 0 rfl) ?_
    refine lv_sipush (v := (200 : Int32)) hx hb dX7_firstDoorOf_8 (by decide) ?_
    refine lv_isub hx hb dX7_firstDoorOf_11 ?_
    refine lv_goto (tgt := 22) hx hb dX7_firstDoorOf_12 (by decide) ?_
    exact hret (p0 - (200 : Int32)) (Option.some.inj hf) _ _ _ _ hP hS dX7_firstDoorOf_22

def f_X7_secondPartOf (p0 : Int32) : Option (Int32) :=
 (some (p0 - p0 / (10 : Int32) * (10 : Int32)))
abbrev rmX7_secondPartOf : Room := { frames := 0, cells := 0, slots := 0, locals := 0 }
set_option maxHeartbeats 4000000 in
set_option maxRecDepth 100000 in
theorem c_X7_secondPartOf (l : Launch) (g : Gh) (sz : Nat) (p0 : Int32) (rr : Int32) (hf : f_X7_secondPartOf p0 = some rr) : CI l yX7_secondPartOf wsX7_secondPartOf rmX7_secondPartOf [.int p0] g sz [] [] rr := by
  refine ent_i (cc := cX7_secondPartOf) (maxL := 1) (by decide) rfl (Nat.le_of_ble_eq_true rfl) ?_
  intro p e s m args below meth c A Q hx hb hml hown hts hK hz hk hA hD hP hS hret ls hl
  have hown : s.vm.findClass RX7 = some m.cls := hown
  have hl : lv_has ls 1 [(0, .int p0)] := hl
  have hret : ∀ (rrz : Int32), rrz = rr → ∀ (H : Heap) (locs : List Loc) (pc : Nat) (ls : Array Slot), va_P g.1 vwCl [] H → va_S A s.heap H locs → decode cX7_secondPartOf pc = .ok (.ireturn, 1) → W p l e rmX7_secondPartOf s m args below meth c H locs 0 0 Q (F0 m pc ls [.int rrz]) := by
    intro rrz he H locs pc ls hP hS hd
    cases he
    exact hret H locs pc ls hP hS hd
  unfold f_X7_secondPartOf at hf
  refine lv_iload_n hx hb dX7_secondPartOf_0 rfl (lv_at hl 0 rfl) ?_
  refine lv_bipush (v := (10 : Int32)) hx hb dX7_secondPartOf_1 (by decide) ?_
  refine lv_irem hx hb dX7_secondPartOf_3 (by decide) ?_
  exact hret (p0 - p0 / (10 : Int32) * (10 : Int32)) (Option.some.inj hf) _ _ _ _ hP hS dX7_secondPartOf_4

def f_X2_hasDoorsOf (t_doorCount : Int32) (p1 : Int32) : Option (Int32) :=
 (ob1 (f_X7_firstDoorOf p1) (fun r_1 =>
 (ob1 (f_X2_hasDoor t_doorCount r_1) (fun r_3 =>
 (if r_3 = (0 : Int32) then
 (some (0 : Int32))
 else (if (100 : Int32) ≤ p1 then
 (some (1 : Int32))
 else (ob1 (f_X7_secondPartOf p1) (fun r_7 =>
 (ob1 (f_X2_hasDoor t_doorCount r_7) (fun r_9 =>
 (if r_9 = (0 : Int32) then
 (some (0 : Int32))
 else (some (1 : Int32)))))))))))))
abbrev rmX2_hasDoorsOf : Room := { frames := 1, cells := 0, slots := 0, locals := 21 }
set_option maxHeartbeats 4000000 in
set_option maxRecDepth 100000 in
theorem c_X2_hasDoorsOf (l : Launch) (g : Gh) (sz : Nat) (t_q t_firstEnds_q t_rules_q : Nat) (t_rooms : Int32) (t_doorCount : Int32) (t_ruleCount : Int32) (t_stringLength : Int32) (p1 : Int32) (rr : Int32) (hf : f_X2_hasDoorsOf t_doorCount p1 = some rr) : CI l yX2_hasDoorsOf wsX2_hasDoorsOf rmX2_hasDoorsOf [.ref t_q, .int p1] g sz [oX2 t_q t_firstEnds_q t_rules_q t_rooms t_doorCount t_ruleCount t_stringLength] [oX2 t_q t_firstEnds_q t_rules_q t_rooms t_doorCount t_ruleCount t_stringLength] rr := by
  refine ent_z (cc := cX2_hasDoorsOf) (maxL := 2) (by decide) rfl (Nat.le_of_ble_eq_true rfl) ?_
  intro p e s m args below meth c A Q hx hb hml hown hts hK hz hk hA hD hP hS hret ls hl
  have hown : s.vm.findClass RX2 = some m.cls := hown
  have hl : lv_has ls 2 [(0, .ref t_q), (1, .int p1)] := hl
  have hret : ∀ (rrz : Int32), rrz = rr → narrow .boolean (.int rrz) = .int rrz → ∀ (H : Heap) (locs : List Loc) (pc : Nat) (ls : Array Slot), va_P g.1 vwCl [oX2 t_q t_firstEnds_q t_rules_q t_rooms t_doorCount t_ruleCount t_stringLength] H → va_S A s.heap H locs → decode cX2_hasDoorsOf pc = .ok (.ireturn, 1) → W p l e rmX2_hasDoorsOf s m args below meth c H locs 0 0 Q (F0 m pc ls [.int rrz]) := by
    intro rrz he hzz H locs pc ls hP hS hd
    cases he
    exact hret H locs pc ls hzz hP hS hd
  unfold f_X2_hasDoorsOf at hf
  refine lv_aload_n hx hb dX2_hasDoorsOf_0 rfl (lv_at hl 0 rfl) ?_
  refine lv_iload_n hx hb dX2_hasDoorsOf_1 rfl (lv_at hl 1 rfl) ?_
  obtain ⟨r_1, hc_2, hf⟩ := ob1_e hf
  refine kSN_i (wn := [oX2 t_q t_firstEnds_q t_rules_q t_rooms t_doorCount t_ruleCount t_stringLength]) (As := [.int p1]) (rest := [.ref t_q]) (c_X7_firstDoorOf l g _ p1 r_1 hc_2) ⟨hx, hb, hml, hown, hts⟩ ⟨va_cnB 1 hts gX2_hasDoorsOf_X7_firstDoorOf_n40 rfl rfl rfl (hz.1 (RX2, 40, yX7_firstDoorOf, RX7) (by decide +kernel)) (hts (.initialized RX7) (by decide +kernel)) (by decide +kernel) ⟨by decide, by decide⟩, hts (.static yX7_firstDoorOf) (by decide +kernel), trivial⟩ hK hz hk hP (hD.re rfl) hS hA [] rfl rfl rfl rfl rfl hl.1 rfl (Nat.le_of_ble_eq_true rfl) dX2_hasDoorsOf_2 (fun H locs hP hS => ?_)
  obtain ⟨r_3, hc_4, hf⟩ := ob1_e hf
  refine kV_i (wn := [oX2 t_q t_firstEnds_q t_rules_q t_rooms t_doorCount t_ruleCount t_stringLength]) (As := [.int r_1]) (rest := []) (c_X2_hasDoor l g _ t_q t_firstEnds_q t_rules_q t_rooms t_doorCount t_ruleCount t_stringLength r_1 r_3 hc_4) ⟨hx, hb, hml, hown, hts⟩ (cwV 1 hts gX2_hasDoorsOf_X2_hasDoor rfl rfl rfl (by decide +kernel) ⟨by decide, by decide⟩) hK hz hk hP (hD.re rfl) hS hA [0] rfl rfl rfl rfl rfl rfl rfl hl.1 rfl (Nat.le_of_ble_eq_true rfl) dX2_hasDoorsOf_5 (fun H locs hP hS => ?_)
  refine lv_if_eq (tgt := 32) hx hb dX2_hasDoorsOf_8 (by decide) (fun c_5 => ?_) (fun c_5 => ?_)
  · have hf := ite_t hf c_5
    refine lv_iconst (v := (0 : Int32)) hx hb dX2_hasDoorsOf_32 (by decide) ?_
    exact hret (0 : Int32) (Option.some.inj hf) rfl _ _ _ _ hP hS dX2_hasDoorsOf_33
  · have hf := ite_f hf c_5
    refine lv_iload_n hx hb dX2_hasDoorsOf_11 rfl (lv_at hl 1 rfl) ?_
    refine lv_bipush (v := (100 : Int32)) hx hb dX2_hasDoorsOf_12 (by decide) ?_
    refine lv_icmp_ge (tgt := 28) hx hb dX2_hasDoorsOf_14 (by decide) (fun c_6 => ?_) (fun c_6 => ?_)
    · have hf := ite_t hf c_6
      refine lv_iconst (v := (1 : Int32)) hx hb dX2_hasDoorsOf_28 (by decide) ?_
      refine lv_goto (tgt := 33) hx hb dX2_hasDoorsOf_29 (by decide) ?_
      exact hret (1 : Int32) (Option.some.inj hf) rfl _ _ _ _ hP hS dX2_hasDoorsOf_33
    · have hf := ite_f hf c_6
      refine lv_aload_n hx hb dX2_hasDoorsOf_17 rfl (lv_at hl 0 rfl) ?_
      refine lv_iload_n hx hb dX2_hasDoorsOf_18 rfl (lv_at hl 1 rfl) ?_
      obtain ⟨r_7, hc_8, hf⟩ := ob1_e hf
      refine kSN_i (wn := [oX2 t_q t_firstEnds_q t_rules_q t_rooms t_doorCount t_ruleCount t_stringLength]) (As := [.int p1]) (rest := [.ref t_q]) (c_X7_secondPartOf l g _ p1 r_7 hc_8) ⟨hx, hb, hml, hown, hts⟩ ⟨va_cnB 1 hts gX2_hasDoorsOf_X7_secondPartOf_n48 rfl rfl rfl (hz.1 (RX2, 48, yX7_secondPartOf, RX7) (by decide +kernel)) (hts (.initialized RX7) (by decide +kernel)) (by decide +kernel) ⟨by decide, by decide⟩, hts (.static yX7_secondPartOf) (by decide +kernel), trivial⟩ hK hz hk hP (hD.re rfl) hS hA [] rfl rfl rfl rfl rfl hl.1 rfl (Nat.le_of_ble_eq_true rfl) dX2_hasDoorsOf_19 (fun H locs hP hS => ?_)
      obtain ⟨r_9, hc_10, hf⟩ := ob1_e hf
      refine kV_i (wn := [oX2 t_q t_firstEnds_q t_rules_q t_rooms t_doorCount t_ruleCount t_stringLength]) (As := [.int r_7]) (rest := []) (c_X2_hasDoor l g _ t_q t_firstEnds_q t_rules_q t_rooms t_doorCount t_ruleCount t_stringLength r_7 r_9 hc_10) ⟨hx, hb, hml, hown, hts⟩ (cwV 1 hts gX2_hasDoorsOf_X2_hasDoor rfl rfl rfl (by decide +kernel) ⟨by decide, by decide⟩) hK hz hk hP (hD.re rfl) hS hA [0] rfl rfl rfl rfl rfl rfl rfl hl.1 rfl (Nat.le_of_ble_eq_true rfl) dX2_hasDoorsOf_22 (fun H locs hP hS => ?_)
      refine lv_if_eq (tgt := 32) hx hb dX2_hasDoorsOf_25 (by decide) (fun c_11 => ?_) (fun c_11 => ?_)
      · have hf := ite_t hf c_11
        refine lv_iconst (v := (0 : Int32)) hx hb dX2_hasDoorsOf_32 (by decide) ?_
        exact hret (0 : Int32) (Option.some.inj hf) rfl _ _ _ _ hP hS dX2_hasDoorsOf_33
      · have hf := ite_f hf c_11
        refine lv_iconst (v := (1 : Int32)) hx hb dX2_hasDoorsOf_28 (by decide) ?_
        refine lv_goto (tgt := 33) hx hb dX2_hasDoorsOf_29 (by decide) ?_
        exact hret (1 : Int32) (Option.some.inj hf) rfl _ _ _ _ hP hS dX2_hasDoorsOf_33

def f_X2_hasRoom (t_rooms : Int32) (p1 : Int32) : Option (Int32) :=
 (if p1 < (0 : Int32) then
 (some (0 : Int32))
 else (if t_rooms ≤ p1 then
 (some (0 : Int32))
 else (some (1 : Int32))))
abbrev rmX2_hasRoom : Room := { frames := 0, cells := 0, slots := 0, locals := 0 }
set_option maxHeartbeats 4000000 in
set_option maxRecDepth 100000 in
theorem c_X2_hasRoom (l : Launch) (g : Gh) (sz : Nat) (t_q t_firstEnds_q t_rules_q : Nat) (t_rooms : Int32) (t_doorCount : Int32) (t_ruleCount : Int32) (t_stringLength : Int32) (p1 : Int32) (rr : Int32) (hf : f_X2_hasRoom t_rooms p1 = some rr) : CI l yX2_hasRoom wsX2_hasRoom rmX2_hasRoom [.ref t_q, .int p1] g sz [oX2 t_q t_firstEnds_q t_rules_q t_rooms t_doorCount t_ruleCount t_stringLength] [oX2 t_q t_firstEnds_q t_rules_q t_rooms t_doorCount t_ruleCount t_stringLength] rr := by
  refine ent_z (cc := cX2_hasRoom) (maxL := 2) (by decide) rfl (Nat.le_of_ble_eq_true rfl) ?_
  intro p e s m args below meth c A Q hx hb hml hown hts hK hz hk hA hD hP hS hret ls hl
  have hown : s.vm.findClass RX2 = some m.cls := hown
  have inX2 : ∀ w ∈ u_ws RX2 TX2 6, w ∈ wsX2_hasRoom := by decide +kernel
  have k21 := hts (.fieldLink RX2 21 "ThreadMoved$Plan" "rooms" "I") (by decide +kernel)
  have hl : lv_has ls 2 [(0, .ref t_q), (1, .int p1)] := hl
  have hret : ∀ (rrz : Int32), rrz = rr → narrow .boolean (.int rrz) = .int rrz → ∀ (H : Heap) (locs : List Loc) (pc : Nat) (ls : Array Slot), va_P g.1 vwCl [oX2 t_q t_firstEnds_q t_rules_q t_rooms t_doorCount t_ruleCount t_stringLength] H → va_S A s.heap H locs → decode cX2_hasRoom pc = .ok (.ireturn, 1) → W p l e rmX2_hasRoom s m args below meth c H locs 0 0 Q (F0 m pc ls [.int rrz]) := by
    intro rrz he hzz H locs pc ls hP hS hd
    cases he
    exact hret H locs pc ls hzz hP hS hd
  unfold f_X2_hasRoom at hf
  refine lv_iload_n hx hb dX2_hasRoom_0 rfl (lv_at hl 1 rfl) ?_
  refine lv_if_lt (tgt := 16) hx hb dX2_hasRoom_1 (by decide) (fun c_1 => ?_) (fun c_1 => ?_)
  · have hf := ite_t hf c_1
    refine lv_iconst (v := (0 : Int32)) hx hb dX2_hasRoom_16 (by decide) ?_
    exact hret (0 : Int32) (Option.some.inj hf) rfl _ _ _ _ hP hS dX2_hasRoom_17
  · have hf := ite_f hf c_1
    refine lv_iload_n hx hb dX2_hasRoom_4 rfl (lv_at hl 1 rfl) ?_
    refine lv_aload_n hx hb dX2_hasRoom_5 rfl (lv_at hl 0 rfl) ?_
    refine va_get (D := g.1) (ci := 2) (v := .int t_rooms) (C := RX2) (T := TX2) (N := 6) hx hb hts inX2 hown hK hP 0 rfl rfl 2 (by decide) k21 (fun _ h9 => h9) rfl dX2_hasRoom_6 ?_
    refine lv_icmp_ge (tgt := 16) hx hb dX2_hasRoom_9 (by decide) (fun c_2 => ?_) (fun c_2 => ?_)
    · have hf := ite_t hf c_2
      refine lv_iconst (v := (0 : Int32)) hx hb dX2_hasRoom_16 (by decide) ?_
      exact hret (0 : Int32) (Option.some.inj hf) rfl _ _ _ _ hP hS dX2_hasRoom_17
    · have hf := ite_f hf c_2
      refine lv_iconst (v := (1 : Int32)) hx hb dX2_hasRoom_12 (by decide) ?_
      refine lv_goto (tgt := 17) hx hb dX2_hasRoom_13 (by decide) ?_
      exact hret (1 : Int32) (Option.some.inj hf) rfl _ _ _ _ hP hS dX2_hasRoom_17

def f_X7_isWithin (p0 : Int32) (p1 : Int32) (p2 : Int32) : Option (Int32) :=
 (if p0 < p1 then
 (some (0 : Int32))
 else (if p2 < p0 then
 (some (0 : Int32))
 else (some (1 : Int32))))
abbrev rmX7_isWithin : Room := { frames := 0, cells := 0, slots := 0, locals := 0 }
set_option maxHeartbeats 4000000 in
set_option maxRecDepth 100000 in
theorem c_X7_isWithin (l : Launch) (g : Gh) (sz : Nat) (p0 : Int32) (p1 : Int32) (p2 : Int32) (rr : Int32) (hf : f_X7_isWithin p0 p1 p2 = some rr) : CI l yX7_isWithin wsX7_isWithin rmX7_isWithin [.int p0, .int p1, .int p2] g sz [] [] rr := by
  refine ent_z (cc := cX7_isWithin) (maxL := 3) (by decide) rfl (Nat.le_of_ble_eq_true rfl) ?_
  intro p e s m args below meth c A Q hx hb hml hown hts hK hz hk hA hD hP hS hret ls hl
  have hown : s.vm.findClass RX7 = some m.cls := hown
  have hl : lv_has ls 3 [(0, .int p0), (1, .int p1), (2, .int p2)] := hl
  have hret : ∀ (rrz : Int32), rrz = rr → narrow .boolean (.int rrz) = .int rrz → ∀ (H : Heap) (locs : List Loc) (pc : Nat) (ls : Array Slot), va_P g.1 vwCl [] H → va_S A s.heap H locs → decode cX7_isWithin pc = .ok (.ireturn, 1) → W p l e rmX7_isWithin s m args below meth c H locs 0 0 Q (F0 m pc ls [.int rrz]) := by
    intro rrz he hzz H locs pc ls hP hS hd
    cases he
    exact hret H locs pc ls hzz hP hS hd
  unfold f_X7_isWithin at hf
  refine lv_iload_n hx hb dX7_isWithin_0 rfl (lv_at hl 0 rfl) ?_
  refine lv_iload_n hx hb dX7_isWithin_1 rfl (lv_at hl 1 rfl) ?_
  refine lv_icmp_lt (tgt := 14) hx hb dX7_isWithin_2 (by decide) (fun c_1 => ?_) (fun c_1 => ?_)
  · have hf := ite_t hf c_1
    refine lv_iconst (v := (0 : Int32)) hx hb dX7_isWithin_14 (by decide) ?_
    exact hret (0 : Int32) (Option.some.inj hf) rfl _ _ _ _ hP hS dX7_isWithin_15
  · have hf := ite_f hf c_1
    refine lv_iload_n hx hb dX7_isWithin_5 rfl (lv_at hl 0 rfl) ?_
    refine lv_iload_n hx hb dX7_isWithin_6 rfl (lv_at hl 2 rfl) ?_
    refine lv_icmp_gt (tgt := 14) hx hb dX7_isWithin_7 (by decide) (fun c_2 => ?_) (fun c_2 => ?_)
    · have hf := ite_t hf c_2
      refine lv_iconst (v := (0 : Int32)) hx hb dX7_isWithin_14 (by decide) ?_
      exact hret (0 : Int32) (Option.some.inj hf) rfl _ _ _ _ hP hS dX7_isWithin_15
    · have hf := ite_f hf c_2
      refine lv_iconst (v := (1 : Int32)) hx hb dX7_isWithin_10 (by decide) ?_
      refine lv_goto (tgt := 15) hx hb dX7_isWithin_11 (by decide) ?_
      exact hret (1 : Int32) (Option.some.inj hf) rfl _ _ _ _ hP hS dX7_isWithin_15

def f_X2_isLaw (t_rooms : Int32) (t_doorCount : Int32) (p1 : Int32) : Option (Int32) :=
 (ob1 (f_X2_hasDoorsOf t_doorCount p1) (fun r_1 =>
 (if r_1 = (0 : Int32) then
 (some (0 : Int32))
 else (if p1 < (200 : Int32) then
 (if p1 < (100 : Int32) then
 (ob1 (f_X7_firstDoorOf p1) (fun r_6 =>
 (ob1 (f_X7_secondPartOf p1) (fun r_8 =>
 (if r_8 ≤ r_6 then
 (some (0 : Int32))
 else (some (1 : Int32)))))))
 else (ob1 (f_X7_secondPartOf p1) (fun r_11 =>
 (ob1 (f_X7_isWithin r_11 (1 : Int32) (t_rooms - (1 : Int32))) (fun r_13 =>
 (gbl r_13 (some r_13)))))))
 else (some (1 : Int32))))))
abbrev rmX2_isLaw : Room := { frames := 2, cells := 0, slots := 0, locals := 42 }
set_option maxHeartbeats 4000000 in
set_option maxRecDepth 100000 in
theorem c_X2_isLaw (l : Launch) (g : Gh) (sz : Nat) (t_q t_firstEnds_q t_rules_q : Nat) (t_rooms : Int32) (t_doorCount : Int32) (t_ruleCount : Int32) (t_stringLength : Int32) (p1 : Int32) (rr : Int32) (hf : f_X2_isLaw t_rooms t_doorCount p1 = some rr) : CI l yX2_isLaw wsX2_isLaw rmX2_isLaw [.ref t_q, .int p1] g sz [oX2 t_q t_firstEnds_q t_rules_q t_rooms t_doorCount t_ruleCount t_stringLength] [oX2 t_q t_firstEnds_q t_rules_q t_rooms t_doorCount t_ruleCount t_stringLength] rr := by
  refine ent_z (cc := cX2_isLaw) (maxL := 2) (by decide) rfl (Nat.le_of_ble_eq_true rfl) ?_
  intro p e s m args below meth c A Q hx hb hml hown hts hK hz hk hA hD hP hS hret ls hl
  have hown : s.vm.findClass RX2 = some m.cls := hown
  have inX2 : ∀ w ∈ u_ws RX2 TX2 6, w ∈ wsX2_isLaw := by decide +kernel
  have k21 := hts (.fieldLink RX2 21 "ThreadMoved$Plan" "rooms" "I") (by decide +kernel)
  have hl : lv_has ls 2 [(0, .ref t_q), (1, .int p1)] := hl
  have hret : ∀ (rrz : Int32), rrz = rr → narrow .boolean (.int rrz) = .int rrz → ∀ (H : Heap) (locs : List Loc) (pc : Nat) (ls : Array Slot), va_P g.1 vwCl [oX2 t_q t_firstEnds_q t_rules_q t_rooms t_doorCount t_ruleCount t_stringLength] H → va_S A s.heap H locs → decode cX2_isLaw pc = .ok (.ireturn, 1) → W p l e rmX2_isLaw s m args below meth c H locs 0 0 Q (F0 m pc ls [.int rrz]) := by
    intro rrz he hzz H locs pc ls hP hS hd
    cases he
    exact hret H locs pc ls hzz hP hS hd
  unfold f_X2_isLaw at hf
  refine lv_aload_n hx hb dX2_isLaw_0 rfl (lv_at hl 0 rfl) ?_
  refine lv_iload_n hx hb dX2_isLaw_1 rfl (lv_at hl 1 rfl) ?_
  obtain ⟨r_1, hc_2, hf⟩ := ob1_e hf
  refine kV_i (wn := [oX2 t_q t_firstEnds_q t_rules_q t_rooms t_doorCount t_ruleCount t_stringLength]) (As := [.int p1]) (rest := []) (c_X2_hasDoorsOf l g _ t_q t_firstEnds_q t_rules_q t_rooms t_doorCount t_ruleCount t_stringLength p1 r_1 hc_2) ⟨hx, hb, hml, hown, hts⟩ (cwV 1 hts gX2_isLaw_X2_hasDoorsOf rfl rfl rfl (by decide +kernel) ⟨by decide, by decide⟩) hK hz hk hP (hD.re rfl) hS hA [0] rfl rfl rfl rfl rfl rfl rfl hl.1 rfl (Nat.le_of_ble_eq_true rfl) dX2_isLaw_2 (fun H locs hP hS => ?_)
  refine lv_if_ne (tgt := 10) hx hb dX2_isLaw_5 (by decide) (fun c_3 => ?_) (fun c_3 => ?_)
  · have hf := ite_f hf c_3
    refine lv_iload_n hx hb dX2_isLaw_10 rfl (lv_at hl 1 rfl) ?_
    refine lv_sipush (v := (200 : Int32)) hx hb dX2_isLaw_11 (by decide) ?_
    refine lv_icmp_lt (tgt := 19) hx hb dX2_isLaw_14 (by decide) (fun c_4 => ?_) (fun c_4 => ?_)
    · have hf := ite_t hf c_4
      refine lv_iload_n hx hb dX2_isLaw_19 rfl (lv_at hl 1 rfl) ?_
      refine lv_bipush (v := (100 : Int32)) hx hb dX2_isLaw_20 (by decide) ?_
      refine lv_icmp_lt (tgt := 40) hx hb dX2_isLaw_22 (by decide) (fun c_5 => ?_) (fun c_5 => ?_)
      · have hf := ite_t hf c_5
        refine lv_iload_n hx hb dX2_isLaw_40 rfl (lv_at hl 1 rfl) ?_
        obtain ⟨r_6, hc_7, hf⟩ := ob1_e hf
        refine kSN_i (wn := [oX2 t_q t_firstEnds_q t_rules_q t_rooms t_doorCount t_ruleCount t_stringLength]) (As := [.int p1]) (rest := []) (c_X7_firstDoorOf l g _ p1 r_6 hc_7) ⟨hx, hb, hml, hown, hts⟩ ⟨va_cnB 1 hts gX2_isLaw_X7_firstDoorOf_n40 rfl rfl rfl (hz.1 (RX2, 40, yX7_firstDoorOf, RX7) (by decide +kernel)) (hts (.initialized RX7) (by decide +kernel)) (by decide +kernel) ⟨by decide, by decide⟩, hts (.static yX7_firstDoorOf) (by decide +kernel), trivial⟩ hK hz hk hP (hD.re rfl) hS hA [] rfl rfl rfl rfl rfl hl.1 rfl (Nat.le_of_ble_eq_true rfl) dX2_isLaw_41 (fun H locs hP hS => ?_)
        refine lv_iload_n hx hb dX2_isLaw_44 rfl (lv_at hl 1 rfl) ?_
        obtain ⟨r_8, hc_9, hf⟩ := ob1_e hf
        refine kSN_i (wn := [oX2 t_q t_firstEnds_q t_rules_q t_rooms t_doorCount t_ruleCount t_stringLength]) (As := [.int p1]) (rest := [.int r_6]) (c_X7_secondPartOf l g _ p1 r_8 hc_9) ⟨hx, hb, hml, hown, hts⟩ ⟨va_cnB 1 hts gX2_isLaw_X7_secondPartOf_n48 rfl rfl rfl (hz.1 (RX2, 48, yX7_secondPartOf, RX7) (by decide +kernel)) (hts (.initialized RX7) (by decide +kernel)) (by decide +kernel) ⟨by decide, by decide⟩, hts (.static yX7_secondPartOf) (by decide +kernel), trivial⟩ hK hz hk hP (hD.re rfl) hS hA [] rfl rfl rfl rfl rfl hl.1 rfl (Nat.le_of_ble_eq_true rfl) dX2_isLaw_45 (fun H locs hP hS => ?_)
        refine lv_icmp_ge (tgt := 55) hx hb dX2_isLaw_48 (by decide) (fun c_10 => ?_) (fun c_10 => ?_)
        · have hf := ite_t hf c_10
          refine lv_iconst (v := (0 : Int32)) hx hb dX2_isLaw_55 (by decide) ?_
          exact hret (0 : Int32) (Option.some.inj hf) rfl _ _ _ _ hP hS dX2_isLaw_56
        · have hf := ite_f hf c_10
          refine lv_iconst (v := (1 : Int32)) hx hb dX2_isLaw_51 (by decide) ?_
          refine lv_goto (tgt := 56) hx hb dX2_isLaw_52 (by decide) ?_
          exact hret (1 : Int32) (Option.some.inj hf) rfl _ _ _ _ hP hS dX2_isLaw_56
      · have hf := ite_f hf c_5
        refine lv_iload_n hx hb dX2_isLaw_25 rfl (lv_at hl 1 rfl) ?_
        obtain ⟨r_11, hc_12, hf⟩ := ob1_e hf
        refine kSN_i (wn := [oX2 t_q t_firstEnds_q t_rules_q t_rooms t_doorCount t_ruleCount t_stringLength]) (As := [.int p1]) (rest := []) (c_X7_secondPartOf l g _ p1 r_11 hc_12) ⟨hx, hb, hml, hown, hts⟩ ⟨va_cnB 1 hts gX2_isLaw_X7_secondPartOf_n48 rfl rfl rfl (hz.1 (RX2, 48, yX7_secondPartOf, RX7) (by decide +kernel)) (hts (.initialized RX7) (by decide +kernel)) (by decide +kernel) ⟨by decide, by decide⟩, hts (.static yX7_secondPartOf) (by decide +kernel), trivial⟩ hK hz hk hP (hD.re rfl) hS hA [] rfl rfl rfl rfl rfl hl.1 rfl (Nat.le_of_ble_eq_true rfl) dX2_isLaw_26 (fun H locs hP hS => ?_)
        refine lv_iconst (v := (1 : Int32)) hx hb dX2_isLaw_29 (by decide) ?_
        refine lv_aload_n hx hb dX2_isLaw_30 rfl (lv_at hl 0 rfl) ?_
        refine va_get (D := g.1) (ci := 2) (v := .int t_rooms) (C := RX2) (T := TX2) (N := 6) hx hb hts inX2 hown hK hP 0 rfl rfl 2 (by decide) k21 (fun _ h9 => h9) rfl dX2_isLaw_31 ?_
        refine lv_iconst (v := (1 : Int32)) hx hb dX2_isLaw_34 (by decide) ?_
        refine lv_isub hx hb dX2_isLaw_35 ?_
        obtain ⟨r_13, hc_14, hf⟩ := ob1_e hf
        refine kSN_i (wn := [oX2 t_q t_firstEnds_q t_rules_q t_rooms t_doorCount t_ruleCount t_stringLength]) (As := [.int r_11, .int (1 : Int32), .int (t_rooms - (1 : Int32))]) (rest := []) (c_X7_isWithin l g _ r_11 (1 : Int32) (t_rooms - (1 : Int32)) r_13 hc_14) ⟨hx, hb, hml, hown, hts⟩ ⟨va_cnB 3 hts gX2_isLaw_X7_isWithin_n54 rfl rfl rfl (hz.1 (RX2, 54, yX7_isWithin, RX7) (by decide +kernel)) (hts (.initialized RX7) (by decide +kernel)) (by decide +kernel) ⟨by decide, by decide⟩, hts (.static yX7_isWithin) (by decide +kernel), trivial⟩ hK hz hk hP (hD.re rfl) hS hA [] rfl rfl rfl rfl rfl hl.1 rfl (Nat.le_of_ble_eq_true rfl) dX2_isLaw_36 (fun H locs hP hS => ?_)
        obtain ⟨b_15, hf⟩ := gbl_e hf
        exact hret r_13 (Option.some.inj hf) (bl_n b_15) _ _ _ _ hP hS dX2_isLaw_39
    · have hf := ite_f hf c_4
      refine lv_iconst (v := (1 : Int32)) hx hb dX2_isLaw_17 (by decide) ?_
      exact hret (1 : Int32) (Option.some.inj hf) rfl _ _ _ _ hP hS dX2_isLaw_18
  · have hf := ite_t hf c_3
    refine lv_iconst (v := (0 : Int32)) hx hb dX2_isLaw_8 (by decide) ?_
    exact hret (0 : Int32) (Option.some.inj hf) rfl _ _ _ _ hP hS dX2_isLaw_9

def f_X2_reset  : Option (Int32 × Int32 × Int32 × Int32) :=
 (some ((0 : Int32), (2 : Int32), (0 : Int32), (12 : Int32)))
abbrev rmX2_reset : Room := { frames := 0, cells := 0, slots := 0, locals := 0 }
set_option maxHeartbeats 4000000 in
set_option maxRecDepth 100000 in
theorem c_X2_reset (l : Launch) (g : Gh) (sz : Nat) (t_q t_firstEnds_q t_rules_q : Nat) (t_rooms : Int32) (t_doorCount : Int32) (t_ruleCount : Int32) (t_stringLength : Int32) (t_doorCount' : Int32) (t_rooms' : Int32) (t_ruleCount' : Int32) (t_stringLength' : Int32) (hf : f_X2_reset = some (t_doorCount', t_rooms', t_ruleCount', t_stringLength')) : CV l yX2_reset wsX2_reset rmX2_reset [.ref t_q] g sz [oX2 t_q t_firstEnds_q t_rules_q t_rooms t_doorCount t_ruleCount t_stringLength] [oX2 t_q t_firstEnds_q t_rules_q t_rooms' t_doorCount' t_ruleCount' t_stringLength'] := by
  refine ent_v (cc := cX2_reset) (maxL := 1) (by decide) rfl (Nat.le_of_ble_eq_true rfl) ?_
  intro p e s m args below meth c A Q hx hb hml hown hts hK hz hk hA hD hP hS hret ls hl
  have hown : s.vm.findClass RX2 = some m.cls := hown
  have inX2 : ∀ w ∈ u_ws RX2 TX2 6, w ∈ wsX2_reset := by decide +kernel
  have k21 := hts (.fieldLink RX2 21 "ThreadMoved$Plan" "rooms" "I") (by decide +kernel)
  have k25 := hts (.fieldLink RX2 25 "ThreadMoved$Plan" "doorCount" "I") (by decide +kernel)
  have k28 := hts (.fieldLink RX2 28 "ThreadMoved$Plan" "ruleCount" "I") (by decide +kernel)
  have k31 := hts (.fieldLink RX2 31 "ThreadMoved$Plan" "stringLength" "I") (by decide +kernel)
  have hl : lv_has ls 1 [(0, .ref t_q)] := hl
  have hret : ∀ (t_doorCountz : Int32) (t_roomsz : Int32) (t_ruleCountz : Int32) (t_stringLengthz : Int32), (t_doorCountz, t_roomsz, t_ruleCountz, t_stringLengthz) = (t_doorCount', t_rooms', t_ruleCount', t_stringLength') → ∀ (H : Heap) (locs : List Loc) (pc : Nat) (ls : Array Slot), va_P g.1 vwCl [oX2 t_q t_firstEnds_q t_rules_q t_roomsz t_doorCountz t_ruleCountz t_stringLengthz] H → va_S A s.heap H locs → decode cX2_reset pc = .ok (.return_, 1) → W p l e rmX2_reset s m args below meth c H locs 0 0 Q (F0 m pc ls []) := by
    intro t_doorCountz t_roomsz t_ruleCountz t_stringLengthz he H locs pc ls hP hS hd
    cases he
    exact hret H locs pc ls hP hS hd
  unfold f_X2_reset at hf
  refine lv_aload_n hx hb dX2_reset_0 rfl (lv_at hl 0 rfl) ?_
  refine lv_iconst (v := (2 : Int32)) hx hb dX2_reset_1 (by decide) ?_
  refine va_put (D := g.1) (ci := 2) (v := .int (2 : Int32)) (ty := .int) (C := RX2) (T := TX2) (N := 6) hx hb hts inX2 tyX2 tyX2_ok nmX2 hown hK hP (hD.re rfl) hS 0 rfl rfl 2 (by decide) k21 (fun _ h9 => h9) rfl (by decide +kernel) rfl rfl (Nat.le_of_ble_eq_true rfl) dX2_reset_2 (fun H locs hP _ hS => ?_)
  have hP : va_P g.1 vwCl [oX2 t_q t_firstEnds_q t_rules_q (2 : Int32) t_doorCount t_ruleCount t_stringLength] H := hP
  refine lv_aload_n hx hb dX2_reset_5 rfl (lv_at hl 0 rfl) ?_
  refine lv_iconst (v := (0 : Int32)) hx hb dX2_reset_6 (by decide) ?_
  refine va_put (D := g.1) (ci := 2) (v := .int (0 : Int32)) (ty := .int) (C := RX2) (T := TX2) (N := 6) hx hb hts inX2 tyX2 tyX2_ok nmX2 hown hK hP (hD.re rfl) hS 0 rfl rfl 3 (by decide) k25 (fun _ h9 => h9) rfl (by decide +kernel) rfl rfl (Nat.le_of_ble_eq_true rfl) dX2_reset_7 (fun H locs hP _ hS => ?_)
  have hP : va_P g.1 vwCl [oX2 t_q t_firstEnds_q t_rules_q (2 : Int32) (0 : Int32) t_ruleCount t_stringLength] H := hP
  refine lv_aload_n hx hb dX2_reset_10 rfl (lv_at hl 0 rfl) ?_
  refine lv_iconst (v := (0 : Int32)) hx hb dX2_reset_11 (by decide) ?_
  refine va_put (D := g.1) (ci := 2) (v := .int (0 : Int32)) (ty := .int) (C := RX2) (T := TX2) (N := 6) hx hb hts inX2 tyX2 tyX2_ok nmX2 hown hK hP (hD.re rfl) hS 0 rfl rfl 4 (by decide) k28 (fun _ h9 => h9) rfl (by decide +kernel) rfl rfl (Nat.le_of_ble_eq_true rfl) dX2_reset_12 (fun H locs hP _ hS => ?_)
  have hP : va_P g.1 vwCl [oX2 t_q t_firstEnds_q t_rules_q (2 : Int32) (0 : Int32) (0 : Int32) t_stringLength] H := hP
  refine lv_aload_n hx hb dX2_reset_15 rfl (lv_at hl 0 rfl) ?_
  refine lv_bipush (v := (12 : Int32)) hx hb dX2_reset_16 (by decide) ?_
  refine va_put (D := g.1) (ci := 2) (v := .int (12 : Int32)) (ty := .int) (C := RX2) (T := TX2) (N := 6) hx hb hts inX2 tyX2 tyX2_ok nmX2 hown hK hP (hD.re rfl) hS 0 rfl rfl 5 (by decide) k31 (fun _ h9 => h9) rfl (by decide +kernel) rfl rfl (Nat.le_of_ble_eq_true rfl) dX2_reset_18 (fun H locs hP _ hS => ?_)
  have hP : va_P g.1 vwCl [oX2 t_q t_firstEnds_q t_rules_q (2 : Int32) (0 : Int32) (0 : Int32) (12 : Int32)] H := hP
  exact hret (0 : Int32) (2 : Int32) (0 : Int32) (12 : Int32) (Option.some.inj hf) _ _ _ _ hP hS dX2_reset_21

def f_X0_add (t_size : Int32) (t_subjects : Nat → Int32) (t_times : Nat → Int32) (t_values : Nat → Int32) (p1 : Int32) (p2 : Int32) (p3 : Int32) : Option (Int32 × Int32 × (Nat → Int32) × (Nat → Int32) × (Nat → Int32)) :=
 (if t_size < (6 : Int32) then
 (gin t_size 6 (bnd (upd t_times t_size.toNatClampNeg p1) (fun t_times_3 =>
 (gin t_size 6 (bnd (upd t_subjects t_size.toNatClampNeg p2) (fun t_subjects_5 =>
 (gin t_size 6 (bnd (upd t_values t_size.toNatClampNeg p3) (fun t_values_7 =>
 (bnd (t_size + (1 : Int32)) (fun t_size_8 =>
 (some ((1 : Int32), t_size_8, t_subjects_5, t_times_3, t_values_7)))))))))))))
 else (some ((0 : Int32), t_size, t_subjects, t_times, t_values)))
abbrev rmX0_add : Room := { frames := 0, cells := 0, slots := 0, locals := 0 }
set_option maxHeartbeats 4000000 in
set_option maxRecDepth 100000 in
theorem c_X0_add (l : Launch) (g : Gh) (sz : Nat) (t_q t_times_q t_subjects_q t_values_q : Nat) (t_size : Int32) (t_subjects : Nat → Int32) (t_times : Nat → Int32) (t_values : Nat → Int32) (p1 : Int32) (p2 : Int32) (p3 : Int32) (rr : Int32) (t_size' : Int32) (t_subjects' : Nat → Int32) (t_times' : Nat → Int32) (t_values' : Nat → Int32) (hf : f_X0_add t_size t_subjects t_times t_values p1 p2 p3 = some (rr, t_size', t_subjects', t_times', t_values')) : CI l yX0_add wsX0_add rmX0_add [.ref t_q, .int p1, .int p2, .int p3] g sz [oX0 t_q t_times_q t_subjects_q t_values_q t_size, aI g t_subjects_q 6 t_subjects, aI g t_times_q 6 t_times, aI g t_values_q 6 t_values] [oX0 t_q t_times_q t_subjects_q t_values_q t_size', aI g t_subjects_q 6 t_subjects', aI g t_times_q 6 t_times', aI g t_values_q 6 t_values'] rr := by
  refine ent_z (cc := cX0_add) (maxL := 4) (by decide) rfl (Nat.le_of_ble_eq_true rfl) ?_
  intro p e s m args below meth c A Q hx hb hml hown hts hK hz hk hA hD hP hS hret ls hl
  have hown : s.vm.findClass RX0 = some m.cls := hown
  have inX0 : ∀ w ∈ u_ws RX0 TX0 4, w ∈ wsX0_add := by decide +kernel
  have k9 := hts (.fieldLink RX0 9 "ThreadMoved$Notes" "times" "[I") (by decide +kernel)
  have k15 := hts (.fieldLink RX0 15 "ThreadMoved$Notes" "subjects" "[I") (by decide +kernel)
  have k18 := hts (.fieldLink RX0 18 "ThreadMoved$Notes" "values" "[I") (by decide +kernel)
  have k21 := hts (.fieldLink RX0 21 "ThreadMoved$Notes" "size" "I") (by decide +kernel)
  have hl : lv_has ls 4 [(0, .ref t_q), (1, .int p1), (2, .int p2), (3, .int p3)] := hl
  have hret : ∀ (rrz : Int32) (t_sizez : Int32) (t_subjectsz : Nat → Int32) (t_timesz : Nat → Int32) (t_valuesz : Nat → Int32), (rrz, t_sizez, t_subjectsz, t_timesz, t_valuesz) = (rr, t_size', t_subjects', t_times', t_values') → narrow .boolean (.int rrz) = .int rrz → ∀ (H : Heap) (locs : List Loc) (pc : Nat) (ls : Array Slot), va_P g.1 vwCl [oX0 t_q t_times_q t_subjects_q t_values_q t_sizez, aI g t_subjects_q 6 t_subjectsz, aI g t_times_q 6 t_timesz, aI g t_values_q 6 t_valuesz] H → va_S A s.heap H locs → decode cX0_add pc = .ok (.ireturn, 1) → W p l e rmX0_add s m args below meth c H locs 0 0 Q (F0 m pc ls [.int rrz]) := by
    intro rrz t_sizez t_subjectsz t_timesz t_valuesz he hzz H locs pc ls hP hS hd
    cases he
    exact hret H locs pc ls hzz hP hS hd
  unfold f_X0_add at hf
  refine lv_aload_n hx hb dX0_add_0 rfl (lv_at hl 0 rfl) ?_
  refine va_get (D := g.1) (ci := 0) (v := .int t_size) (C := RX0) (T := TX0) (N := 4) hx hb hts inX0 hown hK hP 0 rfl rfl 3 (by decide) k21 (fun _ h9 => h9) rfl dX0_add_1 ?_
  refine lv_bipush (v := (6 : Int32)) hx hb dX0_add_4 (by decide) ?_
  refine lv_icmp_lt (tgt := 11) hx hb dX0_add_6 (by decide) (fun c_1 => ?_) (fun c_1 => ?_)
  · have hf := ite_t hf c_1
    refine lv_aload_n hx hb dX0_add_11 rfl (lv_at hl 0 rfl) ?_
    refine va_get (D := g.1) (ci := 0) (v := .ref t_times_q) (C := RX0) (T := TX0) (N := 4) hx hb hts inX0 hown hK hP 0 rfl rfl 0 (by decide) k9 (fun _ h9 => h9) rfl dX0_add_12 ?_
    refine lv_aload_n hx hb dX0_add_15 rfl (lv_at hl 0 rfl) ?_
    refine va_get (D := g.1) (ci := 0) (v := .int t_size) (C := RX0) (T := TX0) (N := 4) hx hb hts inX0 hown hK hP 0 rfl rfl 3 (by decide) k21 (fun _ h9 => h9) rfl dX0_add_16 ?_
    refine lv_iload_n hx hb dX0_add_19 rfl (lv_at hl 1 rfl) ?_
    obtain ⟨h_2, hf⟩ := gin_e hf
    obtain ⟨t_times_3, et_times_3, hf⟩ := bnd_e hf
    refine va_iast hx hb hK hP (hD.re rfl) hS 2 0 rfl rfl h_2 dX0_add_20 (fun H locs hP _ hS => ?_)
    have hP : va_P g.1 vwCl [oX0 t_q t_times_q t_subjects_q t_values_q t_size, aI g t_subjects_q 6 t_subjects, aI g t_times_q 6 t_times_3, aI g t_values_q 6 t_values] H := by rw [et_times_3]; exact hP
    refine lv_aload_n hx hb dX0_add_21 rfl (lv_at hl 0 rfl) ?_
    refine va_get (D := g.1) (ci := 0) (v := .ref t_subjects_q) (C := RX0) (T := TX0) (N := 4) hx hb hts inX0 hown hK hP 0 rfl rfl 1 (by decide) k15 (fun _ h9 => h9) rfl dX0_add_22 ?_
    refine lv_aload_n hx hb dX0_add_25 rfl (lv_at hl 0 rfl) ?_
    refine va_get (D := g.1) (ci := 0) (v := .int t_size) (C := RX0) (T := TX0) (N := 4) hx hb hts inX0 hown hK hP 0 rfl rfl 3 (by decide) k21 (fun _ h9 => h9) rfl dX0_add_26 ?_
    refine lv_iload_n hx hb dX0_add_29 rfl (lv_at hl 2 rfl) ?_
    obtain ⟨h_4, hf⟩ := gin_e hf
    obtain ⟨t_subjects_5, et_subjects_5, hf⟩ := bnd_e hf
    refine va_iast hx hb hK hP (hD.re rfl) hS 1 0 rfl rfl h_4 dX0_add_30 (fun H locs hP _ hS => ?_)
    have hP : va_P g.1 vwCl [oX0 t_q t_times_q t_subjects_q t_values_q t_size, aI g t_subjects_q 6 t_subjects_5, aI g t_times_q 6 t_times_3, aI g t_values_q 6 t_values] H := by rw [et_subjects_5]; exact hP
    refine lv_aload_n hx hb dX0_add_31 rfl (lv_at hl 0 rfl) ?_
    refine va_get (D := g.1) (ci := 0) (v := .ref t_values_q) (C := RX0) (T := TX0) (N := 4) hx hb hts inX0 hown hK hP 0 rfl rfl 2 (by decide) k18 (fun _ h9 => h9) rfl dX0_add_32 ?_
    refine lv_aload_n hx hb dX0_add_35 rfl (lv_at hl 0 rfl) ?_
    refine va_get (D := g.1) (ci := 0) (v := .int t_size) (C := RX0) (T := TX0) (N := 4) hx hb hts inX0 hown hK hP 0 rfl rfl 3 (by decide) k21 (fun _ h9 => h9) rfl dX0_add_36 ?_
    refine lv_iload_n hx hb dX0_add_39 rfl (lv_at hl 3 rfl) ?_
    obtain ⟨h_6, hf⟩ := gin_e hf
    obtain ⟨t_values_7, et_values_7, hf⟩ := bnd_e hf
    refine va_iast hx hb hK hP (hD.re rfl) hS 3 0 rfl rfl h_6 dX0_add_40 (fun H locs hP _ hS => ?_)
    have hP : va_P g.1 vwCl [oX0 t_q t_times_q t_subjects_q t_values_q t_size, aI g t_subjects_q 6 t_subjects_5, aI g t_times_q 6 t_times_3, aI g t_values_q 6 t_values_7] H := by rw [et_values_7]; exact hP
    refine lv_aload_n hx hb dX0_add_41 rfl (lv_at hl 0 rfl) ?_
    refine lv_dup hx hb dX0_add_42 rfl ?_
    refine va_get (D := g.1) (ci := 0) (v := .int t_size) (C := RX0) (T := TX0) (N := 4) hx hb hts inX0 hown hK hP 0 rfl rfl 3 (by decide) k21 (fun _ h9 => h9) rfl dX0_add_43 ?_
    refine lv_iconst (v := (1 : Int32)) hx hb dX0_add_46 (by decide) ?_
    refine lv_iadd hx hb dX0_add_47 ?_
    obtain ⟨t_size_8, et_size_8, hf⟩ := bnd_e hf
    refine tp_i et_size_8 ?_
    refine va_put (D := g.1) (ci := 0) (v := .int t_size_8) (ty := .int) (C := RX0) (T := TX0) (N := 4) hx hb hts inX0 tyX0 tyX0_ok nmX0 hown hK hP (hD.re rfl) hS 0 rfl rfl 3 (by decide) k21 (fun _ h9 => h9) rfl (by decide +kernel) rfl rfl (Nat.le_of_ble_eq_true rfl) dX0_add_48 (fun H locs hP _ hS => ?_)
    have hP : va_P g.1 vwCl [oX0 t_q t_times_q t_subjects_q t_values_q t_size_8, aI g t_subjects_q 6 t_subjects_5, aI g t_times_q 6 t_times_3, aI g t_values_q 6 t_values_7] H := hP
    refine lv_iconst (v := (1 : Int32)) hx hb dX0_add_51 (by decide) ?_
    exact hret (1 : Int32) t_size_8 t_subjects_5 t_times_3 t_values_7 (Option.some.inj hf) rfl _ _ _ _ hP hS dX0_add_52
  · have hf := ite_f hf c_1
    refine lv_iconst (v := (0 : Int32)) hx hb dX0_add_9 (by decide) ?_
    exact hret (0 : Int32) t_size t_subjects t_times t_values (Option.some.inj hf) rfl _ _ _ _ hP hS dX0_add_10

def f_X0_keepFirst (t_size : Int32) (p1 : Int32) : Option (Int32 × Int32) :=
 (ob1 (f_X7_isWithin p1 (0 : Int32) t_size) (fun r_1 =>
 (if r_1 = (0 : Int32) then
 (some ((-1 : Int32), t_size))
 else (some (t_size, p1)))))
abbrev rmX0_keepFirst : Room := { frames := 1, cells := 0, slots := 0, locals := 22 }
set_option maxHeartbeats 4000000 in
set_option maxRecDepth 100000 in
theorem c_X0_keepFirst (l : Launch) (g : Gh) (sz : Nat) (t_q t_times_q t_subjects_q t_values_q : Nat) (t_size : Int32) (p1 : Int32) (rr : Int32) (t_size' : Int32) (hf : f_X0_keepFirst t_size p1 = some (rr, t_size')) : CI l yX0_keepFirst wsX0_keepFirst rmX0_keepFirst [.ref t_q, .int p1] g sz [oX0 t_q t_times_q t_subjects_q t_values_q t_size] [oX0 t_q t_times_q t_subjects_q t_values_q t_size'] rr := by
  refine ent_i (cc := cX0_keepFirst) (maxL := 3) (by decide) rfl (Nat.le_of_ble_eq_true rfl) ?_
  intro p e s m args below meth c A Q hx hb hml hown hts hK hz hk hA hD hP hS hret ls hl
  have hown : s.vm.findClass RX0 = some m.cls := hown
  have inX0 : ∀ w ∈ u_ws RX0 TX0 4, w ∈ wsX0_keepFirst := by decide +kernel
  have k21 := hts (.fieldLink RX0 21 "ThreadMoved$Notes" "size" "I") (by decide +kernel)
  have hl : lv_has ls 3 [(0, .ref t_q), (1, .int p1)] := hl
  have hret : ∀ (rrz : Int32) (t_sizez : Int32), (rrz, t_sizez) = (rr, t_size') → ∀ (H : Heap) (locs : List Loc) (pc : Nat) (ls : Array Slot), va_P g.1 vwCl [oX0 t_q t_times_q t_subjects_q t_values_q t_sizez] H → va_S A s.heap H locs → decode cX0_keepFirst pc = .ok (.ireturn, 1) → W p l e rmX0_keepFirst s m args below meth c H locs 0 0 Q (F0 m pc ls [.int rrz]) := by
    intro rrz t_sizez he H locs pc ls hP hS hd
    cases he
    exact hret H locs pc ls hP hS hd
  unfold f_X0_keepFirst at hf
  refine lv_iload_n hx hb dX0_keepFirst_0 rfl (lv_at hl 1 rfl) ?_
  refine lv_iconst (v := (0 : Int32)) hx hb dX0_keepFirst_1 (by decide) ?_
  refine lv_aload_n hx hb dX0_keepFirst_2 rfl (lv_at hl 0 rfl) ?_
  refine va_get (D := g.1) (ci := 0) (v := .int t_size) (C := RX0) (T := TX0) (N := 4) hx hb hts inX0 hown hK hP 0 rfl rfl 3 (by decide) k21 (fun _ h9 => h9) rfl dX0_keepFirst_3 ?_
  obtain ⟨r_1, hc_2, hf⟩ := ob1_e hf
  refine kSN_i (wn := [oX0 t_q t_times_q t_subjects_q t_values_q t_size]) (As := [.int p1, .int (0 : Int32), .int t_size]) (rest := []) (c_X7_isWithin l g _ p1 (0 : Int32) t_size r_1 hc_2) ⟨hx, hb, hml, hown, hts⟩ ⟨va_cnB 3 hts gX0_keepFirst_X7_isWithin_n25 rfl rfl rfl (hz.1 (RX0, 25, yX7_isWithin, RX7) (by decide +kernel)) (hts (.initialized RX7) (by decide +kernel)) (by decide +kernel) ⟨by decide, by decide⟩, hts (.static yX7_isWithin) (by decide +kernel), trivial⟩ hK hz hk hP (hD.re rfl) hS hA [] rfl rfl rfl rfl rfl hl.1 rfl (Nat.le_of_ble_eq_true rfl) dX0_keepFirst_6 (fun H locs hP hS => ?_)
  refine lv_if_ne (tgt := 14) hx hb dX0_keepFirst_9 (by decide) (fun c_3 => ?_) (fun c_3 => ?_)
  · have hf := ite_f hf c_3
    refine lv_aload_n hx hb dX0_keepFirst_14 rfl (lv_at hl 0 rfl) ?_
    refine va_get (D := g.1) (ci := 0) (v := .int t_size) (C := RX0) (T := TX0) (N := 4) hx hb hts inX0 hown hK hP 0 rfl rfl 3 (by decide) k21 (fun _ h9 => h9) rfl dX0_keepFirst_15 ?_
    refine lv_istore_n (lv' := [(2, .int t_size), (0, .ref t_q), (1, .int p1)]) hx hb dX0_keepFirst_18 rfl hl (by decide) rfl (fun ls hl => ?_)
    refine lv_aload_n hx hb dX0_keepFirst_19 rfl (lv_at hl 1 rfl) ?_
    refine lv_iload_n hx hb dX0_keepFirst_20 rfl (lv_at hl 2 rfl) ?_
    refine va_put (D := g.1) (ci := 0) (v := .int p1) (ty := .int) (C := RX0) (T := TX0) (N := 4) hx hb hts inX0 tyX0 tyX0_ok nmX0 hown hK hP (hD.re rfl) hS 0 rfl rfl 3 (by decide) k21 (fun _ h9 => h9) rfl (by decide +kernel) rfl rfl (Nat.le_of_ble_eq_true rfl) dX0_keepFirst_21 (fun H locs hP _ hS => ?_)
    have hP : va_P g.1 vwCl [oX0 t_q t_times_q t_subjects_q t_values_q p1] H := hP
    refine lv_iload_n hx hb dX0_keepFirst_24 rfl (lv_at hl 0 rfl) ?_
    exact hret t_size p1 (Option.some.inj hf) _ _ _ _ hP hS dX0_keepFirst_25
  · have hf := ite_t hf c_3
    refine lv_iconst (v := (-1 : Int32)) hx hb dX0_keepFirst_12 (by decide) ?_
    exact hret (-1 : Int32) t_size (Option.some.inj hf) _ _ _ _ hP hS dX0_keepFirst_13

def f_X5_faultAt (t_lane : Int32) (t_size : Int32) (p1 : Int32) (p2 : Int32) : Option (Int32) :=
 (if t_size = (-4 : Int32) then
 (some (1 : Int32))
 else (if t_lane = p1 then
 (ob1 (f_X7_isWithin p2 (0 : Int32) (t_size - (1 : Int32))) (fun r_3 =>
 (if r_3 = (0 : Int32) then
 (some (2 : Int32))
 else (some (0 : Int32)))))
 else (some (3 : Int32))))
abbrev rmX5_faultAt : Room := { frames := 1, cells := 0, slots := 0, locals := 22 }
set_option maxHeartbeats 4000000 in
set_option maxRecDepth 100000 in
theorem c_X5_faultAt (l : Launch) (g : Gh) (sz : Nat) (t_q t_cells_q : Nat) (t_lane : Int32) (t_size : Int32) (p1 : Int32) (p2 : Int32) (rr : Int32) (hf : f_X5_faultAt t_lane t_size p1 p2 = some rr) : CI l yX5_faultAt wsX5_faultAt rmX5_faultAt [.ref t_q, .int p1, .int p2] g sz [oX5 t_q t_cells_q t_lane t_size] [oX5 t_q t_cells_q t_lane t_size] rr := by
  refine ent_i (cc := cX5_faultAt) (maxL := 3) (by decide) rfl (Nat.le_of_ble_eq_true rfl) ?_
  intro p e s m args below meth c A Q hx hb hml hown hts hK hz hk hA hD hP hS hret ls hl
  have hown : s.vm.findClass RX5 = some m.cls := hown
  have inX5 : ∀ w ∈ u_ws RX5 TX5 3, w ∈ wsX5_faultAt := by decide +kernel
  have k15 := hts (.fieldLink RX5 15 "ThreadMoved$Sheet" "lane" "I") (by decide +kernel)
  have k19 := hts (.fieldLink RX5 19 "ThreadMoved$Sheet" "size" "I") (by decide +kernel)
  have hl : lv_has ls 3 [(0, .ref t_q), (1, .int p1), (2, .int p2)] := hl
  have hret : ∀ (rrz : Int32), rrz = rr → ∀ (H : Heap) (locs : List Loc) (pc : Nat) (ls : Array Slot), va_P g.1 vwCl [oX5 t_q t_cells_q t_lane t_size] H → va_S A s.heap H locs → decode cX5_faultAt pc = .ok (.ireturn, 1) → W p l e rmX5_faultAt s m args below meth c H locs 0 0 Q (F0 m pc ls [.int rrz]) := by
    intro rrz he H locs pc ls hP hS hd
    cases he
    exact hret H locs pc ls hP hS hd
  unfold f_X5_faultAt at hf
  refine lv_aload_n hx hb dX5_faultAt_0 rfl (lv_at hl 0 rfl) ?_
  refine va_get (D := g.1) (ci := 5) (v := .int t_size) (C := RX5) (T := TX5) (N := 3) hx hb hts inX5 hown hK hP 0 rfl rfl 2 (by decide) k19 (fun _ h9 => h9) rfl dX5_faultAt_1 ?_
  refine lv_bipush (v := (-4 : Int32)) hx hb dX5_faultAt_4 (by decide) ?_
  refine lv_icmp_ne (tgt := 11) hx hb dX5_faultAt_6 (by decide) (fun c_1 => ?_) (fun c_1 => ?_)
  · have hf := ite_f hf c_1
    refine lv_aload_n hx hb dX5_faultAt_11 rfl (lv_at hl 0 rfl) ?_
    refine va_get (D := g.1) (ci := 5) (v := .int t_lane) (C := RX5) (T := TX5) (N := 3) hx hb hts inX5 hown hK hP 0 rfl rfl 1 (by decide) k15 (fun _ h9 => h9) rfl dX5_faultAt_12 ?_
    refine lv_iload_n hx hb dX5_faultAt_15 rfl (lv_at hl 1 rfl) ?_
    refine lv_icmp_eq (tgt := 21) hx hb dX5_faultAt_16 (by decide) (fun c_2 => ?_) (fun c_2 => ?_)
    · have hf := ite_t hf c_2
      refine lv_iload_n hx hb dX5_faultAt_21 rfl (lv_at hl 2 rfl) ?_
      refine lv_iconst (v := (0 : Int32)) hx hb dX5_faultAt_22 (by decide) ?_
      refine lv_aload_n hx hb dX5_faultAt_23 rfl (lv_at hl 0 rfl) ?_
      refine va_get (D := g.1) (ci := 5) (v := .int t_size) (C := RX5) (T := TX5) (N := 3) hx hb hts inX5 hown hK hP 0 rfl rfl 2 (by decide) k19 (fun _ h9 => h9) rfl dX5_faultAt_24 ?_
      refine lv_iconst (v := (1 : Int32)) hx hb dX5_faultAt_27 (by decide) ?_
      refine lv_isub hx hb dX5_faultAt_28 ?_
      obtain ⟨r_3, hc_4, hf⟩ := ob1_e hf
      refine kSN_i (wn := [oX5 t_q t_cells_q t_lane t_size]) (As := [.int p2, .int (0 : Int32), .int (t_size - (1 : Int32))]) (rest := []) (c_X7_isWithin l g _ p2 (0 : Int32) (t_size - (1 : Int32)) r_3 hc_4) ⟨hx, hb, hml, hown, hts⟩ ⟨va_cnB 3 hts gX5_faultAt_X7_isWithin_n28 rfl rfl rfl (hz.1 (RX5, 28, yX7_isWithin, RX7) (by decide +kernel)) (hts (.initialized RX7) (by decide +kernel)) (by decide +kernel) ⟨by decide, by decide⟩, hts (.static yX7_isWithin) (by decide +kernel), trivial⟩ hK hz hk hP (hD.re rfl) hS hA [] rfl rfl rfl rfl rfl hl.1 rfl (Nat.le_of_ble_eq_true rfl) dX5_faultAt_29 (fun H locs hP hS => ?_)
      refine lv_if_eq (tgt := 39) hx hb dX5_faultAt_32 (by decide) (fun c_5 => ?_) (fun c_5 => ?_)
      · have hf := ite_t hf c_5
        refine lv_iconst (v := (2 : Int32)) hx hb dX5_faultAt_39 (by decide) ?_
        exact hret (2 : Int32) (Option.some.inj hf) _ _ _ _ hP hS dX5_faultAt_40
      · have hf := ite_f hf c_5
        refine lv_iconst (v := (0 : Int32)) hx hb dX5_faultAt_35 (by decide) ?_
        refine lv_goto (tgt := 40) hx hb dX5_faultAt_36 (by decide) ?_
        exact hret (0 : Int32) (Option.some.inj hf) _ _ _ _ hP hS dX5_faultAt_40
    · have hf := ite_f hf c_2
      refine lv_iconst (v := (3 : Int32)) hx hb dX5_faultAt_19 (by decide) ?_
      exact hret (3 : Int32) (Option.some.inj hf) _ _ _ _ hP hS dX5_faultAt_20
  · have hf := ite_t hf c_1
    refine lv_iconst (v := (1 : Int32)) hx hb dX5_faultAt_9 (by decide) ?_
    exact hret (1 : Int32) (Option.some.inj hf) _ _ _ _ hP hS dX5_faultAt_10
