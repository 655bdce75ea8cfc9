def f_X3_nextWithin (t_length : Int32) (t_fault : Int32) (t_faultPlace : Int32) (t_place : Int32) (t_kind : Int32) (t_start : Int32) (t_value : Int32) (t_tape : Nat → Int32) (p1 : Int32) (p2 : Int32) : Option (Int32 × Int32 × Int32 × Int32 × Int32 × Int32 × Int32) :=
 (ob6 (f_X3_nextToken t_length t_fault t_faultPlace t_place t_kind t_start t_value t_tape) (fun t_fault_1 t_faultPlace_2 t_kind_3 t_place_4 t_start_5 t_value_6 =>
 (jn2 (fun (t_fault_8 : Int32) (t_faultPlace_9 : Int32) => (jn2 (fun (t_fault_11 : Int32) (t_faultPlace_12 : Int32) => (if t_fault_11 = (0 : Int32) then
 (some (t_value_6, t_fault_11, t_faultPlace_12, t_kind_3, t_place_4, t_start_5, t_value_6))
 else (some (p1, t_fault_11, t_faultPlace_12, t_kind_3, t_place_4, t_start_5, t_value_6)))) (fun j_13 =>
 (if t_fault_8 = (0 : Int32) then
 (ob1 (f_X7_isWithin t_value_6 p1 p2) (fun r_16 =>
 (if r_16 = (0 : Int32) then
 (ob2 (f_X3_fail t_fault_8 t_faultPlace_9 (3 : Int32) t_start_5) (fun t_fault_19 t_faultPlace_20 =>
 (j_13 t_fault_19 t_faultPlace_20)))
 else (j_13 t_fault_8 t_faultPlace_9))))
 else (j_13 t_fault_8 t_faultPlace_9))))) (fun j_10 =>
 (if t_fault_1 = (0 : Int32) then
 (if t_kind_3 = (2 : Int32) then
 (j_10 t_fault_1 t_faultPlace_2)
 else (ob2 (f_X3_fail t_fault_1 t_faultPlace_2 (2 : Int32) t_start_5) (fun t_fault_24 t_faultPlace_25 =>
 (j_10 t_fault_24 t_faultPlace_25))))
 else (j_10 t_fault_1 t_faultPlace_2))))))
abbrev rmX3_nextWithin : Room := { frames := 2, cells := 0, slots := 0, locals := 45 }
set_option maxHeartbeats 4000000 in
set_option maxRecDepth 100000 in
theorem c_X3_nextWithin (l : Launch) (g : Gh) (sz : Nat) (t_q t_plan_q t_state_q t_tape_q : Nat) (t_length : Int32) (t_fault : Int32) (t_faultPlace : Int32) (t_lines : Int32) (t_place : Int32) (t_kind : Int32) (t_start : Int32) (t_value : Int32) (t_told : Int32) (t_tape : Nat → Int32) (p1 : Int32) (p2 : Int32) (rr : Int32) (t_fault' : Int32) (t_faultPlace' : Int32) (t_kind' : Int32) (t_place' : Int32) (t_start' : Int32) (t_value' : Int32) (hf : f_X3_nextWithin t_length t_fault t_faultPlace t_place t_kind t_start t_value t_tape p1 p2 = some (rr, t_fault', t_faultPlace', t_kind', t_place', t_start', t_value')) : CI l yX3_nextWithin wsX3_nextWithin rmX3_nextWithin [.ref t_q, .int p1, .int p2] g sz [oX3 t_q t_plan_q t_state_q t_length t_fault t_faultPlace t_lines t_tape_q t_place t_kind t_start t_value t_told, aB g t_tape_q 320 t_tape] [oX3 t_q t_plan_q t_state_q t_length t_fault' t_faultPlace' t_lines t_tape_q t_place' t_kind' t_start' t_value' t_told, aB g t_tape_q 320 t_tape] rr := by
  refine ent_i (cc := cX3_nextWithin) (maxL := 3) (by decide) rfl (Nat.le_of_ble_eq_true rfl) ?_
  intro p e s m args below meth c A Q hx hb hml hown hts hK hz hk hA hD hP hS hret ls hl
  have hown : s.vm.findClass RX3 = some m.cls := hown
  have inX3 : ∀ w ∈ u_ws RX3 TX3 12, w ∈ wsX3_nextWithin := by decide +kernel
  have k31 := hts (.fieldLink RX3 31 "ThreadMoved$Reader" "fault" "I") (by decide +kernel)
  have k54 := hts (.fieldLink RX3 54 "ThreadMoved$Reader" "kind" "I") (by decide +kernel)
  have k66 := hts (.fieldLink RX3 66 "ThreadMoved$Reader" "start" "I") (by decide +kernel)
  have k73 := hts (.fieldLink RX3 73 "ThreadMoved$Reader" "value" "I") (by decide +kernel)
  have hl : lv_has ls 3 [(0, .ref t_q), (1, .int p1), (2, .int p2)] := hl
  have hret : ∀ (rrz : Int32) (t_faultz : Int32) (t_faultPlacez : Int32) (t_kindz : Int32) (t_placez : Int32) (t_startz : Int32) (t_valuez : Int32), (rrz, t_faultz, t_faultPlacez, t_kindz, t_placez, t_startz, t_valuez) = (rr, t_fault', t_faultPlace', t_kind', t_place', t_start', t_value') → ∀ (H : Heap) (locs : List Loc) (pc : Nat) (ls : Array Slot), va_P g.1 vwCl [oX3 t_q t_plan_q t_state_q t_length t_faultz t_faultPlacez t_lines t_tape_q t_placez t_kindz t_startz t_valuez t_told, aB g t_tape_q 320 t_tape] H → va_S A s.heap H locs → decode cX3_nextWithin pc = .ok (.ireturn, 1) → W p l e rmX3_nextWithin s m args below meth c H locs 0 0 Q (F0 m pc ls [.int rrz]) := by
    intro rrz t_faultz t_faultPlacez t_kindz t_placez t_startz t_valuez he H locs pc ls hP hS hd
    cases he
    exact hret H locs pc ls hP hS hd
  unfold f_X3_nextWithin at hf
  refine lv_aload_n hx hb dX3_nextWithin_0 rfl (lv_at hl 0 rfl) ?_
  obtain ⟨t_fault_1, t_faultPlace_2, t_kind_3, t_place_4, t_start_5, t_value_6, hc_7, hf⟩ := ob6_e hf
  refine kV_v (wn := [oX3 t_q t_plan_q t_state_q t_length t_fault_1 t_faultPlace_2 t_lines t_tape_q t_place_4 t_kind_3 t_start_5 t_value_6 t_told, aB g t_tape_q 320 t_tape]) (As := []) (rest := []) (c_X3_nextToken l g _ t_q t_plan_q t_state_q t_tape_q t_length t_fault t_faultPlace t_lines t_place t_kind t_start t_value t_told t_tape t_fault_1 t_faultPlace_2 t_kind_3 t_place_4 t_start_5 t_value_6 hc_7) ⟨hx, hb, hml, hown, hts⟩ (cwV 0 hts gX3_nextWithin_X3_nextToken rfl rfl rfl (by decide +kernel) ⟨by decide, by decide⟩) hK hz hk hP (hD.re rfl) hS hA [0, 1] rfl rfl rfl rfl rfl rfl rfl hl.1 rfl (Nat.le_of_ble_eq_true rfl) dX3_nextWithin_1 (fun H locs hP hS => ?_)
  refine lv_aload_n hx hb dX3_nextWithin_4 rfl (lv_at hl 0 rfl) ?_
  refine va_get (D := g.1) (ci := 3) (v := .int t_fault_1) (C := RX3) (T := TX3) (N := 12) hx hb hts inX3 hown hK hP 0 rfl rfl 3 (by decide) k31 (fun _ h9 => h9) rfl dX3_nextWithin_5 ?_
  obtain ⟨j_10, hj_10, hf⟩ := jn2_e hf
  have J_10 : ∀ (t_fault_8 : Int32) (t_faultPlace_9 : Int32), j_10 t_fault_8 t_faultPlace_9 = some (rr, t_fault', t_faultPlace', t_kind', t_place', t_start', t_value') → ∀ (H : Heap) (locs : List Loc) (ls : Array Slot), va_P g.1 vwCl [oX3 t_q t_plan_q t_state_q t_length t_fault_8 t_faultPlace_9 t_lines t_tape_q t_place_4 t_kind_3 t_start_5 t_value_6 t_told, aB g t_tape_q 320 t_tape] H → va_S A s.heap H locs → lv_has ls 3 [(0, .ref t_q), (1, .int p1), (2, .int p2)] → W p l e rmX3_nextWithin s m args below meth c H locs 0 0 Q (F0 m 28 ls []) := by
    intro t_fault_8 t_faultPlace_9 hf H locs ls hP hS hl
    rw [hj_10] at hf
    refine lv_aload_n hx hb dX3_nextWithin_28 rfl (lv_at hl 0 rfl) ?_
    refine va_get (D := g.1) (ci := 3) (v := .int t_fault_8) (C := RX3) (T := TX3) (N := 12) hx hb hts inX3 hown hK hP 0 rfl rfl 3 (by decide) k31 (fun _ h9 => h9) rfl dX3_nextWithin_29 ?_
    obtain ⟨j_13, hj_13, hf⟩ := jn2_e hf
    have J_13 : ∀ (t_fault_11 : Int32) (t_faultPlace_12 : Int32), j_13 t_fault_11 t_faultPlace_12 = some (rr, t_fault', t_faultPlace', t_kind', t_place', t_start', t_value') → ∀ (H : Heap) (locs : List Loc) (ls : Array Slot), va_P g.1 vwCl [oX3 t_q t_plan_q t_state_q t_length t_fault_11 t_faultPlace_12 t_lines t_tape_q t_place_4 t_kind_3 t_start_5 t_value_6 t_told, aB g t_tape_q 320 t_tape] H → va_S A s.heap H locs → lv_has ls 3 [(0, .ref t_q), (1, .int p1)] → W p l e rmX3_nextWithin s m args below meth c H locs 0 0 Q (F0 m 56 ls []) := by
      intro t_fault_11 t_faultPlace_12 hf H locs ls hP hS hl
      rw [hj_13] at hf
      refine lv_aload_n hx hb dX3_nextWithin_56 rfl (lv_at hl 0 rfl) ?_
      refine va_get (D := g.1) (ci := 3) (v := .int t_fault_11) (C := RX3) (T := TX3) (N := 12) hx hb hts inX3 hown hK hP 0 rfl rfl 3 (by decide) k31 (fun _ h9 => h9) rfl dX3_nextWithin_57 ?_
      refine lv_if_ne (tgt := 70) hx hb dX3_nextWithin_60 (by decide) (fun c_14 => ?_) (fun c_14 => ?_)
      · have hf := ite_f hf c_14
        refine lv_iload_n hx hb dX3_nextWithin_70 rfl (lv_at hl 1 rfl) ?_
        exact hret p1 t_fault_11 t_faultPlace_12 t_kind_3 t_place_4 t_start_5 t_value_6 (Option.some.inj hf) _ _ _ _ hP hS dX3_nextWithin_71
      · have hf := ite_t hf c_14
        refine lv_aload_n hx hb dX3_nextWithin_63 rfl (lv_at hl 0 rfl) ?_
        refine va_get (D := g.1) (ci := 3) (v := .int t_value_6) (C := RX3) (T := TX3) (N := 12) hx hb hts inX3 hown hK hP 0 rfl rfl 10 (by decide) k73 (fun _ h9 => h9) rfl dX3_nextWithin_64 ?_
        refine lv_goto (tgt := 71) hx hb dX3_nextWithin_67 (by decide) ?_
        exact hret t_value_6 t_fault_11 t_faultPlace_12 t_kind_3 t_place_4 t_start_5 t_value_6 (Option.some.inj hf) _ _ _ _ hP hS dX3_nextWithin_71
    refine lv_if_ne (tgt := 56) hx hb dX3_nextWithin_32 (by decide) (fun c_15 => ?_) (fun c_15 => ?_)
    · have hf := ite_f hf c_15
      exact J_13 t_fault_8 t_faultPlace_9 hf _ _ _ hP hS (lv_sub hl [0, 1] rfl)
    · have hf := ite_t hf c_15
      refine lv_aload_n hx hb dX3_nextWithin_35 rfl (lv_at hl 0 rfl) ?_
      refine va_get (D := g.1) (ci := 3) (v := .int t_value_6) (C := RX3) (T := TX3) (N := 12) hx hb hts inX3 hown hK hP 0 rfl rfl 10 (by decide) k73 (fun _ h9 => h9) rfl dX3_nextWithin_36 ?_
      refine lv_iload_n hx hb dX3_nextWithin_39 rfl (lv_at hl 1 rfl) ?_
      refine lv_iload_n hx hb dX3_nextWithin_40 rfl (lv_at hl 2 rfl) ?_
      obtain ⟨r_16, hc_17, hf⟩ := ob1_e hf
      refine kSN_i (wn := [oX3 t_q t_plan_q t_state_q t_length t_fault_8 t_faultPlace_9 t_lines t_tape_q t_place_4 t_kind_3 t_start_5 t_value_6 t_told, aB g t_tape_q 320 t_tape]) (As := [.int t_value_6, .int p1, .int p2]) (rest := []) (c_X7_isWithin l g _ t_value_6 p1 p2 r_16 hc_17) ⟨hx, hb, hml, hown, hts⟩ ⟨va_cnB 3 hts gX3_nextWithin_X7_isWithin_n147 rfl rfl rfl (hz.1 (RX3, 147, yX7_isWithin, RX7) (by decide +kernel)) (hts (.initialized RX7) (by decide +kernel)) (by decide +kernel) ⟨by decide, by decide⟩, hts (.static yX7_isWithin) (by decide +kernel), trivial⟩ hK hz hk hP (hD.re rfl) hS hA [] rfl rfl rfl rfl rfl hl.1 rfl (Nat.le_of_ble_eq_true rfl) dX3_nextWithin_41 (fun H locs hP hS => ?_)
      refine lv_if_ne (tgt := 56) hx hb dX3_nextWithin_44 (by decide) (fun c_18 => ?_) (fun c_18 => ?_)
      · have hf := ite_f hf c_18
        exact J_13 t_fault_8 t_faultPlace_9 hf _ _ _ hP hS (lv_sub hl [0, 1] rfl)
      · have hf := ite_t hf c_18
        refine lv_aload_n hx hb dX3_nextWithin_47 rfl (lv_at hl 0 rfl) ?_
        refine lv_iconst (v := (3 : Int32)) hx hb dX3_nextWithin_48 (by decide) ?_
        refine lv_aload_n hx hb dX3_nextWithin_49 rfl (lv_at hl 0 rfl) ?_
        refine va_get (D := g.1) (ci := 3) (v := .int t_start_5) (C := RX3) (T := TX3) (N := 12) hx hb hts inX3 hown hK hP 0 rfl rfl 9 (by decide) k66 (fun _ h9 => h9) rfl dX3_nextWithin_50 ?_
        obtain ⟨t_fault_19, t_faultPlace_20, hc_21, hf⟩ := ob2_e hf
        refine kV_v (wn := [oX3 t_q t_plan_q t_state_q t_length t_fault_19 t_faultPlace_20 t_lines t_tape_q t_place_4 t_kind_3 t_start_5 t_value_6 t_told, aB g t_tape_q 320 t_tape]) (As := [.int (3 : Int32), .int t_start_5]) (rest := []) (c_X3_fail l g _ t_q t_plan_q t_state_q t_tape_q t_length t_fault_8 t_faultPlace_9 t_lines t_place_4 t_kind_3 t_start_5 t_value_6 t_told (3 : Int32) t_start_5 t_fault_19 t_faultPlace_20 hc_21) ⟨hx, hb, hml, hown, hts⟩ (cwV 2 hts gX3_nextWithin_X3_fail rfl rfl rfl (by decide +kernel) ⟨by decide, by decide⟩) hK hz hk hP (hD.re rfl) hS hA [0] rfl rfl rfl rfl rfl rfl rfl hl.1 rfl (Nat.le_of_ble_eq_true rfl) dX3_nextWithin_53 (fun H locs hP hS => ?_)
        exact J_13 t_fault_19 t_faultPlace_20 hf _ _ _ hP hS (lv_sub hl [0, 1] rfl)
  refine lv_if_ne (tgt := 28) hx hb dX3_nextWithin_8 (by decide) (fun c_22 => ?_) (fun c_22 => ?_)
  · have hf := ite_f hf c_22
    exact J_10 t_fault_1 t_faultPlace_2 hf _ _ _ hP hS (lv_sub hl [0, 1, 2] rfl)
  · have hf := ite_t hf c_22
    refine lv_aload_n hx hb dX3_nextWithin_11 rfl (lv_at hl 0 rfl) ?_
    refine va_get (D := g.1) (ci := 3) (v := .int t_kind_3) (C := RX3) (T := TX3) (N := 12) hx hb hts inX3 hown hK hP 0 rfl rfl 8 (by decide) k54 (fun _ h9 => h9) rfl dX3_nextWithin_12 ?_
    refine lv_iconst (v := (2 : Int32)) hx hb dX3_nextWithin_15 (by decide) ?_
    refine lv_icmp_eq (tgt := 28) hx hb dX3_nextWithin_16 (by decide) (fun c_23 => ?_) (fun c_23 => ?_)
    · have hf := ite_t hf c_23
      exact J_10 t_fault_1 t_faultPlace_2 hf _ _ _ hP hS (lv_sub hl [0, 1, 2] rfl)
    · have hf := ite_f hf c_23
      refine lv_aload_n hx hb dX3_nextWithin_19 rfl (lv_at hl 0 rfl) ?_
      refine lv_iconst (v := (2 : Int32)) hx hb dX3_nextWithin_20 (by decide) ?_
      refine lv_aload_n hx hb dX3_nextWithin_21 rfl (lv_at hl 0 rfl) ?_
      refine va_get (D := g.1) (ci := 3) (v := .int t_start_5) (C := RX3) (T := TX3) (N := 12) hx hb hts inX3 hown hK hP 0 rfl rfl 9 (by decide) k66 (fun _ h9 => h9) rfl dX3_nextWithin_22 ?_
      obtain ⟨t_fault_24, t_faultPlace_25, hc_26, hf⟩ := ob2_e hf
      refine kV_v (wn := [oX3 t_q t_plan_q t_state_q t_length t_fault_24 t_faultPlace_25 t_lines t_tape_q t_place_4 t_kind_3 t_start_5 t_value_6 t_told, aB g t_tape_q 320 t_tape]) (As := [.int (2 : Int32), .int t_start_5]) (rest := []) (c_X3_fail l g _ t_q t_plan_q t_state_q t_tape_q t_length t_fault_1 t_faultPlace_2 t_lines t_place_4 t_kind_3 t_start_5 t_value_6 t_told (2 : Int32) t_start_5 t_fault_24 t_faultPlace_25 hc_26) ⟨hx, hb, hml, hown, hts⟩ (cwV 2 hts gX3_nextWithin_X3_fail rfl rfl rfl (by decide +kernel) ⟨by decide, by decide⟩) hK hz hk hP (hD.re rfl) hS hA [0] rfl rfl rfl rfl rfl rfl rfl hl.1 rfl (Nat.le_of_ble_eq_true rfl) dX3_nextWithin_25 (fun H locs hP hS => ?_)
      exact J_10 t_fault_24 t_faultPlace_25 hf _ _ _ hP hS (lv_sub hl [0, 1, 2] rfl)

def f_X3_tellOnce (t_fault : Int32) (t_faultPlace : Int32) (t_start : Int32) (t_told : Int32) (p1 : Int32) : Option (Int32 × Int32 × Int32) :=
 (jn2 (fun (t_fault_1 : Int32) (t_faultPlace_2 : Int32) => (bnd (t_told ||| p1) (fun t_told_4 =>
 (some (t_fault_1, t_faultPlace_2, t_told_4))))) (fun j_3 =>
 (if (t_told &&& p1) = (0 : Int32) then
 (j_3 t_fault t_faultPlace)
 else (ob2 (f_X3_fail t_fault t_faultPlace (4 : Int32) t_start) (fun t_fault_6 t_faultPlace_7 =>
 (j_3 t_fault_6 t_faultPlace_7))))))
abbrev rmX3_tellOnce : Room := { frames := 1, cells := 0, slots := 0, locals := 22 }
set_option maxHeartbeats 4000000 in
set_option maxRecDepth 100000 in
theorem c_X3_tellOnce (l : Launch) (g : Gh) (sz : Nat) (t_q t_plan_q t_state_q t_tape_q : Nat) (t_length : Int32) (t_fault : Int32) (t_faultPlace : Int32) (t_lines : Int32) (t_place : Int32) (t_kind : Int32) (t_start : Int32) (t_value : Int32) (t_told : Int32) (p1 : Int32) (t_fault' : Int32) (t_faultPlace' : Int32) (t_told' : Int32) (hf : f_X3_tellOnce t_fault t_faultPlace t_start t_told p1 = some (t_fault', t_faultPlace', t_told')) : CV l yX3_tellOnce wsX3_tellOnce rmX3_tellOnce [.ref t_q, .int p1] g sz [oX3 t_q t_plan_q t_state_q t_length t_fault t_faultPlace t_lines t_tape_q t_place t_kind t_start t_value t_told] [oX3 t_q t_plan_q t_state_q t_length t_fault' t_faultPlace' t_lines t_tape_q t_place t_kind t_start t_value t_told'] := by
  refine ent_v (cc := cX3_tellOnce) (maxL := 2) (by decide) rfl (Nat.le_of_ble_eq_true rfl) ?_
  intro p e s m args below meth c A Q hx hb hml hown hts hK hz hk hA hD hP hS hret ls hl
  have hown : s.vm.findClass RX3 = some m.cls := hown
  have inX3 : ∀ w ∈ u_ws RX3 TX3 12, w ∈ wsX3_tellOnce := by decide +kernel
  have k45 := hts (.fieldLink RX3 45 "ThreadMoved$Reader" "told" "I") (by decide +kernel)
  have k66 := hts (.fieldLink RX3 66 "ThreadMoved$Reader" "start" "I") (by decide +kernel)
  have hl : lv_has ls 2 [(0, .ref t_q), (1, .int p1)] := hl
  have hret : ∀ (t_faultz : Int32) (t_faultPlacez : Int32) (t_toldz : Int32), (t_faultz, t_faultPlacez, t_toldz) = (t_fault', t_faultPlace', t_told') → ∀ (H : Heap) (locs : List Loc) (pc : Nat) (ls : Array Slot), va_P g.1 vwCl [oX3 t_q t_plan_q t_state_q t_length t_faultz t_faultPlacez t_lines t_tape_q t_place t_kind t_start t_value t_toldz] H → va_S A s.heap H locs → decode cX3_tellOnce pc = .ok (.return_, 1) → W p l e rmX3_tellOnce s m args below meth c H locs 0 0 Q (F0 m pc ls []) := by
    intro t_faultz t_faultPlacez t_toldz he H locs pc ls hP hS hd
    cases he
    exact hret H locs pc ls hP hS hd
  unfold f_X3_tellOnce at hf
  refine lv_aload_n hx hb dX3_tellOnce_0 rfl (lv_at hl 0 rfl) ?_
  refine va_get (D := g.1) (ci := 3) (v := .int t_told) (C := RX3) (T := TX3) (N := 12) hx hb hts inX3 hown hK hP 0 rfl rfl 11 (by decide) k45 (fun _ h9 => h9) rfl dX3_tellOnce_1 ?_
  refine lv_iload_n hx hb dX3_tellOnce_4 rfl (lv_at hl 1 rfl) ?_
  refine lv_iand hx hb dX3_tellOnce_5 ?_
  obtain ⟨j_3, hj_3, hf⟩ := jn2_e hf
  have J_3 : ∀ (t_fault_1 : Int32) (t_faultPlace_2 : Int32), j_3 t_fault_1 t_faultPlace_2 = some (t_fault', t_faultPlace', t_told') → ∀ (H : Heap) (locs : List Loc) (ls : Array Slot), va_P g.1 vwCl [oX3 t_q t_plan_q t_state_q t_length t_fault_1 t_faultPlace_2 t_lines t_tape_q t_place t_kind t_start t_value t_told] H → va_S A s.heap H locs → lv_has ls 2 [(0, .ref t_q), (1, .int p1)] → W p l e rmX3_tellOnce s m args below meth c H locs 0 0 Q (F0 m 18 ls []) := by
    intro t_fault_1 t_faultPlace_2 hf H locs ls hP hS hl
    rw [hj_3] at hf
    refine lv_aload_n hx hb dX3_tellOnce_18 rfl (lv_at hl 0 rfl) ?_
    refine lv_dup hx hb dX3_tellOnce_19 rfl ?_
    refine va_get (D := g.1) (ci := 3) (v := .int t_told) (C := RX3) (T := TX3) (N := 12) hx hb hts inX3 hown hK hP 0 rfl rfl 11 (by decide) k45 (fun _ h9 => h9) rfl dX3_tellOnce_20 ?_
    refine lv_iload_n hx hb dX3_tellOnce_23 rfl (lv_at hl 1 rfl) ?_
    refine lv_ior hx hb dX3_tellOnce_24 ?_
    obtain ⟨t_told_4, et_told_4, hf⟩ := bnd_e hf
    refine tp_i et_told_4 ?_
    refine va_put (D := g.1) (ci := 3) (v := .int t_told_4) (ty := .int) (C := RX3) (T := TX3) (N := 12) hx hb hts inX3 tyX3 tyX3_ok nmX3 hown hK hP (hD.re rfl) hS 0 rfl rfl 11 (by decide) k45 (fun _ h9 => h9) rfl (by decide +kernel) rfl rfl (Nat.le_of_ble_eq_true rfl) dX3_tellOnce_25 (fun H locs hP _ hS => ?_)
    have hP : va_P g.1 vwCl [oX3 t_q t_plan_q t_state_q t_length t_fault_1 t_faultPlace_2 t_lines t_tape_q t_place t_kind t_start t_value t_told_4] H := hP
    exact hret t_fault_1 t_faultPlace_2 t_told_4 (Option.some.inj hf) _ _ _ _ hP hS dX3_tellOnce_28
  refine lv_if_eq (tgt := 18) hx hb dX3_tellOnce_6 (by decide) (fun c_5 => ?_) (fun c_5 => ?_)
  · have hf := ite_t hf c_5
    exact J_3 t_fault t_faultPlace hf _ _ _ hP hS (lv_sub hl [0, 1] rfl)
  · have hf := ite_f hf c_5
    refine lv_aload_n hx hb dX3_tellOnce_9 rfl (lv_at hl 0 rfl) ?_
    refine lv_iconst (v := (4 : Int32)) hx hb dX3_tellOnce_10 (by decide) ?_
    refine lv_aload_n hx hb dX3_tellOnce_11 rfl (lv_at hl 0 rfl) ?_
    refine va_get (D := g.1) (ci := 3) (v := .int t_start) (C := RX3) (T := TX3) (N := 12) hx hb hts inX3 hown hK hP 0 rfl rfl 9 (by decide) k66 (fun _ h9 => h9) rfl dX3_tellOnce_12 ?_
    obtain ⟨t_fault_6, t_faultPlace_7, hc_8, hf⟩ := ob2_e hf
    refine kV_v (wn := [oX3 t_q t_plan_q t_state_q t_length t_fault_6 t_faultPlace_7 t_lines t_tape_q t_place t_kind t_start t_value t_told]) (As := [.int (4 : Int32), .int t_start]) (rest := []) (c_X3_fail l g _ t_q t_plan_q t_state_q t_tape_q t_length t_fault t_faultPlace t_lines t_place t_kind t_start t_value t_told (4 : Int32) t_start t_fault_6 t_faultPlace_7 hc_8) ⟨hx, hb, hml, hown, hts⟩ (cwV 2 hts gX3_tellOnce_X3_fail rfl rfl rfl (by decide +kernel) ⟨by decide, by decide⟩) hK hz hk hP (hD.re rfl) hS hA [0] rfl rfl rfl rfl rfl rfl rfl hl.1 rfl (Nat.le_of_ble_eq_true rfl) dX3_tellOnce_15 (fun H locs hP hS => ?_)
    exact J_3 t_fault_6 t_faultPlace_7 hf _ _ _ hP hS (lv_sub hl [0, 1] rfl)

def f_X3_readBeast (t_length : Int32) (t_fault : Int32) (t_faultPlace : Int32) (t_place : Int32) (t_kind : Int32) (t_start : Int32) (t_value : Int32) (t_told : Int32) (t_state_habit : Int32) (t_tape : Nat → Int32) : Option (Int32 × Int32 × Int32 × Int32 × Int32 × Int32 × Int32 × Int32 × Int32) :=
 (ob3 (f_X3_tellOnce t_fault t_faultPlace t_start t_told (8 : Int32)) (fun t_fault_1 t_faultPlace_2 t_told_3 =>
 (ob7 (f_X3_nextWithin t_length t_fault_1 t_faultPlace_2 t_place t_kind t_start t_value t_tape (0 : Int32) (6 : Int32)) (fun r_5 t_fault_6 t_faultPlace_7 t_kind_8 t_place_9 t_start_10 t_value_11 =>
 (ob6 (f_X3_nextToken t_length t_fault_6 t_faultPlace_7 t_place_9 t_kind_8 t_start_10 t_value_11 t_tape) (fun t_fault_13 t_faultPlace_14 t_kind_15 t_place_16 t_start_17 t_value_18 =>
 (ob1 (f_X3_isWord t_fault_13 t_place_16 t_kind_15 t_start_17 t_tape 10) (fun r_20 =>
 (if r_20 = (0 : Int32) then
 (ob1 (f_X3_isWord t_fault_13 t_place_16 t_kind_15 t_start_17 t_tape 11) (fun r_23 =>
 (if r_23 = (0 : Int32) then
 (ob1 (f_X3_isWord t_fault_13 t_place_16 t_kind_15 t_start_17 t_tape 12) (fun r_26 =>
 (if r_26 = (0 : Int32) then
 (ob1 (f_X3_isWord t_fault_13 t_place_16 t_kind_15 t_start_17 t_tape 13) (fun r_29 =>
 (if r_29 = (0 : Int32) then
 (ob2 (f_X3_fail t_fault_13 t_faultPlace_14 (2 : Int32) t_start_17) (fun t_fault_32 t_faultPlace_33 =>
 (some (t_fault_32, t_faultPlace_33, t_kind_15, t_place_16, t_start_17, t_told_3, t_value_18, r_5, t_state_habit))))
 else (some (t_fault_13, t_faultPlace_14, t_kind_15, t_place_16, t_start_17, t_told_3, t_value_18, r_5, (3 : Int32))))))
 else (some (t_fault_13, t_faultPlace_14, t_kind_15, t_place_16, t_start_17, t_told_3, t_value_18, r_5, (2 : Int32))))))
 else (some (t_fault_13, t_faultPlace_14, t_kind_15, t_place_16, t_start_17, t_told_3, t_value_18, r_5, (1 : Int32))))))
 else (some (t_fault_13, t_faultPlace_14, t_kind_15, t_place_16, t_start_17, t_told_3, t_value_18, r_5, (0 : Int32))))))))))))
abbrev rmX3_readBeast : Room := { frames := 5, cells := 0, slots := 0, locals := 107 }
set_option maxHeartbeats 4000000 in
set_option maxRecDepth 100000 in
theorem c_X3_readBeast (l : Launch) (g : Gh) (sz : Nat) (t_q t_plan_q t_state_q t_tape_q t_state_secondEnds_q t_state_string_q : Nat) (t_length : Int32) (t_fault : Int32) (t_faultPlace : Int32) (t_lines : Int32) (t_place : Int32) (t_kind : Int32) (t_start : Int32) (t_value : Int32) (t_told : Int32) (t_state_barred : Int32) (t_state_period : Int32) (t_state_his : Int32) (t_state_beast : Int32) (t_state_habit : Int32) (t_state_onString : Int32) (t_state_step : Int32) (t_state_eaten : Int32) (t_tape : Nat → Int32) (t_fault' : Int32) (t_faultPlace' : Int32) (t_kind' : Int32) (t_place' : Int32) (t_start' : Int32) (t_told' : Int32) (t_value' : Int32) (t_state_beast' : Int32) (t_state_habit' : Int32) (hf : f_X3_readBeast t_length t_fault t_faultPlace t_place t_kind t_start t_value t_told t_state_habit t_tape = some (t_fault', t_faultPlace', t_kind', t_place', t_start', t_told', t_value', t_state_beast', t_state_habit')) : CV l yX3_readBeast wsX3_readBeast rmX3_readBeast [.ref t_q] g sz [oX3 t_q t_plan_q t_state_q t_length t_fault t_faultPlace t_lines t_tape_q t_place t_kind t_start t_value t_told, oX6 t_state_q t_plan_q t_state_secondEnds_q t_state_string_q t_state_barred t_state_period t_state_his t_state_beast t_state_habit t_state_onString t_state_step t_state_eaten, aB g t_tape_q 320 t_tape] [oX3 t_q t_plan_q t_state_q t_length t_fault' t_faultPlace' t_lines t_tape_q t_place' t_kind' t_start' t_value' t_told', oX6 t_state_q t_plan_q t_state_secondEnds_q t_state_string_q t_state_barred t_state_period t_state_his t_state_beast' t_state_habit' t_state_onString t_state_step t_state_eaten, aB g t_tape_q 320 t_tape] := by
  refine ent_v (cc := cX3_readBeast) (maxL := 1) (by decide) rfl (Nat.le_of_ble_eq_true rfl) ?_
  intro p e s m args below meth c A Q hx hb hml hown hts hK hz hk hA hD hP hS hret ls hl
  have hown : s.vm.findClass RX3 = some m.cls := hown
  have inX3 : ∀ w ∈ u_ws RX3 TX3 12, w ∈ wsX3_readBeast := by decide +kernel
  have inX6 : ∀ w ∈ u_ws RX6 TX6 11, w ∈ wsX3_readBeast := by decide +kernel
  have k23 := hts (.fieldLink RX3 23 "ThreadMoved$Reader" "state" "LThreadMoved$State;") (by decide +kernel)
  have k66 := hts (.fieldLink RX3 66 "ThreadMoved$Reader" "start" "I") (by decide +kernel)
  have k167 := hts (.fieldLink RX3 167 "ThreadMoved$State" "beast" "I") (by decide +kernel)
  have k171 := hts (.fieldLink RX3 171 "ThreadMoved$State" "habit" "I") (by decide +kernel)
  have hl : lv_has ls 1 [(0, .ref t_q)] := hl
  have hret : ∀ (t_faultz : Int32) (t_faultPlacez : Int32) (t_kindz : Int32) (t_placez : Int32) (t_startz : Int32) (t_toldz : Int32) (t_valuez : Int32) (t_state_beastz : Int32) (t_state_habitz : Int32), (t_faultz, t_faultPlacez, t_kindz, t_placez, t_startz, t_toldz, t_valuez, t_state_beastz, t_state_habitz) = (t_fault', t_faultPlace', t_kind', t_place', t_start', t_told', t_value', t_state_beast', t_state_habit') → ∀ (H : Heap) (locs : List Loc) (pc : Nat) (ls : Array Slot), va_P g.1 vwCl [oX3 t_q t_plan_q t_state_q t_length t_faultz t_faultPlacez t_lines t_tape_q t_placez t_kindz t_startz t_valuez t_toldz, oX6 t_state_q t_plan_q t_state_secondEnds_q t_state_string_q t_state_barred t_state_period t_state_his t_state_beastz t_state_habitz t_state_onString t_state_step t_state_eaten, aB g t_tape_q 320 t_tape] H → va_S A s.heap H locs → decode cX3_readBeast pc = .ok (.return_, 1) → W p l e rmX3_readBeast s m args below meth c H locs 0 0 Q (F0 m pc ls []) := by
    intro t_faultz t_faultPlacez t_kindz t_placez t_startz t_toldz t_valuez t_state_beastz t_state_habitz he H locs pc ls hP hS hd
    cases he
    exact hret H locs pc ls hP hS hd
  unfold f_X3_readBeast at hf
  refine lv_aload_n hx hb dX3_readBeast_0 rfl (lv_at hl 0 rfl) ?_
  refine lv_bipush (v := (8 : Int32)) hx hb dX3_readBeast_1 (by decide) ?_
  obtain ⟨t_fault_1, t_faultPlace_2, t_told_3, hc_4, hf⟩ := ob3_e hf
  refine kV_v (wn := [oX3 t_q t_plan_q t_state_q t_length t_fault_1 t_faultPlace_2 t_lines t_tape_q t_place t_kind t_start t_value t_told_3, oX6 t_state_q t_plan_q t_state_secondEnds_q t_state_string_q t_state_barred t_state_period t_state_his t_state_beast t_state_habit t_state_onString t_state_step t_state_eaten, aB g t_tape_q 320 t_tape]) (As := [.int (8 : Int32)]) (rest := []) (c_X3_tellOnce l g _ t_q t_plan_q t_state_q t_tape_q t_length t_fault t_faultPlace t_lines t_place t_kind t_start t_value t_told (8 : Int32) t_fault_1 t_faultPlace_2 t_told_3 hc_4) ⟨hx, hb, hml, hown, hts⟩ (cwV 1 hts gX3_readBeast_X3_tellOnce rfl rfl rfl (by decide +kernel) ⟨by decide, by decide⟩) hK hz hk hP (hD.re rfl) hS hA [0] rfl rfl rfl rfl rfl rfl rfl hl.1 rfl (Nat.le_of_ble_eq_true rfl) dX3_readBeast_3 (fun H locs hP hS => ?_)
  refine lv_aload_n hx hb dX3_readBeast_6 rfl (lv_at hl 0 rfl) ?_
  refine va_get (D := g.1) (ci := 3) (v := .ref t_state_q) (C := RX3) (T := TX3) (N := 12) hx hb hts inX3 hown hK hP 0 rfl rfl 1 (by decide) k23 (fun _ h9 => h9) rfl dX3_readBeast_7 ?_
  refine lv_aload_n hx hb dX3_readBeast_10 rfl (lv_at hl 0 rfl) ?_
  refine lv_iconst (v := (0 : Int32)) hx hb dX3_readBeast_11 (by decide) ?_
  refine lv_bipush (v := (6 : Int32)) hx hb dX3_readBeast_12 (by decide) ?_
  obtain ⟨r_5, t_fault_6, t_faultPlace_7, t_kind_8, t_place_9, t_start_10, t_value_11, hc_12, hf⟩ := ob7_e hf
  refine kV_i (wn := [oX3 t_q t_plan_q t_state_q t_length t_fault_6 t_faultPlace_7 t_lines t_tape_q t_place_9 t_kind_8 t_start_10 t_value_11 t_told_3, oX6 t_state_q t_plan_q t_state_secondEnds_q t_state_string_q t_state_barred t_state_period t_state_his t_state_beast t_state_habit t_state_onString t_state_step t_state_eaten, aB g t_tape_q 320 t_tape]) (As := [.int (0 : Int32), .int (6 : Int32)]) (rest := [.ref t_state_q]) (c_X3_nextWithin l g _ t_q t_plan_q t_state_q t_tape_q t_length t_fault_1 t_faultPlace_2 t_lines t_place t_kind t_start t_value t_told_3 t_tape (0 : Int32) (6 : Int32) r_5 t_fault_6 t_faultPlace_7 t_kind_8 t_place_9 t_start_10 t_value_11 hc_12) ⟨hx, hb, hml, hown, hts⟩ (cwV 2 hts gX3_readBeast_X3_nextWithin rfl rfl rfl (by decide +kernel) ⟨by decide, by decide⟩) hK hz hk hP (hD.re rfl) hS hA [0, 2] rfl rfl rfl rfl rfl rfl rfl hl.1 rfl (Nat.le_of_ble_eq_true rfl) dX3_readBeast_14 (fun H locs hP hS => ?_)
  refine va_put (D := g.1) (ci := 6) (v := .int r_5) (ty := .int) (C := RX6) (T := TX6) (N := 11) hx hb hts inX6 tyX6 tyX6_ok nmX6 hown hK hP (hD.re rfl) hS 1 rfl rfl 6 (by decide) k167 (fun _ h9 => h9) rfl (by decide +kernel) rfl rfl (Nat.le_of_ble_eq_true rfl) dX3_readBeast_17 (fun H locs hP _ hS => ?_)
  have hP : va_P g.1 vwCl [oX3 t_q t_plan_q t_state_q t_length t_fault_6 t_faultPlace_7 t_lines t_tape_q t_place_9 t_kind_8 t_start_10 t_value_11 t_told_3, oX6 t_state_q t_plan_q t_state_secondEnds_q t_state_string_q t_state_barred t_state_period t_state_his r_5 t_state_habit t_state_onString t_state_step t_state_eaten, aB g t_tape_q 320 t_tape] H := hP
  refine lv_aload_n hx hb dX3_readBeast_20 rfl (lv_at hl 0 rfl) ?_
  obtain ⟨t_fault_13, t_faultPlace_14, t_kind_15, t_place_16, t_start_17, t_value_18, hc_19, hf⟩ := ob6_e hf
  refine kV_v (wn := [oX3 t_q t_plan_q t_state_q t_length t_fault_13 t_faultPlace_14 t_lines t_tape_q t_place_16 t_kind_15 t_start_17 t_value_18 t_told_3, oX6 t_state_q t_plan_q t_state_secondEnds_q t_state_string_q t_state_barred t_state_period t_state_his r_5 t_state_habit t_state_onString t_state_step t_state_eaten, aB g t_tape_q 320 t_tape]) (As := []) (rest := []) (c_X3_nextToken l g _ t_q t_plan_q t_state_q t_tape_q t_length t_fault_6 t_faultPlace_7 t_lines t_place_9 t_kind_8 t_start_10 t_value_11 t_told_3 t_tape t_fault_13 t_faultPlace_14 t_kind_15 t_place_16 t_start_17 t_value_18 hc_19) ⟨hx, hb, hml, hown, hts⟩ (cwV 0 hts gX3_readBeast_X3_nextToken rfl rfl rfl (by decide +kernel) ⟨by decide, by decide⟩) hK hz hk hP (hD.re rfl) hS hA [0, 2] rfl rfl rfl rfl rfl rfl rfl hl.1 rfl (Nat.le_of_ble_eq_true rfl) dX3_readBeast_21 (fun H locs hP hS => ?_)
  refine lv_aload_n hx hb dX3_readBeast_24 rfl (lv_at hl 0 rfl) ?_
  have hz25 : vk_R RX3 169 "sleeps" (g.2.2.1 10) s := hk.1 10 (by decide)
  refine va_ldcS hx hb hown hz25 dX3_readBeast_25 ?_
  obtain ⟨r_20, hc_21, hf⟩ := ob1_e hf
  refine kV_i (wn := [oX3 t_q t_plan_q t_state_q t_length t_fault_13 t_faultPlace_14 t_lines t_tape_q t_place_16 t_kind_15 t_start_17 t_value_18 t_told_3, oX6 t_state_q t_plan_q t_state_secondEnds_q t_state_string_q t_state_barred t_state_period t_state_his r_5 t_state_habit t_state_onString t_state_step t_state_eaten, aB g t_tape_q 320 t_tape]) (As := [.ref (g.2.2.1 10)]) (rest := []) (c_X3_isWord l g _ t_q t_plan_q t_state_q t_tape_q t_length t_fault_13 t_faultPlace_14 t_lines t_place_16 t_kind_15 t_start_17 t_value_18 t_told_3 t_tape 10 r_20 (by decide) hc_21) ⟨hx, hb, hml, hown, hts⟩ (cwV 1 hts gX3_readBeast_X3_isWord rfl rfl rfl (by decide +kernel) ⟨by decide, by decide⟩) hK hz hk hP (hD.re rfl) hS hA [0, 2] rfl rfl rfl rfl rfl rfl rfl hl.1 rfl (Nat.le_of_ble_eq_true rfl) dX3_readBeast_27 (fun H locs hP hS => ?_)
  refine lv_if_eq (tgt := 44) hx hb dX3_readBeast_30 (by decide) (fun c_22 => ?_) (fun c_22 => ?_)
  · have hf := ite_t hf c_22
    refine lv_aload_n hx hb dX3_readBeast_44 rfl (lv_at hl 0 rfl) ?_
    have hz45 : vk_R RX3 174 "left" (g.2.2.1 11) s := hk.1 11 (by decide)
    refine va_ldcS hx hb hown hz45 dX3_readBeast_45 ?_
    obtain ⟨r_23, hc_24, hf⟩ := ob1_e hf
    refine kV_i (wn := [oX3 t_q t_plan_q t_state_q t_length t_fault_13 t_faultPlace_14 t_lines t_tape_q t_place_16 t_kind_15 t_start_17 t_value_18 t_told_3, oX6 t_state_q t_plan_q t_state_secondEnds_q t_state_string_q t_state_barred t_state_period t_state_his r_5 t_state_habit t_state_onString t_state_step t_state_eaten, aB g t_tape_q 320 t_tape]) (As := [.ref (g.2.2.1 11)]) (rest := []) (c_X3_isWord l g _ t_q t_plan_q t_state_q t_tape_q t_length t_fault_13 t_faultPlace_14 t_lines t_place_16 t_kind_15 t_start_17 t_value_18 t_told_3 t_tape 11 r_23 (by decide) hc_24) ⟨hx, hb, hml, hown, hts⟩ (cwV 1 hts gX3_readBeast_X3_isWord rfl rfl rfl (by decide +kernel) ⟨by decide, by decide⟩) hK hz hk hP (hD.re rfl) hS hA [0, 2] rfl rfl rfl rfl rfl rfl rfl hl.1 rfl (Nat.le_of_ble_eq_true rfl) dX3_readBeast_47 (fun H locs hP hS => ?_)
    refine lv_if_eq (tgt := 64) hx hb dX3_readBeast_50 (by decide) (fun c_25 => ?_) (fun c_25 => ?_)
    · have hf := ite_t hf c_25
      refine lv_aload_n hx hb dX3_readBeast_64 rfl (lv_at hl 0 rfl) ?_
      have hz65 : vk_R RX3 176 "hungry" (g.2.2.1 12) s := hk.1 12 (by decide)
      refine va_ldcS hx hb hown hz65 dX3_readBeast_65 ?_
      obtain ⟨r_26, hc_27, hf⟩ := ob1_e hf
      refine kV_i (wn := [oX3 t_q t_plan_q t_state_q t_length t_fault_13 t_faultPlace_14 t_lines t_tape_q t_place_16 t_kind_15 t_start_17 t_value_18 t_told_3, oX6 t_state_q t_plan_q t_state_secondEnds_q t_state_string_q t_state_barred t_state_period t_state_his r_5 t_state_habit t_state_onString t_state_step t_state_eaten, aB g t_tape_q 320 t_tape]) (As := [.ref (g.2.2.1 12)]) (rest := []) (c_X3_isWord l g _ t_q t_plan_q t_state_q t_tape_q t_length t_fault_13 t_faultPlace_14 t_lines t_place_16 t_kind_15 t_start_17 t_value_18 t_told_3 t_tape 12 r_26 (by decide) hc_27) ⟨hx, hb, hml, hown, hts⟩ (cwV 1 hts gX3_readBeast_X3_isWord rfl rfl rfl (by decide +kernel) ⟨by decide, by decide⟩) hK hz hk hP (hD.re rfl) hS hA [0, 2] rfl rfl rfl rfl rfl rfl rfl hl.1 rfl (Nat.le_of_ble_eq_true rfl) dX3_readBeast_67 (fun H locs hP hS => ?_)
      refine lv_if_eq (tgt := 84) hx hb dX3_readBeast_70 (by decide) (fun c_28 => ?_) (fun c_28 => ?_)
      · have hf := ite_t hf c_28
        refine lv_aload_n hx hb dX3_readBeast_84 rfl (lv_at hl 0 rfl) ?_
        have hz85 : vk_R RX3 178 "turns" (g.2.2.1 13) s := hk.1 13 (by decide)
        refine va_ldcS hx hb hown hz85 dX3_readBeast_85 ?_
        obtain ⟨r_29, hc_30, hf⟩ := ob1_e hf
        refine kV_i (wn := [oX3 t_q t_plan_q t_state_q t_length t_fault_13 t_faultPlace_14 t_lines t_tape_q t_place_16 t_kind_15 t_start_17 t_value_18 t_told_3, oX6 t_state_q t_plan_q t_state_secondEnds_q t_state_string_q t_state_barred t_state_period t_state_his r_5 t_state_habit t_state_onString t_state_step t_state_eaten, aB g t_tape_q 320 t_tape]) (As := [.ref (g.2.2.1 13)]) (rest := []) (c_X3_isWord l g _ t_q t_plan_q t_state_q t_tape_q t_length t_fault_13 t_faultPlace_14 t_lines t_place_16 t_kind_15 t_start_17 t_value_18 t_told_3 t_tape 13 r_29 (by decide) hc_30) ⟨hx, hb, hml, hown, hts⟩ (cwV 1 hts gX3_readBeast_X3_isWord rfl rfl rfl (by decide +kernel) ⟨by decide, by decide⟩) hK hz hk hP (hD.re rfl) hS hA [0, 2] rfl rfl rfl rfl rfl rfl rfl hl.1 rfl (Nat.le_of_ble_eq_true rfl) dX3_readBeast_87 (fun H locs hP hS => ?_)
        refine lv_if_eq (tgt := 104) hx hb dX3_readBeast_90 (by decide) (fun c_31 => ?_) (fun c_31 => ?_)
        · have hf := ite_t hf c_31
          refine lv_aload_n hx hb dX3_readBeast_104 rfl (lv_at hl 0 rfl) ?_
          refine lv_iconst (v := (2 : Int32)) hx hb dX3_readBeast_105 (by decide) ?_
          refine lv_aload_n hx hb dX3_readBeast_106 rfl (lv_at hl 0 rfl) ?_
          refine va_get (D := g.1) (ci := 3) (v := .int t_start_17) (C := RX3) (T := TX3) (N := 12) hx hb hts inX3 hown hK hP 0 rfl rfl 9 (by decide) k66 (fun _ h9 => h9) rfl dX3_readBeast_107 ?_
          obtain ⟨t_fault_32, t_faultPlace_33, hc_34, hf⟩ := ob2_e hf
          refine kV_v (wn := [oX3 t_q t_plan_q t_state_q t_length t_fault_32 t_faultPlace_33 t_lines t_tape_q t_place_16 t_kind_15 t_start_17 t_value_18 t_told_3, oX6 t_state_q t_plan_q t_state_secondEnds_q t_state_string_q t_state_barred t_state_period t_state_his r_5 t_state_habit t_state_onString t_state_step t_state_eaten, aB g t_tape_q 320 t_tape]) (As := [.int (2 : Int32), .int t_start_17]) (rest := []) (c_X3_fail l g _ t_q t_plan_q t_state_q t_tape_q t_length t_fault_13 t_faultPlace_14 t_lines t_place_16 t_kind_15 t_start_17 t_value_18 t_told_3 (2 : Int32) t_start_17 t_fault_32 t_faultPlace_33 hc_34) ⟨hx, hb, hml, hown, hts⟩ (cwV 2 hts gX3_readBeast_X3_fail rfl rfl rfl (by decide +kernel) ⟨by decide, by decide⟩) hK hz hk hP (hD.re rfl) hS hA [0] rfl rfl rfl rfl rfl rfl rfl hl.1 rfl (Nat.le_of_ble_eq_true rfl) dX3_readBeast_110 (fun H locs hP hS => ?_)
          exact hret t_fault_32 t_faultPlace_33 t_kind_15 t_place_16 t_start_17 t_told_3 t_value_18 r_5 t_state_habit (Option.some.inj hf) _ _ _ _ hP hS dX3_readBeast_113
        · have hf := ite_f hf c_31
          refine lv_aload_n hx hb dX3_readBeast_93 rfl (lv_at hl 0 rfl) ?_
          refine va_get (D := g.1) (ci := 3) (v := .ref t_state_q) (C := RX3) (T := TX3) (N := 12) hx hb hts inX3 hown hK hP 0 rfl rfl 1 (by decide) k23 (fun _ h9 => h9) rfl dX3_readBeast_94 ?_
          refine lv_iconst (v := (3 : Int32)) hx hb dX3_readBeast_97 (by decide) ?_
          refine va_put (D := g.1) (ci := 6) (v := .int (3 : Int32)) (ty := .int) (C := RX6) (T := TX6) (N := 11) hx hb hts inX6 tyX6 tyX6_ok nmX6 hown hK hP (hD.re rfl) hS 1 rfl rfl 7 (by decide) k171 (fun _ h9 => h9) rfl (by decide +kernel) rfl rfl (Nat.le_of_ble_eq_true rfl) dX3_readBeast_98 (fun H locs hP _ hS => ?_)
          have hP : va_P g.1 vwCl [oX3 t_q t_plan_q t_state_q t_length t_fault_13 t_faultPlace_14 t_lines t_tape_q t_place_16 t_kind_15 t_start_17 t_value_18 t_told_3, oX6 t_state_q t_plan_q t_state_secondEnds_q t_state_string_q t_state_barred t_state_period t_state_his r_5 (3 : Int32) t_state_onString t_state_step t_state_eaten, aB g t_tape_q 320 t_tape] H := hP
          refine lv_goto (tgt := 113) hx hb dX3_readBeast_101 (by decide) ?_
          exact hret t_fault_13 t_faultPlace_14 t_kind_15 t_place_16 t_start_17 t_told_3 t_value_18 r_5 (3 : Int32) (Option.some.inj hf) _ _ _ _ hP hS dX3_readBeast_113
      · have hf := ite_f hf c_28
        refine lv_aload_n hx hb dX3_readBeast_73 rfl (lv_at hl 0 rfl) ?_
        refine va_get (D := g.1) (ci := 3) (v := .ref t_state_q) (C := RX3) (T := TX3) (N := 12) hx hb hts inX3 hown hK hP 0 rfl rfl 1 (by decide) k23 (fun _ h9 => h9) rfl dX3_readBeast_74 ?_
        refine lv_iconst (v := (2 : Int32)) hx hb dX3_readBeast_77 (by decide) ?_
        refine va_put (D := g.1) (ci := 6) (v := .int (2 : Int32)) (ty := .int) (C := RX6) (T := TX6) (N := 11) hx hb hts inX6 tyX6 tyX6_ok nmX6 hown hK hP (hD.re rfl) hS 1 rfl rfl 7 (by decide) k171 (fun _ h9 => h9) rfl (by decide +kernel) rfl rfl (Nat.le_of_ble_eq_true rfl) dX3_readBeast_78 (fun H locs hP _ hS => ?_)
        have hP : va_P g.1 vwCl [oX3 t_q t_plan_q t_state_q t_length t_fault_13 t_faultPlace_14 t_lines t_tape_q t_place_16 t_kind_15 t_start_17 t_value_18 t_told_3, oX6 t_state_q t_plan_q t_state_secondEnds_q t_state_string_q t_state_barred t_state_period t_state_his r_5 (2 : Int32) t_state_onString t_state_step t_state_eaten, aB g t_tape_q 320 t_tape] H := hP
        refine lv_goto (tgt := 113) hx hb dX3_readBeast_81 (by decide) ?_
        exact hret t_fault_13 t_faultPlace_14 t_kind_15 t_place_16 t_start_17 t_told_3 t_value_18 r_5 (2 : Int32) (Option.some.inj hf) _ _ _ _ hP hS dX3_readBeast_113
    · have hf := ite_f hf c_25
      refine lv_aload_n hx hb dX3_readBeast_53 rfl (lv_at hl 0 rfl) ?_
      refine va_get (D := g.1) (ci := 3) (v := .ref t_state_q) (C := RX3) (T := TX3) (N := 12) hx hb hts inX3 hown hK hP 0 rfl rfl 1 (by decide) k23 (fun _ h9 => h9) rfl dX3_readBeast_54 ?_
      refine lv_iconst (v := (1 : Int32)) hx hb dX3_readBeast_57 (by decide) ?_
      refine va_put (D := g.1) (ci := 6) (v := .int (1 : Int32)) (ty := .int) (C := RX6) (T := TX6) (N := 11) hx hb hts inX6 tyX6 tyX6_ok nmX6 hown hK hP (hD.re rfl) hS 1 rfl rfl 7 (by decide) k171 (fun _ h9 => h9) rfl (by decide +kernel) rfl rfl (Nat.le_of_ble_eq_true rfl) dX3_readBeast_58 (fun H locs hP _ hS => ?_)
      have hP : va_P g.1 vwCl [oX3 t_q t_plan_q t_state_q t_length t_fault_13 t_faultPlace_14 t_lines t_tape_q t_place_16 t_kind_15 t_start_17 t_value_18 t_told_3, oX6 t_state_q t_plan_q t_state_secondEnds_q t_state_string_q t_state_barred t_state_period t_state_his r_5 (1 : Int32) t_state_onString t_state_step t_state_eaten, aB g t_tape_q 320 t_tape] H := hP
      refine lv_goto (tgt := 113) hx hb dX3_readBeast_61 (by decide) ?_
      exact hret t_fault_13 t_faultPlace_14 t_kind_15 t_place_16 t_start_17 t_told_3 t_value_18 r_5 (1 : Int32) (Option.some.inj hf) _ _ _ _ hP hS dX3_readBeast_113
  · have hf := ite_f hf c_22
    refine lv_aload_n hx hb dX3_readBeast_33 rfl (lv_at hl 0 rfl) ?_
    refine va_get (D := g.1) (ci := 3) (v := .ref t_state_q) (C := RX3) (T := TX3) (N := 12) hx hb hts inX3 hown hK hP 0 rfl rfl 1 (by decide) k23 (fun _ h9 => h9) rfl dX3_readBeast_34 ?_
    refine lv_iconst (v := (0 : Int32)) hx hb dX3_readBeast_37 (by decide) ?_
    refine va_put (D := g.1) (ci := 6) (v := .int (0 : Int32)) (ty := .int) (C := RX6) (T := TX6) (N := 11) hx hb hts inX6 tyX6 tyX6_ok nmX6 hown hK hP (hD.re rfl) hS 1 rfl rfl 7 (by decide) k171 (fun _ h9 => h9) rfl (by decide +kernel) rfl rfl (Nat.le_of_ble_eq_true rfl) dX3_readBeast_38 (fun H locs hP _ hS => ?_)
    have hP : va_P g.1 vwCl [oX3 t_q t_plan_q t_state_q t_length t_fault_13 t_faultPlace_14 t_lines t_tape_q t_place_16 t_kind_15 t_start_17 t_value_18 t_told_3, oX6 t_state_q t_plan_q t_state_secondEnds_q t_state_string_q t_state_barred t_state_period t_state_his r_5 (0 : Int32) t_state_onString t_state_step t_state_eaten, aB g t_tape_q 320 t_tape] H := hP
    refine lv_goto (tgt := 113) hx hb dX3_readBeast_41 (by decide) ?_
    exact hret t_fault_13 t_faultPlace_14 t_kind_15 t_place_16 t_start_17 t_told_3 t_value_18 r_5 (0 : Int32) (Option.some.inj hf) _ _ _ _ hP hS dX3_readBeast_113

def f_X3_readDoor (t_length : Int32) (t_fault : Int32) (t_faultPlace : Int32) (t_place : Int32) (t_kind : Int32) (t_start : Int32) (t_value : Int32) (t_plan_doorCount : Int32) (t_plan_firstEnds : Nat → Int32) (t_state_secondEnds : Nat → Int32) (t_tape : Nat → Int32) : Option (Int32 × Int32 × Int32 × Int32 × Int32 × Int32 × Int32 × (Nat → Int32) × (Nat → Int32)) :=
 (if t_plan_doorCount < (10 : Int32) then
 (ob7 (f_X3_nextWithin t_length t_fault t_faultPlace t_place t_kind t_start t_value t_tape (0 : Int32) (6 : Int32)) (fun r_2 t_fault_3 t_faultPlace_4 t_kind_5 t_place_6 t_start_7 t_value_8 =>
 (gin t_plan_doorCount 10 (bnd (upd t_plan_firstEnds t_plan_doorCount.toNatClampNeg r_2) (fun t_plan_firstEnds_11 =>
 (ob7 (f_X3_nextWithin t_length t_fault_3 t_faultPlace_4 t_place_6 t_kind_5 t_start_7 t_value_8 t_tape (0 : Int32) (6 : Int32)) (fun r_12 t_fault_13 t_faultPlace_14 t_kind_15 t_place_16 t_start_17 t_value_18 =>
 (gin t_plan_doorCount 10 (bnd (upd t_state_secondEnds t_plan_doorCount.toNatClampNeg r_12) (fun t_state_secondEnds_21 =>
 (bnd (t_plan_doorCount + (1 : Int32)) (fun t_plan_doorCount_22 =>
 (some (t_fault_13, t_faultPlace_14, t_kind_15, t_place_16, t_start_17, t_value_18, t_plan_doorCount_22, t_plan_firstEnds_11, t_state_secondEnds_21))))))))))))))
 else (ob2 (f_X3_fail t_fault t_faultPlace (5 : Int32) t_start) (fun t_fault_23 t_faultPlace_24 =>
 (some (t_fault_23, t_faultPlace_24, t_kind, t_place, t_start, t_value, t_plan_doorCount, t_plan_firstEnds, t_state_secondEnds)))))
abbrev rmX3_readDoor : Room := { frames := 3, cells := 0, slots := 0, locals := 67 }
set_option maxHeartbeats 4000000 in
set_option maxRecDepth 100000 in
theorem c_X3_readDoor (l : Launch) (g : Gh) (sz : Nat) (t_q t_plan_q t_state_q t_tape_q t_plan_firstEnds_q t_plan_rules_q t_state_secondEnds_q t_state_string_q : Nat) (t_length : Int32) (t_fault : Int32) (t_faultPlace : Int32) (t_lines : Int32) (t_place : Int32) (t_kind : Int32) (t_start : Int32) (t_value : Int32) (t_told : Int32) (t_plan_rooms : Int32) (t_plan_doorCount : Int32) (t_plan_ruleCount : Int32) (t_plan_stringLength : Int32) (t_plan_firstEnds : Nat → Int32) (t_state_barred : Int32) (t_state_period : Int32) (t_state_his : Int32) (t_state_beast : Int32) (t_state_habit : Int32) (t_state_onString : Int32) (t_state_step : Int32) (t_state_eaten : Int32) (t_state_secondEnds : Nat → Int32) (t_tape : Nat → Int32) (t_fault' : Int32) (t_faultPlace' : Int32) (t_kind' : Int32) (t_place' : Int32) (t_start' : Int32) (t_value' : Int32) (t_plan_doorCount' : Int32) (t_plan_firstEnds' : Nat → Int32) (t_state_secondEnds' : Nat → Int32) (hf : f_X3_readDoor t_length t_fault t_faultPlace t_place t_kind t_start t_value t_plan_doorCount t_plan_firstEnds t_state_secondEnds t_tape = some (t_fault', t_faultPlace', t_kind', t_place', t_start', t_value', t_plan_doorCount', t_plan_firstEnds', t_state_secondEnds')) : CV l yX3_readDoor wsX3_readDoor rmX3_readDoor [.ref t_q] g sz [oX3 t_q t_plan_q t_state_q t_length t_fault t_faultPlace t_lines t_tape_q t_place t_kind t_start t_value t_told, oX2 t_plan_q t_plan_firstEnds_q t_plan_rules_q t_plan_rooms t_plan_doorCount t_plan_ruleCount t_plan_stringLength, aI g t_plan_firstEnds_q 10 t_plan_firstEnds, oX6 t_state_q t_plan_q t_state_secondEnds_q t_state_string_q t_state_barred t_state_period t_state_his t_state_beast t_state_habit t_state_onString t_state_step t_state_eaten, aI g t_state_secondEnds_q 10 t_state_secondEnds, aB g t_tape_q 320 t_tape] [oX3 t_q t_plan_q t_state_q t_length t_fault' t_faultPlace' t_lines t_tape_q t_place' t_kind' t_start' t_value' t_told, oX2 t_plan_q t_plan_firstEnds_q t_plan_rules_q t_plan_rooms t_plan_doorCount' t_plan_ruleCount t_plan_stringLength, aI g t_plan_firstEnds_q 10 t_plan_firstEnds', oX6 t_state_q t_plan_q t_state_secondEnds_q t_state_string_q t_state_barred t_state_period t_state_his t_state_beast t_state_habit t_state_onString t_state_step t_state_eaten, aI g t_state_secondEnds_q 10 t_state_secondEnds', aB g t_tape_q 320 t_tape] := by
  refine ent_v (cc := cX3_readDoor) (maxL := 2) (by decide) rfl (Nat.le_of_ble_eq_true rfl) ?_
  intro p e s m args below meth c A Q hx hb hml hown hts hK hz hk hA hD hP hS hret ls hl
  have hown : s.vm.findClass RX3 = some m.cls := hown
  have inX2 : ∀ w ∈ u_ws RX2 TX2 6, w ∈ wsX3_readDoor := by decide +kernel
  have inX3 : ∀ w ∈ u_ws RX3 TX3 12, w ∈ wsX3_readDoor := by decide +kernel
  have inX6 : ∀ w ∈ u_ws RX6 TX6 11, w ∈ wsX3_readDoor := by decide +kernel
  have k12 := hts (.fieldLink RX3 12 "ThreadMoved$Reader" "plan" "LThreadMoved$Plan;") (by decide +kernel)
  have k23 := hts (.fieldLink RX3 23 "ThreadMoved$Reader" "state" "LThreadMoved$State;") (by decide +kernel)
  have k66 := hts (.fieldLink RX3 66 "ThreadMoved$Reader" "start" "I") (by decide +kernel)
  have k151 := hts (.fieldLink RX3 151 "ThreadMoved$Plan" "doorCount" "I") (by decide +kernel)
  have k154 := hts (.fieldLink RX3 154 "ThreadMoved$Plan" "firstEnds" "[I") (by decide +kernel)
  have k158 := hts (.fieldLink RX3 158 "ThreadMoved$State" "secondEnds" "[I") (by decide +kernel)
  have hl : lv_has ls 2 [(0, .ref t_q)] := hl
  have hret : ∀ (t_faultz : Int32) (t_faultPlacez : Int32) (t_kindz : Int32) (t_placez : Int32) (t_startz : Int32) (t_valuez : Int32) (t_plan_doorCountz : Int32) (t_plan_firstEndsz : Nat → Int32) (t_state_secondEndsz : Nat → Int32), (t_faultz, t_faultPlacez, t_kindz, t_placez, t_startz, t_valuez, t_plan_doorCountz, t_plan_firstEndsz, t_state_secondEndsz) = (t_fault', t_faultPlace', t_kind', t_place', t_start', t_value', t_plan_doorCount', t_plan_firstEnds', t_state_secondEnds') → ∀ (H : Heap) (locs : List Loc) (pc : Nat) (ls : Array Slot), va_P g.1 vwCl [oX3 t_q t_plan_q t_state_q t_length t_faultz t_faultPlacez t_lines t_tape_q t_placez t_kindz t_startz t_valuez t_told, oX2 t_plan_q t_plan_firstEnds_q t_plan_rules_q t_plan_rooms t_plan_doorCountz t_plan_ruleCount t_plan_stringLength, aI g t_plan_firstEnds_q 10 t_plan_firstEndsz, oX6 t_state_q t_plan_q t_state_secondEnds_q t_state_string_q t_state_barred t_state_period t_state_his t_state_beast t_state_habit t_state_onString t_state_step t_state_eaten, aI g t_state_secondEnds_q 10 t_state_secondEndsz, aB g t_tape_q 320 t_tape] H → va_S A s.heap H locs → decode cX3_readDoor pc = .ok (.return_, 1) → W p l e rmX3_readDoor s m args below meth c H locs 0 0 Q (F0 m pc ls []) := by
    intro t_faultz t_faultPlacez t_kindz t_placez t_startz t_valuez t_plan_doorCountz t_plan_firstEndsz t_state_secondEndsz he H locs pc ls hP hS hd
    cases he
    exact hret H locs pc ls hP hS hd
  unfold f_X3_readDoor at hf
  refine lv_aload_n hx hb dX3_readDoor_0 rfl (lv_at hl 0 rfl) ?_
  refine va_get (D := g.1) (ci := 3) (v := .ref t_plan_q) (C := RX3) (T := TX3) (N := 12) hx hb hts inX3 hown hK hP 0 rfl rfl 0 (by decide) k12 (fun _ h9 => h9) rfl dX3_readDoor_1 ?_
  refine va_get (D := g.1) (ci := 2) (v := .int t_plan_doorCount) (C := RX2) (T := TX2) (N := 6) hx hb hts inX2 hown hK hP 1 rfl rfl 3 (by decide) k151 (fun _ h9 => h9) rfl dX3_readDoor_4 ?_
  refine lv_istore_n (lv' := [(1, .int t_plan_doorCount), (0, .ref t_q)]) hx hb dX3_readDoor_7 rfl hl (by decide) rfl (fun ls hl => ?_)
  refine lv_iload_n hx hb dX3_readDoor_8 rfl (lv_at hl 0 rfl) ?_
  refine lv_bipush (v := (10 : Int32)) hx hb dX3_readDoor_9 (by decide) ?_
  refine lv_icmp_lt (tgt := 24) hx hb dX3_readDoor_11 (by decide) (fun c_1 => ?_) (fun c_1 => ?_)
  · have hf := ite_t hf c_1
    refine lv_aload_n hx hb dX3_readDoor_24 rfl (lv_at hl 1 rfl) ?_
    refine va_get (D := g.1) (ci := 3) (v := .ref t_plan_q) (C := RX3) (T := TX3) (N := 12) hx hb hts inX3 hown hK hP 0 rfl rfl 0 (by decide) k12 (fun _ h9 => h9) rfl dX3_readDoor_25 ?_
    refine va_get (D := g.1) (ci := 2) (v := .ref t_plan_firstEnds_q) (C := RX2) (T := TX2) (N := 6) hx hb hts inX2 hown hK hP 1 rfl rfl 0 (by decide) k154 (fun _ h9 => h9) rfl dX3_readDoor_28 ?_
    refine lv_iload_n hx hb dX3_readDoor_31 rfl (lv_at hl 0 rfl) ?_
    refine lv_aload_n hx hb dX3_readDoor_32 rfl (lv_at hl 1 rfl) ?_
    refine lv_iconst (v := (0 : Int32)) hx hb dX3_readDoor_33 (by decide) ?_
    refine lv_bipush (v := (6 : Int32)) hx hb dX3_readDoor_34 (by decide) ?_
    obtain ⟨r_2, t_fault_3, t_faultPlace_4, t_kind_5, t_place_6, t_start_7, t_value_8, hc_9, hf⟩ := ob7_e hf
    refine kV_i (wn := [oX3 t_q t_plan_q t_state_q t_length t_fault_3 t_faultPlace_4 t_lines t_tape_q t_place_6 t_kind_5 t_start_7 t_value_8 t_told, oX2 t_plan_q t_plan_firstEnds_q t_plan_rules_q t_plan_rooms t_plan_doorCount t_plan_ruleCount t_plan_stringLength, aI g t_plan_firstEnds_q 10 t_plan_firstEnds, oX6 t_state_q t_plan_q t_state_secondEnds_q t_state_string_q t_state_barred t_state_period t_state_his t_state_beast t_state_habit t_state_onString t_state_step t_state_eaten, aI g t_state_secondEnds_q 10 t_state_secondEnds, aB g t_tape_q 320 t_tape]) (As := [.int (0 : Int32), .int (6 : Int32)]) (rest := [.int t_plan_doorCount, .ref t_plan_firstEnds_q]) (c_X3_nextWithin l g _ t_q t_plan_q t_state_q t_tape_q t_length t_fault t_faultPlace t_lines t_place t_kind t_start t_value t_told t_tape (0 : Int32) (6 : Int32) r_2 t_fault_3 t_faultPlace_4 t_kind_5 t_place_6 t_start_7 t_value_8 hc_9) ⟨hx, hb, hml, hown, hts⟩ (cwV 2 hts gX3_readDoor_X3_nextWithin rfl rfl rfl (by decide +kernel) ⟨by decide, by decide⟩) hK hz hk hP (hD.re rfl) hS hA [0, 5] rfl rfl rfl rfl rfl rfl rfl hl.1 rfl (Nat.le_of_ble_eq_true rfl) dX3_readDoor_36 (fun H locs hP hS => ?_)
    obtain ⟨h_10, hf⟩ := gin_e hf
    obtain ⟨t_plan_firstEnds_11, et_plan_firstEnds_11, hf⟩ := bnd_e hf
    refine va_iast hx hb hK hP (hD.re rfl) hS 2 0 rfl rfl h_10 dX3_readDoor_39 (fun H locs hP _ hS => ?_)
    have hP : va_P g.1 vwCl [oX3 t_q t_plan_q t_state_q t_length t_fault_3 t_faultPlace_4 t_lines t_tape_q t_place_6 t_kind_5 t_start_7 t_value_8 t_told, oX2 t_plan_q t_plan_firstEnds_q t_plan_rules_q t_plan_rooms t_plan_doorCount t_plan_ruleCount t_plan_stringLength, aI g t_plan_firstEnds_q 10 t_plan_firstEnds_11, oX6 t_state_q t_plan_q t_state_secondEnds_q t_state_string_q t_state_barred t_state_period t_state_his t_state_beast t_state_habit t_state_onString t_state_step t_state_eaten, aI g t_state_secondEnds_q 10 t_state_secondEnds, aB g t_tape_q 320 t_tape] H := by rw [et_plan_firstEnds_11]; exact hP
    refine lv_aload_n hx hb dX3_readDoor_40 rfl (lv_at hl 1 rfl) ?_
    refine va_get (D := g.1) (ci := 3) (v := .ref t_state_q) (C := RX3) (T := TX3) (N := 12) hx hb hts inX3 hown hK hP 0 rfl rfl 1 (by decide) k23 (fun _ h9 => h9) rfl dX3_readDoor_41 ?_
    refine va_get (D := g.1) (ci := 6) (v := .ref t_state_secondEnds_q) (C := RX6) (T := TX6) (N := 11) hx hb hts inX6 hown hK hP 3 rfl rfl 1 (by decide) k158 (fun _ h9 => h9) rfl dX3_readDoor_44 ?_
    refine lv_iload_n hx hb dX3_readDoor_47 rfl (lv_at hl 0 rfl) ?_
    refine lv_aload_n hx hb dX3_readDoor_48 rfl (lv_at hl 1 rfl) ?_
    refine lv_iconst (v := (0 : Int32)) hx hb dX3_readDoor_49 (by decide) ?_
    refine lv_bipush (v := (6 : Int32)) hx hb dX3_readDoor_50 (by decide) ?_
    obtain ⟨r_12, t_fault_13, t_faultPlace_14, t_kind_15, t_place_16, t_start_17, t_value_18, hc_19, hf⟩ := ob7_e hf
    refine kV_i (wn := [oX3 t_q t_plan_q t_state_q t_length t_fault_13 t_faultPlace_14 t_lines t_tape_q t_place_16 t_kind_15 t_start_17 t_value_18 t_told, oX2 t_plan_q t_plan_firstEnds_q t_plan_rules_q t_plan_rooms t_plan_doorCount t_plan_ruleCount t_plan_stringLength, aI g t_plan_firstEnds_q 10 t_plan_firstEnds_11, oX6 t_state_q t_plan_q t_state_secondEnds_q t_state_string_q t_state_barred t_state_period t_state_his t_state_beast t_state_habit t_state_onString t_state_step t_state_eaten, aI g t_state_secondEnds_q 10 t_state_secondEnds, aB g t_tape_q 320 t_tape]) (As := [.int (0 : Int32), .int (6 : Int32)]) (rest := [.int t_plan_doorCount, .ref t_state_secondEnds_q]) (c_X3_nextWithin l g _ t_q t_plan_q t_state_q t_tape_q t_length t_fault_3 t_faultPlace_4 t_lines t_place_6 t_kind_5 t_start_7 t_value_8 t_told t_tape (0 : Int32) (6 : Int32) r_12 t_fault_13 t_faultPlace_14 t_kind_15 t_place_16 t_start_17 t_value_18 hc_19) ⟨hx, hb, hml, hown, hts⟩ (cwV 2 hts gX3_readDoor_X3_nextWithin rfl rfl rfl (by decide +kernel) ⟨by decide, by decide⟩) hK hz hk hP (hD.re rfl) hS hA [0, 5] rfl rfl rfl rfl rfl rfl rfl hl.1 rfl (Nat.le_of_ble_eq_true rfl) dX3_readDoor_52 (fun H locs hP hS => ?_)
    obtain ⟨h_20, hf⟩ := gin_e hf
    obtain ⟨t_state_secondEnds_21, et_state_secondEnds_21, hf⟩ := bnd_e hf
    refine va_iast hx hb hK hP (hD.re rfl) hS 4 0 rfl rfl h_20 dX3_readDoor_55 (fun H locs hP _ hS => ?_)
    have hP : va_P g.1 vwCl [oX3 t_q t_plan_q t_state_q t_length t_fault_13 t_faultPlace_14 t_lines t_tape_q t_place_16 t_kind_15 t_start_17 t_value_18 t_told, oX2 t_plan_q t_plan_firstEnds_q t_plan_rules_q t_plan_rooms t_plan_doorCount t_plan_ruleCount t_plan_stringLength, aI g t_plan_firstEnds_q 10 t_plan_firstEnds_11, oX6 t_state_q t_plan_q t_state_secondEnds_q t_state_string_q t_state_barred t_state_period t_state_his t_state_beast t_state_habit t_state_onString t_state_step t_state_eaten, aI g t_state_secondEnds_q 10 t_state_secondEnds_21, aB g t_tape_q 320 t_tape] H := by rw [et_state_secondEnds_21]; exact hP
    refine lv_aload_n hx hb dX3_readDoor_56 rfl (lv_at hl 1 rfl) ?_
    refine va_get (D := g.1) (ci := 3) (v := .ref t_plan_q) (C := RX3) (T := TX3) (N := 12) hx hb hts inX3 hown hK hP 0 rfl rfl 0 (by decide) k12 (fun _ h9 => h9) rfl dX3_readDoor_57 ?_
    refine lv_dup hx hb dX3_readDoor_60 rfl ?_
    refine va_get (D := g.1) (ci := 2) (v := .int t_plan_doorCount) (C := RX2) (T := TX2) (N := 6) hx hb hts inX2 hown hK hP 1 rfl rfl 3 (by decide) k151 (fun _ h9 => h9) rfl dX3_readDoor_61 ?_
    refine lv_iconst (v := (1 : Int32)) hx hb dX3_readDoor_64 (by decide) ?_
    refine lv_iadd hx hb dX3_readDoor_65 ?_
    obtain ⟨t_plan_doorCount_22, et_plan_doorCount_22, hf⟩ := bnd_e hf
    refine tp_i et_plan_doorCount_22 ?_
    refine va_put (D := g.1) (ci := 2) (v := .int t_plan_doorCount_22) (ty := .int) (C := RX2) (T := TX2) (N := 6) hx hb hts inX2 tyX2 tyX2_ok nmX2 hown hK hP (hD.re rfl) hS 1 rfl rfl 3 (by decide) k151 (fun _ h9 => h9) rfl (by decide +kernel) rfl rfl (Nat.le_of_ble_eq_true rfl) dX3_readDoor_66 (fun H locs hP _ hS => ?_)
    have hP : va_P g.1 vwCl [oX3 t_q t_plan_q t_state_q t_length t_fault_13 t_faultPlace_14 t_lines t_tape_q t_place_16 t_kind_15 t_start_17 t_value_18 t_told, oX2 t_plan_q t_plan_firstEnds_q t_plan_rules_q t_plan_rooms t_plan_doorCount_22 t_plan_ruleCount t_plan_stringLength, aI g t_plan_firstEnds_q 10 t_plan_firstEnds_11, oX6 t_state_q t_plan_q t_state_secondEnds_q t_state_string_q t_state_barred t_state_period t_state_his t_state_beast t_state_habit t_state_onString t_state_step t_state_eaten, aI g t_state_secondEnds_q 10 t_state_secondEnds_21, aB g t_tape_q 320 t_tape] H := hP
    exact hret t_fault_13 t_faultPlace_14 t_kind_15 t_place_16 t_start_17 t_value_18 t_plan_doorCount_22 t_plan_firstEnds_11 t_state_secondEnds_21 (Option.some.inj hf) _ _ _ _ hP hS dX3_readDoor_69
  · have hf := ite_f hf c_1
    refine lv_aload_n hx hb dX3_readDoor_14 rfl (lv_at hl 1 rfl) ?_
    refine lv_iconst (v := (5 : Int32)) hx hb dX3_readDoor_15 (by decide) ?_
    refine lv_aload_n hx hb dX3_readDoor_16 rfl (lv_at hl 1 rfl) ?_
    refine va_get (D := g.1) (ci := 3) (v := .int t_start) (C := RX3) (T := TX3) (N := 12) hx hb hts inX3 hown hK hP 0 rfl rfl 9 (by decide) k66 (fun _ h9 => h9) rfl dX3_readDoor_17 ?_
    obtain ⟨t_fault_23, t_faultPlace_24, hc_25, hf⟩ := ob2_e hf
    refine kV_v (wn := [oX3 t_q t_plan_q t_state_q t_length t_fault_23 t_faultPlace_24 t_lines t_tape_q t_place t_kind t_start t_value t_told, oX2 t_plan_q t_plan_firstEnds_q t_plan_rules_q t_plan_rooms t_plan_doorCount t_plan_ruleCount t_plan_stringLength, aI g t_plan_firstEnds_q 10 t_plan_firstEnds, oX6 t_state_q t_plan_q t_state_secondEnds_q t_state_string_q t_state_barred t_state_period t_state_his t_state_beast t_state_habit t_state_onString t_state_step t_state_eaten, aI g t_state_secondEnds_q 10 t_state_secondEnds, aB g t_tape_q 320 t_tape]) (As := [.int (5 : Int32), .int t_start]) (rest := []) (c_X3_fail l g _ t_q t_plan_q t_state_q t_tape_q t_length t_fault t_faultPlace t_lines t_place t_kind t_start t_value t_told (5 : Int32) t_start t_fault_23 t_faultPlace_24 hc_25) ⟨hx, hb, hml, hown, hts⟩ (cwV 2 hts gX3_readDoor_X3_fail rfl rfl rfl (by decide +kernel) ⟨by decide, by decide⟩) hK hz hk hP (hD.re rfl) hS hA [0] rfl rfl rfl rfl rfl rfl rfl hl.1 rfl (Nat.le_of_ble_eq_true rfl) dX3_readDoor_20 (fun H locs hP hS => ?_)
    exact hret t_fault_23 t_faultPlace_24 t_kind t_place t_start t_value t_plan_doorCount t_plan_firstEnds t_state_secondEnds (Option.some.inj hf) _ _ _ _ hP hS dX3_readDoor_23
