def b_X3_nextToken_8 (t_length : Int32) (t_tape : Nat → Int32) (t_place_2 : Int32) : Option ((Int32) ⊕ (Int32)) :=
 (if t_length ≤ t_place_2 then
 (some (.inr t_place_2))
 else (gin t_place_2 320 (if (t_tape t_place_2.toNatClampNeg) = (32 : Int32) then
 (bnd (t_place_2 + (1 : Int32)) (fun t_place_7 =>
 (some (.inl t_place_7))))
 else (some (.inr t_place_2)))))
def b_X3_nextToken_127 (t_tape : Nat → Int32) (s_9 : Int32) (s_11 : Int32) (t_place_13 : Int32) (t_value_14 : Int32) : Option ((Int32 × Int32) ⊕ (Int32 × Int32)) :=
 (if s_11 ≤ t_place_13 then
 (some (.inr (t_place_13, t_value_14)))
 else (gin t_place_13 320 (ob1 (f_X3_kindOf (t_tape t_place_13.toNatClampNeg)) (fun r_18 =>
 (if r_18 = s_9 then
 (gin t_place_13 320 (bnd (((t_value_14 * (10 : Int32)) + (t_tape t_place_13.toNatClampNeg)) - (48 : Int32)) (fun t_value_22 =>
 (bnd (t_place_13 + (1 : Int32)) (fun t_place_23 =>
 (some (.inl (t_place_23, t_value_22))))))))
 else (some (.inr (t_place_13, t_value_14))))))))
def f_X3_nextToken (t_length : Int32) (t_fault : Int32) (t_faultPlace : Int32) (t_place : Int32) (t_kind : Int32) (t_start : Int32) (t_value : Int32) (t_tape : Nat → Int32) : Option (Int32 × Int32 × Int32 × Int32 × Int32 × Int32) :=
 (if t_fault = (0 : Int32) then
 (ob1 (itr (un1 (b_X3_nextToken_8 t_length t_tape)) FU t_place) (fun t_place_8 =>
 (jn1 (fun (s_9 : Int32) => (jn1 (fun (s_11 : Int32) => (ob2 (itr (un2 (b_X3_nextToken_127 t_tape s_9 s_11)) FU (t_place_8, (0 : Int32))) (fun t_place_24 t_value_25 =>
 (jn0 (ob2 (f_X3_fail t_fault t_faultPlace (1 : Int32) t_place_8) (fun t_fault_27 t_faultPlace_28 =>
 (some (t_fault_27, t_faultPlace_28, s_9, t_place_24, t_place_8, t_value_25)))) (fun j_26 =>
 (if s_9 = (4 : Int32) then
 (j_26)
 else (if s_9 = (2 : Int32) then
 (if (t_place_24 - t_place_8) ≤ (2 : Int32) then
 (some (t_fault, t_faultPlace, s_9, t_place_24, t_place_8, t_value_25))
 else (j_26))
 else (some (t_fault, t_faultPlace, s_9, t_place_24, t_place_8, t_value_25))))))))) (fun j_12 =>
 (jn0 (j_12 t_length) (fun j_33 =>
 (if s_9 = (1 : Int32) then
 (j_33)
 else (if s_9 = (2 : Int32) then
 (j_33)
 else (j_12 (if t_length < (t_place_8 + (1 : Int32)) then t_length else (t_place_8 + (1 : Int32))))))))))) (fun j_10 =>
 (if t_length ≤ t_place_8 then
 (j_10 (0 : Int32))
 else (gin t_place_8 320 (ob1 (f_X3_kindOf (t_tape t_place_8.toNatClampNeg)) (fun r_38 =>
 (j_10 r_38)))))))))
 else (some (t_fault, t_faultPlace, t_kind, t_place, t_start, t_value)))
abbrev rmX3_nextToken : Room := { frames := 1, cells := 0, slots := 0, locals := 24 }
set_option maxHeartbeats 4000000 in
set_option maxRecDepth 100000 in
theorem c_X3_nextToken (l : Launch) (g : Gh) (sz : Nat) (t_q t_plan_q t_state_q t_tape_q : Nat) (t_length : Int32) (t_fault : Int32) (t_faultPlace : Int32) (t_lines : Int32) (t_place : Int32) (t_kind : Int32) (t_start : Int32) (t_value : Int32) (t_told : Int32) (t_tape : Nat → Int32) (t_fault' : Int32) (t_faultPlace' : Int32) (t_kind' : Int32) (t_place' : Int32) (t_start' : Int32) (t_value' : Int32) (hf : f_X3_nextToken t_length t_fault t_faultPlace t_place t_kind t_start t_value t_tape = some (t_fault', t_faultPlace', t_kind', t_place', t_start', t_value')) : CV l yX3_nextToken wsX3_nextToken rmX3_nextToken [.ref t_q] g sz [oX3 t_q t_plan_q t_state_q t_length t_fault t_faultPlace t_lines t_tape_q t_place t_kind t_start t_value t_told, aB g t_tape_q 320 t_tape] [oX3 t_q t_plan_q t_state_q t_length t_fault' t_faultPlace' t_lines t_tape_q t_place' t_kind' t_start' t_value' t_told, aB g t_tape_q 320 t_tape] := by
  refine ent_v (cc := cX3_nextToken) (maxL := 2) (by decide) rfl (Nat.le_of_ble_eq_true rfl) ?_
  intro p e s m args below meth c A Q hx hb hml hown hts hK hz hk hA hD hP hS hret ls hl
  have hown : s.vm.findClass RX3 = some m.cls := hown
  have inX3 : ∀ w ∈ u_ws RX3 TX3 12, w ∈ wsX3_nextToken := by decide +kernel
  have k27 := hts (.fieldLink RX3 27 "ThreadMoved$Reader" "length" "I") (by decide +kernel)
  have k31 := hts (.fieldLink RX3 31 "ThreadMoved$Reader" "fault" "I") (by decide +kernel)
  have k34 := hts (.fieldLink RX3 34 "ThreadMoved$Reader" "tape" "[B") (by decide +kernel)
  have k42 := hts (.fieldLink RX3 42 "ThreadMoved$Reader" "place" "I") (by decide +kernel)
  have k54 := hts (.fieldLink RX3 54 "ThreadMoved$Reader" "kind" "I") (by decide +kernel)
  have k66 := hts (.fieldLink RX3 66 "ThreadMoved$Reader" "start" "I") (by decide +kernel)
  have k73 := hts (.fieldLink RX3 73 "ThreadMoved$Reader" "value" "I") (by decide +kernel)
  have hl : lv_has ls 2 [(0, .ref t_q)] := hl
  have hret : ∀ (t_faultz : Int32) (t_faultPlacez : Int32) (t_kindz : Int32) (t_placez : Int32) (t_startz : Int32) (t_valuez : Int32), (t_faultz, t_faultPlacez, t_kindz, t_placez, t_startz, t_valuez) = (t_fault', t_faultPlace', t_kind', t_place', t_start', t_value') → ∀ (H : Heap) (locs : List Loc) (pc : Nat) (ls : Array Slot), va_P g.1 vwCl [oX3 t_q t_plan_q t_state_q t_length t_faultz t_faultPlacez t_lines t_tape_q t_placez t_kindz t_startz t_valuez t_told, aB g t_tape_q 320 t_tape] H → va_S A s.heap H locs → decode cX3_nextToken pc = .ok (.return_, 1) → W p l e rmX3_nextToken s m args below meth c H locs 0 0 Q (F0 m pc ls []) := by
    intro t_faultz t_faultPlacez t_kindz t_placez t_startz t_valuez he H locs pc ls hP hS hd
    cases he
    exact hret H locs pc ls hP hS hd
  unfold f_X3_nextToken at hf
  refine lv_aload_n hx hb dX3_nextToken_0 rfl (lv_at hl 0 rfl) ?_
  refine va_get (D := g.1) (ci := 3) (v := .int t_fault) (C := RX3) (T := TX3) (N := 12) hx hb hts inX3 hown hK hP 0 rfl rfl 3 (by decide) k31 (fun _ h9 => h9) rfl dX3_nextToken_1 ?_
  refine lv_if_eq (tgt := 8) hx hb dX3_nextToken_4 (by decide) (fun c_1 => ?_) (fun c_1 => ?_)
  · have hf := ite_t hf c_1
    obtain ⟨t_place_8, ho_3, hf⟩ := ob1_e hf
    have K_3 : ∀ (t_place_8y : Int32), t_place_8 = t_place_8y → ∀ (H : Heap) (locs : List Loc) (ls : Array Slot), va_P g.1 vwCl [oX3 t_q t_plan_q t_state_q t_length t_fault t_faultPlace t_lines t_tape_q t_place_8y t_kind t_start t_value t_told, aB g t_tape_q 320 t_tape] H → va_S A s.heap H locs → lv_has ls 2 [(0, .ref t_q)] → W p l e rmX3_nextToken s m args below meth c H locs 0 0 Q (F0 m 46 ls []) := by
      intro t_place_8y ey0 H locs ls hP hS hl
      subst ey0
      refine lv_aload_n hx hb dX3_nextToken_46 rfl (lv_at hl 0 rfl) ?_
      refine lv_aload_n hx hb dX3_nextToken_47 rfl (lv_at hl 0 rfl) ?_
      refine va_get (D := g.1) (ci := 3) (v := .int t_place_8) (C := RX3) (T := TX3) (N := 12) hx hb hts inX3 hown hK hP 0 rfl rfl 7 (by decide) k42 (fun _ h9 => h9) rfl dX3_nextToken_48 ?_
      refine va_put (D := g.1) (ci := 3) (v := .int t_place_8) (ty := .int) (C := RX3) (T := TX3) (N := 12) hx hb hts inX3 tyX3 tyX3_ok nmX3 hown hK hP (hD.re rfl) hS 0 rfl rfl 9 (by decide) k66 (fun _ h9 => h9) rfl (by decide +kernel) rfl rfl (Nat.le_of_ble_eq_true rfl) dX3_nextToken_51 (fun H locs hP _ hS => ?_)
      have hP : va_P g.1 vwCl [oX3 t_q t_plan_q t_state_q t_length t_fault t_faultPlace t_lines t_tape_q t_place_8 t_kind t_place_8 t_value t_told, aB g t_tape_q 320 t_tape] H := hP
      refine lv_aload_n hx hb dX3_nextToken_54 rfl (lv_at hl 0 rfl) ?_
      refine lv_aload_n hx hb dX3_nextToken_55 rfl (lv_at hl 0 rfl) ?_
      refine va_get (D := g.1) (ci := 3) (v := .int t_place_8) (C := RX3) (T := TX3) (N := 12) hx hb hts inX3 hown hK hP 0 rfl rfl 7 (by decide) k42 (fun _ h9 => h9) rfl dX3_nextToken_56 ?_
      refine lv_aload_n hx hb dX3_nextToken_59 rfl (lv_at hl 0 rfl) ?_
      refine va_get (D := g.1) (ci := 3) (v := .int t_length) (C := RX3) (T := TX3) (N := 12) hx hb hts inX3 hown hK hP 0 rfl rfl 2 (by decide) k27 (fun _ h9 => h9) rfl dX3_nextToken_60 ?_
      obtain ⟨j_10, hj_10, hf⟩ := jn1_e hf
      have J_10 : ∀ (s_9 : Int32), j_10 s_9 = some (t_fault', t_faultPlace', t_kind', t_place', t_start', t_value') → ∀ (H : Heap) (locs : List Loc) (ls : Array Slot), va_P g.1 vwCl [oX3 t_q t_plan_q t_state_q t_length t_fault t_faultPlace t_lines t_tape_q t_place_8 t_kind t_place_8 t_value t_told, aB g t_tape_q 320 t_tape] H → va_S A s.heap H locs → lv_has ls 2 [(0, .ref t_q)] → W p l e rmX3_nextToken s m args below meth c H locs 0 0 Q (F0 m 82 ls [.int s_9, .ref t_q]) := by
        intro s_9 hf H locs ls hP hS hl
        rw [hj_10] at hf
        refine va_put (D := g.1) (ci := 3) (v := .int s_9) (ty := .int) (C := RX3) (T := TX3) (N := 12) hx hb hts inX3 tyX3 tyX3_ok nmX3 hown hK hP (hD.re rfl) hS 0 rfl rfl 8 (by decide) k54 (fun _ h9 => h9) rfl (by decide +kernel) rfl rfl (Nat.le_of_ble_eq_true rfl) dX3_nextToken_82 (fun H locs hP _ hS => ?_)
        have hP : va_P g.1 vwCl [oX3 t_q t_plan_q t_state_q t_length t_fault t_faultPlace t_lines t_tape_q t_place_8 s_9 t_place_8 t_value t_told, aB g t_tape_q 320 t_tape] H := hP
        refine lv_aload_n hx hb dX3_nextToken_85 rfl (lv_at hl 0 rfl) ?_
        refine lv_iconst (v := (0 : Int32)) hx hb dX3_nextToken_86 (by decide) ?_
        refine va_put (D := g.1) (ci := 3) (v := .int (0 : Int32)) (ty := .int) (C := RX3) (T := TX3) (N := 12) hx hb hts inX3 tyX3 tyX3_ok nmX3 hown hK hP (hD.re rfl) hS 0 rfl rfl 10 (by decide) k73 (fun _ h9 => h9) rfl (by decide +kernel) rfl rfl (Nat.le_of_ble_eq_true rfl) dX3_nextToken_87 (fun H locs hP _ hS => ?_)
        have hP : va_P g.1 vwCl [oX3 t_q t_plan_q t_state_q t_length t_fault t_faultPlace t_lines t_tape_q t_place_8 s_9 t_place_8 (0 : Int32) t_told, aB g t_tape_q 320 t_tape] H := hP
        refine lv_aload_n hx hb dX3_nextToken_90 rfl (lv_at hl 0 rfl) ?_
        refine va_get (D := g.1) (ci := 3) (v := .int s_9) (C := RX3) (T := TX3) (N := 12) hx hb hts inX3 hown hK hP 0 rfl rfl 8 (by decide) k54 (fun _ h9 => h9) rfl dX3_nextToken_91 ?_
        refine lv_iconst (v := (1 : Int32)) hx hb dX3_nextToken_94 (by decide) ?_
        obtain ⟨j_12, hj_12, hf⟩ := jn1_e hf
        have J_12 : ∀ (s_11 : Int32), j_12 s_11 = some (t_fault', t_faultPlace', t_kind', t_place', t_start', t_value') → ∀ (H : Heap) (locs : List Loc) (ls : Array Slot), va_P g.1 vwCl [oX3 t_q t_plan_q t_state_q t_length t_fault t_faultPlace t_lines t_tape_q t_place_8 s_9 t_place_8 (0 : Int32) t_told, aB g t_tape_q 320 t_tape] H → va_S A s.heap H locs → lv_has ls 2 [(0, .ref t_q)] → W p l e rmX3_nextToken s m args below meth c H locs 0 0 Q (F0 m 126 ls [.int s_11]) := by
          intro s_11 hf H locs ls hP hS hl
          rw [hj_12] at hf
          refine lv_istore_n (lv' := [(1, .int s_11), (0, .ref t_q)]) hx hb dX3_nextToken_126 rfl hl (by decide) rfl (fun ls hl => ?_)
          obtain ⟨t_place_24, t_value_25, ho_15, hf⟩ := ob2_e hf
          have K_15 : ∀ (t_place_24y : Int32) (t_value_25y : Int32), t_place_24 = t_place_24y → t_value_25 = t_value_25y → ∀ (H : Heap) (locs : List Loc) (ls : Array Slot), va_P g.1 vwCl [oX3 t_q t_plan_q t_state_q t_length t_fault t_faultPlace t_lines t_tape_q t_place_24y s_9 t_place_8 t_value_25y t_told, aB g t_tape_q 320 t_tape] H → va_S A s.heap H locs → lv_has ls 2 [(0, .ref t_q)] → W p l e rmX3_nextToken s m args below meth c H locs 0 0 Q (F0 m 191 ls []) := by
            intro t_place_24y t_value_25y ey0 ey1 H locs ls hP hS hl
            subst ey0
            subst ey1
            refine lv_aload_n hx hb dX3_nextToken_191 rfl (lv_at hl 0 rfl) ?_
            refine va_get (D := g.1) (ci := 3) (v := .int s_9) (C := RX3) (T := TX3) (N := 12) hx hb hts inX3 hown hK hP 0 rfl rfl 8 (by decide) k54 (fun _ h9 => h9) rfl dX3_nextToken_192 ?_
            refine lv_iconst (v := (4 : Int32)) hx hb dX3_nextToken_195 (by decide) ?_
            obtain ⟨j_26, hj_26, hf⟩ := jn0_e hf
            have J_26 : j_26 = some (t_fault', t_faultPlace', t_kind', t_place', t_start', t_value') → ∀ (H : Heap) (locs : List Loc) (ls : Array Slot), va_P g.1 vwCl [oX3 t_q t_plan_q t_state_q t_length t_fault t_faultPlace t_lines t_tape_q t_place_24 s_9 t_place_8 t_value_25 t_told, aB g t_tape_q 320 t_tape] H → va_S A s.heap H locs → lv_has ls 2 [(0, .ref t_q)] → W p l e rmX3_nextToken s m args below meth c H locs 0 0 Q (F0 m 220 ls []) := by
              intro hf H locs ls hP hS hl
              rw [hj_26] at hf
              refine lv_aload_n hx hb dX3_nextToken_220 rfl (lv_at hl 0 rfl) ?_
              refine lv_iconst (v := (1 : Int32)) hx hb dX3_nextToken_221 (by decide) ?_
              refine lv_aload_n hx hb dX3_nextToken_222 rfl (lv_at hl 0 rfl) ?_
              refine va_get (D := g.1) (ci := 3) (v := .int t_place_8) (C := RX3) (T := TX3) (N := 12) hx hb hts inX3 hown hK hP 0 rfl rfl 9 (by decide) k66 (fun _ h9 => h9) rfl dX3_nextToken_223 ?_
              obtain ⟨t_fault_27, t_faultPlace_28, hc_29, hf⟩ := ob2_e hf
              refine kV_v (wn := [oX3 t_q t_plan_q t_state_q t_length t_fault_27 t_faultPlace_28 t_lines t_tape_q t_place_24 s_9 t_place_8 t_value_25 t_told, aB g t_tape_q 320 t_tape]) (As := [.int (1 : Int32), .int t_place_8]) (rest := []) (c_X3_fail l g _ t_q t_plan_q t_state_q t_tape_q t_length t_fault t_faultPlace t_lines t_place_24 s_9 t_place_8 t_value_25 t_told (1 : Int32) t_place_8 t_fault_27 t_faultPlace_28 hc_29) ⟨hx, hb, hml, hown, hts⟩ (cwV 2 hts gX3_nextToken_X3_fail rfl rfl rfl (by decide +kernel) ⟨by decide, by decide⟩) hK hz hk hP (hD.re rfl) hS hA [0] rfl rfl rfl rfl rfl rfl rfl hl.1 rfl (Nat.le_of_ble_eq_true rfl) dX3_nextToken_226 (fun H locs hP hS => ?_)
              exact hret t_fault_27 t_faultPlace_28 s_9 t_place_24 t_place_8 t_value_25 (Option.some.inj hf) _ _ _ _ hP hS dX3_nextToken_229
            refine lv_icmp_eq (tgt := 220) hx hb dX3_nextToken_196 (by decide) (fun c_30 => ?_) (fun c_30 => ?_)
            · have hf := ite_t hf c_30
              exact J_26 hf _ _ _ hP hS (lv_sub hl [0] rfl)
            · have hf := ite_f hf c_30
              refine lv_aload_n hx hb dX3_nextToken_199 rfl (lv_at hl 0 rfl) ?_
              refine va_get (D := g.1) (ci := 3) (v := .int s_9) (C := RX3) (T := TX3) (N := 12) hx hb hts inX3 hown hK hP 0 rfl rfl 8 (by decide) k54 (fun _ h9 => h9) rfl dX3_nextToken_200 ?_
              refine lv_iconst (v := (2 : Int32)) hx hb dX3_nextToken_203 (by decide) ?_
              refine lv_icmp_ne (tgt := 229) hx hb dX3_nextToken_204 (by decide) (fun c_31 => ?_) (fun c_31 => ?_)
              · have hf := ite_f hf c_31
                exact hret t_fault t_faultPlace s_9 t_place_24 t_place_8 t_value_25 (Option.some.inj hf) _ _ _ _ hP hS dX3_nextToken_229
              · have hf := ite_t hf c_31
                refine lv_aload_n hx hb dX3_nextToken_207 rfl (lv_at hl 0 rfl) ?_
                refine va_get (D := g.1) (ci := 3) (v := .int t_place_24) (C := RX3) (T := TX3) (N := 12) hx hb hts inX3 hown hK hP 0 rfl rfl 7 (by decide) k42 (fun _ h9 => h9) rfl dX3_nextToken_208 ?_
                refine lv_aload_n hx hb dX3_nextToken_211 rfl (lv_at hl 0 rfl) ?_
                refine va_get (D := g.1) (ci := 3) (v := .int t_place_8) (C := RX3) (T := TX3) (N := 12) hx hb hts inX3 hown hK hP 0 rfl rfl 9 (by decide) k66 (fun _ h9 => h9) rfl dX3_nextToken_212 ?_
                refine lv_isub hx hb dX3_nextToken_215 ?_
                refine lv_iconst (v := (2 : Int32)) hx hb dX3_nextToken_216 (by decide) ?_
                refine lv_icmp_le (tgt := 229) hx hb dX3_nextToken_217 (by decide) (fun c_32 => ?_) (fun c_32 => ?_)
                · have hf := ite_t hf c_32
                  exact hret t_fault t_faultPlace s_9 t_place_24 t_place_8 t_value_25 (Option.some.inj hf) _ _ _ _ hP hS dX3_nextToken_229
                · have hf := ite_f hf c_32
                  exact J_26 hf _ _ _ hP hS (lv_sub hl [0] rfl)
          have L_15 : ∀ (n : Nat) (t_place_13 : Int32) (t_value_14 : Int32), itr (un2 (b_X3_nextToken_127 t_tape s_9 s_11)) n (t_place_13, t_value_14) = some (t_place_24, t_value_25) → ∀ (H : Heap) (locs : List Loc) (ls : Array Slot), va_P g.1 vwCl [oX3 t_q t_plan_q t_state_q t_length t_fault t_faultPlace t_lines t_tape_q t_place_13 s_9 t_place_8 t_value_14 t_told, aB g t_tape_q 320 t_tape] H → va_S A s.heap H locs → lv_has ls 2 [(0, .ref t_q), (1, .int s_11)] → W p l e rmX3_nextToken s m args below meth c H locs 0 0 Q (F0 m 127 ls []) := by
            refine itr_ind2 ?_
            intro t_place_13 t_value_14 z_15 hf hrec hex H locs ls hP hS hl
            unfold b_X3_nextToken_127 at hf
            refine lv_aload_n hx hb dX3_nextToken_127 rfl (lv_at hl 0 rfl) ?_
            refine va_get (D := g.1) (ci := 3) (v := .int t_place_13) (C := RX3) (T := TX3) (N := 12) hx hb hts inX3 hown hK hP 0 rfl rfl 7 (by decide) k42 (fun _ h9 => h9) rfl dX3_nextToken_128 ?_
            refine lv_iload_n hx hb dX3_nextToken_131 rfl (lv_at hl 1 rfl) ?_
            refine lv_icmp_ge (tgt := 191) hx hb dX3_nextToken_132 (by decide) (fun c_16 => ?_) (fun c_16 => ?_)
            · have hf := ite_t hf c_16
              exact K_15 t_place_13 t_value_14 (congrArg (fun t => t.1) (hex _ (Option.some.inj hf).symm).symm) (congrArg (fun t => t.2) (hex _ (Option.some.inj hf).symm).symm) _ _ _ hP hS (lv_sub hl [0] rfl)
            · have hf := ite_f hf c_16
              refine lv_aload_n hx hb dX3_nextToken_135 rfl (lv_at hl 0 rfl) ?_
              refine va_get (D := g.1) (ci := 3) (v := .ref t_tape_q) (C := RX3) (T := TX3) (N := 12) hx hb hts inX3 hown hK hP 0 rfl rfl 6 (by decide) k34 (fun _ h9 => h9) rfl dX3_nextToken_136 ?_
              refine lv_aload_n hx hb dX3_nextToken_139 rfl (lv_at hl 0 rfl) ?_
              refine va_get (D := g.1) (ci := 3) (v := .int t_place_13) (C := RX3) (T := TX3) (N := 12) hx hb hts inX3 hown hK hP 0 rfl rfl 7 (by decide) k42 (fun _ h9 => h9) rfl dX3_nextToken_140 ?_
              obtain ⟨h_17, hf⟩ := gin_e hf
              refine va_bald hx hb hK hP 1 1 rfl rfl h_17 dX3_nextToken_143 ?_
              obtain ⟨r_18, hc_19, hf⟩ := ob1_e hf
              refine kS_i (wn := [oX3 t_q t_plan_q t_state_q t_length t_fault t_faultPlace t_lines t_tape_q t_place_13 s_9 t_place_8 t_value_14 t_told, aB g t_tape_q 320 t_tape]) (As := [.int (t_tape t_place_13.toNatClampNeg)]) (rest := []) (c_X3_kindOf l g _ (t_tape t_place_13.toNatClampNeg) r_18 hc_19) ⟨hx, hb, hml, hown, hts⟩ (va_cwS 1 hts gX3_nextToken_X3_kindOf rfl rfl rfl (by decide +kernel) ⟨by decide, by decide⟩) hK hz hk hP (hD.re rfl) hS hA [] rfl rfl rfl rfl rfl hl.1 rfl (Nat.le_of_ble_eq_true rfl) dX3_nextToken_144 (fun H locs hP hS => ?_)
              refine lv_aload_n hx hb dX3_nextToken_147 rfl (lv_at hl 0 rfl) ?_
              refine va_get (D := g.1) (ci := 3) (v := .int s_9) (C := RX3) (T := TX3) (N := 12) hx hb hts inX3 hown hK hP 0 rfl rfl 8 (by decide) k54 (fun _ h9 => h9) rfl dX3_nextToken_148 ?_
              refine lv_icmp_ne (tgt := 191) hx hb dX3_nextToken_151 (by decide) (fun c_20 => ?_) (fun c_20 => ?_)
              · have hf := ite_f hf c_20
                exact K_15 t_place_13 t_value_14 (congrArg (fun t => t.1) (hex _ (Option.some.inj hf).symm).symm) (congrArg (fun t => t.2) (hex _ (Option.some.inj hf).symm).symm) _ _ _ hP hS (lv_sub hl [0] rfl)
              · have hf := ite_t hf c_20
                refine lv_aload_n hx hb dX3_nextToken_154 rfl (lv_at hl 0 rfl) ?_
                refine lv_aload_n hx hb dX3_nextToken_155 rfl (lv_at hl 0 rfl) ?_
                refine va_get (D := g.1) (ci := 3) (v := .int t_value_14) (C := RX3) (T := TX3) (N := 12) hx hb hts inX3 hown hK hP 0 rfl rfl 10 (by decide) k73 (fun _ h9 => h9) rfl dX3_nextToken_156 ?_
                refine lv_bipush (v := (10 : Int32)) hx hb dX3_nextToken_159 (by decide) ?_
                refine lv_imul hx hb dX3_nextToken_161 ?_
                refine lv_aload_n hx hb dX3_nextToken_162 rfl (lv_at hl 0 rfl) ?_
                refine va_get (D := g.1) (ci := 3) (v := .ref t_tape_q) (C := RX3) (T := TX3) (N := 12) hx hb hts inX3 hown hK hP 0 rfl rfl 6 (by decide) k34 (fun _ h9 => h9) rfl dX3_nextToken_163 ?_
                refine lv_aload_n hx hb dX3_nextToken_166 rfl (lv_at hl 0 rfl) ?_
                refine va_get (D := g.1) (ci := 3) (v := .int t_place_13) (C := RX3) (T := TX3) (N := 12) hx hb hts inX3 hown hK hP 0 rfl rfl 7 (by decide) k42 (fun _ h9 => h9) rfl dX3_nextToken_167 ?_
                obtain ⟨h_21, hf⟩ := gin_e hf
                refine va_bald hx hb hK hP 1 1 rfl rfl h_21 dX3_nextToken_170 ?_
                refine lv_iadd hx hb dX3_nextToken_171 ?_
                refine lv_bipush (v := (48 : Int32)) hx hb dX3_nextToken_172 (by decide) ?_
                refine lv_isub hx hb dX3_nextToken_174 ?_
                obtain ⟨t_value_22, et_value_22, hf⟩ := bnd_e hf
                refine tp_i et_value_22 ?_
                refine va_put (D := g.1) (ci := 3) (v := .int t_value_22) (ty := .int) (C := RX3) (T := TX3) (N := 12) hx hb hts inX3 tyX3 tyX3_ok nmX3 hown hK hP (hD.re rfl) hS 0 rfl rfl 10 (by decide) k73 (fun _ h9 => h9) rfl (by decide +kernel) rfl rfl (Nat.le_of_ble_eq_true rfl) dX3_nextToken_175 (fun H locs hP _ hS => ?_)
                have hP : va_P g.1 vwCl [oX3 t_q t_plan_q t_state_q t_length t_fault t_faultPlace t_lines t_tape_q t_place_13 s_9 t_place_8 t_value_22 t_told, aB g t_tape_q 320 t_tape] H := hP
                refine lv_aload_n hx hb dX3_nextToken_178 rfl (lv_at hl 0 rfl) ?_
                refine lv_dup hx hb dX3_nextToken_179 rfl ?_
                refine va_get (D := g.1) (ci := 3) (v := .int t_place_13) (C := RX3) (T := TX3) (N := 12) hx hb hts inX3 hown hK hP 0 rfl rfl 7 (by decide) k42 (fun _ h9 => h9) rfl dX3_nextToken_180 ?_
                refine lv_iconst (v := (1 : Int32)) hx hb dX3_nextToken_183 (by decide) ?_
                refine lv_iadd hx hb dX3_nextToken_184 ?_
                obtain ⟨t_place_23, et_place_23, hf⟩ := bnd_e hf
                refine tp_i et_place_23 ?_
                refine va_put (D := g.1) (ci := 3) (v := .int t_place_23) (ty := .int) (C := RX3) (T := TX3) (N := 12) hx hb hts inX3 tyX3 tyX3_ok nmX3 hown hK hP (hD.re rfl) hS 0 rfl rfl 7 (by decide) k42 (fun _ h9 => h9) rfl (by decide +kernel) rfl rfl (Nat.le_of_ble_eq_true rfl) dX3_nextToken_185 (fun H locs hP _ hS => ?_)
                have hP : va_P g.1 vwCl [oX3 t_q t_plan_q t_state_q t_length t_fault t_faultPlace t_lines t_tape_q t_place_23 s_9 t_place_8 t_value_22 t_told, aB g t_tape_q 320 t_tape] H := hP
                refine lv_goto (tgt := 127) hx hb dX3_nextToken_188 (by decide) ?_
                exact hrec t_place_23 t_value_22 (Option.some.inj hf).symm _ _ _ hP hS (lv_sub hl [0, 1] rfl)
          exact L_15 FU t_place_8 (0 : Int32) ho_15 _ _ _ hP hS (lv_sub hl [1, 0] rfl)
        obtain ⟨j_33, hj_33, hf⟩ := jn0_e hf
        have J_33 : j_33 = some (t_fault', t_faultPlace', t_kind', t_place', t_start', t_value') → ∀ (H : Heap) (locs : List Loc) (ls : Array Slot), va_P g.1 vwCl [oX3 t_q t_plan_q t_state_q t_length t_fault t_faultPlace t_lines t_tape_q t_place_8 s_9 t_place_8 (0 : Int32) t_told, aB g t_tape_q 320 t_tape] H → va_S A s.heap H locs → lv_has ls 2 [(0, .ref t_q)] → W p l e rmX3_nextToken s m args below meth c H locs 0 0 Q (F0 m 106 ls []) := by
          intro hf H locs ls hP hS hl
          rw [hj_33] at hf
          refine lv_aload_n hx hb dX3_nextToken_106 rfl (lv_at hl 0 rfl) ?_
          refine va_get (D := g.1) (ci := 3) (v := .int t_length) (C := RX3) (T := TX3) (N := 12) hx hb hts inX3 hown hK hP 0 rfl rfl 2 (by decide) k27 (fun _ h9 => h9) rfl dX3_nextToken_107 ?_
          refine lv_goto (tgt := 126) hx hb dX3_nextToken_110 (by decide) ?_
          exact J_12 t_length hf _ _ _ hP hS (lv_sub hl [0] rfl)
        refine lv_icmp_eq (tgt := 106) hx hb dX3_nextToken_95 (by decide) (fun c_34 => ?_) (fun c_34 => ?_)
        · have hf := ite_t hf c_34
          exact J_33 hf _ _ _ hP hS (lv_sub hl [0] rfl)
        · have hf := ite_f hf c_34
          refine lv_aload_n hx hb dX3_nextToken_98 rfl (lv_at hl 0 rfl) ?_
          refine va_get (D := g.1) (ci := 3) (v := .int s_9) (C := RX3) (T := TX3) (N := 12) hx hb hts inX3 hown hK hP 0 rfl rfl 8 (by decide) k54 (fun _ h9 => h9) rfl dX3_nextToken_99 ?_
          refine lv_iconst (v := (2 : Int32)) hx hb dX3_nextToken_102 (by decide) ?_
          refine lv_icmp_ne (tgt := 113) hx hb dX3_nextToken_103 (by decide) (fun c_35 => ?_) (fun c_35 => ?_)
          · have hf := ite_f hf c_35
            refine lv_aload_n hx hb dX3_nextToken_113 rfl (lv_at hl 0 rfl) ?_
            refine va_get (D := g.1) (ci := 3) (v := .int t_place_8) (C := RX3) (T := TX3) (N := 12) hx hb hts inX3 hown hK hP 0 rfl rfl 9 (by decide) k66 (fun _ h9 => h9) rfl dX3_nextToken_114 ?_
            refine lv_iconst (v := (1 : Int32)) hx hb dX3_nextToken_117 (by decide) ?_
            refine lv_iadd hx hb dX3_nextToken_118 ?_
            refine lv_aload_n hx hb dX3_nextToken_119 rfl (lv_at hl 0 rfl) ?_
            refine va_get (D := g.1) (ci := 3) (v := .int t_length) (C := RX3) (T := TX3) (N := 12) hx hb hts inX3 hown hK hP 0 rfl rfl 2 (by decide) k27 (fun _ h9 => h9) rfl dX3_nextToken_120 ?_
            refine va_mmin hx hb (hml.trans hl.1.symm) hown (hts (.methodLink RX3 76 Lib.Math.min.name) (by decide +kernel)) (hts (.static Lib.Math.min.name) (by decide +kernel)) (hts (.initialized "java/lang/Math") (by decide +kernel)) (hts (.code Lib.Math.min.name Lib.Math.min.code 2 (some .int)) (by decide +kernel)) (by decide) (by decide) (Nat.le_refl _) (Nat.le_refl _) dX3_nextToken_123 ?_
            exact J_12 (if t_length < (t_place_8 + (1 : Int32)) then t_length else (t_place_8 + (1 : Int32))) hf _ _ _ hP hS (lv_sub hl [0] rfl)
          · have hf := ite_t hf c_35
            exact J_33 hf _ _ _ hP hS (lv_sub hl [0] rfl)
      refine lv_icmp_ge (tgt := 81) hx hb dX3_nextToken_63 (by decide) (fun c_36 => ?_) (fun c_36 => ?_)
      · have hf := ite_t hf c_36
        refine lv_iconst (v := (0 : Int32)) hx hb dX3_nextToken_81 (by decide) ?_
        exact J_10 (0 : Int32) hf _ _ _ hP hS (lv_sub hl [0] rfl)
      · have hf := ite_f hf c_36
        refine lv_aload_n hx hb dX3_nextToken_66 rfl (lv_at hl 0 rfl) ?_
        refine va_get (D := g.1) (ci := 3) (v := .ref t_tape_q) (C := RX3) (T := TX3) (N := 12) hx hb hts inX3 hown hK hP 0 rfl rfl 6 (by decide) k34 (fun _ h9 => h9) rfl dX3_nextToken_67 ?_
        refine lv_aload_n hx hb dX3_nextToken_70 rfl (lv_at hl 0 rfl) ?_
        refine va_get (D := g.1) (ci := 3) (v := .int t_place_8) (C := RX3) (T := TX3) (N := 12) hx hb hts inX3 hown hK hP 0 rfl rfl 7 (by decide) k42 (fun _ h9 => h9) rfl dX3_nextToken_71 ?_
        obtain ⟨h_37, hf⟩ := gin_e hf
        refine va_bald hx hb hK hP 1 1 rfl rfl h_37 dX3_nextToken_74 ?_
        obtain ⟨r_38, hc_39, hf⟩ := ob1_e hf
        refine kS_i (wn := [oX3 t_q t_plan_q t_state_q t_length t_fault t_faultPlace t_lines t_tape_q t_place_8 t_kind t_place_8 t_value t_told, aB g t_tape_q 320 t_tape]) (As := [.int (t_tape t_place_8.toNatClampNeg)]) (rest := [.ref t_q]) (c_X3_kindOf l g _ (t_tape t_place_8.toNatClampNeg) r_38 hc_39) ⟨hx, hb, hml, hown, hts⟩ (va_cwS 1 hts gX3_nextToken_X3_kindOf rfl rfl rfl (by decide +kernel) ⟨by decide, by decide⟩) hK hz hk hP (hD.re rfl) hS hA [] rfl rfl rfl rfl rfl hl.1 rfl (Nat.le_of_ble_eq_true rfl) dX3_nextToken_75 (fun H locs hP hS => ?_)
        refine lv_goto (tgt := 82) hx hb dX3_nextToken_78 (by decide) ?_
        exact J_10 r_38 hf _ _ _ hP hS (lv_sub hl [0] rfl)
    have L_3 : ∀ (n : Nat) (t_place_2 : Int32), itr (un1 (b_X3_nextToken_8 t_length t_tape)) n t_place_2 = some t_place_8 → ∀ (H : Heap) (locs : List Loc) (ls : Array Slot), va_P g.1 vwCl [oX3 t_q t_plan_q t_state_q t_length t_fault t_faultPlace t_lines t_tape_q t_place_2 t_kind t_start t_value t_told, aB g t_tape_q 320 t_tape] H → va_S A s.heap H locs → lv_has ls 2 [(0, .ref t_q)] → W p l e rmX3_nextToken s m args below meth c H locs 0 0 Q (F0 m 8 ls []) := by
      refine itr_ind1 ?_
      intro t_place_2 z_3 hf hrec hex H locs ls hP hS hl
      unfold b_X3_nextToken_8 at hf
      refine lv_aload_n hx hb dX3_nextToken_8 rfl (lv_at hl 0 rfl) ?_
      refine va_get (D := g.1) (ci := 3) (v := .int t_place_2) (C := RX3) (T := TX3) (N := 12) hx hb hts inX3 hown hK hP 0 rfl rfl 7 (by decide) k42 (fun _ h9 => h9) rfl dX3_nextToken_9 ?_
      refine lv_aload_n hx hb dX3_nextToken_12 rfl (lv_at hl 0 rfl) ?_
      refine va_get (D := g.1) (ci := 3) (v := .int t_length) (C := RX3) (T := TX3) (N := 12) hx hb hts inX3 hown hK hP 0 rfl rfl 2 (by decide) k27 (fun _ h9 => h9) rfl dX3_nextToken_13 ?_
      refine lv_icmp_ge (tgt := 46) hx hb dX3_nextToken_16 (by decide) (fun c_4 => ?_) (fun c_4 => ?_)
      · have hf := ite_t hf c_4
        exact K_3 t_place_2 (congrArg (fun t => t) (hex _ (Option.some.inj hf).symm).symm) _ _ _ hP hS (lv_sub hl [0] rfl)
      · have hf := ite_f hf c_4
        refine lv_aload_n hx hb dX3_nextToken_19 rfl (lv_at hl 0 rfl) ?_
        refine va_get (D := g.1) (ci := 3) (v := .ref t_tape_q) (C := RX3) (T := TX3) (N := 12) hx hb hts inX3 hown hK hP 0 rfl rfl 6 (by decide) k34 (fun _ h9 => h9) rfl dX3_nextToken_20 ?_
        refine lv_aload_n hx hb dX3_nextToken_23 rfl (lv_at hl 0 rfl) ?_
        refine va_get (D := g.1) (ci := 3) (v := .int t_place_2) (C := RX3) (T := TX3) (N := 12) hx hb hts inX3 hown hK hP 0 rfl rfl 7 (by decide) k42 (fun _ h9 => h9) rfl dX3_nextToken_24 ?_
        obtain ⟨h_5, hf⟩ := gin_e hf
        refine va_bald hx hb hK hP 1 1 rfl rfl h_5 dX3_nextToken_27 ?_
        refine lv_bipush (v := (32 : Int32)) hx hb dX3_nextToken_28 (by decide) ?_
        refine lv_icmp_ne (tgt := 46) hx hb dX3_nextToken_30 (by decide) (fun c_6 => ?_) (fun c_6 => ?_)
        · have hf := ite_f hf c_6
          exact K_3 t_place_2 (congrArg (fun t => t) (hex _ (Option.some.inj hf).symm).symm) _ _ _ hP hS (lv_sub hl [0] rfl)
        · have hf := ite_t hf c_6
          refine lv_aload_n hx hb dX3_nextToken_33 rfl (lv_at hl 0 rfl) ?_
          refine lv_dup hx hb dX3_nextToken_34 rfl ?_
          refine va_get (D := g.1) (ci := 3) (v := .int t_place_2) (C := RX3) (T := TX3) (N := 12) hx hb hts inX3 hown hK hP 0 rfl rfl 7 (by decide) k42 (fun _ h9 => h9) rfl dX3_nextToken_35 ?_
          refine lv_iconst (v := (1 : Int32)) hx hb dX3_nextToken_38 (by decide) ?_
          refine lv_iadd hx hb dX3_nextToken_39 ?_
          obtain ⟨t_place_7, et_place_7, hf⟩ := bnd_e hf
          refine tp_i et_place_7 ?_
          refine va_put (D := g.1) (ci := 3) (v := .int t_place_7) (ty := .int) (C := RX3) (T := TX3) (N := 12) hx hb hts inX3 tyX3 tyX3_ok nmX3 hown hK hP (hD.re rfl) hS 0 rfl rfl 7 (by decide) k42 (fun _ h9 => h9) rfl (by decide +kernel) rfl rfl (Nat.le_of_ble_eq_true rfl) dX3_nextToken_40 (fun H locs hP _ hS => ?_)
          have hP : va_P g.1 vwCl [oX3 t_q t_plan_q t_state_q t_length t_fault t_faultPlace t_lines t_tape_q t_place_7 t_kind t_start t_value t_told, aB g t_tape_q 320 t_tape] H := hP
          refine lv_goto (tgt := 8) hx hb dX3_nextToken_43 (by decide) ?_
          exact hrec t_place_7 (Option.some.inj hf).symm _ _ _ hP hS (lv_sub hl [0] rfl)
    exact L_3 FU t_place ho_3 _ _ _ hP hS (lv_sub hl [0] rfl)
  · have hf := ite_f hf c_1
    exact hret t_fault t_faultPlace t_kind t_place t_start t_value (Option.some.inj hf) _ _ _ _ hP hS dX3_nextToken_7

def b_X3_isWord_35 (t_start : Int32) (t_tape : Nat → Int32) (a1 : Nat) (v2_4 : Int32) : Option ((Int32) ⊕ ((Int32) ⊕ (Int32))) :=
 (if (nI (skL.getD a1 0)) ≤ v2_4 then
 (some (.inr (.inr v2_4)))
 else (gin (t_start + v2_4) 320 (gin v2_4 (skL.getD a1 0) (if (t_tape (t_start + v2_4).toNatClampNeg) = (skc a1 v2_4) then
 (bnd (v2_4 + (1 : Int32)) (fun v2_10 =>
 (some (.inl v2_10))))
 else (some (.inr (.inl (0 : Int32))))))))
def f_X3_isWord (t_fault : Int32) (t_place : Int32) (t_kind : Int32) (t_start : Int32) (t_tape : Nat → Int32) (a1 : Nat) : Option (Int32) :=
 (if t_fault = (0 : Int32) then
 (if t_kind = (1 : Int32) then
 (if (t_place - t_start) = (nI (skL.getD a1 0)) then
 (obm1 (itr (un1 (b_X3_isWord_35 t_start t_tape a1)) FU (0 : Int32)) (fun x2_11 =>
 (some (1 : Int32))))
 else (some (0 : Int32)))
 else (some (0 : Int32)))
 else (some (0 : Int32)))
abbrev rmX3_isWord : Room := { frames := 4, cells := 0, slots := 0, locals := 85 }
set_option maxHeartbeats 4000000 in
set_option maxRecDepth 100000 in
theorem c_X3_isWord (l : Launch) (g : Gh) (sz : Nat) (t_q t_plan_q t_state_q t_tape_q : Nat) (t_length : Int32) (t_fault : Int32) (t_faultPlace : Int32) (t_lines : Int32) (t_place : Int32) (t_kind : Int32) (t_start : Int32) (t_value : Int32) (t_told : Int32) (t_tape : Nat → Int32) (a1 : Nat) (rr : Int32) (ha1 : a1 < 14) (hf : f_X3_isWord t_fault t_place t_kind t_start t_tape a1 = some rr) : CI l yX3_isWord wsX3_isWord rmX3_isWord [.ref t_q, .ref (g.2.2.1 a1)] g sz [oX3 t_q t_plan_q t_state_q t_length t_fault t_faultPlace t_lines t_tape_q t_place t_kind t_start t_value t_told, aB g t_tape_q 320 t_tape] [oX3 t_q t_plan_q t_state_q t_length t_fault t_faultPlace t_lines t_tape_q t_place t_kind t_start t_value t_told, aB g t_tape_q 320 t_tape] rr := by
  refine ent_z (cc := cX3_isWord) (maxL := 3) (by decide) rfl (Nat.le_of_ble_eq_true rfl) ?_
  intro p e s m args below meth c A Q hx hb hml hown hts hK hz hk hA hD hP hS hret ls hl
  have hown : s.vm.findClass RX3 = some m.cls := hown
  have inX3 : ∀ w ∈ u_ws RX3 TX3 12, w ∈ wsX3_isWord := by decide +kernel
  have k31 := hts (.fieldLink RX3 31 "ThreadMoved$Reader" "fault" "I") (by decide +kernel)
  have k34 := hts (.fieldLink RX3 34 "ThreadMoved$Reader" "tape" "[B") (by decide +kernel)
  have k42 := hts (.fieldLink RX3 42 "ThreadMoved$Reader" "place" "I") (by decide +kernel)
  have k54 := hts (.fieldLink RX3 54 "ThreadMoved$Reader" "kind" "I") (by decide +kernel)
  have k66 := hts (.fieldLink RX3 66 "ThreadMoved$Reader" "start" "I") (by decide +kernel)
  have hl : lv_has ls 3 [(0, .ref t_q), (1, .ref (g.2.2.1 a1))] := hl
  have hret : ∀ (rrz : Int32), rrz = rr → narrow .boolean (.int rrz) = .int rrz → ∀ (H : Heap) (locs : List Loc) (pc : Nat) (ls : Array Slot), va_P g.1 vwCl [oX3 t_q t_plan_q t_state_q t_length t_fault t_faultPlace t_lines t_tape_q t_place t_kind t_start t_value t_told, aB g t_tape_q 320 t_tape] H → va_S A s.heap H locs → decode cX3_isWord pc = .ok (.ireturn, 1) → W p l e rmX3_isWord s m args below meth c H locs 0 0 Q (F0 m pc ls [.int rrz]) := by
    intro rrz he hzz H locs pc ls hP hS hd
    cases he
    exact hret H locs pc ls hzz hP hS hd
  unfold f_X3_isWord at hf
  refine lv_aload_n hx hb dX3_isWord_0 rfl (lv_at hl 0 rfl) ?_
  refine va_get (D := g.1) (ci := 3) (v := .int t_fault) (C := RX3) (T := TX3) (N := 12) hx hb hts inX3 hown hK hP 0 rfl rfl 3 (by decide) k31 (fun _ h9 => h9) rfl dX3_isWord_1 ?_
  refine lv_if_ne (tgt := 31) hx hb dX3_isWord_4 (by decide) (fun c_1 => ?_) (fun c_1 => ?_)
  · have hf := ite_f hf c_1
    refine lv_iconst (v := (0 : Int32)) hx hb dX3_isWord_31 (by decide) ?_
    exact hret (0 : Int32) (Option.some.inj hf) rfl _ _ _ _ hP hS dX3_isWord_32
  · have hf := ite_t hf c_1
    refine lv_aload_n hx hb dX3_isWord_7 rfl (lv_at hl 0 rfl) ?_
    refine va_get (D := g.1) (ci := 3) (v := .int t_kind) (C := RX3) (T := TX3) (N := 12) hx hb hts inX3 hown hK hP 0 rfl rfl 8 (by decide) k54 (fun _ h9 => h9) rfl dX3_isWord_8 ?_
    refine lv_iconst (v := (1 : Int32)) hx hb dX3_isWord_11 (by decide) ?_
    refine lv_icmp_ne (tgt := 31) hx hb dX3_isWord_12 (by decide) (fun c_2 => ?_) (fun c_2 => ?_)
    · have hf := ite_f hf c_2
      refine lv_iconst (v := (0 : Int32)) hx hb dX3_isWord_31 (by decide) ?_
      exact hret (0 : Int32) (Option.some.inj hf) rfl _ _ _ _ hP hS dX3_isWord_32
    · have hf := ite_t hf c_2
      refine lv_aload_n hx hb dX3_isWord_15 rfl (lv_at hl 0 rfl) ?_
      refine va_get (D := g.1) (ci := 3) (v := .int t_place) (C := RX3) (T := TX3) (N := 12) hx hb hts inX3 hown hK hP 0 rfl rfl 7 (by decide) k42 (fun _ h9 => h9) rfl dX3_isWord_16 ?_
      refine lv_aload_n hx hb dX3_isWord_19 rfl (lv_at hl 0 rfl) ?_
      refine va_get (D := g.1) (ci := 3) (v := .int t_start) (C := RX3) (T := TX3) (N := 12) hx hb hts inX3 hown hK hP 0 rfl rfl 9 (by decide) k66 (fun _ h9 => h9) rfl dX3_isWord_20 ?_
      refine lv_isub hx hb dX3_isWord_23 ?_
      refine lv_aload_n hx hb dX3_isWord_24 rfl (lv_at hl 1 rfl) ?_
      refine kVs_i (As := []) (rest := [.int (t_place - t_start)]) (c_J0_length l g _ a1 ha1) ⟨hx, hb, hml, hown, hts⟩ (cwV 0 hts gX3_isWord_J0_length_8abf5 rfl rfl rfl (by decide +kernel) ⟨by decide, by decide⟩) hK hz hk hP (hD.re rfl) hS hA ha1 rfl hl.1 rfl (Nat.le_of_ble_eq_true rfl) dX3_isWord_25 (fun H locs hP hS => ?_)
      refine lv_icmp_eq (tgt := 33) hx hb dX3_isWord_28 (by decide) (fun c_3 => ?_) (fun c_3 => ?_)
      · have hf := ite_t hf c_3
        refine lv_iconst (v := (0 : Int32)) hx hb dX3_isWord_33 (by decide) ?_
        refine lv_istore_n (lv' := [(2, .int (0 : Int32)), (0, .ref t_q), (1, .ref (g.2.2.1 a1))]) hx hb dX3_isWord_34 rfl hl (by decide) rfl (fun ls hl => ?_)
        obtain ⟨z0_5, ho_5, hkr_5, hke_5⟩ := obm1_e hf
        have K_5 : ∀ (x2_11 : Int32), z0_5 = .inr x2_11 → ∀ (H : Heap) (locs : List Loc) (ls : Array Slot), va_P g.1 vwCl [oX3 t_q t_plan_q t_state_q t_length t_fault t_faultPlace t_lines t_tape_q t_place t_kind t_start t_value t_told, aB g t_tape_q 320 t_tape] H → va_S A s.heap H locs → lv_has ls 3 [] → W p l e rmX3_isWord s m args below meth c H locs 0 0 Q (F0 m 70 ls []) := by
          intro x2_11 hz9 H locs ls hP hS hl
          have hf := hke_5 x2_11 hz9
          refine lv_iconst (v := (1 : Int32)) hx hb dX3_isWord_70 (by decide) ?_
          exact hret (1 : Int32) (Option.some.inj hf) rfl _ _ _ _ hP hS dX3_isWord_71
        have L_5 : ∀ (n : Nat) (v2_4 : Int32), itr (un1 (b_X3_isWord_35 t_start t_tape a1)) n v2_4 = some z0_5 → ∀ (H : Heap) (locs : List Loc) (ls : Array Slot), va_P g.1 vwCl [oX3 t_q t_plan_q t_state_q t_length t_fault t_faultPlace t_lines t_tape_q t_place t_kind t_start t_value t_told, aB g t_tape_q 320 t_tape] H → va_S A s.heap H locs → lv_has ls 3 [(0, .ref t_q), (1, .ref (g.2.2.1 a1)), (2, .int v2_4)] → W p l e rmX3_isWord s m args below meth c H locs 0 0 Q (F0 m 35 ls []) := by
          refine itr_ind1 ?_
          intro v2_4 z_5 hf hrec hex H locs ls hP hS hl
          unfold b_X3_isWord_35 at hf
          refine lv_iload_n hx hb dX3_isWord_35 rfl (lv_at hl 2 rfl) ?_
          refine lv_aload_n hx hb dX3_isWord_36 rfl (lv_at hl 1 rfl) ?_
          refine kVs_i (As := []) (rest := [.int v2_4]) (c_J0_length l g _ a1 ha1) ⟨hx, hb, hml, hown, hts⟩ (cwV 0 hts gX3_isWord_J0_length_8abf5 rfl rfl rfl (by decide +kernel) ⟨by decide, by decide⟩) hK hz hk hP (hD.re rfl) hS hA ha1 rfl hl.1 rfl (Nat.le_of_ble_eq_true rfl) dX3_isWord_37 (fun H locs hP hS => ?_)
          refine lv_icmp_ge (tgt := 70) hx hb dX3_isWord_40 (by decide) (fun c_6 => ?_) (fun c_6 => ?_)
          · have hf := ite_t hf c_6
            exact K_5 v2_4 (hex _ (Option.some.inj hf).symm).symm _ _ _ hP hS (lv_sub hl [] rfl)
          · have hf := ite_f hf c_6
            refine lv_aload_n hx hb dX3_isWord_43 rfl (lv_at hl 0 rfl) ?_
            refine va_get (D := g.1) (ci := 3) (v := .ref t_tape_q) (C := RX3) (T := TX3) (N := 12) hx hb hts inX3 hown hK hP 0 rfl rfl 6 (by decide) k34 (fun _ h9 => h9) rfl dX3_isWord_44 ?_
            refine lv_aload_n hx hb dX3_isWord_47 rfl (lv_at hl 0 rfl) ?_
            refine va_get (D := g.1) (ci := 3) (v := .int t_start) (C := RX3) (T := TX3) (N := 12) hx hb hts inX3 hown hK hP 0 rfl rfl 9 (by decide) k66 (fun _ h9 => h9) rfl dX3_isWord_48 ?_
            refine lv_iload_n hx hb dX3_isWord_51 rfl (lv_at hl 2 rfl) ?_
            refine lv_iadd hx hb dX3_isWord_52 ?_
            obtain ⟨h_7, hf⟩ := gin_e hf
            refine va_bald hx hb hK hP 1 1 rfl rfl h_7 dX3_isWord_53 ?_
            refine lv_aload_n hx hb dX3_isWord_54 rfl (lv_at hl 1 rfl) ?_
            refine lv_iload_n hx hb dX3_isWord_55 rfl (lv_at hl 2 rfl) ?_
            obtain ⟨h_8, hf⟩ := gin_e hf
            refine kVs_i (As := [.int v2_4]) (rest := [.int (t_tape (t_start + v2_4).toNatClampNeg)]) (c_J0_charAt l g _ a1 ha1 v2_4 h_8) ⟨hx, hb, hml, hown, hts⟩ (cwV 1 hts gX3_isWord_J0_charAt_5068e rfl rfl rfl (by decide +kernel) ⟨by decide, by decide⟩) hK hz hk hP (hD.re rfl) hS hA ha1 rfl hl.1 rfl (Nat.le_of_ble_eq_true rfl) dX3_isWord_56 (fun H locs hP hS => ?_)
            refine lv_icmp_eq (tgt := 64) hx hb dX3_isWord_59 (by decide) (fun c_9 => ?_) (fun c_9 => ?_)
            · have hf := ite_t hf c_9
              obtain ⟨v2_10, ev2_10, hf⟩ := bnd_e hf
              refine lv_iinc (v := v2_10) (lv' := [(2, .int v2_10), (0, .ref t_q), (1, .ref (g.2.2.1 a1))]) hx hb dX3_isWord_64 hl (k := 2) rfl (by rw [ev2_10]; rfl) (by decide) rfl (fun ls hl => ?_)
              refine lv_goto (tgt := 35) hx hb dX3_isWord_67 (by decide) ?_
              exact hrec v2_10 (Option.some.inj hf).symm _ _ _ hP hS (lv_sub hl [1, 2, 0] rfl)
            · have hf := ite_f hf c_9
              refine lv_iconst (v := (0 : Int32)) hx hb dX3_isWord_62 (by decide) ?_
              exact hret (0 : Int32) (hkr_5 _ (hex _ (Option.some.inj hf).symm).symm) rfl _ _ _ _ hP hS dX3_isWord_63
        exact L_5 FU (0 : Int32) ho_5 _ _ _ hP hS (lv_sub hl [1, 2, 0] rfl)
      · have hf := ite_f hf c_3
        refine lv_iconst (v := (0 : Int32)) hx hb dX3_isWord_31 (by decide) ?_
        exact hret (0 : Int32) (Option.some.inj hf) rfl _ _ _ _ hP hS dX3_isWord_32

def f_X3_closeLine (t_length : Int32) (t_fault : Int32) (t_faultPlace : Int32) (t_place : Int32) (t_kind : Int32) (t_start : Int32) (t_value : Int32) (t_plan_doorCount : Int32) (t_state_barred : Int32) (t_tape : Nat → Int32) (p1 : Int32) : Option (Int32 × Int32 × Int32 × Int32 × Int32 × Int32 × Int32) :=
 (ob6 (f_X3_nextToken t_length t_fault t_faultPlace t_place t_kind t_start t_value t_tape) (fun t_fault_1 t_faultPlace_2 t_kind_3 t_place_4 t_start_5 t_value_6 =>
 (jn7 (fun (t_fault_8 : Int32) (t_faultPlace_9 : Int32) (t_kind_10 : Int32) (t_place_11 : Int32) (t_start_12 : Int32) (t_value_13 : Int32) (t_state_barred_14 : Int32) => (if t_kind_10 = (3 : Int32) then
 (some (t_fault_8, t_faultPlace_9, t_kind_10, t_place_11, t_start_12, t_value_13, t_state_barred_14))
 else (ob2 (f_X3_fail t_fault_8 t_faultPlace_9 (2 : Int32) t_start_12) (fun t_fault_17 t_faultPlace_18 =>
 (some (t_fault_17, t_faultPlace_18, t_kind_10, t_place_11, t_start_12, t_value_13, t_state_barred_14)))))) (fun j_15 =>
 (if p1 = (0 : Int32) then
 (j_15 t_fault_1 t_faultPlace_2 t_kind_3 t_place_4 t_start_5 t_value_6 t_state_barred)
 else (ob1 (f_X3_isWord t_fault_1 t_place_4 t_kind_3 t_start_5 t_tape 9) (fun r_21 =>
 (if r_21 = (0 : Int32) then
 (j_15 t_fault_1 t_faultPlace_2 t_kind_3 t_place_4 t_start_5 t_value_6 t_state_barred)
 else (bnd (t_state_barred ||| ((1 : Int32) <<< ((t_plan_doorCount - (1 : Int32)) &&& 31))) (fun t_state_barred_24 =>
 (ob6 (f_X3_nextToken t_length t_fault_1 t_faultPlace_2 t_place_4 t_kind_3 t_start_5 t_value_6 t_tape) (fun t_fault_25 t_faultPlace_26 t_kind_27 t_place_28 t_start_29 t_value_30 =>
 (j_15 t_fault_25 t_faultPlace_26 t_kind_27 t_place_28 t_start_29 t_value_30 t_state_barred_24)))))))))))))
abbrev rmX3_closeLine : Room := { frames := 5, cells := 0, slots := 0, locals := 107 }
set_option maxHeartbeats 4000000 in
set_option maxRecDepth 100000 in
theorem c_X3_closeLine (l : Launch) (g : Gh) (sz : Nat) (t_q t_plan_q t_state_q t_tape_q t_plan_firstEnds_q t_plan_rules_q t_state_secondEnds_q t_state_string_q : Nat) (t_length : Int32) (t_fault : Int32) (t_faultPlace : Int32) (t_lines : Int32) (t_place : Int32) (t_kind : Int32) (t_start : Int32) (t_value : Int32) (t_told : Int32) (t_plan_rooms : Int32) (t_plan_doorCount : Int32) (t_plan_ruleCount : Int32) (t_plan_stringLength : Int32) (t_state_barred : Int32) (t_state_period : Int32) (t_state_his : Int32) (t_state_beast : Int32) (t_state_habit : Int32) (t_state_onString : Int32) (t_state_step : Int32) (t_state_eaten : Int32) (t_tape : Nat → Int32) (p1 : Int32) (t_fault' : Int32) (t_faultPlace' : Int32) (t_kind' : Int32) (t_place' : Int32) (t_start' : Int32) (t_value' : Int32) (t_state_barred' : Int32) (hf : f_X3_closeLine t_length t_fault t_faultPlace t_place t_kind t_start t_value t_plan_doorCount t_state_barred t_tape p1 = some (t_fault', t_faultPlace', t_kind', t_place', t_start', t_value', t_state_barred')) : CV l yX3_closeLine wsX3_closeLine rmX3_closeLine [.ref t_q, .int p1] g sz [oX3 t_q t_plan_q t_state_q t_length t_fault t_faultPlace t_lines t_tape_q t_place t_kind t_start t_value t_told, oX2 t_plan_q t_plan_firstEnds_q t_plan_rules_q t_plan_rooms t_plan_doorCount t_plan_ruleCount t_plan_stringLength, oX6 t_state_q t_plan_q t_state_secondEnds_q t_state_string_q t_state_barred t_state_period t_state_his t_state_beast t_state_habit t_state_onString t_state_step t_state_eaten, aB g t_tape_q 320 t_tape] [oX3 t_q t_plan_q t_state_q t_length t_fault' t_faultPlace' t_lines t_tape_q t_place' t_kind' t_start' t_value' t_told, oX2 t_plan_q t_plan_firstEnds_q t_plan_rules_q t_plan_rooms t_plan_doorCount t_plan_ruleCount t_plan_stringLength, oX6 t_state_q t_plan_q t_state_secondEnds_q t_state_string_q t_state_barred' t_state_period t_state_his t_state_beast t_state_habit t_state_onString t_state_step t_state_eaten, aB g t_tape_q 320 t_tape] := by
  refine ent_v (cc := cX3_closeLine) (maxL := 2) (by decide) rfl (Nat.le_of_ble_eq_true rfl) ?_
  intro p e s m args below meth c A Q hx hb hml hown hts hK hz hk hA hD hP hS hret ls hl
  have hown : s.vm.findClass RX3 = some m.cls := hown
  have inX2 : ∀ w ∈ u_ws RX2 TX2 6, w ∈ wsX3_closeLine := by decide +kernel
  have inX3 : ∀ w ∈ u_ws RX3 TX3 12, w ∈ wsX3_closeLine := by decide +kernel
  have inX6 : ∀ w ∈ u_ws RX6 TX6 11, w ∈ wsX3_closeLine := by decide +kernel
  have k12 := hts (.fieldLink RX3 12 "ThreadMoved$Reader" "plan" "LThreadMoved$Plan;") (by decide +kernel)
  have k23 := hts (.fieldLink RX3 23 "ThreadMoved$Reader" "state" "LThreadMoved$State;") (by decide +kernel)
  have k54 := hts (.fieldLink RX3 54 "ThreadMoved$Reader" "kind" "I") (by decide +kernel)
  have k66 := hts (.fieldLink RX3 66 "ThreadMoved$Reader" "start" "I") (by decide +kernel)
  have k151 := hts (.fieldLink RX3 151 "ThreadMoved$Plan" "doorCount" "I") (by decide +kernel)
  have k182 := hts (.fieldLink RX3 182 "ThreadMoved$State" "barred" "I") (by decide +kernel)
  have hl : lv_has ls 2 [(0, .ref t_q), (1, .int p1)] := hl
  have hret : ∀ (t_faultz : Int32) (t_faultPlacez : Int32) (t_kindz : Int32) (t_placez : Int32) (t_startz : Int32) (t_valuez : Int32) (t_state_barredz : Int32), (t_faultz, t_faultPlacez, t_kindz, t_placez, t_startz, t_valuez, t_state_barredz) = (t_fault', t_faultPlace', t_kind', t_place', t_start', t_value', t_state_barred') → ∀ (H : Heap) (locs : List Loc) (pc : Nat) (ls : Array Slot), va_P g.1 vwCl [oX3 t_q t_plan_q t_state_q t_length t_faultz t_faultPlacez t_lines t_tape_q t_placez t_kindz t_startz t_valuez t_told, oX2 t_plan_q t_plan_firstEnds_q t_plan_rules_q t_plan_rooms t_plan_doorCount t_plan_ruleCount t_plan_stringLength, oX6 t_state_q t_plan_q t_state_secondEnds_q t_state_string_q t_state_barredz t_state_period t_state_his t_state_beast t_state_habit t_state_onString t_state_step t_state_eaten, aB g t_tape_q 320 t_tape] H → va_S A s.heap H locs → decode cX3_closeLine pc = .ok (.return_, 1) → W p l e rmX3_closeLine s m args below meth c H locs 0 0 Q (F0 m pc ls []) := by
    intro t_faultz t_faultPlacez t_kindz t_placez t_startz t_valuez t_state_barredz he H locs pc ls hP hS hd
    cases he
    exact hret H locs pc ls hP hS hd
  unfold f_X3_closeLine at hf
  refine lv_aload_n hx hb dX3_closeLine_0 rfl (lv_at hl 0 rfl) ?_
  obtain ⟨t_fault_1, t_faultPlace_2, t_kind_3, t_place_4, t_start_5, t_value_6, hc_7, hf⟩ := ob6_e hf
  refine kV_v (wn := [oX3 t_q t_plan_q t_state_q t_length t_fault_1 t_faultPlace_2 t_lines t_tape_q t_place_4 t_kind_3 t_start_5 t_value_6 t_told, oX2 t_plan_q t_plan_firstEnds_q t_plan_rules_q t_plan_rooms t_plan_doorCount t_plan_ruleCount t_plan_stringLength, oX6 t_state_q t_plan_q t_state_secondEnds_q t_state_string_q t_state_barred t_state_period t_state_his t_state_beast t_state_habit t_state_onString t_state_step t_state_eaten, aB g t_tape_q 320 t_tape]) (As := []) (rest := []) (c_X3_nextToken l g _ t_q t_plan_q t_state_q t_tape_q t_length t_fault t_faultPlace t_lines t_place t_kind t_start t_value t_told t_tape t_fault_1 t_faultPlace_2 t_kind_3 t_place_4 t_start_5 t_value_6 hc_7) ⟨hx, hb, hml, hown, hts⟩ (cwV 0 hts gX3_closeLine_X3_nextToken rfl rfl rfl (by decide +kernel) ⟨by decide, by decide⟩) hK hz hk hP (hD.re rfl) hS hA [0, 3] rfl rfl rfl rfl rfl rfl rfl hl.1 rfl (Nat.le_of_ble_eq_true rfl) dX3_closeLine_1 (fun H locs hP hS => ?_)
  refine lv_iload_n hx hb dX3_closeLine_4 rfl (lv_at hl 1 rfl) ?_
  obtain ⟨j_15, hj_15, hf⟩ := jn7_e hf
  have J_15 : ∀ (t_fault_8 : Int32) (t_faultPlace_9 : Int32) (t_kind_10 : Int32) (t_place_11 : Int32) (t_start_12 : Int32) (t_value_13 : Int32) (t_state_barred_14 : Int32), j_15 t_fault_8 t_faultPlace_9 t_kind_10 t_place_11 t_start_12 t_value_13 t_state_barred_14 = some (t_fault', t_faultPlace', t_kind', t_place', t_start', t_value', t_state_barred') → ∀ (H : Heap) (locs : List Loc) (ls : Array Slot), va_P g.1 vwCl [oX3 t_q t_plan_q t_state_q t_length t_fault_8 t_faultPlace_9 t_lines t_tape_q t_place_11 t_kind_10 t_start_12 t_value_13 t_told, oX2 t_plan_q t_plan_firstEnds_q t_plan_rules_q t_plan_rooms t_plan_doorCount t_plan_ruleCount t_plan_stringLength, oX6 t_state_q t_plan_q t_state_secondEnds_q t_state_string_q t_state_barred_14 t_state_period t_state_his t_state_beast t_state_habit t_state_onString t_state_step t_state_eaten, aB g t_tape_q 320 t_tape] H → va_S A s.heap H locs → lv_has ls 2 [(0, .ref t_q)] → W p l e rmX3_closeLine s m args below meth c H locs 0 0 Q (F0 m 44 ls []) := by
    intro t_fault_8 t_faultPlace_9 t_kind_10 t_place_11 t_start_12 t_value_13 t_state_barred_14 hf H locs ls hP hS hl
    rw [hj_15] at hf
    refine lv_aload_n hx hb dX3_closeLine_44 rfl (lv_at hl 0 rfl) ?_
    refine va_get (D := g.1) (ci := 3) (v := .int t_kind_10) (C := RX3) (T := TX3) (N := 12) hx hb hts inX3 hown hK hP 0 rfl rfl 8 (by decide) k54 (fun _ h9 => h9) rfl dX3_closeLine_45 ?_
    refine lv_iconst (v := (3 : Int32)) hx hb dX3_closeLine_48 (by decide) ?_
    refine lv_icmp_eq (tgt := 61) hx hb dX3_closeLine_49 (by decide) (fun c_16 => ?_) (fun c_16 => ?_)
    · have hf := ite_t hf c_16
      exact hret t_fault_8 t_faultPlace_9 t_kind_10 t_place_11 t_start_12 t_value_13 t_state_barred_14 (Option.some.inj hf) _ _ _ _ hP hS dX3_closeLine_61
    · have hf := ite_f hf c_16
      refine lv_aload_n hx hb dX3_closeLine_52 rfl (lv_at hl 0 rfl) ?_
      refine lv_iconst (v := (2 : Int32)) hx hb dX3_closeLine_53 (by decide) ?_
      refine lv_aload_n hx hb dX3_closeLine_54 rfl (lv_at hl 0 rfl) ?_
      refine va_get (D := g.1) (ci := 3) (v := .int t_start_12) (C := RX3) (T := TX3) (N := 12) hx hb hts inX3 hown hK hP 0 rfl rfl 9 (by decide) k66 (fun _ h9 => h9) rfl dX3_closeLine_55 ?_
      obtain ⟨t_fault_17, t_faultPlace_18, hc_19, hf⟩ := ob2_e hf
      refine kV_v (wn := [oX3 t_q t_plan_q t_state_q t_length t_fault_17 t_faultPlace_18 t_lines t_tape_q t_place_11 t_kind_10 t_start_12 t_value_13 t_told, oX2 t_plan_q t_plan_firstEnds_q t_plan_rules_q t_plan_rooms t_plan_doorCount t_plan_ruleCount t_plan_stringLength, oX6 t_state_q t_plan_q t_state_secondEnds_q t_state_string_q t_state_barred_14 t_state_period t_state_his t_state_beast t_state_habit t_state_onString t_state_step t_state_eaten, aB g t_tape_q 320 t_tape]) (As := [.int (2 : Int32), .int t_start_12]) (rest := []) (c_X3_fail l g _ t_q t_plan_q t_state_q t_tape_q t_length t_fault_8 t_faultPlace_9 t_lines t_place_11 t_kind_10 t_start_12 t_value_13 t_told (2 : Int32) t_start_12 t_fault_17 t_faultPlace_18 hc_19) ⟨hx, hb, hml, hown, hts⟩ (cwV 2 hts gX3_closeLine_X3_fail rfl rfl rfl (by decide +kernel) ⟨by decide, by decide⟩) hK hz hk hP (hD.re rfl) hS hA [0] rfl rfl rfl rfl rfl rfl rfl hl.1 rfl (Nat.le_of_ble_eq_true rfl) dX3_closeLine_58 (fun H locs hP hS => ?_)
      exact hret t_fault_17 t_faultPlace_18 t_kind_10 t_place_11 t_start_12 t_value_13 t_state_barred_14 (Option.some.inj hf) _ _ _ _ hP hS dX3_closeLine_61
  refine lv_if_eq (tgt := 44) hx hb dX3_closeLine_5 (by decide) (fun c_20 => ?_) (fun c_20 => ?_)
  · have hf := ite_t hf c_20
    exact J_15 t_fault_1 t_faultPlace_2 t_kind_3 t_place_4 t_start_5 t_value_6 t_state_barred hf _ _ _ hP hS (lv_sub hl [0] rfl)
  · have hf := ite_f hf c_20
    refine lv_aload_n hx hb dX3_closeLine_8 rfl (lv_at hl 0 rfl) ?_
    have hz9 : vk_R RX3 180 "barred" (g.2.2.1 9) s := hk.1 9 (by decide)
    refine va_ldcS hx hb hown hz9 dX3_closeLine_9 ?_
    obtain ⟨r_21, hc_22, hf⟩ := ob1_e hf
    refine kV_i (wn := [oX3 t_q t_plan_q t_state_q t_length t_fault_1 t_faultPlace_2 t_lines t_tape_q t_place_4 t_kind_3 t_start_5 t_value_6 t_told, oX2 t_plan_q t_plan_firstEnds_q t_plan_rules_q t_plan_rooms t_plan_doorCount t_plan_ruleCount t_plan_stringLength, oX6 t_state_q t_plan_q t_state_secondEnds_q t_state_string_q t_state_barred t_state_period t_state_his t_state_beast t_state_habit t_state_onString t_state_step t_state_eaten, aB g t_tape_q 320 t_tape]) (As := [.ref (g.2.2.1 9)]) (rest := []) (c_X3_isWord l g _ t_q t_plan_q t_state_q t_tape_q t_length t_fault_1 t_faultPlace_2 t_lines t_place_4 t_kind_3 t_start_5 t_value_6 t_told t_tape 9 r_21 (by decide) hc_22) ⟨hx, hb, hml, hown, hts⟩ (cwV 1 hts gX3_closeLine_X3_isWord rfl rfl rfl (by decide +kernel) ⟨by decide, by decide⟩) hK hz hk hP (hD.re rfl) hS hA [0, 3] rfl rfl rfl rfl rfl rfl rfl hl.1 rfl (Nat.le_of_ble_eq_true rfl) dX3_closeLine_11 (fun H locs hP hS => ?_)
    refine lv_if_eq (tgt := 44) hx hb dX3_closeLine_14 (by decide) (fun c_23 => ?_) (fun c_23 => ?_)
    · have hf := ite_t hf c_23
      exact J_15 t_fault_1 t_faultPlace_2 t_kind_3 t_place_4 t_start_5 t_value_6 t_state_barred hf _ _ _ hP hS (lv_sub hl [0] rfl)
    · have hf := ite_f hf c_23
      refine lv_aload_n hx hb dX3_closeLine_17 rfl (lv_at hl 0 rfl) ?_
      refine va_get (D := g.1) (ci := 3) (v := .ref t_state_q) (C := RX3) (T := TX3) (N := 12) hx hb hts inX3 hown hK hP 0 rfl rfl 1 (by decide) k23 (fun _ h9 => h9) rfl dX3_closeLine_18 ?_
      refine lv_dup hx hb dX3_closeLine_21 rfl ?_
      refine va_get (D := g.1) (ci := 6) (v := .int t_state_barred) (C := RX6) (T := TX6) (N := 11) hx hb hts inX6 hown hK hP 2 rfl rfl 3 (by decide) k182 (fun _ h9 => h9) rfl dX3_closeLine_22 ?_
      refine lv_iconst (v := (1 : Int32)) hx hb dX3_closeLine_25 (by decide) ?_
      refine lv_aload_n hx hb dX3_closeLine_26 rfl (lv_at hl 0 rfl) ?_
      refine va_get (D := g.1) (ci := 3) (v := .ref t_plan_q) (C := RX3) (T := TX3) (N := 12) hx hb hts inX3 hown hK hP 0 rfl rfl 0 (by decide) k12 (fun _ h9 => h9) rfl dX3_closeLine_27 ?_
      refine va_get (D := g.1) (ci := 2) (v := .int t_plan_doorCount) (C := RX2) (T := TX2) (N := 6) hx hb hts inX2 hown hK hP 1 rfl rfl 3 (by decide) k151 (fun _ h9 => h9) rfl dX3_closeLine_30 ?_
      refine lv_iconst (v := (1 : Int32)) hx hb dX3_closeLine_33 (by decide) ?_
      refine lv_isub hx hb dX3_closeLine_34 ?_
      refine lv_ishl hx hb dX3_closeLine_35 ?_
      refine lv_ior hx hb dX3_closeLine_36 ?_
      obtain ⟨t_state_barred_24, et_state_barred_24, hf⟩ := bnd_e hf
      refine tp_i et_state_barred_24 ?_
      refine va_put (D := g.1) (ci := 6) (v := .int t_state_barred_24) (ty := .int) (C := RX6) (T := TX6) (N := 11) hx hb hts inX6 tyX6 tyX6_ok nmX6 hown hK hP (hD.re rfl) hS 2 rfl rfl 3 (by decide) k182 (fun _ h9 => h9) rfl (by decide +kernel) rfl rfl (Nat.le_of_ble_eq_true rfl) dX3_closeLine_37 (fun H locs hP _ hS => ?_)
      have hP : va_P g.1 vwCl [oX3 t_q t_plan_q t_state_q t_length t_fault_1 t_faultPlace_2 t_lines t_tape_q t_place_4 t_kind_3 t_start_5 t_value_6 t_told, oX2 t_plan_q t_plan_firstEnds_q t_plan_rules_q t_plan_rooms t_plan_doorCount t_plan_ruleCount t_plan_stringLength, oX6 t_state_q t_plan_q t_state_secondEnds_q t_state_string_q t_state_barred_24 t_state_period t_state_his t_state_beast t_state_habit t_state_onString t_state_step t_state_eaten, aB g t_tape_q 320 t_tape] H := hP
      refine lv_aload_n hx hb dX3_closeLine_40 rfl (lv_at hl 0 rfl) ?_
      obtain ⟨t_fault_25, t_faultPlace_26, t_kind_27, t_place_28, t_start_29, t_value_30, hc_31, hf⟩ := ob6_e hf
      refine kV_v (wn := [oX3 t_q t_plan_q t_state_q t_length t_fault_25 t_faultPlace_26 t_lines t_tape_q t_place_28 t_kind_27 t_start_29 t_value_30 t_told, oX2 t_plan_q t_plan_firstEnds_q t_plan_rules_q t_plan_rooms t_plan_doorCount t_plan_ruleCount t_plan_stringLength, oX6 t_state_q t_plan_q t_state_secondEnds_q t_state_string_q t_state_barred_24 t_state_period t_state_his t_state_beast t_state_habit t_state_onString t_state_step t_state_eaten, aB g t_tape_q 320 t_tape]) (As := []) (rest := []) (c_X3_nextToken l g _ t_q t_plan_q t_state_q t_tape_q t_length t_fault_1 t_faultPlace_2 t_lines t_place_4 t_kind_3 t_start_5 t_value_6 t_told t_tape t_fault_25 t_faultPlace_26 t_kind_27 t_place_28 t_start_29 t_value_30 hc_31) ⟨hx, hb, hml, hown, hts⟩ (cwV 0 hts gX3_closeLine_X3_nextToken rfl rfl rfl (by decide +kernel) ⟨by decide, by decide⟩) hK hz hk hP (hD.re rfl) hS hA [0, 3] rfl rfl rfl rfl rfl rfl rfl hl.1 rfl (Nat.le_of_ble_eq_true rfl) dX3_closeLine_41 (fun H locs hP hS => ?_)
      exact J_15 t_fault_25 t_faultPlace_26 t_kind_27 t_place_28 t_start_29 t_value_30 t_state_barred_24 hf _ _ _ hP hS (lv_sub hl [0] rfl)
