def f_X8_rule (t_roomMany : Int32) (t_doorMany : Int32) (t_stringLong : Int32) (t_lawMany : Int32) (t_state : Nat → Int32) (p1 : Int32) : Option (Int32) :=
 (if p1 = (0 : Int32) then
 (some t_roomMany)
 else (if p1 = (1 : Int32) then
 (some t_doorMany)
 else (if p1 = (2 : Int32) then
 (gin (30 : Int32) 196 (some ((t_state (30 : Int32).toNatClampNeg) + (1 : Int32))))
 else (if p1 = (3 : Int32) then
 (some t_lawMany)
 else (if p1 = (4 : Int32) then
 (some t_stringLong)
 else (if p1 = (5 : Int32) then
 (gin (47 : Int32) 196 (some (t_state (47 : Int32).toNatClampNeg)))
 else (if p1 = (6 : Int32) then
 (gin (31 : Int32) 196 (some (t_state (31 : Int32).toNatClampNeg)))
 else (if p1 = (7 : Int32) then
 (ob1 (f_X8_beastNow t_state) (fun r_12 =>
 (some r_12)))
 else (if p1 = (8 : Int32) then
 (gin (33 : Int32) 196 (some (t_state (33 : Int32).toNatClampNeg)))
 else (if p1 = (9 : Int32) then
 (gin (48 : Int32) 196 (some (t_state (48 : Int32).toNatClampNeg)))
 else (some (-1 : Int32))))))))))))
abbrev rmX8_rule : Room := { frames := 1, cells := 0, slots := 0, locals := 20 }
set_option maxHeartbeats 4000000 in
set_option maxRecDepth 100000 in
theorem c_X8_rule (l : Launch) (g : Gh) (sz : Nat) (t_q t_state_q t_laws_q t_readPage_q t_readLaws_q t_tape_q t_cuts_q t_letters_q t_work_q t_pages_q t_canBe_q t_leadsOn_q t_seen_q t_heard_q t_isKept_q t_lanes_q t_lengths_q t_cells_q : Nat) (t_roomMany : Int32) (t_doorMany : Int32) (t_stringLong : Int32) (t_lawMany : Int32) (t_readRooms : Int32) (t_readDoors : Int32) (t_readString : Int32) (t_readLawMany : Int32) (t_toldOnce : Int32) (t_highRoom : Int32) (t_highDoor : Int32) (t_taped : Int32) (t_fault : Int32) (t_broken : Int32) (t_brokenAt : Int32) (t_spot : Int32) (t_here : Int32) (t_token : Int32) (t_value : Int32) (t_seenMany : Int32) (t_heardMany : Int32) (t_torn : Int32) (t_state : Nat → Int32) (p1 : Int32) (rr : Int32) (hf : f_X8_rule t_roomMany t_doorMany t_stringLong t_lawMany t_state p1 = some rr) : CI l yX8_rule wsX8_rule rmX8_rule [.ref t_q, .int p1] g sz [oX8 t_q t_state_q t_roomMany t_doorMany t_stringLong t_laws_q t_lawMany t_readPage_q t_readLaws_q t_readRooms t_readDoors t_readString t_readLawMany t_toldOnce t_highRoom t_highDoor t_tape_q t_taped t_fault t_broken t_brokenAt t_spot t_here t_token t_value t_cuts_q t_letters_q t_work_q t_pages_q t_canBe_q t_leadsOn_q t_seen_q t_seenMany t_heard_q t_heardMany t_isKept_q t_lanes_q t_lengths_q t_cells_q t_torn, aI g t_state_q 196 t_state] [oX8 t_q t_state_q t_roomMany t_doorMany t_stringLong t_laws_q t_lawMany t_readPage_q t_readLaws_q t_readRooms t_readDoors t_readString t_readLawMany t_toldOnce t_highRoom t_highDoor t_tape_q t_taped t_fault t_broken t_brokenAt t_spot t_here t_token t_value t_cuts_q t_letters_q t_work_q t_pages_q t_canBe_q t_leadsOn_q t_seen_q t_seenMany t_heard_q t_heardMany t_isKept_q t_lanes_q t_lengths_q t_cells_q t_torn, aI g t_state_q 196 t_state] rr := by
  refine ent_i (cc := cX8_rule) (maxL := 2) (by decide) rfl (Nat.le_of_ble_eq_true rfl) ?_
  intro p e s m args below meth c A Q hx hb hml hown hts hK hz hk hA hD hP hS hret ls hl
  have hown : s.vm.findClass RX8 = some m.cls := hown
  have inX8 : ∀ w ∈ u_ws RX8 TX8 39, w ∈ wsX8_rule := by decide +kernel
  have k7 := hts (.fieldLink RX8 7 "ThreadMovedModel" "state" "[I") (by decide +kernel)
  have k13 := hts (.fieldLink RX8 13 "ThreadMovedModel" "roomMany" "I") (by decide +kernel)
  have k17 := hts (.fieldLink RX8 17 "ThreadMovedModel" "stringLong" "I") (by decide +kernel)
  have k175 := hts (.fieldLink RX8 175 "ThreadMovedModel" "doorMany" "I") (by decide +kernel)
  have k178 := hts (.fieldLink RX8 178 "ThreadMovedModel" "lawMany" "I") (by decide +kernel)
  have hl : lv_has ls 2 [(0, .ref t_q), (1, .int p1)] := hl
  have hret : ∀ (rrz : Int32), rrz = rr → ∀ (H : Heap) (locs : List Loc) (pc : Nat) (ls : Array Slot), va_P g.1 vwCl [oX8 t_q t_state_q t_roomMany t_doorMany t_stringLong t_laws_q t_lawMany t_readPage_q t_readLaws_q t_readRooms t_readDoors t_readString t_readLawMany t_toldOnce t_highRoom t_highDoor t_tape_q t_taped t_fault t_broken t_brokenAt t_spot t_here t_token t_value t_cuts_q t_letters_q t_work_q t_pages_q t_canBe_q t_leadsOn_q t_seen_q t_seenMany t_heard_q t_heardMany t_isKept_q t_lanes_q t_lengths_q t_cells_q t_torn, aI g t_state_q 196 t_state] H → va_S A s.heap H locs → decode cX8_rule pc = .ok (.ireturn, 1) → W p l e rmX8_rule s m args below meth c H locs 0 0 Q (F0 m pc ls [.int rrz]) := by
    intro rrz he H locs pc ls hP hS hd
    cases he
    exact hret H locs pc ls hP hS hd
  unfold f_X8_rule at hf
  refine lv_iload_n hx hb dX8_rule_0 rfl (lv_at hl 1 rfl) ?_
  by_cases c_1 : p1 = (0 : Int32)
  · have hf := ite_t hf c_1
    refine lv_tableIn (off := 55) (tgt := 56) hx hb dX8_rule_1 (by rw [c_1]; decide) (by rw [c_1]; decide) (by rw [c_1]; rfl) (by decide) ?_
    refine lv_aload_n hx hb dX8_rule_56 rfl (lv_at hl 0 rfl) ?_
    refine va_get (D := g.1) (ci := 8) (v := .int t_roomMany) (C := RX8) (T := TX8) (N := 39) hx hb hts inX8 hown hK hP 0 rfl rfl 1 (by decide) k13 (fun _ h9 => h9) rfl dX8_rule_57 ?_
    exact hret t_roomMany (Option.some.inj hf) _ _ _ _ hP hS dX8_rule_60
  have hf := ite_f hf c_1
  by_cases c_2 : p1 = (1 : Int32)
  · have hf := ite_t hf c_2
    refine lv_tableIn (off := 60) (tgt := 61) hx hb dX8_rule_1 (by rw [c_2]; decide) (by rw [c_2]; decide) (by rw [c_2]; rfl) (by decide) ?_
    refine lv_aload_n hx hb dX8_rule_61 rfl (lv_at hl 0 rfl) ?_
    refine va_get (D := g.1) (ci := 8) (v := .int t_doorMany) (C := RX8) (T := TX8) (N := 39) hx hb hts inX8 hown hK hP 0 rfl rfl 2 (by decide) k175 (fun _ h9 => h9) rfl dX8_rule_62 ?_
    exact hret t_doorMany (Option.some.inj hf) _ _ _ _ hP hS dX8_rule_65
  have hf := ite_f hf c_2
  by_cases c_3 : p1 = (2 : Int32)
  · have hf := ite_t hf c_3
    refine lv_tableIn (off := 65) (tgt := 66) hx hb dX8_rule_1 (by rw [c_3]; decide) (by rw [c_3]; decide) (by rw [c_3]; rfl) (by decide) ?_
    refine lv_aload_n hx hb dX8_rule_66 rfl (lv_at hl 0 rfl) ?_
    refine va_get (D := g.1) (ci := 8) (v := .ref t_state_q) (C := RX8) (T := TX8) (N := 39) hx hb hts inX8 hown hK hP 0 rfl rfl 0 (by decide) k7 (fun _ h9 => h9) rfl dX8_rule_67 ?_
    refine lv_bipush (v := (30 : Int32)) hx hb dX8_rule_70 (by decide) ?_
    obtain ⟨h_4, hf⟩ := gin_e hf
    refine va_iald hx hb hK hP 1 0 rfl rfl h_4 dX8_rule_72 ?_
    refine lv_iconst (v := (1 : Int32)) hx hb dX8_rule_73 (by decide) ?_
    refine lv_iadd hx hb dX8_rule_74 ?_
    exact hret ((t_state (30 : Int32).toNatClampNeg) + (1 : Int32)) (Option.some.inj hf) _ _ _ _ hP hS dX8_rule_75
  have hf := ite_f hf c_3
  by_cases c_5 : p1 = (3 : Int32)
  · have hf := ite_t hf c_5
    refine lv_tableIn (off := 75) (tgt := 76) hx hb dX8_rule_1 (by rw [c_5]; decide) (by rw [c_5]; decide) (by rw [c_5]; rfl) (by decide) ?_
    refine lv_aload_n hx hb dX8_rule_76 rfl (lv_at hl 0 rfl) ?_
    refine va_get (D := g.1) (ci := 8) (v := .int t_lawMany) (C := RX8) (T := TX8) (N := 39) hx hb hts inX8 hown hK hP 0 rfl rfl 5 (by decide) k178 (fun _ h9 => h9) rfl dX8_rule_77 ?_
    exact hret t_lawMany (Option.some.inj hf) _ _ _ _ hP hS dX8_rule_80
  have hf := ite_f hf c_5
  by_cases c_6 : p1 = (4 : Int32)
  · have hf := ite_t hf c_6
    refine lv_tableIn (off := 80) (tgt := 81) hx hb dX8_rule_1 (by rw [c_6]; decide) (by rw [c_6]; decide) (by rw [c_6]; rfl) (by decide) ?_
    refine lv_aload_n hx hb dX8_rule_81 rfl (lv_at hl 0 rfl) ?_
    refine va_get (D := g.1) (ci := 8) (v := .int t_stringLong) (C := RX8) (T := TX8) (N := 39) hx hb hts inX8 hown hK hP 0 rfl rfl 3 (by decide) k17 (fun _ h9 => h9) rfl dX8_rule_82 ?_
    exact hret t_stringLong (Option.some.inj hf) _ _ _ _ hP hS dX8_rule_85
  have hf := ite_f hf c_6
  by_cases c_7 : p1 = (5 : Int32)
  · have hf := ite_t hf c_7
    refine lv_tableIn (off := 85) (tgt := 86) hx hb dX8_rule_1 (by rw [c_7]; decide) (by rw [c_7]; decide) (by rw [c_7]; rfl) (by decide) ?_
    refine lv_aload_n hx hb dX8_rule_86 rfl (lv_at hl 0 rfl) ?_
    refine va_get (D := g.1) (ci := 8) (v := .ref t_state_q) (C := RX8) (T := TX8) (N := 39) hx hb hts inX8 hown hK hP 0 rfl rfl 0 (by decide) k7 (fun _ h9 => h9) rfl dX8_rule_87 ?_
    refine lv_bipush (v := (47 : Int32)) hx hb dX8_rule_90 (by decide) ?_
    obtain ⟨h_8, hf⟩ := gin_e hf
    refine va_iald hx hb hK hP 1 0 rfl rfl h_8 dX8_rule_92 ?_
    exact hret (t_state (47 : Int32).toNatClampNeg) (Option.some.inj hf) _ _ _ _ hP hS dX8_rule_93
  have hf := ite_f hf c_7
  by_cases c_9 : p1 = (6 : Int32)
  · have hf := ite_t hf c_9
    refine lv_tableIn (off := 93) (tgt := 94) hx hb dX8_rule_1 (by rw [c_9]; decide) (by rw [c_9]; decide) (by rw [c_9]; rfl) (by decide) ?_
    refine lv_aload_n hx hb dX8_rule_94 rfl (lv_at hl 0 rfl) ?_
    refine va_get (D := g.1) (ci := 8) (v := .ref t_state_q) (C := RX8) (T := TX8) (N := 39) hx hb hts inX8 hown hK hP 0 rfl rfl 0 (by decide) k7 (fun _ h9 => h9) rfl dX8_rule_95 ?_
    refine lv_bipush (v := (31 : Int32)) hx hb dX8_rule_98 (by decide) ?_
    obtain ⟨h_10, hf⟩ := gin_e hf
    refine va_iald hx hb hK hP 1 0 rfl rfl h_10 dX8_rule_100 ?_
    exact hret (t_state (31 : Int32).toNatClampNeg) (Option.some.inj hf) _ _ _ _ hP hS dX8_rule_101
  have hf := ite_f hf c_9
  by_cases c_11 : p1 = (7 : Int32)
  · have hf := ite_t hf c_11
    refine lv_tableIn (off := 101) (tgt := 102) hx hb dX8_rule_1 (by rw [c_11]; decide) (by rw [c_11]; decide) (by rw [c_11]; rfl) (by decide) ?_
    refine lv_aload_n hx hb dX8_rule_102 rfl (lv_at hl 0 rfl) ?_
    obtain ⟨r_12, hc_13, hf⟩ := ob1_e hf
    refine kV_i (wn := [oX8 t_q t_state_q t_roomMany t_doorMany t_stringLong t_laws_q t_lawMany t_readPage_q t_readLaws_q t_readRooms t_readDoors t_readString t_readLawMany t_toldOnce t_highRoom t_highDoor t_tape_q t_taped t_fault t_broken t_brokenAt t_spot t_here t_token t_value t_cuts_q t_letters_q t_work_q t_pages_q t_canBe_q t_leadsOn_q t_seen_q t_seenMany t_heard_q t_heardMany t_isKept_q t_lanes_q t_lengths_q t_cells_q t_torn, aI g t_state_q 196 t_state]) (As := []) (rest := []) (c_X8_beastNow l g _ t_q t_state_q t_laws_q t_readPage_q t_readLaws_q t_tape_q t_cuts_q t_letters_q t_work_q t_pages_q t_canBe_q t_leadsOn_q t_seen_q t_heard_q t_isKept_q t_lanes_q t_lengths_q t_cells_q t_roomMany t_doorMany t_stringLong t_lawMany t_readRooms t_readDoors t_readString t_readLawMany t_toldOnce t_highRoom t_highDoor t_taped t_fault t_broken t_brokenAt t_spot t_here t_token t_value t_seenMany t_heardMany t_torn t_state r_12 hc_13) ⟨hx, hb, hml, hown, hts⟩ (cwV 0 hts gX8_rule_X8_beastNow rfl rfl rfl (by decide +kernel) ⟨by decide, by decide⟩) hK hz hk hP (hD.re rfl) hS hA [0, 1] rfl rfl rfl rfl rfl rfl rfl hl.1 rfl (Nat.le_of_ble_eq_true rfl) dX8_rule_103 (fun H locs hP hS => ?_)
    exact hret r_12 (Option.some.inj hf) _ _ _ _ hP hS dX8_rule_106
  have hf := ite_f hf c_11
  by_cases c_14 : p1 = (8 : Int32)
  · have hf := ite_t hf c_14
    refine lv_tableIn (off := 106) (tgt := 107) hx hb dX8_rule_1 (by rw [c_14]; decide) (by rw [c_14]; decide) (by rw [c_14]; rfl) (by decide) ?_
    refine lv_aload_n hx hb dX8_rule_107 rfl (lv_at hl 0 rfl) ?_
    refine va_get (D := g.1) (ci := 8) (v := .ref t_state_q) (C := RX8) (T := TX8) (N := 39) hx hb hts inX8 hown hK hP 0 rfl rfl 0 (by decide) k7 (fun _ h9 => h9) rfl dX8_rule_108 ?_
    refine lv_bipush (v := (33 : Int32)) hx hb dX8_rule_111 (by decide) ?_
    obtain ⟨h_15, hf⟩ := gin_e hf
    refine va_iald hx hb hK hP 1 0 rfl rfl h_15 dX8_rule_113 ?_
    exact hret (t_state (33 : Int32).toNatClampNeg) (Option.some.inj hf) _ _ _ _ hP hS dX8_rule_114
  have hf := ite_f hf c_14
  by_cases c_16 : p1 = (9 : Int32)
  · have hf := ite_t hf c_16
    refine lv_tableIn (off := 114) (tgt := 115) hx hb dX8_rule_1 (by rw [c_16]; decide) (by rw [c_16]; decide) (by rw [c_16]; rfl) (by decide) ?_
    refine lv_aload_n hx hb dX8_rule_115 rfl (lv_at hl 0 rfl) ?_
    refine va_get (D := g.1) (ci := 8) (v := .ref t_state_q) (C := RX8) (T := TX8) (N := 39) hx hb hts inX8 hown hK hP 0 rfl rfl 0 (by decide) k7 (fun _ h9 => h9) rfl dX8_rule_116 ?_
    refine lv_bipush (v := (48 : Int32)) hx hb dX8_rule_119 (by decide) ?_
    obtain ⟨h_17, hf⟩ := gin_e hf
    refine va_iald hx hb hK hP 1 0 rfl rfl h_17 dX8_rule_121 ?_
    exact hret (t_state (48 : Int32).toNatClampNeg) (Option.some.inj hf) _ _ _ _ hP hS dX8_rule_122
  have hf := ite_f hf c_16
  refine lv_tableOut (tgt := 123) hx hb dX8_rule_1 (tsw_out 9 (by decide) rfl (fun k hk => ?_)) (by decide) ?_
  · match k, hk with
    | 0, _ => exact c_1
    | 1, _ => exact c_2
    | 2, _ => exact c_3
    | 3, _ => exact c_5
    | 4, _ => exact c_6
    | 5, _ => exact c_7
    | 6, _ => exact c_9
    | 7, _ => exact c_11
    | 8, _ => exact c_14
    | 9, _ => exact c_16
    | k + 10, hk => exact absurd hk (by omega)
  refine lv_iconst (v := (-1 : Int32)) hx hb dX8_rule_123 (by decide) ?_
  exact hret (-1 : Int32) (Option.some.inj hf) _ _ _ _ hP hS dX8_rule_124

def f_X8_see (t_roomMany : Int32) (t_doorMany : Int32) (t_seenMany : Int32) (t_seen : Nat → Int32) (p1 : Int32) (p2 : Int32) (p3 : Int32) : Option (Int32 × Int32 × (Nat → Int32)) :=
 (ob1 (f_X8_in (p1.toInt64) (1 : Int64) (6 : Int64)) (fun r_1 =>
 (if r_1 = (0 : Int32) then
 (some ((-1 : Int32), t_seenMany, t_seen))
 else (ob1 (f_X8_isDoor t_doorMany p2) (fun r_4 =>
 (if r_4 = (0 : Int32) then
 (some ((-1 : Int32), t_seenMany, t_seen))
 else (ob1 (f_X8_isRoom t_roomMany p3) (fun r_7 =>
 (if r_7 = (0 : Int32) then
 (some ((-1 : Int32), t_seenMany, t_seen))
 else (if t_seenMany = (6 : Int32) then
 (some ((-3 : Int32), t_seenMany, t_seen))
 else (gin ((3 : Int32) * t_seenMany) 18 (bnd (upd t_seen ((3 : Int32) * t_seenMany).toNatClampNeg p1) (fun t_seen_12 =>
 (gin (((3 : Int32) * t_seenMany) + (1 : Int32)) 18 (bnd (upd t_seen_12 (((3 : Int32) * t_seenMany) + (1 : Int32)).toNatClampNeg p2) (fun t_seen_14 =>
 (gin (((3 : Int32) * t_seenMany) + (2 : Int32)) 18 (bnd (upd t_seen_14 (((3 : Int32) * t_seenMany) + (2 : Int32)).toNatClampNeg p3) (fun t_seen_16 =>
 (bnd (t_seenMany + (1 : Int32)) (fun t_seenMany_17 =>
 (some (t_seenMany_17, t_seenMany_17, t_seen_16)))))))))))))))))))))))
abbrev rmX8_see : Room := { frames := 2, cells := 0, slots := 0, locals := 46 }
set_option maxHeartbeats 4000000 in
set_option maxRecDepth 100000 in
theorem c_X8_see (l : Launch) (g : Gh) (sz : Nat) (t_q t_state_q t_laws_q t_readPage_q t_readLaws_q t_tape_q t_cuts_q t_letters_q t_work_q t_pages_q t_canBe_q t_leadsOn_q t_seen_q t_heard_q t_isKept_q t_lanes_q t_lengths_q t_cells_q : Nat) (t_roomMany : Int32) (t_doorMany : Int32) (t_stringLong : Int32) (t_lawMany : Int32) (t_readRooms : Int32) (t_readDoors : Int32) (t_readString : Int32) (t_readLawMany : Int32) (t_toldOnce : Int32) (t_highRoom : Int32) (t_highDoor : Int32) (t_taped : Int32) (t_fault : Int32) (t_broken : Int32) (t_brokenAt : Int32) (t_spot : Int32) (t_here : Int32) (t_token : Int32) (t_value : Int32) (t_seenMany : Int32) (t_heardMany : Int32) (t_torn : Int32) (t_seen : Nat → Int32) (p1 : Int32) (p2 : Int32) (p3 : Int32) (rr : Int32) (t_seenMany' : Int32) (t_seen' : Nat → Int32) (hf : f_X8_see t_roomMany t_doorMany t_seenMany t_seen p1 p2 p3 = some (rr, t_seenMany', t_seen')) : CI l yX8_see wsX8_see rmX8_see [.ref t_q, .int p1, .int p2, .int p3] g sz [oX8 t_q t_state_q t_roomMany t_doorMany t_stringLong t_laws_q t_lawMany t_readPage_q t_readLaws_q t_readRooms t_readDoors t_readString t_readLawMany t_toldOnce t_highRoom t_highDoor t_tape_q t_taped t_fault t_broken t_brokenAt t_spot t_here t_token t_value t_cuts_q t_letters_q t_work_q t_pages_q t_canBe_q t_leadsOn_q t_seen_q t_seenMany t_heard_q t_heardMany t_isKept_q t_lanes_q t_lengths_q t_cells_q t_torn, aI g t_seen_q 18 t_seen] [oX8 t_q t_state_q t_roomMany t_doorMany t_stringLong t_laws_q t_lawMany t_readPage_q t_readLaws_q t_readRooms t_readDoors t_readString t_readLawMany t_toldOnce t_highRoom t_highDoor t_tape_q t_taped t_fault t_broken t_brokenAt t_spot t_here t_token t_value t_cuts_q t_letters_q t_work_q t_pages_q t_canBe_q t_leadsOn_q t_seen_q t_seenMany' t_heard_q t_heardMany t_isKept_q t_lanes_q t_lengths_q t_cells_q t_torn, aI g t_seen_q 18 t_seen'] rr := by
  refine ent_i (cc := cX8_see) (maxL := 4) (by decide) rfl (Nat.le_of_ble_eq_true rfl) ?_
  intro p e s m args below meth c A Q hx hb hml hown hts hK hz hk hA hD hP hS hret ls hl
  have hown : s.vm.findClass RX8 = some m.cls := hown
  have inX8 : ∀ w ∈ u_ws RX8 TX8 39, w ∈ wsX8_see := by decide +kernel
  have k50 := hts (.fieldLink RX8 50 "ThreadMovedModel" "seen" "[I") (by decide +kernel)
  have k181 := hts (.fieldLink RX8 181 "ThreadMovedModel" "seenMany" "I") (by decide +kernel)
  have q222 := hts (.constantLong RX8 222 (6)) (by decide +kernel)
  have hl : lv_has ls 4 [(0, .ref t_q), (1, .int p1), (2, .int p2), (3, .int p3)] := hl
  have hret : ∀ (rrz : Int32) (t_seenManyz : Int32) (t_seenz : Nat → Int32), (rrz, t_seenManyz, t_seenz) = (rr, t_seenMany', t_seen') → ∀ (H : Heap) (locs : List Loc) (pc : Nat) (ls : Array Slot), va_P g.1 vwCl [oX8 t_q t_state_q t_roomMany t_doorMany t_stringLong t_laws_q t_lawMany t_readPage_q t_readLaws_q t_readRooms t_readDoors t_readString t_readLawMany t_toldOnce t_highRoom t_highDoor t_tape_q t_taped t_fault t_broken t_brokenAt t_spot t_here t_token t_value t_cuts_q t_letters_q t_work_q t_pages_q t_canBe_q t_leadsOn_q t_seen_q t_seenManyz t_heard_q t_heardMany t_isKept_q t_lanes_q t_lengths_q t_cells_q t_torn, aI g t_seen_q 18 t_seenz] H → va_S A s.heap H locs → decode cX8_see pc = .ok (.ireturn, 1) → W p l e rmX8_see s m args below meth c H locs 0 0 Q (F0 m pc ls [.int rrz]) := by
    intro rrz t_seenManyz t_seenz he H locs pc ls hP hS hd
    cases he
    exact hret H locs pc ls hP hS hd
  unfold f_X8_see at hf
  refine lv_iload_n hx hb dX8_see_0 rfl (lv_at hl 1 rfl) ?_
  refine lv_i2l hx hb dX8_see_1 rfl ?_
  refine lv_lconst (v := (1 : Int64)) hx hb dX8_see_2 (by decide) ?_
  refine lv_ldc2 hx hb hown q222 dX8_see_3 ?_
  obtain ⟨r_1, hc_2, hf⟩ := ob1_e hf
  refine kS_i (wn := [oX8 t_q t_state_q t_roomMany t_doorMany t_stringLong t_laws_q t_lawMany t_readPage_q t_readLaws_q t_readRooms t_readDoors t_readString t_readLawMany t_toldOnce t_highRoom t_highDoor t_tape_q t_taped t_fault t_broken t_brokenAt t_spot t_here t_token t_value t_cuts_q t_letters_q t_work_q t_pages_q t_canBe_q t_leadsOn_q t_seen_q t_seenMany t_heard_q t_heardMany t_isKept_q t_lanes_q t_lengths_q t_cells_q t_torn, aI g t_seen_q 18 t_seen]) (As := [.long (p1.toInt64), .long (1 : Int64), .long (6 : Int64)]) (rest := []) (c_X8_in l g _ (p1.toInt64) (1 : Int64) (6 : Int64) r_1 hc_2) ⟨hx, hb, hml, hown, hts⟩ (va_cwS 3 hts gX8_see_X8_in rfl rfl rfl (by decide +kernel) ⟨by decide, by decide⟩) hK hz hk hP (hD.re rfl) hS hA [] rfl rfl rfl rfl rfl hl.1 rfl (Nat.le_of_ble_eq_true rfl) dX8_see_6 (fun H locs hP hS => ?_)
  refine lv_if_eq (tgt := 28) hx hb dX8_see_9 (by decide) (fun c_3 => ?_) (fun c_3 => ?_)
  · have hf := ite_t hf c_3
    refine lv_iconst (v := (-1 : Int32)) hx hb dX8_see_28 (by decide) ?_
    exact hret (-1 : Int32) t_seenMany t_seen (Option.some.inj hf) _ _ _ _ hP hS dX8_see_29
  · have hf := ite_f hf c_3
    refine lv_aload_n hx hb dX8_see_12 rfl (lv_at hl 0 rfl) ?_
    refine lv_iload_n hx hb dX8_see_13 rfl (lv_at hl 2 rfl) ?_
    obtain ⟨r_4, hc_5, hf⟩ := ob1_e hf
    refine kV_i (wn := [oX8 t_q t_state_q t_roomMany t_doorMany t_stringLong t_laws_q t_lawMany t_readPage_q t_readLaws_q t_readRooms t_readDoors t_readString t_readLawMany t_toldOnce t_highRoom t_highDoor t_tape_q t_taped t_fault t_broken t_brokenAt t_spot t_here t_token t_value t_cuts_q t_letters_q t_work_q t_pages_q t_canBe_q t_leadsOn_q t_seen_q t_seenMany t_heard_q t_heardMany t_isKept_q t_lanes_q t_lengths_q t_cells_q t_torn, aI g t_seen_q 18 t_seen]) (As := [.int p2]) (rest := []) (c_X8_isDoor l g _ t_q t_state_q t_laws_q t_readPage_q t_readLaws_q t_tape_q t_cuts_q t_letters_q t_work_q t_pages_q t_canBe_q t_leadsOn_q t_seen_q t_heard_q t_isKept_q t_lanes_q t_lengths_q t_cells_q t_roomMany t_doorMany t_stringLong t_lawMany t_readRooms t_readDoors t_readString t_readLawMany t_toldOnce t_highRoom t_highDoor t_taped t_fault t_broken t_brokenAt t_spot t_here t_token t_value t_seenMany t_heardMany t_torn p2 r_4 hc_5) ⟨hx, hb, hml, hown, hts⟩ (cwV 1 hts gX8_see_X8_isDoor rfl rfl rfl (by decide +kernel) ⟨by decide, by decide⟩) hK hz hk hP (hD.re rfl) hS hA [0] rfl rfl rfl rfl rfl rfl rfl hl.1 rfl (Nat.le_of_ble_eq_true rfl) dX8_see_14 (fun H locs hP hS => ?_)
    refine lv_if_eq (tgt := 28) hx hb dX8_see_17 (by decide) (fun c_6 => ?_) (fun c_6 => ?_)
    · have hf := ite_t hf c_6
      refine lv_iconst (v := (-1 : Int32)) hx hb dX8_see_28 (by decide) ?_
      exact hret (-1 : Int32) t_seenMany t_seen (Option.some.inj hf) _ _ _ _ hP hS dX8_see_29
    · have hf := ite_f hf c_6
      refine lv_aload_n hx hb dX8_see_20 rfl (lv_at hl 0 rfl) ?_
      refine lv_iload_n hx hb dX8_see_21 rfl (lv_at hl 3 rfl) ?_
      obtain ⟨r_7, hc_8, hf⟩ := ob1_e hf
      refine kV_i (wn := [oX8 t_q t_state_q t_roomMany t_doorMany t_stringLong t_laws_q t_lawMany t_readPage_q t_readLaws_q t_readRooms t_readDoors t_readString t_readLawMany t_toldOnce t_highRoom t_highDoor t_tape_q t_taped t_fault t_broken t_brokenAt t_spot t_here t_token t_value t_cuts_q t_letters_q t_work_q t_pages_q t_canBe_q t_leadsOn_q t_seen_q t_seenMany t_heard_q t_heardMany t_isKept_q t_lanes_q t_lengths_q t_cells_q t_torn, aI g t_seen_q 18 t_seen]) (As := [.int p3]) (rest := []) (c_X8_isRoom l g _ t_q t_state_q t_laws_q t_readPage_q t_readLaws_q t_tape_q t_cuts_q t_letters_q t_work_q t_pages_q t_canBe_q t_leadsOn_q t_seen_q t_heard_q t_isKept_q t_lanes_q t_lengths_q t_cells_q t_roomMany t_doorMany t_stringLong t_lawMany t_readRooms t_readDoors t_readString t_readLawMany t_toldOnce t_highRoom t_highDoor t_taped t_fault t_broken t_brokenAt t_spot t_here t_token t_value t_seenMany t_heardMany t_torn p3 r_7 hc_8) ⟨hx, hb, hml, hown, hts⟩ (cwV 1 hts gX8_see_X8_isRoom rfl rfl rfl (by decide +kernel) ⟨by decide, by decide⟩) hK hz hk hP (hD.re rfl) hS hA [0] rfl rfl rfl rfl rfl rfl rfl hl.1 rfl (Nat.le_of_ble_eq_true rfl) dX8_see_22 (fun H locs hP hS => ?_)
      refine lv_if_ne (tgt := 30) hx hb dX8_see_25 (by decide) (fun c_9 => ?_) (fun c_9 => ?_)
      · have hf := ite_f hf c_9
        refine lv_aload_n hx hb dX8_see_30 rfl (lv_at hl 0 rfl) ?_
        refine va_get (D := g.1) (ci := 8) (v := .int t_seenMany) (C := RX8) (T := TX8) (N := 39) hx hb hts inX8 hown hK hP 0 rfl rfl 31 (by decide) k181 (fun _ h9 => h9) rfl dX8_see_31 ?_
        refine lv_bipush (v := (6 : Int32)) hx hb dX8_see_34 (by decide) ?_
        refine lv_icmp_ne (tgt := 42) hx hb dX8_see_36 (by decide) (fun c_10 => ?_) (fun c_10 => ?_)
        · have hf := ite_f hf c_10
          refine lv_aload_n hx hb dX8_see_42 rfl (lv_at hl 0 rfl) ?_
          refine va_get (D := g.1) (ci := 8) (v := .ref t_seen_q) (C := RX8) (T := TX8) (N := 39) hx hb hts inX8 hown hK hP 0 rfl rfl 30 (by decide) k50 (fun _ h9 => h9) rfl dX8_see_43 ?_
          refine lv_iconst (v := (3 : Int32)) hx hb dX8_see_46 (by decide) ?_
          refine lv_aload_n hx hb dX8_see_47 rfl (lv_at hl 0 rfl) ?_
          refine va_get (D := g.1) (ci := 8) (v := .int t_seenMany) (C := RX8) (T := TX8) (N := 39) hx hb hts inX8 hown hK hP 0 rfl rfl 31 (by decide) k181 (fun _ h9 => h9) rfl dX8_see_48 ?_
          refine lv_imul hx hb dX8_see_51 ?_
          refine lv_iload_n hx hb dX8_see_52 rfl (lv_at hl 1 rfl) ?_
          obtain ⟨h_11, hf⟩ := gin_e hf
          obtain ⟨t_seen_12, et_seen_12, hf⟩ := bnd_e hf
          refine va_iast hx hb hK hP (hD.re rfl) hS 1 0 rfl rfl h_11 dX8_see_53 (fun H locs hP _ hS => ?_)
          have hP : va_P g.1 vwCl [oX8 t_q t_state_q t_roomMany t_doorMany t_stringLong t_laws_q t_lawMany t_readPage_q t_readLaws_q t_readRooms t_readDoors t_readString t_readLawMany t_toldOnce t_highRoom t_highDoor t_tape_q t_taped t_fault t_broken t_brokenAt t_spot t_here t_token t_value t_cuts_q t_letters_q t_work_q t_pages_q t_canBe_q t_leadsOn_q t_seen_q t_seenMany t_heard_q t_heardMany t_isKept_q t_lanes_q t_lengths_q t_cells_q t_torn, aI g t_seen_q 18 t_seen_12] H := by rw [et_seen_12]; exact hP
          refine lv_aload_n hx hb dX8_see_54 rfl (lv_at hl 0 rfl) ?_
          refine va_get (D := g.1) (ci := 8) (v := .ref t_seen_q) (C := RX8) (T := TX8) (N := 39) hx hb hts inX8 hown hK hP 0 rfl rfl 30 (by decide) k50 (fun _ h9 => h9) rfl dX8_see_55 ?_
          refine lv_iconst (v := (3 : Int32)) hx hb dX8_see_58 (by decide) ?_
          refine lv_aload_n hx hb dX8_see_59 rfl (lv_at hl 0 rfl) ?_
          refine va_get (D := g.1) (ci := 8) (v := .int t_seenMany) (C := RX8) (T := TX8) (N := 39) hx hb hts inX8 hown hK hP 0 rfl rfl 31 (by decide) k181 (fun _ h9 => h9) rfl dX8_see_60 ?_
          refine lv_imul hx hb dX8_see_63 ?_
          refine lv_iconst (v := (1 : Int32)) hx hb dX8_see_64 (by decide) ?_
          refine lv_iadd hx hb dX8_see_65 ?_
          refine lv_iload_n hx hb dX8_see_66 rfl (lv_at hl 2 rfl) ?_
          obtain ⟨h_13, hf⟩ := gin_e hf
          obtain ⟨t_seen_14, et_seen_14, hf⟩ := bnd_e hf
          refine va_iast hx hb hK hP (hD.re rfl) hS 1 0 rfl rfl h_13 dX8_see_67 (fun H locs hP _ hS => ?_)
          have hP : va_P g.1 vwCl [oX8 t_q t_state_q t_roomMany t_doorMany t_stringLong t_laws_q t_lawMany t_readPage_q t_readLaws_q t_readRooms t_readDoors t_readString t_readLawMany t_toldOnce t_highRoom t_highDoor t_tape_q t_taped t_fault t_broken t_brokenAt t_spot t_here t_token t_value t_cuts_q t_letters_q t_work_q t_pages_q t_canBe_q t_leadsOn_q t_seen_q t_seenMany t_heard_q t_heardMany t_isKept_q t_lanes_q t_lengths_q t_cells_q t_torn, aI g t_seen_q 18 t_seen_14] H := by rw [et_seen_14]; exact hP
          refine lv_aload_n hx hb dX8_see_68 rfl (lv_at hl 0 rfl) ?_
          refine va_get (D := g.1) (ci := 8) (v := .ref t_seen_q) (C := RX8) (T := TX8) (N := 39) hx hb hts inX8 hown hK hP 0 rfl rfl 30 (by decide) k50 (fun _ h9 => h9) rfl dX8_see_69 ?_
          refine lv_iconst (v := (3 : Int32)) hx hb dX8_see_72 (by decide) ?_
          refine lv_aload_n hx hb dX8_see_73 rfl (lv_at hl 0 rfl) ?_
          refine va_get (D := g.1) (ci := 8) (v := .int t_seenMany) (C := RX8) (T := TX8) (N := 39) hx hb hts inX8 hown hK hP 0 rfl rfl 31 (by decide) k181 (fun _ h9 => h9) rfl dX8_see_74 ?_
          refine lv_imul hx hb dX8_see_77 ?_
          refine lv_iconst (v := (2 : Int32)) hx hb dX8_see_78 (by decide) ?_
          refine lv_iadd hx hb dX8_see_79 ?_
          refine lv_iload_n hx hb dX8_see_80 rfl (lv_at hl 3 rfl) ?_
          obtain ⟨h_15, hf⟩ := gin_e hf
          obtain ⟨t_seen_16, et_seen_16, hf⟩ := bnd_e hf
          refine va_iast hx hb hK hP (hD.re rfl) hS 1 0 rfl rfl h_15 dX8_see_81 (fun H locs hP _ hS => ?_)
          have hP : va_P g.1 vwCl [oX8 t_q t_state_q t_roomMany t_doorMany t_stringLong t_laws_q t_lawMany t_readPage_q t_readLaws_q t_readRooms t_readDoors t_readString t_readLawMany t_toldOnce t_highRoom t_highDoor t_tape_q t_taped t_fault t_broken t_brokenAt t_spot t_here t_token t_value t_cuts_q t_letters_q t_work_q t_pages_q t_canBe_q t_leadsOn_q t_seen_q t_seenMany t_heard_q t_heardMany t_isKept_q t_lanes_q t_lengths_q t_cells_q t_torn, aI g t_seen_q 18 t_seen_16] H := by rw [et_seen_16]; exact hP
          refine lv_aload_n hx hb dX8_see_82 rfl (lv_at hl 0 rfl) ?_
          refine lv_dup hx hb dX8_see_83 rfl ?_
          refine va_get (D := g.1) (ci := 8) (v := .int t_seenMany) (C := RX8) (T := TX8) (N := 39) hx hb hts inX8 hown hK hP 0 rfl rfl 31 (by decide) k181 (fun _ h9 => h9) rfl dX8_see_84 ?_
          refine lv_iconst (v := (1 : Int32)) hx hb dX8_see_87 (by decide) ?_
          refine lv_iadd hx hb dX8_see_88 ?_
          obtain ⟨t_seenMany_17, et_seenMany_17, hf⟩ := bnd_e hf
          refine tp_i et_seenMany_17 ?_
          refine va_put (D := g.1) (ci := 8) (v := .int t_seenMany_17) (ty := .int) (C := RX8) (T := TX8) (N := 39) hx hb hts inX8 tyX8 tyX8_ok nmX8 hown hK hP (hD.re rfl) hS 0 rfl rfl 31 (by decide) k181 (fun _ h9 => h9) rfl (by decide +kernel) rfl rfl (Nat.le_of_ble_eq_true rfl) dX8_see_89 (fun H locs hP _ hS => ?_)
          have hP : va_P g.1 vwCl [oX8 t_q t_state_q t_roomMany t_doorMany t_stringLong t_laws_q t_lawMany t_readPage_q t_readLaws_q t_readRooms t_readDoors t_readString t_readLawMany t_toldOnce t_highRoom t_highDoor t_tape_q t_taped t_fault t_broken t_brokenAt t_spot t_here t_token t_value t_cuts_q t_letters_q t_work_q t_pages_q t_canBe_q t_leadsOn_q t_seen_q t_seenMany_17 t_heard_q t_heardMany t_isKept_q t_lanes_q t_lengths_q t_cells_q t_torn, aI g t_seen_q 18 t_seen_16] H := hP
          refine lv_aload_n hx hb dX8_see_92 rfl (lv_at hl 0 rfl) ?_
          refine va_get (D := g.1) (ci := 8) (v := .int t_seenMany_17) (C := RX8) (T := TX8) (N := 39) hx hb hts inX8 hown hK hP 0 rfl rfl 31 (by decide) k181 (fun _ h9 => h9) rfl dX8_see_93 ?_
          exact hret t_seenMany_17 t_seenMany_17 t_seen_16 (Option.some.inj hf) _ _ _ _ hP hS dX8_see_96
        · have hf := ite_t hf c_10
          refine lv_bipush (v := (-3 : Int32)) hx hb dX8_see_39 (by decide) ?_
          exact hret (-3 : Int32) t_seenMany t_seen (Option.some.inj hf) _ _ _ _ hP hS dX8_see_41
      · have hf := ite_t hf c_9
        refine lv_iconst (v := (-1 : Int32)) hx hb dX8_see_28 (by decide) ?_
        exact hret (-1 : Int32) t_seenMany t_seen (Option.some.inj hf) _ _ _ _ hP hS dX8_see_29

def b_X8_sheet_56 (p1 : Int32) (v4_13 : Int32) (t_cells_14 : Nat → Int32) : Option ((Int32 × (Nat → Int32)) ⊕ (Int32 × (Nat → Int32))) :=
 (if (40 : Int32) ≤ v4_13 then
 (some (.inr (v4_13, t_cells_14)))
 else (gin (((40 : Int32) * p1) + v4_13) 160 (bnd (upd t_cells_14 (((40 : Int32) * p1) + v4_13).toNatClampNeg (0 : Int32)) (fun t_cells_18 =>
 (bnd (v4_13 + (1 : Int32)) (fun v4_19 =>
 (some (.inl (v4_19, t_cells_18)))))))))
def f_X8_sheet (t_cells : Nat → Int32) (t_lanes : Nat → Int32) (t_lengths : Nat → Int32) (p1 : Int32) (p2 : Int32) (p3 : Int32) : Option (Int32 × (Nat → Int32) × (Nat → Int32) × (Nat → Int32)) :=
 (ob1 (f_X8_in (p1.toInt64) (0 : Int64) (3 : Int64)) (fun r_1 =>
 (if r_1 = (0 : Int32) then
 (some ((-1 : Int32), t_cells, t_lanes, t_lengths))
 else (ob1 (f_X8_in (p2.toInt64) (0 : Int64) (2 : Int64)) (fun r_4 =>
 (if r_4 = (0 : Int32) then
 (some ((-1 : Int32), t_cells, t_lanes, t_lengths))
 else (if p3 ≤ (40 : Int32) then
 (if (0 : Int32) ≤ p3 then
 (gin p1 4 (bnd (upd t_lanes p1.toNatClampNeg p2) (fun t_lanes_10 =>
 (gin p1 4 (bnd (upd t_lengths p1.toNatClampNeg p3) (fun t_lengths_12 =>
 (ob2 (itr (un2 (b_X8_sheet_56 p1)) FU ((0 : Int32), t_cells)) (fun x4_20 t_cells_21 =>
 (some ((1 : Int32), t_cells_21, t_lanes_10, t_lengths_12))))))))))
 else (some ((-14 : Int32), t_cells, t_lanes, t_lengths)))
 else (some ((-1 : Int32), t_cells, t_lanes, t_lengths)))))))))
abbrev rmX8_sheet : Room := { frames := 1, cells := 0, slots := 0, locals := 25 }
set_option maxHeartbeats 4000000 in
set_option maxRecDepth 100000 in
theorem c_X8_sheet (l : Launch) (g : Gh) (sz : Nat) (t_q t_state_q t_laws_q t_readPage_q t_readLaws_q t_tape_q t_cuts_q t_letters_q t_work_q t_pages_q t_canBe_q t_leadsOn_q t_seen_q t_heard_q t_isKept_q t_lanes_q t_lengths_q t_cells_q : Nat) (t_roomMany : Int32) (t_doorMany : Int32) (t_stringLong : Int32) (t_lawMany : Int32) (t_readRooms : Int32) (t_readDoors : Int32) (t_readString : Int32) (t_readLawMany : Int32) (t_toldOnce : Int32) (t_highRoom : Int32) (t_highDoor : Int32) (t_taped : Int32) (t_fault : Int32) (t_broken : Int32) (t_brokenAt : Int32) (t_spot : Int32) (t_here : Int32) (t_token : Int32) (t_value : Int32) (t_seenMany : Int32) (t_heardMany : Int32) (t_torn : Int32) (t_cells : Nat → Int32) (t_lanes : Nat → Int32) (t_lengths : Nat → Int32) (p1 : Int32) (p2 : Int32) (p3 : Int32) (rr : Int32) (t_cells' : Nat → Int32) (t_lanes' : Nat → Int32) (t_lengths' : Nat → Int32) (hf : f_X8_sheet t_cells t_lanes t_lengths p1 p2 p3 = some (rr, t_cells', t_lanes', t_lengths')) : CI l yX8_sheet wsX8_sheet rmX8_sheet [.ref t_q, .int p1, .int p2, .int p3] g sz [oX8 t_q t_state_q t_roomMany t_doorMany t_stringLong t_laws_q t_lawMany t_readPage_q t_readLaws_q t_readRooms t_readDoors t_readString t_readLawMany t_toldOnce t_highRoom t_highDoor t_tape_q t_taped t_fault t_broken t_brokenAt t_spot t_here t_token t_value t_cuts_q t_letters_q t_work_q t_pages_q t_canBe_q t_leadsOn_q t_seen_q t_seenMany t_heard_q t_heardMany t_isKept_q t_lanes_q t_lengths_q t_cells_q t_torn, aI g t_cells_q 160 t_cells, aI g t_lanes_q 4 t_lanes, aI g t_lengths_q 4 t_lengths] [oX8 t_q t_state_q t_roomMany t_doorMany t_stringLong t_laws_q t_lawMany t_readPage_q t_readLaws_q t_readRooms t_readDoors t_readString t_readLawMany t_toldOnce t_highRoom t_highDoor t_tape_q t_taped t_fault t_broken t_brokenAt t_spot t_here t_token t_value t_cuts_q t_letters_q t_work_q t_pages_q t_canBe_q t_leadsOn_q t_seen_q t_seenMany t_heard_q t_heardMany t_isKept_q t_lanes_q t_lengths_q t_cells_q t_torn, aI g t_cells_q 160 t_cells', aI g t_lanes_q 4 t_lanes', aI g t_lengths_q 4 t_lengths'] rr := by
  refine ent_i (cc := cX8_sheet) (maxL := 5) (by decide) rfl (Nat.le_of_ble_eq_true rfl) ?_
  intro p e s m args below meth c A Q hx hb hml hown hts hK hz hk hA hD hP hS hret ls hl
  have hown : s.vm.findClass RX8 = some m.cls := hown
  have inX8 : ∀ w ∈ u_ws RX8 TX8 39, w ∈ wsX8_sheet := by decide +kernel
  have k60 := hts (.fieldLink RX8 60 "ThreadMovedModel" "lanes" "[I") (by decide +kernel)
  have k63 := hts (.fieldLink RX8 63 "ThreadMovedModel" "lengths" "[I") (by decide +kernel)
  have k66 := hts (.fieldLink RX8 66 "ThreadMovedModel" "cells" "[I") (by decide +kernel)
  have q150 := hts (.constantLong RX8 150 (3)) (by decide +kernel)
  have q194 := hts (.constantLong RX8 194 (2)) (by decide +kernel)
  have hl : lv_has ls 5 [(0, .ref t_q), (1, .int p1), (2, .int p2), (3, .int p3)] := hl
  have hret : ∀ (rrz : Int32) (t_cellsz : Nat → Int32) (t_lanesz : Nat → Int32) (t_lengthsz : Nat → Int32), (rrz, t_cellsz, t_lanesz, t_lengthsz) = (rr, t_cells', t_lanes', t_lengths') → ∀ (H : Heap) (locs : List Loc) (pc : Nat) (ls : Array Slot), va_P g.1 vwCl [oX8 t_q t_state_q t_roomMany t_doorMany t_stringLong t_laws_q t_lawMany t_readPage_q t_readLaws_q t_readRooms t_readDoors t_readString t_readLawMany t_toldOnce t_highRoom t_highDoor t_tape_q t_taped t_fault t_broken t_brokenAt t_spot t_here t_token t_value t_cuts_q t_letters_q t_work_q t_pages_q t_canBe_q t_leadsOn_q t_seen_q t_seenMany t_heard_q t_heardMany t_isKept_q t_lanes_q t_lengths_q t_cells_q t_torn, aI g t_cells_q 160 t_cellsz, aI g t_lanes_q 4 t_lanesz, aI g t_lengths_q 4 t_lengthsz] H → va_S A s.heap H locs → decode cX8_sheet pc = .ok (.ireturn, 1) → W p l e rmX8_sheet s m args below meth c H locs 0 0 Q (F0 m pc ls [.int rrz]) := by
    intro rrz t_cellsz t_lanesz t_lengthsz he H locs pc ls hP hS hd
    cases he
    exact hret H locs pc ls hP hS hd
  unfold f_X8_sheet at hf
  refine lv_iload_n hx hb dX8_sheet_0 rfl (lv_at hl 1 rfl) ?_
  refine lv_i2l hx hb dX8_sheet_1 rfl ?_
  refine lv_lconst (v := (0 : Int64)) hx hb dX8_sheet_2 (by decide) ?_
  refine lv_ldc2 hx hb hown q150 dX8_sheet_3 ?_
  obtain ⟨r_1, hc_2, hf⟩ := ob1_e hf
  refine kS_i (wn := [oX8 t_q t_state_q t_roomMany t_doorMany t_stringLong t_laws_q t_lawMany t_readPage_q t_readLaws_q t_readRooms t_readDoors t_readString t_readLawMany t_toldOnce t_highRoom t_highDoor t_tape_q t_taped t_fault t_broken t_brokenAt t_spot t_here t_token t_value t_cuts_q t_letters_q t_work_q t_pages_q t_canBe_q t_leadsOn_q t_seen_q t_seenMany t_heard_q t_heardMany t_isKept_q t_lanes_q t_lengths_q t_cells_q t_torn, aI g t_cells_q 160 t_cells, aI g t_lanes_q 4 t_lanes, aI g t_lengths_q 4 t_lengths]) (As := [.long (p1.toInt64), .long (0 : Int64), .long (3 : Int64)]) (rest := []) (c_X8_in l g _ (p1.toInt64) (0 : Int64) (3 : Int64) r_1 hc_2) ⟨hx, hb, hml, hown, hts⟩ (va_cwS 3 hts gX8_sheet_X8_in rfl rfl rfl (by decide +kernel) ⟨by decide, by decide⟩) hK hz hk hP (hD.re rfl) hS hA [] rfl rfl rfl rfl rfl hl.1 rfl (Nat.le_of_ble_eq_true rfl) dX8_sheet_6 (fun H locs hP hS => ?_)
  refine lv_if_eq (tgt := 30) hx hb dX8_sheet_9 (by decide) (fun c_3 => ?_) (fun c_3 => ?_)
  · have hf := ite_t hf c_3
    refine lv_iconst (v := (-1 : Int32)) hx hb dX8_sheet_30 (by decide) ?_
    exact hret (-1 : Int32) t_cells t_lanes t_lengths (Option.some.inj hf) _ _ _ _ hP hS dX8_sheet_31
  · have hf := ite_f hf c_3
    refine lv_iload_n hx hb dX8_sheet_12 rfl (lv_at hl 2 rfl) ?_
    refine lv_i2l hx hb dX8_sheet_13 rfl ?_
    refine lv_lconst (v := (0 : Int64)) hx hb dX8_sheet_14 (by decide) ?_
    refine lv_ldc2 hx hb hown q194 dX8_sheet_15 ?_
    obtain ⟨r_4, hc_5, hf⟩ := ob1_e hf
    refine kS_i (wn := [oX8 t_q t_state_q t_roomMany t_doorMany t_stringLong t_laws_q t_lawMany t_readPage_q t_readLaws_q t_readRooms t_readDoors t_readString t_readLawMany t_toldOnce t_highRoom t_highDoor t_tape_q t_taped t_fault t_broken t_brokenAt t_spot t_here t_token t_value t_cuts_q t_letters_q t_work_q t_pages_q t_canBe_q t_leadsOn_q t_seen_q t_seenMany t_heard_q t_heardMany t_isKept_q t_lanes_q t_lengths_q t_cells_q t_torn, aI g t_cells_q 160 t_cells, aI g t_lanes_q 4 t_lanes, aI g t_lengths_q 4 t_lengths]) (As := [.long (p2.toInt64), .long (0 : Int64), .long (2 : Int64)]) (rest := []) (c_X8_in l g _ (p2.toInt64) (0 : Int64) (2 : Int64) r_4 hc_5) ⟨hx, hb, hml, hown, hts⟩ (va_cwS 3 hts gX8_sheet_X8_in rfl rfl rfl (by decide +kernel) ⟨by decide, by decide⟩) hK hz hk hP (hD.re rfl) hS hA [] rfl rfl rfl rfl rfl hl.1 rfl (Nat.le_of_ble_eq_true rfl) dX8_sheet_18 (fun H locs hP hS => ?_)
    refine lv_if_eq (tgt := 30) hx hb dX8_sheet_21 (by decide) (fun c_6 => ?_) (fun c_6 => ?_)
    · have hf := ite_t hf c_6
      refine lv_iconst (v := (-1 : Int32)) hx hb dX8_sheet_30 (by decide) ?_
      exact hret (-1 : Int32) t_cells t_lanes t_lengths (Option.some.inj hf) _ _ _ _ hP hS dX8_sheet_31
    · have hf := ite_f hf c_6
      refine lv_iload_n hx hb dX8_sheet_24 rfl (lv_at hl 3 rfl) ?_
      refine lv_bipush (v := (40 : Int32)) hx hb dX8_sheet_25 (by decide) ?_
      refine lv_icmp_le (tgt := 32) hx hb dX8_sheet_27 (by decide) (fun c_7 => ?_) (fun c_7 => ?_)
      · have hf := ite_t hf c_7
        refine lv_iload_n hx hb dX8_sheet_32 rfl (lv_at hl 3 rfl) ?_
        refine lv_if_ge (tgt := 39) hx hb dX8_sheet_33 (by decide) (fun c_8 => ?_) (fun c_8 => ?_)
        · have hf := ite_t hf c_8
          refine lv_aload_n hx hb dX8_sheet_39 rfl (lv_at hl 0 rfl) ?_
          refine va_get (D := g.1) (ci := 8) (v := .ref t_lanes_q) (C := RX8) (T := TX8) (N := 39) hx hb hts inX8 hown hK hP 0 rfl rfl 35 (by decide) k60 (fun _ h9 => h9) rfl dX8_sheet_40 ?_
          refine lv_iload_n hx hb dX8_sheet_43 rfl (lv_at hl 1 rfl) ?_
          refine lv_iload_n hx hb dX8_sheet_44 rfl (lv_at hl 2 rfl) ?_
          obtain ⟨h_9, hf⟩ := gin_e hf
          obtain ⟨t_lanes_10, et_lanes_10, hf⟩ := bnd_e hf
          refine va_iast hx hb hK hP (hD.re rfl) hS 2 0 rfl rfl h_9 dX8_sheet_45 (fun H locs hP _ hS => ?_)
          have hP : va_P g.1 vwCl [oX8 t_q t_state_q t_roomMany t_doorMany t_stringLong t_laws_q t_lawMany t_readPage_q t_readLaws_q t_readRooms t_readDoors t_readString t_readLawMany t_toldOnce t_highRoom t_highDoor t_tape_q t_taped t_fault t_broken t_brokenAt t_spot t_here t_token t_value t_cuts_q t_letters_q t_work_q t_pages_q t_canBe_q t_leadsOn_q t_seen_q t_seenMany t_heard_q t_heardMany t_isKept_q t_lanes_q t_lengths_q t_cells_q t_torn, aI g t_cells_q 160 t_cells, aI g t_lanes_q 4 t_lanes_10, aI g t_lengths_q 4 t_lengths] H := by rw [et_lanes_10]; exact hP
          refine lv_aload_n hx hb dX8_sheet_46 rfl (lv_at hl 0 rfl) ?_
          refine va_get (D := g.1) (ci := 8) (v := .ref t_lengths_q) (C := RX8) (T := TX8) (N := 39) hx hb hts inX8 hown hK hP 0 rfl rfl 36 (by decide) k63 (fun _ h9 => h9) rfl dX8_sheet_47 ?_
          refine lv_iload_n hx hb dX8_sheet_50 rfl (lv_at hl 1 rfl) ?_
          refine lv_iload_n hx hb dX8_sheet_51 rfl (lv_at hl 3 rfl) ?_
          obtain ⟨h_11, hf⟩ := gin_e hf
          obtain ⟨t_lengths_12, et_lengths_12, hf⟩ := bnd_e hf
          refine va_iast hx hb hK hP (hD.re rfl) hS 3 0 rfl rfl h_11 dX8_sheet_52 (fun H locs hP _ hS => ?_)
          have hP : va_P g.1 vwCl [oX8 t_q t_state_q t_roomMany t_doorMany t_stringLong t_laws_q t_lawMany t_readPage_q t_readLaws_q t_readRooms t_readDoors t_readString t_readLawMany t_toldOnce t_highRoom t_highDoor t_tape_q t_taped t_fault t_broken t_brokenAt t_spot t_here t_token t_value t_cuts_q t_letters_q t_work_q t_pages_q t_canBe_q t_leadsOn_q t_seen_q t_seenMany t_heard_q t_heardMany t_isKept_q t_lanes_q t_lengths_q t_cells_q t_torn, aI g t_cells_q 160 t_cells, aI g t_lanes_q 4 t_lanes_10, aI g t_lengths_q 4 t_lengths_12] H := by rw [et_lengths_12]; exact hP
          refine lv_iconst (v := (0 : Int32)) hx hb dX8_sheet_53 (by decide) ?_
          refine lv_istore (lv' := [(4, .int (0 : Int32)), (0, .ref t_q), (1, .int p1), (2, .int p2), (3, .int p3)]) hx hb dX8_sheet_54 hl (by decide) rfl (fun ls hl => ?_)
          obtain ⟨x4_20, t_cells_21, ho_15, hf⟩ := ob2_e hf
          have K_15 : ∀ (x4_20y : Int32) (t_cells_21y : Nat → Int32), x4_20 = x4_20y → t_cells_21 = t_cells_21y → ∀ (H : Heap) (locs : List Loc) (ls : Array Slot), va_P g.1 vwCl [oX8 t_q t_state_q t_roomMany t_doorMany t_stringLong t_laws_q t_lawMany t_readPage_q t_readLaws_q t_readRooms t_readDoors t_readString t_readLawMany t_toldOnce t_highRoom t_highDoor t_tape_q t_taped t_fault t_broken t_brokenAt t_spot t_here t_token t_value t_cuts_q t_letters_q t_work_q t_pages_q t_canBe_q t_leadsOn_q t_seen_q t_seenMany t_heard_q t_heardMany t_isKept_q t_lanes_q t_lengths_q t_cells_q t_torn, aI g t_cells_q 160 t_cells_21y, aI g t_lanes_q 4 t_lanes_10, aI g t_lengths_q 4 t_lengths_12] H → va_S A s.heap H locs → lv_has ls 5 [] → W p l e rmX8_sheet s m args below meth c H locs 0 0 Q (F0 m 82 ls []) := by
            intro x4_20y t_cells_21y ey0 ey1 H locs ls hP hS hl
            subst ey0
            subst ey1
            refine lv_iconst (v := (1 : Int32)) hx hb dX8_sheet_82 (by decide) ?_
            exact hret (1 : Int32) t_cells_21 t_lanes_10 t_lengths_12 (Option.some.inj hf) _ _ _ _ hP hS dX8_sheet_83
          have L_15 : ∀ (n : Nat) (v4_13 : Int32) (t_cells_14 : Nat → Int32), itr (un2 (b_X8_sheet_56 p1)) n (v4_13, t_cells_14) = some (x4_20, t_cells_21) → ∀ (H : Heap) (locs : List Loc) (ls : Array Slot), va_P g.1 vwCl [oX8 t_q t_state_q t_roomMany t_doorMany t_stringLong t_laws_q t_lawMany t_readPage_q t_readLaws_q t_readRooms t_readDoors t_readString t_readLawMany t_toldOnce t_highRoom t_highDoor t_tape_q t_taped t_fault t_broken t_brokenAt t_spot t_here t_token t_value t_cuts_q t_letters_q t_work_q t_pages_q t_canBe_q t_leadsOn_q t_seen_q t_seenMany t_heard_q t_heardMany t_isKept_q t_lanes_q t_lengths_q t_cells_q t_torn, aI g t_cells_q 160 t_cells_14, aI g t_lanes_q 4 t_lanes_10, aI g t_lengths_q 4 t_lengths_12] H → va_S A s.heap H locs → lv_has ls 5 [(0, .ref t_q), (1, .int p1), (4, .int v4_13)] → W p l e rmX8_sheet s m args below meth c H locs 0 0 Q (F0 m 56 ls []) := by
            refine itr_ind2 ?_
            intro v4_13 t_cells_14 z_15 hf hrec hex H locs ls hP hS hl
            unfold b_X8_sheet_56 at hf
            refine lv_iload hx hb dX8_sheet_56 (lv_at hl 2 rfl) ?_
            refine lv_bipush (v := (40 : Int32)) hx hb dX8_sheet_58 (by decide) ?_
            refine lv_icmp_ge (tgt := 82) hx hb dX8_sheet_60 (by decide) (fun c_16 => ?_) (fun c_16 => ?_)
            · have hf := ite_t hf c_16
              exact K_15 v4_13 t_cells_14 (congrArg (fun t => t.1) (hex _ (Option.some.inj hf).symm).symm) (congrArg (fun t => t.2) (hex _ (Option.some.inj hf).symm).symm) _ _ _ hP hS (lv_sub hl [] rfl)
            · have hf := ite_f hf c_16
              refine lv_aload_n hx hb dX8_sheet_63 rfl (lv_at hl 0 rfl) ?_
              refine va_get (D := g.1) (ci := 8) (v := .ref t_cells_q) (C := RX8) (T := TX8) (N := 39) hx hb hts inX8 hown hK hP 0 rfl rfl 37 (by decide) k66 (fun _ h9 => h9) rfl dX8_sheet_64 ?_
              refine lv_bipush (v := (40 : Int32)) hx hb dX8_sheet_67 (by decide) ?_
              refine lv_iload_n hx hb dX8_sheet_69 rfl (lv_at hl 1 rfl) ?_
              refine lv_imul hx hb dX8_sheet_70 ?_
              refine lv_iload hx hb dX8_sheet_71 (lv_at hl 2 rfl) ?_
              refine lv_iadd hx hb dX8_sheet_73 ?_
              refine lv_iconst (v := (0 : Int32)) hx hb dX8_sheet_74 (by decide) ?_
              obtain ⟨h_17, hf⟩ := gin_e hf
              obtain ⟨t_cells_18, et_cells_18, hf⟩ := bnd_e hf
              refine va_iast hx hb hK hP (hD.re rfl) hS 1 0 rfl rfl h_17 dX8_sheet_75 (fun H locs hP _ hS => ?_)
              have hP : va_P g.1 vwCl [oX8 t_q t_state_q t_roomMany t_doorMany t_stringLong t_laws_q t_lawMany t_readPage_q t_readLaws_q t_readRooms t_readDoors t_readString t_readLawMany t_toldOnce t_highRoom t_highDoor t_tape_q t_taped t_fault t_broken t_brokenAt t_spot t_here t_token t_value t_cuts_q t_letters_q t_work_q t_pages_q t_canBe_q t_leadsOn_q t_seen_q t_seenMany t_heard_q t_heardMany t_isKept_q t_lanes_q t_lengths_q t_cells_q t_torn, aI g t_cells_q 160 t_cells_18, aI g t_lanes_q 4 t_lanes_10, aI g t_lengths_q 4 t_lengths_12] H := by rw [et_cells_18]; exact hP
              obtain ⟨v4_19, ev4_19, hf⟩ := bnd_e hf
              refine lv_iinc (v := v4_19) (lv' := [(4, .int v4_19), (0, .ref t_q), (1, .int p1)]) hx hb dX8_sheet_76 hl (k := 2) rfl (by rw [ev4_19]; rfl) (by decide) rfl (fun ls hl => ?_)
              refine lv_goto (tgt := 56) hx hb dX8_sheet_79 (by decide) ?_
              exact hrec v4_19 t_cells_18 (Option.some.inj hf).symm _ _ _ hP hS (lv_sub hl [1, 2, 0] rfl)
          exact L_15 FU (0 : Int32) t_cells ho_15 _ _ _ hP hS (lv_sub hl [1, 2, 0] rfl)
        · have hf := ite_f hf c_8
          refine lv_bipush (v := (-14 : Int32)) hx hb dX8_sheet_36 (by decide) ?_
          exact hret (-14 : Int32) t_cells t_lanes t_lengths (Option.some.inj hf) _ _ _ _ hP hS dX8_sheet_38
      · have hf := ite_f hf c_7
        refine lv_iconst (v := (-1 : Int32)) hx hb dX8_sheet_30 (by decide) ?_
        exact hret (-1 : Int32) t_cells t_lanes t_lengths (Option.some.inj hf) _ _ _ _ hP hS dX8_sheet_31
