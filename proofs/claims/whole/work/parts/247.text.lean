/-! ===== pure 47: text ===== -/
theorem HI_le {R h : Nat} (hR : R < 1000) (hh : h < 1000) : (nI R ≤ HI h) ↔ ¬ h ≤ R := by
  unfold HI
  rw [fa_le, nI_toInt (by omega)]
  cases h with
  | zero =>
    rw [show (nI 0 - (1 : Int32)).toInt = -1 from by decide]
    omega
  | succ k =>
    rw [show nI (k + 1) - (1 : Int32) = nI k from nI_pred k, nI_toInt (by omega)]
    omega
theorem HI_lt {D h : Nat} (hD : D < 1000) (hh : h < 1000) : (HI h < nI D) ↔ h ≤ D := by
  unfold HI
  rw [fa_lt, nI_toInt (by omega)]
  cases h with
  | zero =>
    rw [show (nI 0 - (1 : Int32)).toInt = -1 from by decide]
    omega
  | succ k =>
    rw [show nI (k + 1) - (1 : Int32) = nI k from nI_pred k, nI_toInt (by omega)]
    omega
theorem enb_eq {be : Option Nat} {hs : Nat} (hs7 : hs < 7) (hb : ∀ x, be = some x → x < 7) : (enb be = nI hs + 1) ↔ be = some hs := by
  rw [show nI hs + (1 : Int32) = nI (hs + 1) from nI_1 hs]
  cases be with
  | none => exact ⟨fun h => absurd h.symm (nI_ne0 (by omega) (by omega)), fun h => by cases h⟩
  | some x =>
    have := hb x rfl
    exact ⟨fun h => by have := nI_inj (a := x + 1) (b := hs + 1) (by omega) (by omega) h; rw [show x = hs by omega], fun h => by cases h; rfl⟩
set_option maxHeartbeats 4000000 in
theorem eq_text {t_keptImages : Int32} {t_tornFault : Int32} {t_plan_rooms : Int32} {t_plan_doorCount : Int32} {t_plan_ruleCount : Int32} {t_plan_stringLength : Int32} {t_plan_firstEnds : Nat → Int32} {t_plan_rules : Nat → Int32} {t_now_barred : Int32} {t_now_period : Int32} {t_now_his : Int32} {t_now_beast : Int32} {t_now_habit : Int32} {t_now_onString : Int32} {t_now_step : Int32} {t_now_eaten : Int32} {t_now_secondEnds : Nat → Int32} {t_now_string : Nat → Int32} {t_images_0_barred : Int32} {t_images_0_period : Int32} {t_images_0_his : Int32} {t_images_0_beast : Int32} {t_images_0_habit : Int32} {t_images_0_onString : Int32} {t_images_0_step : Int32} {t_images_0_eaten : Int32} {t_images_0_secondEnds : Nat → Int32} {t_images_0_string : Nat → Int32} {t_images_1_barred : Int32} {t_images_1_period : Int32} {t_images_1_his : Int32} {t_images_1_beast : Int32} {t_images_1_habit : Int32} {t_images_1_onString : Int32} {t_images_1_step : Int32} {t_images_1_eaten : Int32} {t_images_1_secondEnds : Nat → Int32} {t_images_1_string : Nat → Int32} {t_ahead_secondEnds : Nat → Int32} {t_ahead_string : Nat → Int32} {t_before_secondEnds : Nat → Int32} {t_before_string : Nat → Int32} {t_reader_state_secondEnds : Nat → Int32} {t_reader_state_string : Nat → Int32} {t_reader_plan_firstEnds : Nat → Int32} {t_reader_plan_rules : Nat → Int32} {t_reader_length : Int32} {t_reader_fault : Int32} {t_reader_tape : Nat → Int32} {t_seen_size : Int32} {t_seen_times : Nat → Int32} {t_seen_subjects : Nat → Int32} {t_seen_values : Nat → Int32} {t_heard_size : Int32} {t_heard_times : Nat → Int32} {t_heard_subjects : Nat → Int32} {t_heard_values : Nat → Int32} {t_sheets_0_lane : Int32} {t_sheets_0_size : Int32} {t_sheets_0_cells : Nat → Int32} {t_sheets_1_lane : Int32} {t_sheets_1_size : Int32} {t_sheets_1_cells : Nat → Int32} {t_sheets_2_lane : Int32} {t_sheets_2_size : Int32} {t_sheets_2_cells : Nat → Int32} {t_sheets_3_lane : Int32} {t_sheets_3_size : Int32} {t_sheets_3_cells : Nat → Int32} {m_roomMany : Int32} {m_doorMany : Int32} {m_lawMany : Int32} {m_stringLong : Int32} {m_laws : Nat → Int32} {m_state : Nat → Int32} {m_tape : Nat → Int32} {m_taped : Int32} {m_fault : Int32} {m_seen : Nat → Int32} {m_seenMany : Int32} {m_heard : Nat → Int32} {m_heardMany : Int32} {m_isKept : Nat → Int32} {m_lanes : Nat → Int32} {m_lengths : Nat → Int32} {m_cells : Nat → Int32} {m_torn : Int32} {m_cuts : Nat → Int32} {m_letters : Nat → Int32} (t_reader_faultPlace : Int32) (t_reader_kind : Int32) (t_reader_start : Int32) (t_reader_value : Int32) (m_brokenAt : Int32) (m_here : Int32) (m_token : Int32) (m_value : Int32) (m_readLaws : Nat → Int32) (m_readPage : Nat → Int32) (h : Rel t_keptImages t_tornFault t_plan_rooms t_plan_doorCount t_plan_ruleCount t_plan_stringLength t_plan_firstEnds t_plan_rules t_now_barred t_now_period t_now_his t_now_beast t_now_habit t_now_onString t_now_step t_now_eaten t_now_secondEnds t_now_string t_images_0_barred t_images_0_period t_images_0_his t_images_0_beast t_images_0_habit t_images_0_onString t_images_0_step t_images_0_eaten t_images_0_secondEnds t_images_0_string t_images_1_barred t_images_1_period t_images_1_his t_images_1_beast t_images_1_habit t_images_1_onString t_images_1_step t_images_1_eaten t_images_1_secondEnds t_images_1_string t_ahead_secondEnds t_ahead_string t_before_secondEnds t_before_string t_reader_state_secondEnds t_reader_state_string t_reader_plan_firstEnds t_reader_plan_rules t_reader_length t_reader_fault t_reader_tape t_seen_size t_seen_times t_seen_subjects t_seen_values t_heard_size t_heard_times t_heard_subjects t_heard_values t_sheets_0_lane t_sheets_0_size t_sheets_0_cells t_sheets_1_lane t_sheets_1_size t_sheets_1_cells t_sheets_2_lane t_sheets_2_size t_sheets_2_cells t_sheets_3_lane t_sheets_3_size t_sheets_3_cells m_roomMany m_doorMany m_lawMany m_stringLong m_laws m_state m_tape m_taped m_fault m_seen m_seenMany m_heard m_heardMany m_isKept m_lanes m_lengths m_cells m_torn m_cuts m_letters) : ∃ (rr : Int32) (t_keptImages9 : Int32) (t_heard_size9 : Int32) (t_now_barred9 : Int32) (t_now_beast9 : Int32) (t_now_eaten9 : Int32) (t_now_habit9 : Int32) (t_now_his9 : Int32) (t_now_onString9 : Int32) (t_now_period9 : Int32) (t_now_step9 : Int32) (t_now_secondEnds9 : Nat → Int32) (t_now_string9 : Nat → Int32) (t_plan_doorCount9 : Int32) (t_plan_rooms9 : Int32) (t_plan_ruleCount9 : Int32) (t_plan_stringLength9 : Int32) (t_plan_firstEnds9 : Nat → Int32) (t_plan_rules9 : Nat → Int32) (t_reader_fault9 : Int32) (t_reader_faultPlace9 : Int32) (t_reader_kind9 : Int32) (t_reader_length9 : Int32) (t_reader_lines9 : Int32) (t_reader_place9 : Int32) (t_reader_start9 : Int32) (t_reader_told9 : Int32) (t_reader_value9 : Int32) (t_reader_plan_doorCount9 : Int32) (t_reader_plan_rooms9 : Int32) (t_reader_plan_ruleCount9 : Int32) (t_reader_plan_stringLength9 : Int32) (t_reader_plan_firstEnds9 : Nat → Int32) (t_reader_plan_rules9 : Nat → Int32) (t_reader_state_barred9 : Int32) (t_reader_state_beast9 : Int32) (t_reader_state_eaten9 : Int32) (t_reader_state_habit9 : Int32) (t_reader_state_his9 : Int32) (t_reader_state_onString9 : Int32) (t_reader_state_period9 : Int32) (t_reader_state_step9 : Int32) (t_reader_state_secondEnds9 : Nat → Int32) (t_seen_size9 : Int32) (m_broken9 : Int32) (m_brokenAt9 : Int32) (m_doorMany9 : Int32) (m_fault9 : Int32) (m_heardMany9 : Int32) (m_here9 : Int32) (m_highDoor9 : Int32) (m_highRoom9 : Int32) (m_lawMany9 : Int32) (m_readDoors9 : Int32) (m_readLawMany9 : Int32) (m_readRooms9 : Int32) (m_readString9 : Int32) (m_roomMany9 : Int32) (m_seenMany9 : Int32) (m_spot9 : Int32) (m_stringLong9 : Int32) (m_taped9 : Int32) (m_token9 : Int32) (m_toldOnce9 : Int32) (m_value9 : Int32) (m_isKept9 : Nat → Int32) (m_laws9 : Nat → Int32) (m_readLaws9 : Nat → Int32) (m_readPage9 : Nat → Int32) (m_state9 : Nat → Int32), f_X7_text t_keptImages t_heard_size t_now_barred t_now_period t_now_his t_now_beast t_now_habit t_now_onString t_now_step t_now_eaten t_now_secondEnds t_now_string t_plan_rooms t_plan_doorCount t_plan_ruleCount t_plan_stringLength t_plan_firstEnds t_plan_rules t_reader_length t_reader_faultPlace t_reader_kind t_reader_start t_reader_value t_reader_plan_firstEnds t_reader_plan_rules t_reader_state_secondEnds t_reader_state_string t_reader_tape t_seen_size = some (rr, t_keptImages9, t_heard_size9, t_now_barred9, t_now_beast9, t_now_eaten9, t_now_habit9, t_now_his9, t_now_onString9, t_now_period9, t_now_step9, t_now_secondEnds9, t_now_string9, t_plan_doorCount9, t_plan_rooms9, t_plan_ruleCount9, t_plan_stringLength9, t_plan_firstEnds9, t_plan_rules9, t_reader_fault9, t_reader_faultPlace9, t_reader_kind9, t_reader_length9, t_reader_lines9, t_reader_place9, t_reader_start9, t_reader_told9, t_reader_value9, t_reader_plan_doorCount9, t_reader_plan_rooms9, t_reader_plan_ruleCount9, t_reader_plan_stringLength9, t_reader_plan_firstEnds9, t_reader_plan_rules9, t_reader_state_barred9, t_reader_state_beast9, t_reader_state_eaten9, t_reader_state_habit9, t_reader_state_his9, t_reader_state_onString9, t_reader_state_period9, t_reader_state_step9, t_reader_state_secondEnds9, t_seen_size9) ∧ f_X8_text m_roomMany m_doorMany m_stringLong m_lawMany m_taped m_brokenAt m_here m_token m_value m_seenMany m_heardMany m_cuts m_isKept m_laws m_letters m_readLaws m_readPage m_state m_tape = some (rr, m_broken9, m_brokenAt9, m_doorMany9, m_fault9, m_heardMany9, m_here9, m_highDoor9, m_highRoom9, m_lawMany9, m_readDoors9, m_readLawMany9, m_readRooms9, m_readString9, m_roomMany9, m_seenMany9, m_spot9, m_stringLong9, m_taped9, m_token9, m_toldOnce9, m_value9, m_isKept9, m_laws9, m_readLaws9, m_readPage9, m_state9) ∧ Rel t_keptImages9 t_tornFault t_plan_rooms9 t_plan_doorCount9 t_plan_ruleCount9 t_plan_stringLength9 t_plan_firstEnds9 t_plan_rules9 t_now_barred9 t_now_period9 t_now_his9 t_now_beast9 t_now_habit9 t_now_onString9 t_now_step9 t_now_eaten9 t_now_secondEnds9 t_now_string9 t_images_0_barred t_images_0_period t_images_0_his t_images_0_beast t_images_0_habit t_images_0_onString t_images_0_step t_images_0_eaten t_images_0_secondEnds t_images_0_string t_images_1_barred t_images_1_period t_images_1_his t_images_1_beast t_images_1_habit t_images_1_onString t_images_1_step t_images_1_eaten t_images_1_secondEnds t_images_1_string t_ahead_secondEnds t_ahead_string t_before_secondEnds t_before_string t_reader_state_secondEnds9 t_reader_state_string t_reader_plan_firstEnds9 t_reader_plan_rules9 t_reader_length9 t_reader_fault9 t_reader_tape t_seen_size9 t_seen_times t_seen_subjects t_seen_values t_heard_size9 t_heard_times t_heard_subjects t_heard_values t_sheets_0_lane t_sheets_0_size t_sheets_0_cells t_sheets_1_lane t_sheets_1_size t_sheets_1_cells t_sheets_2_lane t_sheets_2_size t_sheets_2_cells t_sheets_3_lane t_sheets_3_size t_sheets_3_cells m_roomMany9 m_doorMany9 m_lawMany9 m_stringLong9 m_laws9 m_state9 m_tape m_taped9 m_fault9 m_seen m_seenMany9 m_heard m_heardMany9 m_isKept9 m_lanes m_lengths m_cells m_torn m_cuts m_letters := by
  obtain ⟨R, Dn, K, SL, a, rl, hPC, hPM, hPO, hPg, hI0, hI1, hKp, hAh, hBf, hRs, hRp, hTp, hF, hSn, hHd, hS0, hS1, hS2, hS3, hTo, hCn⟩ := h
  obtain ⟨n, hn, rfl, rfl, hby⟩ := hTp
  obtain ⟨w, hw⟩ : ∃ w : Nat → Nat, ∀ i, i < n → w i < 256 ∧ m_tape i = nI (w i) ∧ t_reader_tape i = (nI (w i)).toInt8.toInt32 :=
    ⟨fun i => if h : i < n then Classical.choose (hby i h) else 0, fun i hi => by simp only [hi, dif_pos]; exact Classical.choose_spec (hby i hi)⟩
  have hT : TP w n t_reader_tape m_tape := ⟨hn, hw⟩
  obtain ⟨rb, rs, rfl, hb7, hbz, rfl, hsz, hs10⟩ := hRs
  obtain ⟨ra, rr_, rfl, ha7, haz, rfl, hrz, hr210⟩ := hRp
  obtain ⟨rp, eb, hz⟩ := m_begins m_readPage
  obtain ⟨cf, cg, ck, cp, cs, cv, ec, hlc⟩ := p_tok (S := .inl 0) (fault := 0) (fp := t_reader_faultPlace) (kind := t_reader_kind) (place := 0) (start := t_reader_start) (value := t_reader_value) hT ⟨Nat.zero_le n, rfl, rfl⟩
  obtain ⟨mf, mg, mk, mp, ms, mv, em, hlm⟩ := m_tok (S := .inl 0) (fault := 0) (fp := m_brokenAt) (kind := m_token) (place := 0) (start := m_here) (value := m_value) hT ⟨Nat.zero_le n, rfl, rfl⟩
  have hAW : AW ra rr_ rb := ⟨ha7, haz, hb7, hbz, hr210, hrz⟩
  have hrw : RwO (rI ra) (rI rr_) (rI rb) 0 0 := ⟨ra, rr_, rb, rfl, rfl, rfl, hAW, 0, 0, rfl, rfl, by omega, by omega⟩
  have hdr : DRel 0 0 2 0 12 (rI ra) (rI rr_) 0 (-4) 0 0 1 (rI rb) (-1) (-1) 0 0 2 12 0 m_readLaws rp :=
    ⟨2, 0, 0, 12, ra, rr_, 0, 1, 0, none, 0, rb, 0, 0, 0, 0, ⟨⟨by omega, by omega, by omega, by omega, by omega⟩, hAW, ⟨by decide, by omega, by omega, by omega, fun x hx => (by cases hx), by omega⟩, ⟨by omega, by omega, fun j _ => (by rw [Nat.zero_testBit, Nat.zero_testBit]), fun _ => rfl, fun _ => rfl⟩, ⟨by omega, by omega, fun Y hY => ⟨fun _ => ⟨fun d hd => absurd hd (Nat.not_lt_zero _), hY, fun x hx => (by cases hx)⟩, fun _ => Nat.zero_le _⟩, fun Y => ⟨fun _ k hk => absurd hk (Nat.not_lt_zero _), fun _ => Nat.zero_le _⟩⟩⟩, ⟨fun d hd => absurd hd (Nat.not_lt_zero _), hz 30 (by omega), hz 31 (by omega), hz 32 (by omega), hz 33 (by omega), fun k _ hk => hz k hk, fun d _ hd => hz _ (by omega), fun k hk => absurd hk (Nat.not_lt_zero _)⟩, ⟨rfl, rfl, rfl, rfl, rfl, rfl, rfl, rfl, rfl, rfl, rfl, rfl, rfl⟩, ⟨rfl, rfl, rfl, rfl, rfl, rfl, rfl⟩⟩
  obtain ⟨T', L, f', g', k', p', s', v', t', dc', rooms', rc', sl', fe', rules', bd', beast', hab', his', per', se', mf', mg', mk', mp', ms', mv', mhD', mhR', rd', rk', rr', rs', tl', rw_', rp', o1, o2, o3, o4, o5, o6, o7⟩ := tape_loop hT hCn n (lx w n (.inl 0)) 0 FU cf cg ck cp cs cv 0 0 2 0 12 (rI ra) (rI rr_) 0 (-4) 0 0 1 (rI rb) mf mg mk mp ms mv (-1) (-1) 0 0 2 12 0 m_readLaws rp (by cases lx w n (.inl 0) with | inl p => exact Nat.sub_le _ _ | inr x => exact Nat.zero_le _) (by unfold FU; omega) (by omega) (fun p9 h => by have := Sum.inl.inj (lx_inl h).1; omega) hlc hlm hrw (fun _ _ => hdr)
  have ec : f_X3_nextToken (nI n) (0 : Int32) t_reader_faultPlace (0 : Int32) t_reader_kind t_reader_start t_reader_value t_reader_tape = some (cf, cg, ck, cp, cs, cv) := ec
  have em : f_X8_step (nI n) (0 : Int32) m_brokenAt (0 : Int32) m_here m_token m_value m_tape = some (mf, mg, ms, mp, mk, mv) := em
  have o1 : itr (un20 (b_X3_readTape_38 (nI n) t_reader_tape)) FU (cf, cg, ck, (0 : Int32), cp, cs, (0 : Int32), cv, (0 : Int32), (2 : Int32), (0 : Int32), (12 : Int32), rI ra, rI rr_, (0 : Int32), (-4 : Int32), (0 : Int32), (0 : Int32), (1 : Int32), rI rb) = some (f', g', k', nI L, p', s', t', v', dc', rooms', rc', sl', fe', rules', bd', beast', hab', his', per', se') := o1
  have o2 : itr (un16 (b_X8_text_10 (nI n) m_cuts m_letters m_tape)) FU ((0 : Int32), mf, mg, ms, (-1 : Int32), (-1 : Int32), (0 : Int32), (0 : Int32), (2 : Int32), (12 : Int32), mp, mk, (0 : Int32), mv, m_readLaws, rp) = some (nI L, mf', mg', ms', mhD', mhR', rd', rk', rr', rs', mp', mk', tl', mv', rw_', rp') := o2
  unfold f_X7_text f_X3_readTape f_X8_text f_X2_reset f_X6_reset
  rw [ob4_s, ob8_s, ec, ob6_s, o1, ob20_s, eb, ob10_s, em, ob6_s, o2, ob16_s, jn2_s]
  dsimp only
  cases T' with
  | inr x =>
    obtain ⟨ra', rl', rb', rfl, rfl, rfl, hAW', Dn', K', rfl, rfl, hDn', hK'⟩ := o6
    obtain ⟨x1, x2, x3, x4, _⟩ := o4
    obtain ⟨y1, y2, y3, y4, _⟩ := o5
    subst x3; subst x4; subst y3; subst y4
    have hne : ¬ nI x.1 = 0 := nI_ne0 x1 (by omega)
    rw [p_checkBad hDn' hK' hAW'.2.2.2.2.1 hne, ob2_s, ob24_s, if_neg hne, if_neg hne, jn2_s, if_neg hne]
    dsimp only
    rw [if_neg (show ¬ nI x.1 ≤ (0 : Int32) from nI_nle x1 (by omega))]
    exact ⟨_, _, _, _, _, _, _, _, _, _, _, _, _, _, _, _, _, _, _, _, _, _, _, _, _, _, _, _, _, _, _, _, _, _, _, _, _, _, _, _, _, _, _, _, _, _, _, _, _, _, _, _, _, _, _, _, _, _, _, _, _, _, _, _, _, _, _, _, _, _, rfl, rfl, R, Dn, K, SL, a, rl, hPC, hPM, hPO, hPg, hI0, hI1, hKp, hAh, hBf, ⟨rb', rs, rfl, hAW'.2.2.1, hAW'.2.2.2.1, rfl, hsz, hs10⟩, ⟨ra', rl', rfl, hAW'.1, hAW'.2.1, rfl, hAW'.2.2.2.2.2, hAW'.2.2.2.2.1⟩, ⟨0, by omega, rfl, rfl, fun i hi => absurd hi (Nat.not_lt_zero _)⟩, rfl, hSn, hHd, hS0, hS1, hS2, hS3, hTo, hCn⟩
  | inl p9 =>
    obtain ⟨hk0, hDR⟩ := o7 p9 rfl
    have hsk := knd_end o4.1 hk0
    have x3 := o4.2.2.1
    have y3 := o5.2.2.1
    have y6 := o5.2.2.2.2.2.1
    rw [hsk] at y6
    subst x3; subst y3; subst y6
    obtain ⟨R1, D1, K1, S1, a1, r1, bm1, pe1, hs1, be1, hb1, b1, to1, tm1, hR1, hD1, hP1, hM1, ⟨rfl, rfl, rfl, rfl, rfl, rfl, rfl, rfl, rfl, rfl, rfl, rfl, rfl⟩, ⟨rfl, rfl, rfl, rfl, rfl, rfl, rfl⟩⟩ := hDR
    obtain ⟨⟨u1, u2, u3, u4, u5⟩, hAW', ⟨v1, v2, v3, v4, v5, v6⟩, _, ⟨d1, d2, d3, d4⟩⟩ := hP1
    obtain ⟨e1, e2, e3, e4, e5, e6, e7, e8⟩ := hM1
    rw [p_checkOk (n := n) (g := g') u1 u2 u3 u4 hAW'.2.2.2.2.1 hAW'.1 hAW'.2.2.1 v4 v5 d3 d4]
    by_cases c : hR1 ≤ R1 ∧ hD1 ≤ D1
    · rw [if_pos c]
      by_cases cb : be1 = some hs1
      · rw [if_pos cb, ob2_s, ob24_s, if_neg (show ¬ (7 : Int32) = 0 from by decide), if_pos rfl, jn0_s, if_neg (show ¬ nI R1 ≤ HI hR1 from fun h => (HI_le (by omega) (by omega)).mp h c.1), if_pos ((HI_lt (by omega) (by omega)).mpr c.2), jn2_s, if_pos rfl, show (32 : Int32) = nI 32 from rfl, show (31 : Int32) = nI 31 from rfl, g49 (by decide), g49 (by decide), nI_cl (by decide), nI_cl (by decide), e3, e4, if_pos ((enb_eq v4 v5).mpr cb), fails0, ob2_s]
        dsimp only
        rw [if_neg (by decide)]
        exact ⟨_, _, _, _, _, _, _, _, _, _, _, _, _, _, _, _, _, _, _, _, _, _, _, _, _, _, _, _, _, _, _, _, _, _, _, _, _, _, _, _, _, _, _, _, _, _, _, _, _, _, _, _, _, _, _, _, _, _, _, _, _, _, _, _, _, _, _, _, _, _, rfl, rfl, R, Dn, K, SL, a, rl, hPC, hPM, hPO, hPg, hI0, hI1, hKp, hAh, hBf, ⟨b1, rs, rfl, hAW'.2.2.1, hAW'.2.2.2.1, rfl, hsz, hs10⟩, ⟨a1, r1, rfl, hAW'.1, hAW'.2.1, rfl, hAW'.2.2.2.2.2, hAW'.2.2.2.2.1⟩, ⟨0, by omega, rfl, rfl, fun i hi => absurd hi (Nat.not_lt_zero _)⟩, rfl, hSn, hHd, hS0, hS1, hS2, hS3, hTo, hCn⟩
      · have hnow := hPg
        obtain ⟨b, bm, per, hs, be, hb, on, sg, st, ea, hO, hC, hM⟩ := hnow
        obtain ⟨rfl, rfl, rfl, rfl, rfl, rfl, rfl, rfl, rfl, rfl⟩ := hC
        obtain ⟨rfl, rfl, rfl, rfl, rfl, rfl⟩ := hPC
        obtain ⟨q1, q2, q3⟩ := (d3 R1 (by omega)).mp c.1
        have q4 := (d4 D1).mp c.2
        have cpF : f_X2_copyFrom (nI R1) (nI D1) (nI K1) (nI S1) (rI a1) (rI r1) (rI a) (rI rl) = some (nI D1, nI R1, nI K1, nI S1, rI a1, rI r1) := by
          unfold f_X2_copyFrom
          rw [bnd_s, bnd_s, rI_cpy, rI_cpy, cpy_z hAW'.2.1 hPO.2.2.2.2.2.2.1, cpy_z hAW'.2.2.2.2.2 hPO.2.2.2.2.2.2.2.2.2.1]
        have cpS := p_copyFrom (bm := bm1) (per := pe1) (hs := hs1) (hb := hb1) (on := 0) (st := 0) (be := be1) (ea := false) (b := b1) (sg := rs) (b0 := b) (s0 := sg) hAW'.2.2.2.1 hsz hO.2.1 hO.2.2.2.2.2.2.2.2.2.2.2.1
        rw [if_neg cb, ob2_s, ob24_s, if_pos rfl, cpF, ob6_s, show f_X6_copyFrom (nI bm1) (nI pe1) (nI hs1) (enc be1) (nI hb1) (0 : Int32) (0 : Int32) (0 : Int32) (rI b1) (rI rs) (rI b) (rI sg) = _ from cpS, ob10_s, if_pos rfl, jn0_s, if_neg (show ¬ nI R1 ≤ HI hR1 from fun h => (HI_le (by omega) (by omega)).mp h c.1), if_pos ((HI_lt (by omega) (by omega)).mpr c.2), jn2_s, if_pos rfl, show (32 : Int32) = nI 32 from rfl, show (31 : Int32) = nI 31 from rfl, g49 (by decide), g49 (by decide), nI_cl (by decide), nI_cl (by decide), e3, e4, if_neg (fun h => cb ((enb_eq v4 v5).mp h))]
        dsimp only
        rw [if_pos (by decide), m_lays, ob3_s, show (1 : Int32) = nI 1 from rfl, show gin (0 : Int32) 2 = gin (nI 0) 2 from rfl, gin_k (by decide) (by decide), bnd_s, gin_k (by decide) (by decide), bnd_s]
        refine ⟨_, _, _, _, _, _, _, _, _, _, _, _, _, _, _, _, _, _, _, _, _, _, _, _, _, _, _, _, _, _, _, _, _, _, _, _, _, _, _, _, _, _, _, _, _, _, _, _, _, _, _, _, _, _, _, _, _, _, _, _, _, _, _, _, _, _, _, _, _, _, rfl, rfl, R1, D1, K1, S1, a1, r1, ⟨rfl, rfl, rfl, rfl, rfl, rfl⟩, ⟨rfl, rfl, rfl, rfl, ?_⟩, ⟨u1, u2, u3, u4, u5, hAW'.1, hAW'.2.1, fun d hd => (q1 d hd).1, hAW'.2.2.2.2.1, hAW'.2.2.2.2.2, fun k hk => ⟨hAW'.2.2.2.2.1 k, q4 k hk⟩⟩, ⟨b1, bm1, pe1, hs1, be1, hb1, 0, rs, 0, false, ⟨hAW'.2.2.1, hAW'.2.2.2.1, fun d hd => (q1 d hd).2, v1, v2, v3, q2, q3, v6, by omega, fun i hi => absurd hi (Nat.not_lt_zero _), hsz, hs10, by omega⟩, ⟨rfl, rfl, rfl, rfl, rfl, rfl, rfl, rfl, rfl, rfl⟩, ?_⟩, ⟨hI0.1, fun h => absurd h (show ¬ (0 : Int32) = 1 from by decide)⟩, ⟨hI1.1, fun h => absurd h (show ¬ (0 : Int32) = 1 from by decide)⟩, ⟨false, false, rfl, rfl, rfl⟩, hAh, hBf, ⟨b1, rs, rfl, hAW'.2.2.1, hAW'.2.2.2.1, rfl, hsz, hs10⟩, ⟨a1, r1, rfl, hAW'.1, hAW'.2.1, rfl, hAW'.2.2.2.2.2, hAW'.2.2.2.2.1⟩, ⟨0, by omega, rfl, rfl, fun i hi => absurd hi (Nat.not_lt_zero _)⟩, rfl, ⟨0, fun _ => 0, fun _ => 0, fun _ => 0, by omega, rfl, rfl, fun i hi => absurd hi (Nat.not_lt_zero _)⟩, ⟨0, fun _ => 0, fun _ => 0, fun _ => false, by omega, rfl, rfl, fun i hi => absurd hi (Nat.not_lt_zero _)⟩, hS0, hS1, hS2, hS3, hTo, hCn⟩
        · intro k hk
          obtain ⟨l1, l2, l3⟩ := e8 k hk
          refine ⟨?_, ?_, fun h => ?_⟩
          · exact (if_pos (show 3 * k < 49 ∧ 3 * k < 18 by omega)).trans l1
          · exact (if_pos (show 3 * k + 1 < 49 ∧ 3 * k + 1 < 18 by omega)).trans l2
          · exact (if_pos (show 3 * k + 2 < 49 ∧ 3 * k + 2 < 18 by omega)).trans (l3 h)
        · refine ⟨fun d hd => ?_, ?_, ?_, ?_, ?_, fun i hi => absurd hi (Nat.not_lt_zero _), ?_, ?_, ?_⟩
          · have z := e1 d hd
            exact ⟨(if_pos (show 0 + 3 * d < 49 by omega)).trans z.1, (if_pos (show 0 + 3 * d + 1 < 49 by omega)).trans z.2.1, (if_pos (show 0 + 3 * d + 2 < 49 by omega)).trans z.2.2⟩
          · exact (if_pos (show 0 + 30 < 49 by omega)).trans e2
          · exact (if_pos (show 0 + 31 < 49 by omega)).trans e3
          · exact (if_pos (show 0 + 32 < 49 by omega)).trans e4
          · exact (if_pos (show 0 + 33 < 49 by omega)).trans e5
          · exact (if_pos (show 0 + 46 < 49 by omega)).trans (e6 46 (by omega) (by omega))
          · exact (if_pos (show 0 + 47 < 49 by omega)).trans (e6 47 (by omega) (by omega))
          · exact (if_pos (show 0 + 48 < 49 by omega)).trans (e6 48 (by omega) (by omega))
    · rw [if_neg c, ob2_s, ob24_s, if_neg (show ¬ (6 : Int32) = 0 from by decide), if_pos rfl, jn0_s, fails0, ob2_s]
      have em6 : ∀ {β : Type} (A B : Option β), (if nI R1 ≤ HI hR1 then A else if HI hD1 < nI D1 then B else A) = A := by
        intro β A B
        by_cases cR : hR1 ≤ R1
        · rw [if_neg (fun h => (HI_le (by omega) (by omega)).mp h cR), if_neg (fun h => c ⟨cR, (HI_lt (by omega) (by omega)).mp h⟩)]
        · rw [if_pos ((HI_le (by omega) (by omega)).mpr cR)]
      rw [em6, jn2_s, if_neg (show ¬ (6 : Int32) = 0 from by decide)]
      dsimp only
      rw [if_neg (by decide)]
      exact ⟨_, _, _, _, _, _, _, _, _, _, _, _, _, _, _, _, _, _, _, _, _, _, _, _, _, _, _, _, _, _, _, _, _, _, _, _, _, _, _, _, _, _, _, _, _, _, _, _, _, _, _, _, _, _, _, _, _, _, _, _, _, _, _, _, _, _, _, _, _, _, rfl, rfl, R, Dn, K, SL, a, rl, hPC, hPM, hPO, hPg, hI0, hI1, hKp, hAh, hBf, ⟨b1, rs, rfl, hAW'.2.2.1, hAW'.2.2.2.1, rfl, hsz, hs10⟩, ⟨a1, r1, rfl, hAW'.1, hAW'.2.1, rfl, hAW'.2.2.2.2.2, hAW'.2.2.2.2.1⟩, ⟨0, by omega, rfl, rfl, fun i hi => absurd hi (Nat.not_lt_zero _)⟩, rfl, hSn, hHd, hS0, hS1, hS2, hS3, hTo, hCn⟩
