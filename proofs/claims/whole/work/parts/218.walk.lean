/-! ===== pure 18: walk ===== -/
theorem roll_w (x : Int32) : ∃ w, w < 32768 ∧ ((x.toUInt32 >>> ((16 : Int32).toUInt32 &&& Int32.toUInt32 31)).toInt32) &&& (32767 : Int32) = nI w ∧ (x >>> ((16 : Int32) &&& 31)) &&& (32767 : Int32) = nI w := by
  have e : ((x.toUInt32 >>> ((16 : Int32).toUInt32 &&& Int32.toUInt32 31)).toInt32) &&& (32767 : Int32) = (x >>> ((16 : Int32) &&& 31)) &&& (32767 : Int32) := by
    apply Int32.toBitVec_inj.1
    rw [Int32.toBitVec_and, Int32.toBitVec_and]
    show (x.toBitVec >>> 16) &&& _ = (x.toBitVec.sshiftRight 16) &&& _
    apply BitVec.eq_of_getLsbD_eq
    intro i hi
    rw [BitVec.getLsbD_and, BitVec.getLsbD_and, BitVec.getLsbD_ushiftRight, BitVec.getLsbD_sshiftRight]
    rcases Nat.lt_or_ge i 15 with z | z
    · have a1 : 16 + i < 32 := by omega
      have a2 : ¬ 32 ≤ i := by omega
      simp [a1, a2]
    · have hm : ∀ i < 32, 15 ≤ i → (32767 : Int32).toBitVec.getLsbD i = false := by decide
      rw [hm i hi z]; simp
  refine ⟨((x >>> ((16 : Int32) &&& 31)) &&& (32767 : Int32)).toBitVec.toNat, ?_, ?_, ?_⟩
  · rw [Int32.toBitVec_and, BitVec.toNat_and]
    exact Nat.lt_of_le_of_lt Nat.and_le_right (by decide)
  · rw [e]
    apply Int32.toBitVec_inj.1
    show _ = BitVec.ofNat 32 _
    rw [BitVec.ofNat_toNat, BitVec.setWidth_eq]
  · apply Int32.toBitVec_inj.1
    show _ = BitVec.ofNat 32 _
    rw [BitVec.ofNat_toNat, BitVec.setWidth_eq]
theorem PgO_st {R Dn : Nat} {b : Nat → Nat} {bm per hs : Nat} {be : Option Nat} {hb on : Nat} {sg : Nat → Nat} {st st' : Nat} (h : PgO R Dn b bm per hs be hb on sg st) (hs' : st' ≤ 999) : PgO R Dn b bm per hs be hb on sg st' := by
  obtain ⟨o1, o2, o3, o4, o5, o6, o7, o8, o9, o10, o11, o12, o13, o14⟩ := h
  exact ⟨o1, o2, o3, o4, o5, o6, o7, o8, o9, o10, o11, o12, o13, hs'⟩
theorem PgO_step0 {R Dn K SL : Nat} {a b rl : Nat → Nat} {bm per hs : Nat} {be : Option Nat} {hb on : Nat} {sg : Nat → Nat} (st : Nat) {d to : Nat} (hP : PlO R Dn K SL a rl) (hO : PgO R Dn b bm per hs be hb on sg 0) (h : if d = 10 then to = hs else d < Dn ∧ lead a b bm d hs = some to) (hd : d ≤ 10) : PgO R Dn (tick R K rl per st (b, bm)).1 (tick R K rl per st (b, bm)).2 per to (prwO a b bm Dn st hb be to) hb (if d ≠ 10 ∧ on < SL then on + 1 else on) (if d ≠ 10 ∧ on < SL then updN sg on d else sg) 0 := by
  have z := PgO_step hP (PgO_st hO (show 0 ≤ 999 by omega)) (by omega) h hd
  obtain ⟨p1, p2, p3, p4, p5, p6, p7, p8, p9, p10, p11⟩ := hP
  obtain ⟨o1, o2, o3, o4, o5, o6, o7, o8, o9, o10, o11, o12, o13, o14⟩ := hO
  obtain ⟨z1, z2, z3, z4, z5, z6, z7, z8, z9, z10, z11, z12, z13, z14⟩ := z
  obtain ⟨w1, w2, w3, w4⟩ := Wok_tick (per := per) (st := st) (K := K) p3 p11 (by omega) p2 (show Wok R Dn (b, bm) from ⟨o1, o2, o3, o4⟩)
  exact ⟨w1, w2, w3, w4, o5, o6, z7, prwO_ltR p3 p8 o3 o8 z7, o9, z10, z11, z12, z13, by omega⟩
theorem walk_loop {R Dn K SL : Nat} {a rl : Nat → Nat} {lw : Nat → Int32} {per hb n : Nat} (hP : PlO R Dn K SL a rl) (hl : lwr lw K rl) (hn : n ≤ 60) : ∀ (r i f : Nat) (roll al : Int32) (b : Nat → Nat) (bm hs : Nat) (be : Option Nat) (on : Nat) (sg : Nat → Nat) (st : Nat) (ea : Bool) (g wk : Nat → Int32), i + r = n → r < f → st ≤ 999 + i → PgO R Dn b bm per hs be hb on sg 0 → PgM Dn a b bm per hs be hb on sg st ea g 0 →
    ∃ (roll' al' i' : Int32) (b' : Nat → Nat) (bm' hs' : Nat) (be' : Option Nat) (on' : Nat) (sg' : Nat → Nat) (st' : Nat) (ea' : Bool) (g' w' : Nat → Int32), itr (un11 (b_X7_walk_54 (nI R) (nI Dn) (nI K) (nI SL) (rI a) (rI rl) (nI n) (nI hb) (nI per))) f (roll, al, nI i, nI bm, enc be, bz ea, nI hs, nI on, nI st, rI b, rI sg) = some (roll', al', i', nI bm', enc be', bz ea', nI hs', nI on', nI st', rI b', rI sg') ∧ itr (un5 (b_X8_walk_55 (nI R) (nI Dn) (nI SL) (nI K) lw (nI n))) f (roll, al, nI i, g, wk) = some (roll', al', i', g', w') ∧ PgO R Dn b' bm' per hs' be' hb on' sg' 0 ∧ g' 31 = nI hs' ∧ ∀ j, 49 ≤ j → g' j = g j := by
  intro r
  induction r with
  | zero =>
    intro i f roll al b bm hs be on sg st ea g wk hi hf hst hO hM
    obtain ⟨f, rfl⟩ : ∃ m, f = m + 1 := ⟨f - 1, by omega⟩
    have : i = n := by omega
    subst this
    refine ⟨roll, al, nI i, b, bm, hs, be, on, sg, st, ea, g, wk, ?_, ?_, hO, hM.2.2.1, fun _ _ => rfl⟩
    · rw [itr, un11_s]
      unfold b_X7_walk_54
      rw [if_pos (nI_le (Nat.le_refl i) (by omega))]
    · rw [itr, un5_s]
      unfold b_X8_walk_55
      rw [if_pos (nI_le (Nat.le_refl i) (by omega))]
  | succ r ih =>
    intro i f roll al b bm hs be on sg st ea g wk hi hf hst hO hM
    obtain ⟨f, rfl⟩ : ∃ m, f = m + 1 := ⟨f - 1, by omega⟩
    have hin : i < n := by omega
    have hM' := hM
    obtain ⟨h1, h2, h3, h4, h5, h6, h7, h8, h9⟩ := hM
    simp only [Nat.zero_add] at h2 h3 h4 h5 h6 h7 h8 h9
    have hP' := hP
    obtain ⟨p1', p2, p3, p4, p5, p6, p7, p8, p9, p10, p11⟩ := hP
    have hO' := hO
    obtain ⟨o1, o2, o3, o4, o5, o6, o7, o8, o9, o10, o11, o12, o13, o14⟩ := hO
    have hbm := p2_lt o4 p3
    cases ea with
    | true =>
      refine ⟨roll, al, nI i, b, bm, hs, be, on, sg, st, true, g, wk, ?_, ?_, hO', h3, fun _ _ => rfl⟩
      · rw [itr, un11_s]
        unfold b_X7_walk_54
        rw [if_neg (nI_ge hin (by omega)), bz_t, if_neg n10]
      · rw [itr, un5_s]
        unfold b_X8_walk_55
        rw [if_neg (nI_ge hin (by omega)), g48, k48, h9, bz_t, if_neg n10]
    | false =>
      obtain ⟨w, hw, ew1, ew2⟩ := roll_w (roll * (1103515245 : Int32) + (12345 : Int32))
      have hol := opn_lt (a := a) (b := b) (bm := bm) (x := hs) p3
      have hcl := cntr_le (om := opn a b bm Dn hs) 10
      have hml : w % (cntr (opn a b bm Dn hs) 10 + 1) < cntr (opn a b bm Dn hs) 10 + 1 := Nat.mod_lt _ (by omega)
      -- the door
      obtain ⟨d, to, ed, hd, hto, hcond, hdm⟩ : ∃ d to, nthr (opn a b bm Dn hs) 10 (w % (cntr (opn a b bm Dn hs) 10 + 1)) = d ∧ d ≤ 10 ∧ to < 7 ∧ (if d = 10 then to = hs else d < Dn ∧ lead a b bm d hs = some to) ∧ (if w % (cntr (opn a b bm Dn hs) 10 + 1) = cntr (opn a b bm Dn hs) 10 then d = 10 else d < 10) := by
        by_cases hc : w % (cntr (opn a b bm Dn hs) 10 + 1) = cntr (opn a b bm Dn hs) 10
        · refine ⟨10, hs, nthr_out (by omega), by omega, by omega, by rw [if_pos rfl], by rw [if_pos hc]⟩
        · obtain ⟨e1, e2⟩ := nthr_in (om := opn a b bm Dn hs) (Nat.le_refl 10) (show w % (cntr (opn a b bm Dn hs) 10 + 1) < cntr (opn a b bm Dn hs) 10 by omega)
          obtain ⟨e3, to, e4⟩ := opn_bit e2
          refine ⟨_, to, rfl, by omega, lead_lt p6 o1 e4, ?_, by rw [if_neg hc]; exact e1⟩
          rw [if_neg (by omega)]
          exact ⟨e3, e4⟩
      have hbe7 : ∀ x, be = some x → x < 7 := fun x hx => by have := o8 x hx; omega
      have hstep := p_takeStep (R := R) (K := K) (SL := SL) (on := on) (ea := false) (sg := sg) (rl := rl) (per := per) p4 p9 (by omega) p2 p6 o1 o5 o6 (show st < 99000 by omega) (show bm < 2147483648 by omega) p3 hbe7 o9 p5 o10 d to hd hto (show hs < 7 by omega) hcond
      obtain ⟨g2, w2, e1, q1, q2⟩ := m_stepsBy (R := R) (K := K) (SL := SL) (wk := wk) (to := to) (d := d) p3 p4 p5 hl p11 (by omega) p2 p6 o1 o5 o6 (show st < 99000 by omega) o10 hbe7 o9 hto hd hM'
      rw [Bool.false_or] at hstep
      have g248 : g2 48 = bz (prwO a b bm Dn st hb be to == some to) := q1.2.2.2.2.2.2.2.2
      obtain ⟨roll', al', i', b', bm', hs', be', on', sg', st', ea', g', w', f1, f2, f3, f4, f5⟩ := ih (i + 1) f (roll * (1103515245 : Int32) + (12345 : Int32)) (al + bz (!(prwO a b bm Dn st hb be to == some to))) _ _ to _ _ _ (st + 1) _ g2 w2 (by omega) (by omega) (by omega) (PgO_step0 st hP' hO' hcond hd) q1
      refine ⟨roll', al', i', b', bm', hs', be', on', sg', st', ea', g', w', ?_, ?_, f3, f4, fun j hj => (f5 j hj).trans (q2 j hj)⟩
      · rw [itr, un11_s]
        unfold b_X7_walk_54
        rw [if_neg (nI_ge hin (by omega)), bz_f, if_pos rfl, bnd_s, ew1]
        have epd : f_X6_pickDoor (nI bm) (nI hs) (nI Dn) (rI a) (rI b) (nI w) = some (nI d) := by
          unfold f_X6_pickDoor
          rw [p_opn (by omega) p3 p6 o1 (by omega), ob1_s, p_bitCount _ hol, ob1_s, show nI (cntr (opn a b bm Dn hs) 10) + 1 = nI (cntr (opn a b bm Dn hs) 10 + 1) from nI_1 _, p_modulo (by omega) (by omega) (by omega), ob1_s, p_doorAt (by omega) (by omega), ob1_s, ed]
        rw [epd, ob1_s, show (0 : Int32) = bz false from rfl, hstep, ob8_s, jn1_s, ← show (0 : Int32) = bz false from rfl]
        have ej : (if bz (prwO a b bm Dn st hb be to == some to) = 0 then (ob1 (f_X7_asNumber 1) fun r_47 => bnd (al + r_47) fun v5_49 => bnd (nI i + 1) fun v6_50 => some (Sum.inl (roll * (1103515245 : Int32) + (12345 : Int32), v5_49, v6_50, nI (tick R K rl per st (b, bm)).2, enc (prwO a b bm Dn st hb be to), bz (prwO a b bm Dn st hb be to == some to), nI to, nI (if d ≠ 10 ∧ on < SL then on + 1 else on), nI (st + 1), rI (tick R K rl per st (b, bm)).1, rI (if d ≠ 10 ∧ on < SL then updN sg on d else sg)))) else (ob1 (f_X7_asNumber 0) fun r_47 => bnd (al + r_47) fun v5_49 => bnd (nI i + 1) fun v6_50 => some (Sum.inl (roll * (1103515245 : Int32) + (12345 : Int32), v5_49, v6_50, nI (tick R K rl per st (b, bm)).2, enc (prwO a b bm Dn st hb be to), bz (prwO a b bm Dn st hb be to == some to), nI to, nI (if d ≠ 10 ∧ on < SL then on + 1 else on), nI (st + 1), rI (tick R K rl per st (b, bm)).1, rI (if d ≠ 10 ∧ on < SL then updN sg on d else sg))))) = (some (Sum.inl (roll * (1103515245 : Int32) + (12345 : Int32), al + bz (!(prwO a b bm Dn st hb be to == some to)), nI (i + 1), nI (tick R K rl per st (b, bm)).2, enc (prwO a b bm Dn st hb be to), bz (prwO a b bm Dn st hb be to == some to), nI to, nI (if d ≠ 10 ∧ on < SL then on + 1 else on), nI (st + 1), rI (tick R K rl per st (b, bm)).1, rI (if d ≠ 10 ∧ on < SL then updN sg on d else sg))) : Option (_ ⊕ (Int32 × Int32 × Int32 × Int32 × Int32 × Int32 × Int32 × Int32 × Int32 × (Nat → Int32) × (Nat → Int32)))) := by
          rw [show nI i + 1 = nI (i + 1) from nI_1 i]
          cases (prwO a b bm Dn st hb be to == some to) <;> rfl
        rw [ej]
        exact f1
      · rw [itr, un5_s]
        unfold b_X8_walk_55
        rw [if_neg (nI_ge hin (by omega)), g48, k48, h9, bz_f, if_pos rfl, bnd_s, g31, k31, h3, show f_X8_leading (nI Dn) 196 g (0 : Int32) (nI hs) = some (nI (opn a b bm Dn hs)) from m_leading (o := 0) h1 p3 (by omega) (by omega) p6 o1 (by omega), ob1_s, m_bitsOf hol, ob1_s, show nI (cntr (opn a b bm Dn hs) 10) + 1 = nI (cntr (opn a b bm Dn hs) 10 + 1) from nI_1 _, gnz_k (by omega) (by omega), bnd_s, ew2, pk_rem (by omega) (by omega) (by omega), ob1_s, jn1_s]
        -- behind the door
        have key : (jn1 (fun (s_32 : Int32) => (ob3 (f_X8_stepsBy (nI R) (nI Dn) (nI SL) (nI K) lw g wk (nI d) s_32) (fun r_34 t_state_35 t_work_36 => (gin (48 : Int32) 196 (jn1 (fun (s_39 : Int32) => (bnd (al + s_39) (fun v5_41 => (bnd (nI i + (1 : Int32)) (fun v6_42 => (some (.inl (roll * (1103515245 : Int32) + (12345 : Int32), v5_41, v6_42, t_state_35, t_work_36)))))))) (fun j_40 => (if (t_state_35 48) = (0 : Int32) then (j_40 (1 : Int32)) else (j_40 (0 : Int32))))))))) (fun j_33 => (if nI d = (10 : Int32) then (gin (31 : Int32) 196 (j_33 (nI hs))) else (gin (31 : Int32) 196 (ob1 (f_X8_leadsTo 196 g (0 : Int32) (nI d) (nI hs)) (fun r_46 => (j_33 r_46))))))) = (some (.inl (roll * (1103515245 : Int32) + (12345 : Int32), al + bz (!(prwO a b bm Dn st hb be to == some to)), nI (i + 1), g2, w2)) : Option (_ ⊕ (Int32 × Int32 × Int32 × (Nat → Int32) × (Nat → Int32)))) := by
          have tl : (ob3 (f_X8_stepsBy (nI R) (nI Dn) (nI SL) (nI K) lw g wk (nI d) (nI to)) (fun r_34 t_state_35 t_work_36 => (gin (48 : Int32) 196 (jn1 (fun (s_39 : Int32) => (bnd (al + s_39) (fun v5_41 => (bnd (nI i + (1 : Int32)) (fun v6_42 => (some (.inl (roll * (1103515245 : Int32) + (12345 : Int32), v5_41, v6_42, t_state_35, t_work_36)))))))) (fun j_40 => (if (t_state_35 48) = (0 : Int32) then (j_40 (1 : Int32)) else (j_40 (0 : Int32)))))))) = (some (.inl (roll * (1103515245 : Int32) + (12345 : Int32), al + bz (!(prwO a b bm Dn st hb be to == some to)), nI (i + 1), g2, w2)) : Option (_ ⊕ (Int32 × Int32 × Int32 × (Nat → Int32) × (Nat → Int32)))) := by
            rw [e1, ob3_s, g48, jn1_s, g248, show nI i + 1 = nI (i + 1) from nI_1 i]
            cases (prwO a b bm Dn st hb be to == some to) <;> rfl
          rw [jn1_s]
          by_cases h10 : d = 10
          · rw [if_pos h10] at hcond
            rw [if_pos (show nI d = (10 : Int32) by rw [h10]; rfl), g31, ← hcond]
            exact tl
          · rw [if_neg h10] at hcond
            rw [if_neg (show ¬ nI d = (10 : Int32) from fun e => h10 (nI_inj (b := 10) (by omega) (by omega) e)), g31, show f_X8_leadsTo 196 g (0 : Int32) (nI d) (nI hs) = some (enc (lead a b bm d hs)) from m_leadsTo (o := 0) h1 p3 hcond.1 (by omega) (by omega) p6 o1 (by omega), ob1_s, hcond.2]
            exact tl
        by_cases hc : w % (cntr (opn a b bm Dn hs) 10 + 1) = cntr (opn a b bm Dn hs) 10
        · rw [if_pos hc] at hdm
          rw [if_pos (by rw [hc])]
          rw [hdm] at key
          have key2 := key
          rw [show nI 10 = (10 : Int32) from rfl] at key2
          dsimp only
          rw [key2]
          exact f2
        · rw [if_neg hc] at hdm
          rw [if_neg (fun e => hc (nI_inj (by omega) (by omega) e)), m_placeOf (by omega) (by omega), ob1_s, ed]
          dsimp only
          rw [key]
          exact f2
theorem co_walk {R Dn K SL : Nat} {a b rl : Nat → Nat} {bm per hs : Nat} {be : Option Nat} {hb on : Nat} {sg : Nat → Nat} {st : Nat} {ea : Bool} {g lw wk ase astr : Nat → Int32} (x1 x2 x3 x4 x5 x6 x7 x8 : Int32) (hP : PlO R Dn K SL a rl) (hl : lwr lw K rl) (hO : PgO R Dn b bm per hs be hb on sg st) (hM : PgM Dn a b bm per hs be hb on sg st ea g 0) (hA : ScR ase astr) (p1 p2 p3 : Int32) : ∃ (rr y1 y2 y3 y4 y5 y6 y7 y8 : Int32) (se' str' g' w' : Nat → Int32), f_X7_walk x1 x2 x3 x4 x5 x6 x7 x8 ase astr (nI bm) (nI per) (nI hs) (enc be) (nI hb) (nI on) (nI st) (bz ea) (rI b) (rI sg) (nI R) (nI Dn) (nI K) (nI SL) (rI a) (rI rl) p1 p2 p3 = some (rr, y1, y2, y3, y4, y5, y6, y7, y8, se', str') ∧ f_X8_walk (nI R) (nI Dn) (nI SL) (nI K) lw g wk p1 p2 p3 = some (rr, g', w') ∧ ScR se' str' ∧ PgM Dn a b bm per hs be hb on sg st ea g' 0 ∧ ∀ j, 49 ≤ j → j < 147 → g' j = g j := by
  have q3 := hP.2.2.1
  have o2 := hO.2.1
  have o12 := hO.2.2.2.2.2.2.2.2.2.2.2.1
  have o10 := hO.2.2.2.2.2.2.2.2.2.1
  have o14 := hO.2.2.2.2.2.2.2.2.2.2.2.2.2
  have hA' := hA
  obtain ⟨ab, as, rfl, ha2, ha3, rfl, ha5, ha6⟩ := hA
  have h9 : g 48 = bz ea := hM.2.2.2.2.2.2.2.2
  unfold f_X7_walk f_X8_walk
  rw [p_within, p_within, ob1_s, ob1_s, show (0 : Int64) = (0 : Int32).toInt64 from rfl, show (1 : Int64) = (1 : Int32).toInt64 from rfl, show (60 : Int64) = (60 : Int32).toInt64 from rfl, m_in, m_in, ob1_s, ob1_s]
  by_cases hc : (1 : Int32) ≤ p2 ∧ p2 ≤ 60
  · rw [decide_eq_true hc, bz_t, if_neg n10, if_neg n10]
    obtain ⟨n, hn1, hn2, rfl⟩ := i32_1 (n := 60) (by omega) hc.1 hc.2
    by_cases hc3 : (0 : Int32) ≤ p3 ∧ p3 ≤ 1
    · rw [decide_eq_true hc3, bz_t, if_neg n10, if_neg n10, g48, k48, h9]
      cases ea with
      | true =>
        rw [bz_t, if_neg n10, if_pos rfl]
        exact ⟨_, _, _, _, _, _, _, _, _, _, _, g, wk, rfl, rfl, hA', hM, fun _ _ _ => rfl⟩
      | false =>
        rw [bz_f, if_pos rfl, if_neg n01, show (0 : Int32) = bz false from rfl, p_copyFrom o2 o12 ha3 ha5, ob10_s, ← show (0 : Int32) = bz false from rfl]
        obtain ⟨g1, eg, y1, y2⟩ := m_copies (g := g) (p := 0) (q := 147) (by omega) (by omega) (by omega)
        rw [show f_X8_copies g (0 : Int32) (147 : Int32) = some g1 from eg, ob1_s]
        have hM1 : PgM Dn a b bm per hs be hb on sg st false g1 0 := PgM_congr hM q3 o10 (fun j hj => y2 _ (by omega))
        obtain ⟨roll', al', i', b', bm', hs', be', on', sg', st', ea', g', w', f1, f2, f3, f4, f5⟩ := walk_loop (per := per) (hb := hb) hP hl hn2 n 0 FU p1 0 b bm hs be on sg st false g1 wk (by omega) (by unfold FU; omega) (by omega) (PgO_st hO (by omega)) hM1
        rw [show (p1, (0 : Int32), (0 : Int32), nI bm, enc be, (0 : Int32), nI hs, nI on, nI st, rI b, rI sg) = (p1, (0 : Int32), nI 0, nI bm, enc be, bz false, nI hs, nI on, nI st, rI b, rI sg) from rfl, show (p1, (0 : Int32), (0 : Int32), g1, wk) = (p1, (0 : Int32), nI 0, g1, wk) from rfl, f1, f2, ob11_s, ob5_s, g31, bnd_s, k31, f4]
        obtain ⟨g2, eg2, y3, y4⟩ := m_copies (g := g') (p := 147) (q := 0) (by omega) (by omega) (by omega)
        rw [show f_X8_copies g' (147 : Int32) (0 : Int32) = some g2 from eg2, ob1_s]
        have hM2 : PgM Dn a b bm per hs be hb on sg st false g2 0 := PgM_move hM q3 o10 (fun j hj => by rw [y3 j hj, f5 _ (by omega), y1 j hj])
        have hfr : ∀ j, 49 ≤ j → j < 147 → g2 j = g j := fun j hj hj2 => by rw [y4 j (by omega), f5 j hj, y2 j (by omega)]
        have hsc : ScR (rI b') (rI sg') := ⟨_, _, rfl, f3.1, f3.2.1, rfl, f3.2.2.2.2.2.2.2.2.2.2.2.1, f3.2.2.2.2.2.2.2.2.2.2.2.2.1⟩
        by_cases hp : p3 = 0
        · rw [if_pos hp, if_pos hp]
          exact ⟨_, _, _, _, _, _, _, _, _, _, _, g2, w', rfl, rfl, hsc, hM2, hfr⟩
        · rw [if_neg hp, if_neg hp]
          exact ⟨_, _, _, _, _, _, _, _, _, _, _, g2, w', rfl, rfl, hsc, hM2, hfr⟩
    · rw [decide_eq_false hc3, bz_f, if_pos rfl, if_pos rfl]
      exact ⟨_, _, _, _, _, _, _, _, _, _, _, g, wk, rfl, rfl, hA', hM, fun _ _ _ => rfl⟩
  · rw [decide_eq_false hc, bz_f, if_pos rfl, if_pos rfl]
    exact ⟨_, _, _, _, _, _, _, _, _, _, _, g, wk, rfl, rfl, hA', hM, fun _ _ _ => rfl⟩
