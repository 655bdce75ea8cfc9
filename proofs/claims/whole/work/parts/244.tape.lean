/-! ===== pure 44: a line of any kind; the tape ===== -/
theorem m_inNo {x : Int32} (h : x.toInt < 0 ∨ 8 < x.toInt) : f_X8_in (x.toInt64) (0 : Int64) (8 : Int64) = some (0 : Int32) := by
  have h2 := m_in x 0 8
  rw [decide_eq_false (show ¬ ((0 : Int32) ≤ x ∧ x ≤ 8) from by
    rw [fa_le, fa_le, show (0 : Int32).toInt = 0 from rfl, show (8 : Int32).toInt = 8 from by decide]
    omega)] at h2
  exact h2
theorem eq_ln9 {w : Nat → Nat} {n p : Nat} {tp mt cuts letters : Nat → Int32} {cfp ck cp cs cv mfp mk mp ms mv : Int32} {t dc rooms rc sl : Int32} {fe rules : Nat → Int32} {bd beast hab his per : Int32} {se : Nat → Int32} {mhD mhR rd rk rr rs tl : Int32} {rw_ rp : Nat → Int32} (hT : TP w n tp mt) (hC : CnR cuts letters) (hc : LT w n (.inl p) (0 : Int32) cfp ck cp cs cv) (hm : LT w n (.inl p) (0 : Int32) mfp mk mp ms mv) (hw : ∀ j, j < 9 → mW w n (.inl p) j = false) (hDR : DRel t dc rooms rc sl fe rules bd beast hab his per se mhD mhR rd rk rr rs tl rw_ rp) : LnO w n p (f_X3_readLine (nI n) (0 : Int32) cfp cp ck cs cv t rooms dc rc sl fe rules bd per his beast hab se tp) (f_X8_readLine rr rd rs rk tl mhR mhD (nI n) (0 : Int32) mfp mp ms mk mv cuts letters rw_ rp mt) := by
  obtain ⟨R, Dn, K, SL, a, rl, bm, pe, hs, be, hb, b, to, tm, hR, hD, hP, hM, ⟨rfl, rfl, rfl, rfl, rfl, rfl, rfl, rfl, rfl, rfl, rfl, rfl, rfl⟩, ⟨rfl, rfl, rfl, rfl, rfl, rfl, rfl⟩⟩ := hDR
  obtain ⟨⟨a1, a2, a3, a4, a5⟩, hAW, _⟩ := hP
  have hname := m_name hT hC hm
  have hin : f_X8_in ((enN (ff (mW w n (.inl p)) 14)).toInt64) (0 : Int64) (8 : Int64) = some (0 : Int32) := by
    apply m_inNo
    cases hf : ff (mW w n (.inl p)) 14 with
    | none => exact Or.inl (by decide)
    | some i =>
      obtain ⟨h1, h2, h3⟩ := ff_some hf
      right
      have : 9 ≤ i := by
        by_cases c : i < 9
        · rw [hw i c] at h2; cases h2
        · omega
      show 8 < (nI i).toInt
      rw [nI_toInt (by omega)]
      omega
  rw [p_ln9 hT hc hw, fail0, ob2_s]
  unfold f_X8_readLine
  rw [hname, ob1_s, hin, ob1_s, if_pos rfl, fails0, ob2_s]
  obtain ⟨hp, hb', q3, q4, q5, q6, q7⟩ := hc
  obtain ⟨_, _, r3, r4, r5, r6, r7⟩ := hm
  obtain ⟨t1, t2, t3⟩ := tke_b (w := w) hp
  have hLC : LC n (.inr (2, skp w n p)) (2 : Int32) cs cp cs := ⟨by show 0 < 2; decide, by show 2 < 8; decide, rfl, q6, _, _, t1, t2, q6, q5⟩
  obtain ⟨f3, g3, k3, p3, s3, v3, e3, hl3⟩ := p_close0 (kind := ck) (value := cv) (dc := nI Dn) (bd := nI bm) hT hLC
  unfold cEnd
  rw [e3, ob7_s]
  exact ⟨.inr (2, skp w n p), _, _, _, _, _, _, _, _, _, _, _, _, _, _, _, _, _, _, _, _, _, _, _, _, _, _, _, _, _, _, _, _, _, _, rfl, rfl, hl3, ⟨by show 0 < 2; decide, by show 2 < 8; decide, rfl, r6, _, _, t1, t2, r6, r5⟩, ⟨a, rl, b, rfl, rfl, rfl, hAW, Dn, K, rfl, rfl, a3, a4⟩, fun p9 h => by cases h⟩
theorem eq_line {w : Nat → Nat} {n p : Nat} {tp mt cuts letters : Nat → Int32} {cfp ck cp cs cv mfp mk mp ms mv : Int32} {t dc rooms rc sl : Int32} {fe rules : Nat → Int32} {bd beast hab his per : Int32} {se : Nat → Int32} {mhD mhR rd rk rr rs tl : Int32} {rw_ rp : Nat → Int32} (hT : TP w n tp mt) (hC : CnR cuts letters) (hc : LT w n (.inl p) (0 : Int32) cfp ck cp cs cv) (hm : LT w n (.inl p) (0 : Int32) mfp mk mp ms mv) (hk : knd w n p ≠ 0) (hDR : DRel t dc rooms rc sl fe rules bd beast hab his per se mhD mhR rd rk rr rs tl rw_ rp) : LnO w n p (f_X3_readLine (nI n) (0 : Int32) cfp cp ck cs cv t rooms dc rc sl fe rules bd per his beast hab se tp) (f_X8_readLine rr rd rs rk tl mhR mhD (nI n) (0 : Int32) mfp mp ms mk mv cuts letters rw_ rp mt) := by
  cases hf : ff (mW w n (.inl p)) 14 with
  | none => exact eq_ln9 hT hC hc hm (fun j hj => ff_none hf j (by omega)) hDR
  | some i =>
    obtain ⟨hi, hw⟩ := mW_ff hf
    by_cases c : 9 ≤ i
    · exact eq_ln9 hT hC hc hm (fun j hj => by rw [hw j (by omega)]; exact decide_eq_false (by omega)) hDR
    · rcases (show i = 0 ∨ i = 1 ∨ i = 2 ∨ i = 3 ∨ i = 4 ∨ i = 5 ∨ i = 6 ∨ i = 7 ∨ i = 8 by omega) with rfl | rfl | rfl | rfl | rfl | rfl | rfl | rfl | rfl
      · exact eq_ln0 hT hC hc hm hk hw hDR
      · exact eq_ln1 hT hC hc hm hk hw hDR
      · exact eq_ln2 hT hC hc hm hk hw hDR
      · exact eq_ln3 hT hC hc hm hk hw hDR
      · exact eq_ln4 hT hC hc hm hk hw hDR
      · exact eq_ln5 hT hC hc hm hk hw hDR
      · exact eq_ln6 hT hC hc hm hk hw hDR
      · exact eq_ln7 hT hC hc hm hk hw hDR
      · exact eq_ln8 hT hC hc hm hk hw hDR
def mu (n : Nat) (T : Ps) : Nat := match T with | .inl p => n - p | .inr _ => 0
def RwO (fe rules se : Nat → Int32) (dc rc : Int32) : Prop := ∃ a rl b, fe = rI a ∧ rules = rI rl ∧ se = rI b ∧ AW a rl b ∧ ∃ Dn K, dc = nI Dn ∧ rc = nI K ∧ Dn ≤ 10 ∧ K ≤ 6
/-- both readings, line by line -/
theorem tape_loop {w : Nat → Nat} {n : Nat} {tp mt cuts letters : Nat → Int32} (hT : TP w n tp mt) (hC : CnR cuts letters) : ∀ (m : Nat) (T : Ps) (i F : Nat) (f g k p s v t dc rooms rc sl : Int32) (fe rules : Nat → Int32) (bd beast hab his per : Int32) (se : Nat → Int32) (mf mg mk mp ms mv mhD mhR rd rk rr rs tl : Int32) (rw_ rp : Nat → Int32), mu n T ≤ m → m < F → i ≤ 320 → (∀ p9, T = .inl p9 → i ≤ p9 ∧ p9 ≤ n) → LT w n T f g k p s v → LT w n T mf mg mk mp ms mv → RwO fe rules se dc rc → (∀ p9, T = .inl p9 → DRel t dc rooms rc sl fe rules bd beast hab his per se mhD mhR rd rk rr rs tl rw_ rp) → ∃ (T' : Ps) (L : Nat) (f' g' k' p' s' v' t' dc' rooms' rc' sl' : Int32) (fe' rules' : Nat → Int32) (bd' beast' hab' his' per' : Int32) (se' : Nat → Int32) (mf' mg' mk' mp' ms' mv' mhD' mhR' rd' rk' rr' rs' tl' : Int32) (rw_' rp' : Nat → Int32), itr (un20 (b_X3_readTape_38 (nI n) tp)) F (f, g, k, nI i, p, s, t, v, dc, rooms, rc, sl, fe, rules, bd, beast, hab, his, per, se) = some (f', g', k', nI L, p', s', t', v', dc', rooms', rc', sl', fe', rules', bd', beast', hab', his', per', se') ∧ itr (un16 (b_X8_text_10 (nI n) cuts letters mt)) F (nI i, mf, mg, ms, mhD, mhR, rd, rk, rr, rs, mp, mk, tl, mv, rw_, rp) = some (nI L, mf', mg', ms', mhD', mhR', rd', rk', rr', rs', mp', mk', tl', mv', rw_', rp') ∧ L ≤ 320 ∧ LT w n T' f' g' k' p' s' v' ∧ LT w n T' mf' mg' mk' mp' ms' mv' ∧ RwO fe' rules' se' dc' rc' ∧ (∀ p9, T' = .inl p9 → knd w n p9 = 0 ∧ DRel t' dc' rooms' rc' sl' fe' rules' bd' beast' hab' his' per' se' mhD' mhR' rd' rk' rr' rs' tl' rw_' rp') := by
  intro m
  induction m with
  | zero =>
    intro T i F f g k p s v t dc rooms rc sl fe rules bd beast hab his per se mf mg mk mp ms mv mhD mhR rd rk rr rs tl rw_ rp hmu hF hi hip hlc hlm hrw hdr
    obtain ⟨F, rfl⟩ : ∃ q, F = q + 1 := ⟨F - 1, by omega⟩
    cases T with
    | inr x =>
      have hne : ¬ f = 0 := by rw [hlc.2.2.1]; exact nI_ne0 hlc.1 (by have := hlc.2.1; omega)
      have hnm : ¬ mf = 0 := by rw [hlm.2.2.1]; exact nI_ne0 hlm.1 (by have := hlm.2.1; omega)
      refine ⟨.inr x, i, f, g, k, p, s, v, t, dc, rooms, rc, sl, fe, rules, bd, beast, hab, his, per, se, mf, mg, mk, mp, ms, mv, mhD, mhR, rd, rk, rr, rs, tl, rw_, rp, ?_, ?_, hi, hlc, hlm, hrw, fun p9 h => by cases h⟩
      · rw [itr, un20_s]; unfold b_X3_readTape_38; rw [if_neg hne]
      · rw [itr, un16_s]; unfold b_X8_text_10; rw [if_neg hnm]
    | inl q =>
      obtain ⟨_, hqn⟩ := hip q rfl
      have hq : q = n := by unfold mu at hmu; simp only at hmu; omega
      have hk0 : knd w n q = 0 := by
        by_cases c : knd w n q = 0
        · exact c
        · have := ((tke_b (w := w) hqn).2.2 c).1
          have := (skp_b (w := w) hqn).1
          omega
      have h1 := hlc.2.2.1
      have h2 := hlm.2.2.1
      have h3 := hlc.2.2.2.1
      have h4 := hlm.2.2.2.1
      rw [hk0] at h3 h4
      refine ⟨.inl q, i, f, g, k, p, s, v, t, dc, rooms, rc, sl, fe, rules, bd, beast, hab, his, per, se, mf, mg, mk, mp, ms, mv, mhD, mhR, rd, rk, rr, rs, tl, rw_, rp, ?_, ?_, hi, hlc, hlm, hrw, fun p9 h => by cases h; exact ⟨hk0, hdr q rfl⟩⟩
      · rw [itr, un20_s]; unfold b_X3_readTape_38; rw [if_pos h1, if_pos (show k = (0 : Int32) from h3)]
      · rw [itr, un16_s]; unfold b_X8_text_10; rw [if_pos h2, if_pos (show mk = (0 : Int32) from h4)]
  | succ m ih =>
    intro T i F f g k p s v t dc rooms rc sl fe rules bd beast hab his per se mf mg mk mp ms mv mhD mhR rd rk rr rs tl rw_ rp hmu hF hi hip hlc hlm hrw hdr
    obtain ⟨F, rfl⟩ : ∃ q, F = q + 1 := ⟨F - 1, by omega⟩
    cases T with
    | inr x =>
      have hne : ¬ f = 0 := by rw [hlc.2.2.1]; exact nI_ne0 hlc.1 (by have := hlc.2.1; omega)
      have hnm : ¬ mf = 0 := by rw [hlm.2.2.1]; exact nI_ne0 hlm.1 (by have := hlm.2.1; omega)
      refine ⟨.inr x, i, f, g, k, p, s, v, t, dc, rooms, rc, sl, fe, rules, bd, beast, hab, his, per, se, mf, mg, mk, mp, ms, mv, mhD, mhR, rd, rk, rr, rs, tl, rw_, rp, ?_, ?_, hi, hlc, hlm, hrw, fun p9 h => by cases h⟩
      · rw [itr, un20_s]; unfold b_X3_readTape_38; rw [if_neg hne]
      · rw [itr, un16_s]; unfold b_X8_text_10; rw [if_neg hnm]
    | inl q =>
      obtain ⟨hiq, hqn⟩ := hip q rfl
      have h1 := hlc.2.2.1
      have h2 := hlm.2.2.1
      have h3 := hlc.2.2.2.1
      have h4 := hlm.2.2.2.1
      have hk4 := knd_le (w := w) (n := n) (p := q)
      by_cases hk0 : knd w n q = 0
      · rw [hk0] at h3 h4
        refine ⟨.inl q, i, f, g, k, p, s, v, t, dc, rooms, rc, sl, fe, rules, bd, beast, hab, his, per, se, mf, mg, mk, mp, ms, mv, mhD, mhR, rd, rk, rr, rs, tl, rw_, rp, ?_, ?_, hi, hlc, hlm, hrw, fun p9 h => by cases h; exact ⟨hk0, hdr q rfl⟩⟩
        · rw [itr, un20_s]; unfold b_X3_readTape_38; rw [if_pos h1, if_pos (show k = (0 : Int32) from h3)]
        · rw [itr, un16_s]; unfold b_X8_text_10; rw [if_pos h2, if_pos (show mk = (0 : Int32) from h4)]
      · have hlt := ((tke_b (w := w) hqn).2.2 hk0).1
        have hsk := (skp_b (w := w) hqn).1
        have hn := hT.1
        have nk : ¬ k = (0 : Int32) := by rw [h3]; exact nI_ne0 (by omega) (by omega)
        have nmk : ¬ mk = (0 : Int32) := by rw [h4]; exact nI_ne0 (by omega) (by omega)
        subst h1; subst h2
        obtain ⟨S, f1, g1, k1, p1, s1, t1, v1, dc1, rooms1, rc1, sl1, fe1, rules1, bd1, beast1, hab1, his1, per1, se1, mf1, mg1, ms1, mhD1, mhR1, rd1, rk1, rr1, rs1, mp1, mk1, tl1, mv1, rw1, rp1, ec, em, hL1, hL2, hrw1, hS⟩ := eq_line hT hC hlc hlm hk0 (hdr q rfl)
        obtain ⟨f2, g2, k2, p2, s2, v2, e2, hL3⟩ := p_tok (kind := k1) (value := v1) hT hL1
        have hmu1 : mu n (lx w n S) ≤ m := by
          cases hx : lx w n S with
          | inr x => exact Nat.zero_le _
          | inl p9 =>
            obtain ⟨r1, r2, _⟩ := hS p9 (lx_inl hx).1
            unfold mu at hmu ⊢
            simp only at hmu ⊢
            omega
        obtain ⟨T', L, f', g', k', p', s', v', t', dc', rooms', rc', sl', fe', rules', bd', beast', hab', his', per', se', mf', mg', mk', mp', ms', mv', mhD', mhR', rd', rk', rr', rs', tl', rw_', rp', o1, o2, o3, o4, o5, o6, o7⟩ := ih (lx w n S) (i + 1) F f2 g2 k2 p2 s2 v2 t1 dc1 rooms1 rc1 sl1 fe1 rules1 bd1 beast1 hab1 his1 per1 se1 mf1 mg1 mk1 mp1 ms1 mv1 mhD1 mhR1 rd1 rk1 rr1 rs1 tl1 rw1 rp1 hmu1 (by omega) (by omega) (fun p9 h => by
          obtain ⟨r1, r2, _⟩ := hS p9 (lx_inl h).1
          exact ⟨by omega, r2⟩) hL3 hL2 hrw1 (fun p9 h => (hS p9 (lx_inl h).1).2.2)
        refine ⟨T', L, f', g', k', p', s', v', t', dc', rooms', rc', sl', fe', rules', bd', beast', hab', his', per', se', mf', mg', mk', mp', ms', mv', mhD', mhR', rd', rk', rr', rs', tl', rw_', rp', ?_, ?_, o3, o4, o5, o6, o7⟩
        · rw [itr, un20_s]
          unfold b_X3_readTape_38
          rw [if_pos rfl, if_neg nk, if_neg (show ¬ (320 : Int32) ≤ nI i from nI_ge (b := 320) (by omega) (by omega)), ec, ob19_s, e2, ob6_s, bnd_s, show nI i + (1 : Int32) = nI (i + 1) from nI_1 i]
          exact o1
        · rw [itr, un16_s]
          unfold b_X8_text_10
          rw [if_pos rfl, if_neg nmk, em, ob15_s, bnd_s, show nI i + (1 : Int32) = nI (i + 1) from nI_1 i]
          exact o2
