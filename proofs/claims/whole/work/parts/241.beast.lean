/-! ===== pure 41: the beast's line ===== -/
theorem mW_ff {w : Nat → Nat} {n i : Nat} {T : Ps} (h : ff (mW w n T) 14 = some i) : i < 14 ∧ ∀ j, j < 14 → mW w n T j = decide (j = i) := by
  obtain ⟨h1, h2, h3⟩ := ff_some h
  refine ⟨h1, fun j hj => ?_⟩
  cases hb : mW w n T j with
  | true => rw [mW_one hj h1 hb h2]; exact (decide_eq_true rfl).symm
  | false =>
    refine (decide_eq_false (fun e => ?_)).symm
    rw [e, h2] at hb
    cases hb
def hbS (w : Nat → Nat) (n : Nat) (T : Ps) : Ps := match T with
  | .inl q => (match ff (mW w n (.inl q)) 14 with | some i => if 10 ≤ i then .inl q else .inr (2, skp w n q) | none => .inr (2, skp w n q))
  | .inr x => .inr x
def hbV (w : Nat → Nat) (n : Nat) (T : Ps) (h0 : Nat) : Nat := match ff (mW w n T) 14 with | some i => if 10 ≤ i then i - 10 else h0 | none => h0
theorem hbS_inl {w : Nat → Nat} {n q : Nat} {T : Ps} (h : hbS w n T = .inl q) : T = .inl q ∧ ∃ i, ff (mW w n (.inl q)) 14 = some i ∧ 10 ≤ i ∧ i < 14 := by
  cases T with
  | inr x => cases h
  | inl q' =>
    unfold hbS at h
    simp only at h
    cases hf : ff (mW w n (.inl q')) 14 with
    | none => rw [hf] at h; cases h
    | some i =>
      rw [hf] at h
      simp only at h
      by_cases c : 10 ≤ i
      · rw [if_pos c] at h; cases h; exact ⟨rfl, i, hf, c, (mW_ff hf).1⟩
      · rw [if_neg c] at h; cases h
theorem dn_hbS {w : Nat → Nat} {n q : Nat} {T : Ps} (h : dn n q T) : dn n q (hbS w n T) := fun s hs => h s (hbS_inl hs).1
theorem p_habit {β : Type} {w : Nat → Nat} {n h0 : Nat} {tp mt : Nat → Int32} {T : Ps} {f g k p s v : Int32} (hT : TP w n tp mt) (h : LT w n T f g k p s v) (F : Int32 → Int32 → Int32 → Option β) : ∃ f' g', ob1 (f_X3_isWord f p k s tp 10) (fun r_20 => if r_20 = (0 : Int32) then ob1 (f_X3_isWord f p k s tp 11) (fun r_23 => if r_23 = (0 : Int32) then ob1 (f_X3_isWord f p k s tp 12) (fun r_26 => if r_26 = (0 : Int32) then ob1 (f_X3_isWord f p k s tp 13) (fun r_29 => if r_29 = (0 : Int32) then ob2 (f_X3_fail f g (2 : Int32) s) (fun x y => F x y (nI h0)) else F f g (3 : Int32)) else F f g (2 : Int32)) else F f g (1 : Int32)) else F f g (0 : Int32)) = F f' g' (nI (hbV w n T h0)) ∧ LT w n (hbS w n T) f' g' k p s v := by
  rw [p_isWord (i := 10) hT (by omega) h, ob1_s, p_isWord (i := 11) hT (by omega) h, ob1_s, p_isWord (i := 12) hT (by omega) h, ob1_s, p_isWord (i := 13) hT (by omega) h, ob1_s]
  have nb : ¬ bz true = (0 : Int32) := by decide
  have yb : bz false = (0 : Int32) := rfl
  have hbad : (∀ q, T = .inl q → hbS w n (.inl q) = .inr (2, skp w n q)) → ∃ f' g', ob2 (f_X3_fail f g (2 : Int32) s) (fun x y => F x y (nI h0)) = F f' g' (nI h0) ∧ LT w n (hbS w n T) f' g' k p s v := by
    intro hq
    cases T with
    | inr x =>
      have hne : ¬ f = 0 := by rw [h.2.2.1]; exact nI_ne0 h.1 (by have := h.2.1; omega)
      rw [failN hne, ob2_s]
      exact ⟨_, _, rfl, h⟩
    | inl q =>
      have h0 := LT_ok h
      subst h0
      obtain ⟨hp, hb, a3, a4, a5, a6, a7⟩ := h
      obtain ⟨t1, t2, t3⟩ := tke_b (w := w) hp
      rw [fail0, ob2_s, hq q rfl]
      exact ⟨_, _, rfl, by show 0 < 2; decide, by show 2 < 8; decide, rfl, a6, _, _, t1, t2, a6, a5⟩
  cases hf : ff (mW w n T) 14 with
  | none =>
    have hn := ff_none hf
    rw [hn 10 (by omega), hn 11 (by omega), hn 12 (by omega), hn 13 (by omega), if_pos yb, if_pos yb, if_pos yb, if_pos yb]
    have ev : hbV w n T h0 = h0 := by unfold hbV; rw [hf]
    rw [ev]
    refine hbad (fun q e => ?_)
    subst e
    unfold hbS
    simp only [hf]
  | some i =>
    obtain ⟨hi, hw⟩ := mW_ff hf
    rw [hw 10 (by omega), hw 11 (by omega), hw 12 (by omega), hw 13 (by omega)]
    by_cases c : 10 ≤ i
    · have ev : hbV w n T h0 = i - 10 := by unfold hbV; rw [hf]; exact if_pos c
      have es : hbS w n T = T := by
        cases T with
        | inr x => rfl
        | inl q => unfold hbS; simp only [hf]; exact if_pos c
      rw [ev, es]
      refine ⟨f, g, ?_, h⟩
      by_cases e0 : i = 10
      · subst e0; rw [if_neg (show ¬ bz (decide (10 = 10)) = (0 : Int32) from nb)]; rfl
      · by_cases e1 : i = 11
        · subst e1; rw [if_pos (show bz (decide (10 = 11)) = (0 : Int32) from yb), if_neg (show ¬ bz (decide (11 = 11)) = (0 : Int32) from nb)]; rfl
        · by_cases e2 : i = 12
          · subst e2; rw [if_pos (show bz (decide (10 = 12)) = (0 : Int32) from yb), if_pos (show bz (decide (11 = 12)) = (0 : Int32) from yb), if_neg (show ¬ bz (decide (12 = 12)) = (0 : Int32) from nb)]; rfl
          · have e3 : i = 13 := by omega
            subst e3; rw [if_pos (show bz (decide (10 = 13)) = (0 : Int32) from yb), if_pos (show bz (decide (11 = 13)) = (0 : Int32) from yb), if_pos (show bz (decide (12 = 13)) = (0 : Int32) from yb), if_neg (show ¬ bz (decide (13 = 13)) = (0 : Int32) from nb)]; rfl
    · have ev : hbV w n T h0 = h0 := by unfold hbV; rw [hf]; exact if_neg c
      rw [ev, decide_eq_false (by omega), decide_eq_false (by omega), decide_eq_false (by omega), decide_eq_false (by omega), if_pos yb, if_pos yb, if_pos yb, if_pos yb]
      refine hbad (fun q e => ?_)
      subst e
      unfold hbS
      simp only [hf]
      exact if_neg c
theorem m_beast {w : Nat → Nat} {n hR h0 : Nat} {tp mt cuts letters rp : Nat → Int32} {T : Ps} {f g k p s v : Int32} (hT : TP w n tp mt) (hC : CnR cuts letters) (hhR : hR < 1000) (h : LT w n T f g k p s v) : ∃ f' g' k' p' s' v' r33, f_X8_readBeast (HI hR) (nI n) f g p s k v cuts letters rp mt = some (f', g', s', HI (max hR ((nmb w n T 0 6).2 + 1)), p', k', v', upd (upd rp 32 (nI ((nmb w n T 0 6).2 + 1))) 33 r33) ∧ LT w n (lx w n (cns w n (hbS w n (lx w n (cns w n (nmb w n T 0 6).1))))) f' g' k' p' s' v' ∧ ∀ q, hbS w n (lx w n (cns w n (nmb w n T 0 6).1)) = .inl q → r33 = nI (hbV w n (lx w n (cns w n (nmb w n T 0 6).1)) h0) := by
  obtain ⟨f1, g1, k1, p1, s1, v1, e1, hl⟩ := m_room (hh := hR) hT hhR h
  unfold f_X8_readBeast
  rw [e1, ob8_s, show (32 : Int32) = nI 32 from rfl, g49 (by decide), bnd_s, nI_cl (by decide), show nI (nmb w n T 0 6).2 + (1 : Int32) = nI ((nmb w n T 0 6).2 + 1) from nI_1 _]
  generalize lx w n (cns w n (nmb w n T 0 6).1) = X at hl ⊢
  cases X with
  | inr x =>
    obtain ⟨r, er⟩ := m_nameAny hT hC hl
    have hne : ¬ f1 = 0 := by rw [hl.2.2.1]; exact nI_ne0 hl.1 (by have := hl.2.1; omega)
    obtain ⟨f2, g2, k2, p2, s2, v2, e2, hl2⟩ := m_tok (S := .inr x) (kind := k1) (value := v1) hT hl
    rw [er, ob1_s, bnd_s, jn2_s, if_neg hne]
    dsimp only
    rw [show (33 : Int32) = nI 33 from rfl, g49 (by decide), bnd_s, nI_cl (by decide), e2, ob6_s]
    exact ⟨_, _, _, _, _, _, _, rfl, hl2, fun q hq => by cases hq⟩
  | inl q =>
    have hl' := hl
    obtain ⟨hp, hb, a3, a4, a5, a6, a7⟩ := hl
    obtain ⟨t1, t2, t3⟩ := tke_b (w := w) hp
    rw [m_name hT hC hl', ob1_s, bnd_s, jn2_s, if_pos a3]
    dsimp only
    have hbad : hbS w n (.inl q) = .inr (2, skp w n q) → ∀ r : Int32, ∃ f' g' k' p' s' v' r33, ob2 (f_X8_fails f1 g1 s1 (2 : Int32)) (fun x y => gin (33 : Int32) 49 (bnd (upd (upd rp 32 (nI ((nmb w n T 0 6).2 + 1))) (33 : Int32).toNatClampNeg r) (fun rp9 => ob6 (f_X8_step (nI n) x y p1 s1 k1 v1 mt) (fun b20 b21 b22 b23 b24 b25 => some (b20, b21, b22, HI (max hR ((nmb w n T 0 6).2 + 1)), b23, b24, b25, rp9))))) = some (f', g', s', HI (max hR ((nmb w n T 0 6).2 + 1)), p', k', v', upd (upd rp 32 (nI ((nmb w n T 0 6).2 + 1))) 33 r33) ∧ LT w n (lx w n (cns w n (hbS w n (.inl q)))) f' g' k' p' s' v' ∧ ∀ q', hbS w n (.inl q) = .inl q' → r33 = nI (hbV w n (.inl q) h0) := by
      intro hq r
      obtain ⟨f2, g2, k2, p2, s2, v2, e2, hl2⟩ := m_tok (S := .inr (2, skp w n q)) (fault := 2) (fp := s1) (place := p1) (start := s1) (kind := k1) (value := v1) hT ⟨by show 0 < 2; decide, by show 2 < 8; decide, rfl, a6, _, _, t1, t2, a6, a5⟩
      rw [a3, fails0, ob2_s, show (33 : Int32) = nI 33 from rfl, g49 (by decide), bnd_s, nI_cl (by decide), e2, ob6_s, hq]
      exact ⟨_, _, _, _, _, _, _, rfl, hl2, fun q hq => by cases hq⟩
    cases hf : ff (mW w n (.inl q)) 14 with
    | none =>
      rw [if_neg (show ¬ (0 : Int32) ≤ enN none - 10 from by decide)]
      exact hbad (by unfold hbS; simp only [hf]) _
    | some i =>
      obtain ⟨hi, hw⟩ := mW_ff hf
      by_cases c : 10 ≤ i
      · have es : hbS w n (.inl q) = .inl q := by unfold hbS; simp only [hf]; exact if_pos c
        have ev : hbV w n (.inl q) h0 = i - 10 := by unfold hbV; rw [hf]; exact if_pos c
        obtain ⟨f2, g2, k2, p2, s2, v2, e2, hl2⟩ := m_tok (kind := k1) (value := v1) hT (LT_LC hl')
        rw [show enN (some i) - (10 : Int32) = nI (i - 10) from pk_sub (b := 10) c, if_pos (nI_pos' (by omega)), show (33 : Int32) = nI 33 from rfl, g49 (by decide), bnd_s, nI_cl (by decide), e2, ob6_s, es, ev]
        exact ⟨_, _, _, _, _, _, _, rfl, hl2, fun _ _ => rfl⟩
      · rw [if_neg (show ¬ (0 : Int32) ≤ enN (some i) - 10 from by
          have key : ∀ i, i < 10 → ¬ (0 : Int32) ≤ nI i - 10 := by decide +kernel
          exact key i (by omega))]
        exact hbad (by unfold hbS; simp only [hf]; exact if_neg c) _
theorem eq_ln7 {w : Nat → Nat} {n p : Nat} {tp mt cuts letters : Nat → Int32} {cfp ck cp cs cv mfp mk mp ms mv : Int32} {t dc rooms rc sl : Int32} {fe rules : Nat → Int32} {bd beast hab his per : Int32} {se : Nat → Int32} {mhD mhR rd rk rr rs tl : Int32} {rw_ rp : Nat → Int32} (hT : TP w n tp mt) (hC : CnR cuts letters) (hc : LT w n (.inl p) (0 : Int32) cfp ck cp cs cv) (hm : LT w n (.inl p) (0 : Int32) mfp mk mp ms mv) (hk : knd w n p ≠ 0) (hw : ∀ j, j < 14 → mW w n (.inl p) j = decide (j = 7)) (hDR : DRel t dc rooms rc sl fe rules bd beast hab his per se mhD mhR rd rk rr rs tl rw_ rp) : LnO w n p (f_X3_readLine (nI n) (0 : Int32) cfp cp ck cs cv t rooms dc rc sl fe rules bd per his beast hab se tp) (f_X8_readLine rr rd rs rk tl mhR mhD (nI n) (0 : Int32) mfp mp ms mk mv cuts letters rw_ rp mt) := by
  obtain ⟨R, Dn, K, SL, a, rl, bm, pe, hs, be, hb, b, to, tm, hR, hD, hP, hM, ⟨rfl, rfl, rfl, rfl, rfl, rfl, rfl, rfl, rfl, rfl, rfl, rfl, rfl⟩, ⟨rfl, rfl, rfl, rfl, rfl, rfl, rfl⟩⟩ := hDR
  obtain ⟨⟨a1, a2, a3, a4, a5⟩, hAW, ⟨b1, b2, b3, b4, b5, b6⟩, ⟨c1, c2, c3, c4, c5⟩, ⟨d1, d2, d3, d4⟩⟩ := hP
  have hff : ff (mW w n (.inl p)) 14 = some 7 := ff_at (by decide) (by rw [hw 7 (by decide)]; rfl) (fun i hi => by rw [hw i (by omega)]; exact decide_eq_false (by omega))
  have hname := m_name hT hC hm
  rw [hff] at hname
  have htr : to.testBit 3 = tm.testBit 7 := c3 3 (by decide)
  obtain ⟨f1, g1, f, g, k, p', s, v, e1, e2, hl⟩ := c_once (j := 3) (lo := 0) (hi := 6) hT hc c1 (by decide) (by decide) (by decide)
  obtain ⟨f2, g2, k2, p2, s2, v2, e4, hl2⟩ := p_tok (kind := k) (value := v) hT (LT_LC hl)
  obtain ⟨mf, mg, mk', mp', ms', mv', em, hlm⟩ := m_first 4 (tm.testBit 7) hT hm (by decide) (by decide)
  rw [p_ln7 hT hc hw, m_lnOnce (i := 7) (by decide) (by decide) (by decide) c2 hname, show f_X8_step (nI n) (if tm.testBit 7 then 4 else 0) (if tm.testBit 7 then ms else mfp) mp ms mk mv mt = _ from em, ob6_s]
  unfold f_X3_readBeast
  rw [show (8 : Int32) = nI (2 ^ 3) from rfl, e1, ob3_s, show f_X3_nextWithin (nI n) f1 g1 cp ck cs cv tp (0 : Int32) (6 : Int32) = _ from e2, ob7_s, e4, ob6_s]
  obtain ⟨f5, g5, e5, hl5⟩ := p_habit (h0 := hb) hT hl2 (fun x y h => some (x, y, k2, p2, s2, nI (to ||| 2 ^ 3), v2, nI (if to.testBit 3 then 0 else (nmb w n (lx w n (.inl (tke w n p))) 0 6).2), h))
  rw [e5, ob9_s]
  obtain ⟨f3, g3, k3, p3, s3, v3, e3, hl3⟩ := p_close0 (kind := k2) (value := v2) (dc := nI Dn) (bd := nI bm) hT (LT_LC hl5)
  unfold cEnd
  rw [e3, ob7_s]
  rw [← htr] at hlm
  cases hbit : to.testBit 3 with
  | true =>
    simp only [hbit, if_true] at hl3 hlm
    rw [if_neg (LT_bad hlm)]
    exact ⟨.inr (4, skp w n p), _, _, _, _, _, _, _, _, _, _, _, _, _, _, _, _, _, _, _, _, _, _, _, _, _, _, _, _, _, _, _, _, _, _, rfl, rfl, hl3, hlm, ⟨a, rl, b, rfl, rfl, rfl, hAW, Dn, K, rfl, rfl, a3, a4⟩, fun p9 h => by cases h⟩
  | false =>
    simp only [hbit, Bool.false_eq_true, if_false] at hl3 hlm ⊢
    have hdn := dn_lx (w := w) (dn_0 (w := w) hc.1)
    generalize hX : lx w n (.inl (tke w n p)) = X at hl3 hlm hdn ⊢
    cases X with
    | inr x =>
      rw [if_neg (LT_bad hlm)]
      exact ⟨.inr x, _, _, _, _, _, _, _, _, _, _, _, _, _, _, _, _, _, _, _, _, _, _, _, _, _, _, _, _, _, _, _, _, _, _, rfl, rfl, hl3, hlm, ⟨a, rl, b, rfl, rfl, rfl, hAW, Dn, K, rfl, rfl, a3, a4⟩, fun p9 h => by cases h⟩
    | inl q =>
      have h0 := LT_ok hlm
      subst h0
      have hvb := nmb_b (w := w) (n := n) (T := .inl q) (lo := 0) (hi := 6) (by decide)
      obtain ⟨f7, g7, k7, p7, s7, v7, r33, e7, hl7, h33⟩ := m_beast (hR := hR) (h0 := hb) (rp := rp) hT hC (by omega) hlm
      generalize hz : nmb w n (.inl q) 0 6 = z at *
      obtain ⟨z1, z2⟩ := z
      simp only at hl3 hvb e7 hl7 h33 ⊢
      obtain ⟨f6, g6, k6, p6, s6, v6, e6, hl6⟩ := m_close hT hl7 (fun a b c d e f => some (a, b, c, HI hD, HI (max hR (z2 + 1)), nI Dn, nI K, nI R, nI SL, d, e, nI (tm ||| 2 ^ 7), f, rw_, upd (upd rp 32 (nI (z2 + 1))) 33 r33))
      have er : f_X8_readOnce (nI R) (nI SL) (HI hR) (nI n) (0 : Int32) mg mp' ms' mk' mv' cuts letters rp mt (nI 7) = some (f7, g7, s7, HI (max hR (z2 + 1)), nI R, nI SL, p7, k7, v7, upd (upd rp 32 (nI (z2 + 1))) 33 r33) := by
        unfold f_X8_readOnce
        rw [if_neg (by decide), if_neg (by decide), if_neg (by decide), if_pos (show nI 7 = (7 : Int32) from rfl), e7, ob8_s]
      rw [if_pos (by decide), er, ob10_s]
      unfold mEnd
      rw [e6]
      have hdz : dn n (tke w n p) z1 := by have := dn_nmb (w := w) (lo := 0) (hi := 6) hdn; rw [hz] at this; exact this
      refine ⟨cl w n (lx w n (cns w n (hbS w n (lx w n (cns w n z1))))), _, _, _, _, _, _, _, _, _, _, _, _, _, _, _, _, _, _, _, _, _, _, _, _, _, _, _, _, _, _, _, _, _, _, rfl, rfl, hl3, hl6, ⟨a, rl, b, rfl, rfl, rfl, hAW, Dn, K, rfl, rfl, a3, a4⟩, fun p9 h9 => ?_⟩
      obtain ⟨r1, r2⟩ := dn_go hc.1 hk (dn_cl (dn_lx (dn_cns (dn_hbS (dn_lx (dn_cns hdz)))))) p9 h9
      obtain ⟨s9, hs9, _, _⟩ := cl_lx (LT_wf hl5) (by simp only [hbit, Bool.false_eq_true, if_false, hX, hz]; exact h9)
      simp only [hbit, Bool.false_eq_true, if_false, hX, hz] at hs9
      obtain ⟨q2, hq2⟩ : ∃ q2, hbS w n (lx w n (cns w n z1)) = .inl q2 := by
        cases hh : hbS w n (lx w n (cns w n z1)) with
        | inl q2 => exact ⟨q2, rfl⟩
        | inr x => rw [hh] at hs9; cases hs9
      have hr33 := h33 q2 hq2
      obtain ⟨hX2, i, hfi, hi10, hi14⟩ := hbS_inl hq2
      have hev : hbV w n (lx w n (cns w n z1)) hb = i - 10 := by unfold hbV; rw [hX2, hfi]; exact if_pos hi10
      rw [hev] at hr33 ⊢
      subst hr33
      have hbe0 := c5 hbit
      subst hbe0
      exact ⟨r1, r2, R, Dn, K, SL, a, rl, bm, pe, hs, some z2, i - 10, b, to ||| 2 ^ 3, tm ||| 2 ^ 7, max hR (z2 + 1), hD, ⟨⟨a1, a2, a3, a4, a5⟩, hAW, ⟨b1, b2, b3, b4, fun x hx => by cases hx; omega, by omega⟩, ⟨(told_0 to c1 3 (by decide)).2, tm_or c2 (by decide), TR_up c3 (by decide), fun h => c4 (tb_or h), fun h => absurd h (by rw [tb_or2]; decide)⟩, ⟨by omega, d2, hr_be d3, d4⟩⟩, rdm32 a3 hM z2 (i - 10), ⟨rfl, rfl, rfl, rfl, rfl, rfl, rfl, rfl, rfl, rfl, rfl, rfl, rfl⟩, ⟨rfl, rfl, rfl, rfl, rfl, rfl, rfl⟩⟩
