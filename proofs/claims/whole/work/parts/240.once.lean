/-! ===== pure 40: lines told once ===== -/
theorem tb_or {x j k : Nat} (h : (x ||| 2 ^ j).testBit k = false) : x.testBit k = false := by
  rw [Nat.testBit_or, Bool.or_eq_false_iff] at h
  exact h.1
theorem tb_or2 {x j : Nat} : (x ||| 2 ^ j).testBit j = true := by
  rw [Nat.testBit_or, Nat.testBit_two_pow_self, Bool.or_true]
theorem rdm30 {Dn K : Nat} {a rl : Nat → Nat} {bm per hs : Nat} {be : Option Nat} {hb : Nat} {b : Nat → Nat} {rw_ rp : Nat → Int32} (hD : Dn ≤ 10) (h : RDm Dn K a rl bm per hs be hb b rw_ rp) (v : Nat) : RDm Dn K a rl bm v hs be hb b rw_ (upd rp 30 (nI (v - 1))) := by
  obtain ⟨h1, h2, h3, h4, h5, h6, h7, h8⟩ := h
  exact ⟨hse_upd h1 hD (by omega), by rw [pk_us], by rw [pk_un (by decide)]; exact h3, by rw [pk_un (by decide)]; exact h4, by rw [pk_un (by decide)]; exact h5, fun k hk1 hk2 => by rw [pk_un (by omega)]; exact h6 k hk1 hk2, fun d hd1 hd2 => by rw [pk_un (by omega)]; exact h7 d hd1 hd2, h8⟩
theorem rdm31 {Dn K : Nat} {a rl : Nat → Nat} {bm per hs : Nat} {be : Option Nat} {hb : Nat} {b : Nat → Nat} {rw_ rp : Nat → Int32} (hD : Dn ≤ 10) (h : RDm Dn K a rl bm per hs be hb b rw_ rp) (v : Nat) : RDm Dn K a rl bm per v be hb b rw_ (upd rp 31 (nI v)) := by
  obtain ⟨h1, h2, h3, h4, h5, h6, h7, h8⟩ := h
  exact ⟨hse_upd h1 hD (by omega), by rw [pk_un (by decide)]; exact h2, by rw [pk_us], by rw [pk_un (by decide)]; exact h4, by rw [pk_un (by decide)]; exact h5, fun k hk1 hk2 => by rw [pk_un (by omega)]; exact h6 k hk1 hk2, fun d hd1 hd2 => by rw [pk_un (by omega)]; exact h7 d hd1 hd2, h8⟩
theorem rdm32 {Dn K : Nat} {a rl : Nat → Nat} {bm per hs : Nat} {be : Option Nat} {hb : Nat} {b : Nat → Nat} {rw_ rp : Nat → Int32} (hD : Dn ≤ 10) (h : RDm Dn K a rl bm per hs be hb b rw_ rp) (v u : Nat) : RDm Dn K a rl bm per hs (some v) u b rw_ (upd (upd rp 32 (nI (v + 1))) 33 (nI u)) := by
  obtain ⟨h1, h2, h3, h4, h5, h6, h7, h8⟩ := h
  exact ⟨hse_upd (hse_upd h1 hD (by omega)) hD (by omega), by rw [pk_un (by decide), pk_un (by decide)]; exact h2, by rw [pk_un (by decide), pk_un (by decide)]; exact h3, by rw [pk_un (by decide), pk_us]; rfl, by rw [pk_us], fun k hk1 hk2 => by rw [pk_un (by omega), pk_un (by omega)]; exact h6 k hk1 hk2, fun d hd1 hd2 => by rw [pk_un (by omega), pk_un (by omega)]; exact h7 d hd1 hd2, h8⟩
theorem hr_in {Dn hR v : Nat} {be : Option Nat} {a b : Nat → Nat} (h : HRp Dn 0 be a b hR) : HRp Dn v be a b (max hR (v + 1)) := by
  intro Y hY
  rw [Nat.max_le, h Y hY]
  constructor
  · rintro ⟨⟨h1, _, h3⟩, h4⟩; exact ⟨h1, by omega, h3⟩
  · rintro ⟨h1, h2, h3⟩; exact ⟨⟨h1, by omega, h3⟩, by omega⟩
theorem hr_be {Dn hs hR v : Nat} {a b : Nat → Nat} (h : HRp Dn hs none a b hR) : HRp Dn hs (some v) a b (max hR (v + 1)) := by
  intro Y hY
  rw [Nat.max_le, h Y hY]
  constructor
  · rintro ⟨⟨h1, h2, _⟩, h4⟩; exact ⟨h1, h2, fun x hx => by cases hx; omega⟩
  · rintro ⟨h1, h2, h3⟩; exact ⟨⟨h1, h2, fun x hx => by cases hx⟩, by have := h3 v rfl; omega⟩
theorem lx_r {w : Nat → Nat} {n : Nat} {x : Nat × Nat} : lx w n (.inr x) = .inr x := rfl
theorem g49 {β : Type} {k : Nat} {o : Option β} (h : k < 49) : gin (nI k) 49 o = o := gin_k h (by omega)

theorem eq_ln0 {w : Nat → Nat} {n p : Nat} {tp mt cuts letters : Nat → Int32} {cfp ck cp cs cv mfp mk mp ms mv : Int32} {t dc rooms rc sl : Int32} {fe rules : Nat → Int32} {bd beast hab his per : Int32} {se : Nat → Int32} {mhD mhR rd rk rr rs tl : Int32} {rw_ rp : Nat → Int32} (hT : TP w n tp mt) (hC : CnR cuts letters) (hc : LT w n (.inl p) (0 : Int32) cfp ck cp cs cv) (hm : LT w n (.inl p) (0 : Int32) mfp mk mp ms mv) (hk : knd w n p ≠ 0) (hw : ∀ j, j < 14 → mW w n (.inl p) j = decide (j = 0)) (hDR : DRel t dc rooms rc sl fe rules bd beast hab his per se mhD mhR rd rk rr rs tl rw_ rp) : LnO w n p (f_X3_readLine (nI n) (0 : Int32) cfp cp ck cs cv t rooms dc rc sl fe rules bd per his beast hab se tp) (f_X8_readLine rr rd rs rk tl mhR mhD (nI n) (0 : Int32) mfp mp ms mk mv cuts letters rw_ rp mt) := by
  obtain ⟨R, Dn, K, SL, a, rl, bm, pe, hs, be, hb, b, to, tm, hR, hD, hP, hM, ⟨rfl, rfl, rfl, rfl, rfl, rfl, rfl, rfl, rfl, rfl, rfl, rfl, rfl⟩, ⟨rfl, rfl, rfl, rfl, rfl, rfl, rfl⟩⟩ := hDR
  obtain ⟨⟨a1, a2, a3, a4, a5⟩, hAW, ⟨b1, b2, b3, b4, b5, b6⟩, ⟨c1, c2, c3, c4, c5⟩, ⟨d1, d2, d3, d4⟩⟩ := hP
  have hff : ff (mW w n (.inl p)) 14 = some 0 := ff_at (by decide) (by rw [hw 0 (by decide)]; rfl) (fun i hi => by rw [hw i (by omega)]; exact decide_eq_false (by omega))
  have hname := m_name hT hC hm
  rw [hff] at hname
  have htr : to.testBit 0 = tm.testBit 0 := c3 0 (by decide)
  obtain ⟨f1, g1, f, g, k, p', s, v, e1, e2, hl⟩ := c_once (j := 0) (lo := 2) (hi := 7) hT hc c1 (by decide) (by decide) (by decide)
  obtain ⟨f3, g3, k3, p3, s3, v3, e3, hl3⟩ := p_close0 (kind := k) (value := v) (dc := nI Dn) (bd := nI bm) hT (LT_LC hl)
  obtain ⟨mf, mg, mk', mp', ms', mv', em, hlm⟩ := m_first 4 (tm.testBit 0) hT hm (by decide) (by decide)
  rw [p_ln0 hT hc hw, show (1 : Int32) = nI (2 ^ 0) from rfl, e1, ob3_s, show f_X3_nextWithin (nI n) f1 g1 cp ck cs cv tp (2 : Int32) (7 : Int32) = _ from e2, ob7_s, m_lnOnce (i := 0) (by decide) (by decide) (by decide) c2 hname, show f_X8_step (nI n) (if tm.testBit 0 then 4 else 0) (if tm.testBit 0 then ms else mfp) mp ms mk mv mt = _ from em, ob6_s]
  unfold cEnd
  rw [e3, ob7_s]
  rw [← htr] at hlm
  cases hbit : to.testBit 0 with
  | true =>
    simp only [hbit, if_true] at hl3 hlm
    rw [if_neg (LT_bad hlm)]
    exact ⟨.inr (4, skp w n p), _, _, _, _, _, _, _, _, _, _, _, _, _, _, _, _, _, _, _, _, _, _, _, _, _, _, _, _, _, _, _, _, _, _, rfl, rfl, hl3, hlm, ⟨a, rl, b, rfl, rfl, rfl, hAW, Dn, K, rfl, rfl, a3, a4⟩, fun p9 h => by cases h⟩
  | false =>
    simp only [hbit, Bool.false_eq_true, if_false] at hl3 hlm ⊢
    have hdn := dn_lx (w := w) (dn_0 (w := w) hc.1)
    generalize hX : lx w n (.inl (tke w n p)) = X at hl3 hlm hdn ⊢
    cases X with
    | inr x =>
      rw [if_neg (LT_bad hlm)]
      exact ⟨.inr x, _, _, _, _, _, _, _, _, _, _, _, _, _, _, _, _, _, _, _, _, _, _, _, _, _, _, _, _, _, _, _, _, _, _, rfl, rfl, hl3, hlm, ⟨a, rl, b, rfl, rfl, rfl, hAW, Dn, K, rfl, rfl, a3, a4⟩, fun p9 h => by cases h⟩
    | inl q =>
      have h0 := LT_ok hlm
      subst h0
      have hvb := nmb_b (w := w) (n := n) (T := .inl q) (lo := 2) (hi := 7) (by decide)
      obtain ⟨f5, g5, k5, p5, s5, v5, e5, hl5⟩ := m_other (lo := 2) (hi := 7) (m := 0) hT (by decide) (by decide) (by decide) hlm
      rw [nmm_0] at e5 hl5
      generalize hz : nmb w n (.inl q) 2 7 = z at *
      obtain ⟨z1, z2⟩ := z
      simp only at hl3 hvb e5 hl5 ⊢
      obtain ⟨f6, g6, k6, p6, s6, v6, e6, hl6⟩ := m_close hT hl5 (fun a b c d e f => some (a, b, c, HI hD, HI hR, nI Dn, nI K, nI z2, nI SL, d, e, nI (tm ||| 2 ^ 0), f, rw_, rp))
      have er : f_X8_readOnce (nI R) (nI SL) (HI hR) (nI n) (0 : Int32) mg mp' ms' mk' mv' cuts letters rp mt (nI 0) = some (f5, g5, s5, HI hR, nI z2, nI SL, p5, k5, v5, rp) := by
        unfold f_X8_readOnce
        rw [if_pos (show nI 0 = (0 : Int32) from rfl), show f_X8_other (nI n) (0 : Int32) mg mp' ms' mk' mv' mt (2 : Int32) (7 : Int32) (0 : Int32) = _ from e5, ob7_s]
      rw [if_pos (by decide), er, ob10_s]
      unfold mEnd
      rw [e6]
      have hdz : dn n (tke w n p) z1 := by have := dn_nmb (w := w) (lo := 2) (hi := 7) hdn; rw [hz] at this; exact this
      refine ⟨cl w n (lx w n (cns w n z1)), _, _, _, _, _, _, _, _, _, _, _, _, _, _, _, _, _, _, _, _, _, _, _, _, _, _, _, _, _, _, _, _, _, _, rfl, rfl, hl3, hl6, ⟨a, rl, b, rfl, rfl, rfl, hAW, Dn, K, rfl, rfl, a3, a4⟩, fun p9 h9 => ?_⟩
      obtain ⟨r1, r2⟩ := dn_go hc.1 hk (dn_cl (dn_lx (dn_cns hdz))) p9 h9
      refine ⟨r1, r2, z2, Dn, K, SL, a, rl, bm, pe, hs, be, hb, b, to ||| 2 ^ 0, tm ||| 2 ^ 0, hR, hD, ⟨⟨by omega, by omega, a3, a4, a5⟩, hAW, ⟨b1, b2, b3, b4, b5, b6⟩, ⟨(told_0 to c1 0 (by decide)).2, tm_or c2 (by decide), TR_up c3 (by decide), fun h => c4 (tb_or h), fun h => c5 (tb_or h)⟩, ⟨d1, d2, d3, d4⟩⟩, hM, ⟨rfl, rfl, rfl, rfl, rfl, rfl, rfl, rfl, rfl, rfl, rfl, rfl, rfl⟩, ⟨rfl, rfl, rfl, rfl, rfl, rfl, rfl⟩⟩

theorem eq_ln2 {w : Nat → Nat} {n p : Nat} {tp mt cuts letters : Nat → Int32} {cfp ck cp cs cv mfp mk mp ms mv : Int32} {t dc rooms rc sl : Int32} {fe rules : Nat → Int32} {bd beast hab his per : Int32} {se : Nat → Int32} {mhD mhR rd rk rr rs tl : Int32} {rw_ rp : Nat → Int32} (hT : TP w n tp mt) (hC : CnR cuts letters) (hc : LT w n (.inl p) (0 : Int32) cfp ck cp cs cv) (hm : LT w n (.inl p) (0 : Int32) mfp mk mp ms mv) (hk : knd w n p ≠ 0) (hw : ∀ j, j < 14 → mW w n (.inl p) j = decide (j = 2)) (hDR : DRel t dc rooms rc sl fe rules bd beast hab his per se mhD mhR rd rk rr rs tl rw_ rp) : LnO w n p (f_X3_readLine (nI n) (0 : Int32) cfp cp ck cs cv t rooms dc rc sl fe rules bd per his beast hab se tp) (f_X8_readLine rr rd rs rk tl mhR mhD (nI n) (0 : Int32) mfp mp ms mk mv cuts letters rw_ rp mt) := by
  obtain ⟨R, Dn, K, SL, a, rl, bm, pe, hs, be, hb, b, to, tm, hR, hD, hP, hM, ⟨rfl, rfl, rfl, rfl, rfl, rfl, rfl, rfl, rfl, rfl, rfl, rfl, rfl⟩, ⟨rfl, rfl, rfl, rfl, rfl, rfl, rfl⟩⟩ := hDR
  obtain ⟨⟨a1, a2, a3, a4, a5⟩, hAW, ⟨b1, b2, b3, b4, b5, b6⟩, ⟨c1, c2, c3, c4, c5⟩, ⟨d1, d2, d3, d4⟩⟩ := hP
  have hff : ff (mW w n (.inl p)) 14 = some 2 := ff_at (by decide) (by rw [hw 2 (by decide)]; rfl) (fun i hi => by rw [hw i (by omega)]; exact decide_eq_false (by omega))
  have hname := m_name hT hC hm
  rw [hff] at hname
  have htr : to.testBit 1 = tm.testBit 2 := c3 1 (by decide)
  obtain ⟨f1, g1, f, g, k, p', s, v, e1, e2, hl⟩ := c_once (j := 1) (lo := 1) (hi := 6) hT hc c1 (by decide) (by decide) (by decide)
  obtain ⟨f3, g3, k3, p3, s3, v3, e3, hl3⟩ := p_close0 (kind := k) (value := v) (dc := nI Dn) (bd := nI bm) hT (LT_LC hl)
  obtain ⟨mf, mg, mk', mp', ms', mv', em, hlm⟩ := m_first 4 (tm.testBit 2) hT hm (by decide) (by decide)
  rw [p_ln2 hT hc hw, show (2 : Int32) = nI (2 ^ 1) from rfl, e1, ob3_s, show f_X3_nextWithin (nI n) f1 g1 cp ck cs cv tp (1 : Int32) (6 : Int32) = _ from e2, ob7_s, m_lnOnce (i := 2) (by decide) (by decide) (by decide) c2 hname, show f_X8_step (nI n) (if tm.testBit 2 then 4 else 0) (if tm.testBit 2 then ms else mfp) mp ms mk mv mt = _ from em, ob6_s]
  unfold cEnd
  rw [e3, ob7_s]
  rw [← htr] at hlm
  cases hbit : to.testBit 1 with
  | true =>
    simp only [hbit, if_true] at hl3 hlm
    rw [if_neg (LT_bad hlm)]
    exact ⟨.inr (4, skp w n p), _, _, _, _, _, _, _, _, _, _, _, _, _, _, _, _, _, _, _, _, _, _, _, _, _, _, _, _, _, _, _, _, _, _, rfl, rfl, hl3, hlm, ⟨a, rl, b, rfl, rfl, rfl, hAW, Dn, K, rfl, rfl, a3, a4⟩, fun p9 h => by cases h⟩
  | false =>
    simp only [hbit, Bool.false_eq_true, if_false] at hl3 hlm ⊢
    have hdn := dn_lx (w := w) (dn_0 (w := w) hc.1)
    generalize hX : lx w n (.inl (tke w n p)) = X at hl3 hlm hdn ⊢
    cases X with
    | inr x =>
      rw [if_neg (LT_bad hlm)]
      exact ⟨.inr x, _, _, _, _, _, _, _, _, _, _, _, _, _, _, _, _, _, _, _, _, _, _, _, _, _, _, _, _, _, _, _, _, _, _, rfl, rfl, hl3, hlm, ⟨a, rl, b, rfl, rfl, rfl, hAW, Dn, K, rfl, rfl, a3, a4⟩, fun p9 h => by cases h⟩
    | inl q =>
      have h0 := LT_ok hlm
      subst h0
      have hvb := nmb_b (w := w) (n := n) (T := .inl q) (lo := 1) (hi := 6) (by decide)
      obtain ⟨f5, g5, k5, p5, s5, v5, e5, hl5⟩ := m_other (lo := 1) (hi := 6) (m := 0) hT (by decide) (by decide) (by decide) hlm
      rw [nmm_0] at e5 hl5
      generalize hz : nmb w n (.inl q) 1 6 = z at *
      obtain ⟨z1, z2⟩ := z
      simp only at hl3 hvb e5 hl5 ⊢
      obtain ⟨f6, g6, k6, p6, s6, v6, e6, hl6⟩ := m_close hT hl5 (fun a b c d e f => some (a, b, c, HI hD, HI hR, nI Dn, nI K, nI R, nI SL, d, e, nI (tm ||| 2 ^ 2), f, rw_, (upd rp 30 (nI (z2 - 1)))))
      have er : f_X8_readOnce (nI R) (nI SL) (HI hR) (nI n) (0 : Int32) mg mp' ms' mk' mv' cuts letters rp mt (nI 2) = some (f5, g5, s5, HI hR, nI R, nI SL, p5, k5, v5, (upd rp 30 (nI (z2 - 1)))) := by
        unfold f_X8_readOnce
        rw [if_neg (by decide), if_pos (show nI 2 = (2 : Int32) from rfl), show f_X8_other (nI n) (0 : Int32) mg mp' ms' mk' mv' mt (1 : Int32) (6 : Int32) (0 : Int32) = _ from e5, ob7_s, show (30 : Int32) = nI 30 from rfl, g49 (by decide), bnd_s, nI_cl (by decide), show nI z2 - (1 : Int32) = nI (z2 - 1) from pk_sub (b := 1) (by omega)]
      rw [if_pos (by decide), er, ob10_s]
      unfold mEnd
      rw [e6]
      have hdz : dn n (tke w n p) z1 := by have := dn_nmb (w := w) (lo := 1) (hi := 6) hdn; rw [hz] at this; exact this
      refine ⟨cl w n (lx w n (cns w n z1)), _, _, _, _, _, _, _, _, _, _, _, _, _, _, _, _, _, _, _, _, _, _, _, _, _, _, _, _, _, _, _, _, _, _, rfl, rfl, hl3, hl6, ⟨a, rl, b, rfl, rfl, rfl, hAW, Dn, K, rfl, rfl, a3, a4⟩, fun p9 h9 => ?_⟩
      obtain ⟨r1, r2⟩ := dn_go hc.1 hk (dn_cl (dn_lx (dn_cns hdz))) p9 h9
      refine ⟨r1, r2, R, Dn, K, SL, a, rl, bm, z2, hs, be, hb, b, to ||| 2 ^ 1, tm ||| 2 ^ 2, hR, hD, ⟨⟨a1, a2, a3, a4, a5⟩, hAW, ⟨b1, by omega, by omega, b4, b5, b6⟩, ⟨(told_0 to c1 1 (by decide)).2, tm_or c2 (by decide), TR_up c3 (by decide), fun h => c4 (tb_or h), fun h => c5 (tb_or h)⟩, ⟨d1, d2, d3, d4⟩⟩, rdm30 a3 hM z2, ⟨rfl, rfl, rfl, rfl, rfl, rfl, rfl, rfl, rfl, rfl, rfl, rfl, rfl⟩, ⟨rfl, rfl, rfl, rfl, rfl, rfl, rfl⟩⟩

theorem eq_ln6 {w : Nat → Nat} {n p : Nat} {tp mt cuts letters : Nat → Int32} {cfp ck cp cs cv mfp mk mp ms mv : Int32} {t dc rooms rc sl : Int32} {fe rules : Nat → Int32} {bd beast hab his per : Int32} {se : Nat → Int32} {mhD mhR rd rk rr rs tl : Int32} {rw_ rp : Nat → Int32} (hT : TP w n tp mt) (hC : CnR cuts letters) (hc : LT w n (.inl p) (0 : Int32) cfp ck cp cs cv) (hm : LT w n (.inl p) (0 : Int32) mfp mk mp ms mv) (hk : knd w n p ≠ 0) (hw : ∀ j, j < 14 → mW w n (.inl p) j = decide (j = 6)) (hDR : DRel t dc rooms rc sl fe rules bd beast hab his per se mhD mhR rd rk rr rs tl rw_ rp) : LnO w n p (f_X3_readLine (nI n) (0 : Int32) cfp cp ck cs cv t rooms dc rc sl fe rules bd per his beast hab se tp) (f_X8_readLine rr rd rs rk tl mhR mhD (nI n) (0 : Int32) mfp mp ms mk mv cuts letters rw_ rp mt) := by
  obtain ⟨R, Dn, K, SL, a, rl, bm, pe, hs, be, hb, b, to, tm, hR, hD, hP, hM, ⟨rfl, rfl, rfl, rfl, rfl, rfl, rfl, rfl, rfl, rfl, rfl, rfl, rfl⟩, ⟨rfl, rfl, rfl, rfl, rfl, rfl, rfl⟩⟩ := hDR
  obtain ⟨⟨a1, a2, a3, a4, a5⟩, hAW, ⟨b1, b2, b3, b4, b5, b6⟩, ⟨c1, c2, c3, c4, c5⟩, ⟨d1, d2, d3, d4⟩⟩ := hP
  have hff : ff (mW w n (.inl p)) 14 = some 6 := ff_at (by decide) (by rw [hw 6 (by decide)]; rfl) (fun i hi => by rw [hw i (by omega)]; exact decide_eq_false (by omega))
  have hname := m_name hT hC hm
  rw [hff] at hname
  have htr : to.testBit 2 = tm.testBit 6 := c3 2 (by decide)
  obtain ⟨f1, g1, f, g, k, p', s, v, e1, e2, hl⟩ := c_once (j := 2) (lo := 0) (hi := 6) hT hc c1 (by decide) (by decide) (by decide)
  obtain ⟨f3, g3, k3, p3, s3, v3, e3, hl3⟩ := p_close0 (kind := k) (value := v) (dc := nI Dn) (bd := nI bm) hT (LT_LC hl)
  obtain ⟨mf, mg, mk', mp', ms', mv', em, hlm⟩ := m_first 4 (tm.testBit 6) hT hm (by decide) (by decide)
  rw [p_ln6 hT hc hw, show (4 : Int32) = nI (2 ^ 2) from rfl, e1, ob3_s, show f_X3_nextWithin (nI n) f1 g1 cp ck cs cv tp (0 : Int32) (6 : Int32) = _ from e2, ob7_s, m_lnOnce (i := 6) (by decide) (by decide) (by decide) c2 hname, show f_X8_step (nI n) (if tm.testBit 6 then 4 else 0) (if tm.testBit 6 then ms else mfp) mp ms mk mv mt = _ from em, ob6_s]
  unfold cEnd
  rw [e3, ob7_s]
  rw [← htr] at hlm
  cases hbit : to.testBit 2 with
  | true =>
    simp only [hbit, if_true] at hl3 hlm
    rw [if_neg (LT_bad hlm)]
    exact ⟨.inr (4, skp w n p), _, _, _, _, _, _, _, _, _, _, _, _, _, _, _, _, _, _, _, _, _, _, _, _, _, _, _, _, _, _, _, _, _, _, rfl, rfl, hl3, hlm, ⟨a, rl, b, rfl, rfl, rfl, hAW, Dn, K, rfl, rfl, a3, a4⟩, fun p9 h => by cases h⟩
  | false =>
    simp only [hbit, Bool.false_eq_true, if_false] at hl3 hlm ⊢
    have hdn := dn_lx (w := w) (dn_0 (w := w) hc.1)
    generalize hX : lx w n (.inl (tke w n p)) = X at hl3 hlm hdn ⊢
    cases X with
    | inr x =>
      rw [if_neg (LT_bad hlm)]
      exact ⟨.inr x, _, _, _, _, _, _, _, _, _, _, _, _, _, _, _, _, _, _, _, _, _, _, _, _, _, _, _, _, _, _, _, _, _, _, rfl, rfl, hl3, hlm, ⟨a, rl, b, rfl, rfl, rfl, hAW, Dn, K, rfl, rfl, a3, a4⟩, fun p9 h => by cases h⟩
    | inl q =>
      have h0 := LT_ok hlm
      subst h0
      have hvb := nmb_b (w := w) (n := n) (T := .inl q) (lo := 0) (hi := 6) (by decide)
      obtain ⟨f5, g5, k5, p5, s5, v5, e5, hl5⟩ := m_room (hh := hR) hT (by omega) hlm
      generalize hz : nmb w n (.inl q) 0 6 = z at *
      obtain ⟨z1, z2⟩ := z
      simp only at hl3 hvb e5 hl5 ⊢
      obtain ⟨f6, g6, k6, p6, s6, v6, e6, hl6⟩ := m_close hT hl5 (fun a b c d e f => some (a, b, c, HI hD, HI (max hR (z2 + 1)), nI Dn, nI K, nI R, nI SL, d, e, nI (tm ||| 2 ^ 6), f, rw_, (upd rp 31 (nI z2))))
      have er : f_X8_readOnce (nI R) (nI SL) (HI hR) (nI n) (0 : Int32) mg mp' ms' mk' mv' cuts letters rp mt (nI 6) = some (f5, g5, s5, HI (max hR (z2 + 1)), nI R, nI SL, p5, k5, v5, (upd rp 31 (nI z2))) := by
        unfold f_X8_readOnce
        rw [if_neg (by decide), if_neg (by decide), if_pos (show nI 6 = (6 : Int32) from rfl), e5, ob8_s, show (31 : Int32) = nI 31 from rfl, g49 (by decide), bnd_s, nI_cl (by decide)]
      rw [if_pos (by decide), er, ob10_s]
      unfold mEnd
      rw [e6]
      have hdz : dn n (tke w n p) z1 := by have := dn_nmb (w := w) (lo := 0) (hi := 6) hdn; rw [hz] at this; exact this
      refine ⟨cl w n (lx w n (cns w n z1)), _, _, _, _, _, _, _, _, _, _, _, _, _, _, _, _, _, _, _, _, _, _, _, _, _, _, _, _, _, _, _, _, _, _, rfl, rfl, hl3, hl6, ⟨a, rl, b, rfl, rfl, rfl, hAW, Dn, K, rfl, rfl, a3, a4⟩, fun p9 h9 => ?_⟩
      obtain ⟨r1, r2⟩ := dn_go hc.1 hk (dn_cl (dn_lx (dn_cns hdz))) p9 h9
      refine ⟨r1, r2, R, Dn, K, SL, a, rl, bm, pe, z2, be, hb, b, to ||| 2 ^ 2, tm ||| 2 ^ 6, max hR (z2 + 1), hD, ⟨⟨a1, a2, a3, a4, a5⟩, hAW, ⟨b1, b2, b3, by omega, b5, b6⟩, ⟨(told_0 to c1 2 (by decide)).2, tm_or c2 (by decide), TR_up c3 (by decide), fun h => absurd h (by rw [tb_or2]; decide), fun h => c5 (tb_or h)⟩, ⟨by omega, d2, hr_in (by have := c4 hbit; subst this; exact d3), d4⟩⟩, rdm31 a3 hM z2, ⟨rfl, rfl, rfl, rfl, rfl, rfl, rfl, rfl, rfl, rfl, rfl, rfl, rfl⟩, ⟨rfl, rfl, rfl, rfl, rfl, rfl, rfl⟩⟩

theorem eq_ln8 {w : Nat → Nat} {n p : Nat} {tp mt cuts letters : Nat → Int32} {cfp ck cp cs cv mfp mk mp ms mv : Int32} {t dc rooms rc sl : Int32} {fe rules : Nat → Int32} {bd beast hab his per : Int32} {se : Nat → Int32} {mhD mhR rd rk rr rs tl : Int32} {rw_ rp : Nat → Int32} (hT : TP w n tp mt) (hC : CnR cuts letters) (hc : LT w n (.inl p) (0 : Int32) cfp ck cp cs cv) (hm : LT w n (.inl p) (0 : Int32) mfp mk mp ms mv) (hk : knd w n p ≠ 0) (hw : ∀ j, j < 14 → mW w n (.inl p) j = decide (j = 8)) (hDR : DRel t dc rooms rc sl fe rules bd beast hab his per se mhD mhR rd rk rr rs tl rw_ rp) : LnO w n p (f_X3_readLine (nI n) (0 : Int32) cfp cp ck cs cv t rooms dc rc sl fe rules bd per his beast hab se tp) (f_X8_readLine rr rd rs rk tl mhR mhD (nI n) (0 : Int32) mfp mp ms mk mv cuts letters rw_ rp mt) := by
  obtain ⟨R, Dn, K, SL, a, rl, bm, pe, hs, be, hb, b, to, tm, hR, hD, hP, hM, ⟨rfl, rfl, rfl, rfl, rfl, rfl, rfl, rfl, rfl, rfl, rfl, rfl, rfl⟩, ⟨rfl, rfl, rfl, rfl, rfl, rfl, rfl⟩⟩ := hDR
  obtain ⟨⟨a1, a2, a3, a4, a5⟩, hAW, ⟨b1, b2, b3, b4, b5, b6⟩, ⟨c1, c2, c3, c4, c5⟩, ⟨d1, d2, d3, d4⟩⟩ := hP
  have hff : ff (mW w n (.inl p)) 14 = some 8 := ff_at (by decide) (by rw [hw 8 (by decide)]; rfl) (fun i hi => by rw [hw i (by omega)]; exact decide_eq_false (by omega))
  have hname := m_name hT hC hm
  rw [hff] at hname
  have htr : to.testBit 4 = tm.testBit 8 := c3 4 (by decide)
  obtain ⟨f1, g1, f, g, k, p', s, v, e1, e2, hl⟩ := c_once (j := 4) (lo := 0) (hi := 12) hT hc c1 (by decide) (by decide) (by decide)
  obtain ⟨f3, g3, k3, p3, s3, v3, e3, hl3⟩ := p_close0 (kind := k) (value := v) (dc := nI Dn) (bd := nI bm) hT (LT_LC hl)
  obtain ⟨mf, mg, mk', mp', ms', mv', em, hlm⟩ := m_first 4 (tm.testBit 8) hT hm (by decide) (by decide)
  rw [p_ln8 hT hc hw, show (16 : Int32) = nI (2 ^ 4) from rfl, e1, ob3_s, show f_X3_nextWithin (nI n) f1 g1 cp ck cs cv tp (0 : Int32) (12 : Int32) = _ from e2, ob7_s, m_lnOnce (i := 8) (by decide) (by decide) (by decide) c2 hname, show f_X8_step (nI n) (if tm.testBit 8 then 4 else 0) (if tm.testBit 8 then ms else mfp) mp ms mk mv mt = _ from em, ob6_s]
  unfold cEnd
  rw [e3, ob7_s]
  rw [← htr] at hlm
  cases hbit : to.testBit 4 with
  | true =>
    simp only [hbit, if_true] at hl3 hlm
    rw [if_neg (LT_bad hlm)]
    exact ⟨.inr (4, skp w n p), _, _, _, _, _, _, _, _, _, _, _, _, _, _, _, _, _, _, _, _, _, _, _, _, _, _, _, _, _, _, _, _, _, _, rfl, rfl, hl3, hlm, ⟨a, rl, b, rfl, rfl, rfl, hAW, Dn, K, rfl, rfl, a3, a4⟩, fun p9 h => by cases h⟩
  | false =>
    simp only [hbit, Bool.false_eq_true, if_false] at hl3 hlm ⊢
    have hdn := dn_lx (w := w) (dn_0 (w := w) hc.1)
    generalize hX : lx w n (.inl (tke w n p)) = X at hl3 hlm hdn ⊢
    cases X with
    | inr x =>
      rw [if_neg (LT_bad hlm)]
      exact ⟨.inr x, _, _, _, _, _, _, _, _, _, _, _, _, _, _, _, _, _, _, _, _, _, _, _, _, _, _, _, _, _, _, _, _, _, _, rfl, rfl, hl3, hlm, ⟨a, rl, b, rfl, rfl, rfl, hAW, Dn, K, rfl, rfl, a3, a4⟩, fun p9 h => by cases h⟩
    | inl q =>
      have h0 := LT_ok hlm
      subst h0
      have hvb := nmb_b (w := w) (n := n) (T := .inl q) (lo := 0) (hi := 12) (by decide)
      obtain ⟨f5, g5, k5, p5, s5, v5, e5, hl5⟩ := m_other (lo := 0) (hi := 12) (m := 0) hT (by decide) (by decide) (by decide) hlm
      rw [nmm_0] at e5 hl5
      generalize hz : nmb w n (.inl q) 0 12 = z at *
      obtain ⟨z1, z2⟩ := z
      simp only at hl3 hvb e5 hl5 ⊢
      obtain ⟨f6, g6, k6, p6, s6, v6, e6, hl6⟩ := m_close hT hl5 (fun a b c d e f => some (a, b, c, HI hD, HI hR, nI Dn, nI K, nI R, nI z2, d, e, nI (tm ||| 2 ^ 8), f, rw_, rp))
      have er : f_X8_readOnce (nI R) (nI SL) (HI hR) (nI n) (0 : Int32) mg mp' ms' mk' mv' cuts letters rp mt (nI 8) = some (f5, g5, s5, HI hR, nI R, nI z2, p5, k5, v5, rp) := by
        unfold f_X8_readOnce
        rw [if_neg (by decide), if_neg (by decide), if_neg (by decide), if_neg (by decide), show f_X8_other (nI n) (0 : Int32) mg mp' ms' mk' mv' mt (0 : Int32) (12 : Int32) (0 : Int32) = _ from e5, ob7_s]
      rw [if_pos (by decide), er, ob10_s]
      unfold mEnd
      rw [e6]
      have hdz : dn n (tke w n p) z1 := by have := dn_nmb (w := w) (lo := 0) (hi := 12) hdn; rw [hz] at this; exact this
      refine ⟨cl w n (lx w n (cns w n z1)), _, _, _, _, _, _, _, _, _, _, _, _, _, _, _, _, _, _, _, _, _, _, _, _, _, _, _, _, _, _, _, _, _, _, rfl, rfl, hl3, hl6, ⟨a, rl, b, rfl, rfl, rfl, hAW, Dn, K, rfl, rfl, a3, a4⟩, fun p9 h9 => ?_⟩
      obtain ⟨r1, r2⟩ := dn_go hc.1 hk (dn_cl (dn_lx (dn_cns hdz))) p9 h9
      refine ⟨r1, r2, R, Dn, K, z2, a, rl, bm, pe, hs, be, hb, b, to ||| 2 ^ 4, tm ||| 2 ^ 8, hR, hD, ⟨⟨a1, a2, a3, a4, by omega⟩, hAW, ⟨b1, b2, b3, b4, b5, b6⟩, ⟨(told_0 to c1 4 (by decide)).2, tm_or c2 (by decide), TR_up c3 (by decide), fun h => c4 (tb_or h), fun h => c5 (tb_or h)⟩, ⟨d1, d2, d3, d4⟩⟩, hM, ⟨rfl, rfl, rfl, rfl, rfl, rfl, rfl, rfl, rfl, rfl, rfl, rfl, rfl⟩, ⟨rfl, rfl, rfl, rfl, rfl, rfl, rfl⟩⟩
