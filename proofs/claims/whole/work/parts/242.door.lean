/-! ===== pure 42: a door's line ===== -/
def bZ (w : Nat → Nat) (n : Nat) (T : Ps) : Ps := if mW w n T 9 then lx w n (cns w n T) else T
theorem p_clE {w : Nat → Nat} {n : Nat} {T : Ps} {f g k p s v bd : Int32} (h : LT w n T f g k p s v) : ∃ f' g', (if k = (3 : Int32) then some (f, g, k, p, s, v, bd) else ob2 (f_X3_fail f g (2 : Int32) s) (fun x y => some (x, y, k, p, s, v, bd))) = some (f', g', k, p, s, v, bd) ∧ LC n (cl w n T) f' g' p s := by
  cases T with
  | inr x =>
    have hL' := h
    obtain ⟨a1, a2, a3, a4, a5⟩ := h
    have hne : ¬ f = 0 := by rw [a3]; exact nI_ne0 a1 (by omega)
    by_cases c : k = 3
    · rw [if_pos c]; exact ⟨_, _, rfl, hL'⟩
    · rw [if_neg c, failN hne, ob2_s]; exact ⟨_, _, rfl, hL'⟩
  | inl q =>
    obtain ⟨hp, hb, a3, a4, a5, a6, a7⟩ := h
    obtain ⟨t1, t2, t3⟩ := tke_b (w := w) hp
    have hk4 := knd_le (w := w) (n := n) (p := q)
    subst a3; subst a4; subst a5; subst a6
    have ec : cl w n (.inl q) = if knd w n q = 3 then .inl (tke w n q) else .inr (2, skp w n q) := rfl
    by_cases c : knd w n q = 3
    · rw [if_pos (show nI (knd w n q) = (3 : Int32) from by rw [c]; rfl), ec, if_pos c]
      exact ⟨_, _, rfl, t2, rfl, rfl⟩
    · rw [if_neg (show ¬ nI (knd w n q) = (3 : Int32) from fun e => c (nI_inj (b := 3) (by omega) (by omega) e)), fail0, ob2_s, ec, if_neg c]
      exact ⟨_, _, rfl, by show 0 < 2; decide, by show 2 < 8; decide, rfl, rfl, _, _, t1, t2, rfl, rfl⟩
theorem p_close1 {w : Nat → Nat} {n Dn bm : Nat} {tp mt : Nat → Int32} {S : Ps} {fault fp kind place start value : Int32} (hT : TP w n tp mt) (hD : Dn < 10) (h : LC n S fault fp place start) : ∃ f' g' k' p' s' v', f_X3_closeLine (nI n) fault fp place kind start value (nI (Dn + 1)) (nI bm) tp (1 : Int32) = some (f', g', k', p', s', v', nI (if mW w n (lx w n S) 9 then bm ||| 2 ^ Dn else bm)) ∧ LC n (cl w n (bZ w n (lx w n S))) f' g' p' s' := by
  obtain ⟨f1, g1, k1, p1, s1, v1, e, hL⟩ := p_tok (kind := kind) (value := value) hT h
  unfold f_X3_closeLine
  rw [e, ob6_s, jn7_s, if_neg n10]
  dsimp only
  generalize lx w n S = T at hL ⊢
  rw [p_isWord (i := 9) hT (by omega) hL, ob1_s]
  unfold bZ
  cases hb : mW w n T 9 with
  | true =>
    obtain ⟨f2, g2, k2, p2, s2, v2, e2, hL2⟩ := p_tok (kind := k1) (value := v1) hT (LT_LC hL)
    obtain ⟨f3, g3, e3, hL3⟩ := p_clE (bd := nI (bm ||| 2 ^ Dn)) hL2
    rw [bz_t, if_neg n10, bnd_s, show nI (Dn + 1) - (1 : Int32) = nI Dn from nI_pred Dn, shl_k Dn (by omega), fa_or, e2, ob6_s, e3, if_pos rfl, if_pos rfl]
    exact ⟨_, _, _, _, _, _, rfl, hL3⟩
  | false =>
    obtain ⟨f3, g3, e3, hL3⟩ := p_clE (bd := nI bm) hL
    rw [bz_f, if_pos rfl, e3, if_neg (by decide), if_neg (by decide)]
    exact ⟨_, _, _, _, _, _, rfl, hL3⟩
theorem c_door {w : Nat → Nat} {n Dn : Nat} {a b : Nat → Nat} {tp mt : Nat → Int32} {S : Ps} {f g k p s v : Int32} (hT : TP w n tp mt) (hD : Dn < 10) (h : LC n S f g p s) : ∃ f' g' k' p' s' v', f_X3_readDoor (nI n) f g p k s v (nI Dn) (rI a) (rI b) tp = some (f', g', k', p', s', v', nI (Dn + 1), rI (updN a Dn (nmb w n (lx w n S) 0 6).2), rI (updN b Dn (nmb w n (lx w n (cns w n (nmb w n (lx w n S) 0 6).1)) 0 6).2)) ∧ LT w n (nmb w n (lx w n (cns w n (nmb w n (lx w n S) 0 6).1)) 0 6).1 f' g' k' p' s' v' := by
  obtain ⟨f1, g1, k1, p1, s1, v1, e1, h1⟩ := p_num (lo := 0) (hi := 6) (kind := k) (value := v) hT (by omega) (by omega) h
  obtain ⟨f2, g2, k2, p2, s2, v2, e2, h2⟩ := p_num (lo := 0) (hi := 6) (kind := k1) (value := v1) hT (by omega) (by omega) (LT_LC h1)
  unfold f_X3_readDoor
  rw [if_pos (show nI Dn < (10 : Int32) from nI_lt (b := 10) hD (by omega)), show f_X3_nextWithin (nI n) f g p k s v tp (0 : Int32) (6 : Int32) = _ from e1, ob7_s, gin_k hD (by omega), bnd_s, show f_X3_nextWithin (nI n) f1 g1 p1 k1 s1 v1 tp (0 : Int32) (6 : Int32) = _ from e2, ob7_s, gin_k hD (by omega), bnd_s, bnd_s, nI_cl (by omega), rI_upd, rI_upd, show nI Dn + (1 : Int32) = nI (Dn + 1) from nI_1 Dn]
  exact ⟨_, _, _, _, _, _, rfl, h2⟩
theorem m_door {w : Nat → Nat} {n hR Dn : Nat} {tp mt cuts letters rp : Nat → Int32} {T : Ps} {f g k p s v : Int32} (hT : TP w n tp mt) (hC : CnR cuts letters) (hD : Dn < 10) (hhR : hR ≤ 10) (h : LT w n T f g k p s v) : ∃ f' g' k' p' s' v' M rp', f_X8_readDoor (nI Dn) (HI hR) (nI n) f g p s k v cuts letters rp mt = some (f', g', s', HI (max (max hR ((nmb w n T 0 6).2 + 1)) ((nmb w n (lx w n (cns w n (nmb w n T 0 6).1)) 0 6).2 + 1)), nI (Dn + 1), p', k', v', rp') ∧ LT w n M f' g' k' p' s' v' ∧ cl w n M = cl w n (bZ w n (lx w n (cns w n (nmb w n (lx w n (cns w n (nmb w n T 0 6).1)) 0 6).1))) ∧ ∀ p9, cl w n M = .inl p9 → rp' = if mW w n (lx w n (cns w n (nmb w n (lx w n (cns w n (nmb w n T 0 6).1)) 0 6).1)) 9 then upd (upd (upd rp (3 * Dn) (nI (nmb w n T 0 6).2)) (3 * Dn + 1) (nI (nmb w n (lx w n (cns w n (nmb w n T 0 6).1)) 0 6).2)) (3 * Dn + 2) (1 : Int32) else upd (upd rp (3 * Dn) (nI (nmb w n T 0 6).2)) (3 * Dn + 1) (nI (nmb w n (lx w n (cns w n (nmb w n T 0 6).1)) 0 6).2) := by
  have hb1 := nmb_b (w := w) (n := n) (T := T) (lo := 0) (hi := 6) (by omega)
  obtain ⟨f1, g1, k1, p1, s1, v1, e1, hl1⟩ := m_room (hh := hR) hT (by omega) h
  have hb2 := nmb_b (w := w) (n := n) (T := lx w n (cns w n (nmb w n T 0 6).1)) (lo := 0) (hi := 6) (by omega)
  obtain ⟨f2, g2, k2, p2, s2, v2, e2, hl2⟩ := m_room (hh := max hR ((nmb w n T 0 6).2 + 1)) hT (by omega) hl1
  unfold f_X8_readDoor
  rw [i3, bnd_s, e1, ob8_s, g49 (by omega), bnd_s, e2, ob8_s, show nI (3 * Dn) + (1 : Int32) = nI (3 * Dn + 1) from nI_1 _, show nI (3 * Dn) + (2 : Int32) = nI (3 * Dn + 2) from nI_add _ 2, g49 (by omega), bnd_s, jn7_s, nI_cl (by omega), nI_cl (by omega)]
  dsimp only
  rw [show nI Dn + (1 : Int32) = nI (Dn + 1) from nI_1 Dn]
  generalize (nmb w n T 0 6).2 = x at *
  generalize (nmb w n (lx w n (cns w n (nmb w n T 0 6).1)) 0 6).2 = y at *
  generalize lx w n (cns w n (nmb w n (lx w n (cns w n (nmb w n T 0 6).1)) 0 6).1) = Z at hl2 ⊢
  cases Z with
  | inr z =>
    have hne : ¬ f2 = 0 := by rw [hl2.2.2.1]; exact nI_ne0 hl2.1 (by have := hl2.2.1; omega)
    rw [if_neg hne, bnd_s]
    exact ⟨_, _, _, _, _, _, .inr z, _, rfl, hl2, rfl, fun p9 h9 => by cases h9⟩
  | inl q =>
    have hl' := hl2
    obtain ⟨hp, hb, a3, a4, a5, a6, a7⟩ := hl2
    obtain ⟨t1, t2, t3⟩ := tke_b (w := w) hp
    have hk4 := knd_le (w := w) (n := n) (p := q)
    rw [if_pos a3]
    by_cases c : knd w n q = 1
    · have hbad : mW w n (.inl q) 9 = false → ∃ f' g' k' p' s' v' M rp', ob2 (f_X8_fails f2 g2 s2 (2 : Int32)) (fun t_broken_50 t_brokenAt_51 => gin (nI (3 * Dn + 2)) 49 (bnd (upd (upd (upd rp (3 * Dn) (nI x)) (3 * Dn + 1) (nI y)) (nI (3 * Dn + 2)).toNatClampNeg (1 : Int32)) (fun t_readPage_41 => ob6 (f_X8_step (nI n) t_broken_50 t_brokenAt_51 p2 s2 k2 v2 mt) (fun b42 b43 b44 b45 b46 b47 => bnd (nI (Dn + 1)) (fun d32 => some (b42, b43, b44, HI (max (max hR (x + 1)) (y + 1)), d32, b45, b46, b47, t_readPage_41)))))) = some (f', g', s', HI (max (max hR (x + 1)) (y + 1)), nI (Dn + 1), p', k', v', rp') ∧ LT w n M f' g' k' p' s' v' ∧ cl w n M = cl w n (bZ w n (.inl q)) ∧ ∀ p9, cl w n M = .inl p9 → rp' = if mW w n (.inl q) 9 then upd (upd (upd rp (3 * Dn) (nI x)) (3 * Dn + 1) (nI y)) (3 * Dn + 2) (1 : Int32) else upd (upd rp (3 * Dn) (nI x)) (3 * Dn + 1) (nI y) := by
        intro hm
        obtain ⟨f3, g3, k3, p3, s3, v3, e3, hl3⟩ := m_tok (S := .inr (2, skp w n q)) (fault := 2) (fp := s2) (place := p2) (start := s2) (kind := k2) (value := v2) hT ⟨by show 0 < 2; decide, by show 2 < 8; decide, rfl, a6, _, _, t1, t2, a6, a5⟩
        rw [a3, fails0, ob2_s, g49 (by omega), bnd_s, e3, ob6_s, bnd_s]
        have ebz : bZ w n (.inl q) = .inl q := by unfold bZ; rw [hm]; exact if_neg (by decide)
        have ec : cl w n (.inl q) = if knd w n q = 3 then .inl (tke w n q) else .inr (2, skp w n q) := rfl
        refine ⟨_, _, _, _, _, _, .inr (2, skp w n q), _, rfl, hl3, ?_, fun p9 h9 => by cases h9⟩
        rw [ebz, ec, if_neg (by omega)]
        rfl
      rw [if_pos (by rw [a4, c]; rfl), m_name hT hC hl', ob1_s, jn2_s]
      dsimp only
      cases hf : ff (mW w n (.inl q)) 14 with
      | none =>
        rw [if_neg (show ¬ enN none = (9 : Int32) from by decide)]
        exact hbad (ff_none hf 9 (by omega))
      | some i =>
        obtain ⟨hi, hw⟩ := mW_ff hf
        by_cases c9 : i = 9
        · subst c9
          have hm : mW w n (.inl q) 9 = true := by rw [hw 9 (by omega)]; rfl
          obtain ⟨f3, g3, k3, p3, s3, v3, e3, hl3⟩ := m_tok (kind := k2) (value := v2) hT (LT_LC hl')
          rw [if_pos (show enN (some 9) = (9 : Int32) from rfl), g49 (by omega), bnd_s, nI_cl (by omega), e3, ob6_s, bnd_s]
          have ebz : bZ w n (.inl q) = lx w n (cns w n (.inl q)) := by unfold bZ; rw [hm]; exact if_pos rfl
          refine ⟨_, _, _, _, _, _, lx w n (cns w n (.inl q)), _, rfl, hl3, by rw [ebz], fun p9 h9 => ?_⟩
          rw [hm, if_pos rfl]
        · have hm : mW w n (.inl q) 9 = false := by rw [hw 9 (by omega)]; exact decide_eq_false (fun e => c9 e.symm)
          rw [if_neg (show ¬ enN (some i) = (9 : Int32) from fun e => c9 (nI_inj (b := 9) (by omega) (by omega) e))]
          exact hbad hm
    · have hm : mW w n (.inl q) 9 = false := by
        unfold mW
        simp only [show (knd w n q == 1) = false from by simpa using c, Bool.false_and]
      have ebz : bZ w n (.inl q) = .inl q := by unfold bZ; rw [hm]; exact if_neg (by decide)
      rw [if_neg (show ¬ k2 = (1 : Int32) from fun e => c (nI_inj (b := 1) (by omega) (by omega) (by rw [← a4]; exact e))), bnd_s]
      refine ⟨_, _, _, _, _, _, .inl q, _, rfl, hl', by rw [ebz], fun p9 h9 => ?_⟩
      rw [hm, if_neg (by decide)]
theorem updN_s {f : Nat → Nat} {k x : Nat} : updN f k x k = x := if_pos rfl
theorem updN_n {f : Nat → Nat} {k x j : Nat} (h : j ≠ k) : updN f k x j = f j := if_neg h
theorem rdmD {Dn K : Nat} {a rl : Nat → Nat} {bm per hs : Nat} {be : Option Nat} {hb : Nat} {b : Nat → Nat} {rw_ rp : Nat → Int32} (hD : Dn < 10) (hbm : bm < 2 ^ Dn) (h : RDm Dn K a rl bm per hs be hb b rw_ rp) (x y : Nat) (c : Bool) : RDm (Dn + 1) K (updN a Dn x) rl (if c then bm ||| 2 ^ Dn else bm) per hs be hb (updN b Dn y) rw_ (if c then upd (upd (upd rp (3 * Dn) (nI x)) (3 * Dn + 1) (nI y)) (3 * Dn + 2) (1 : Int32) else upd (upd rp (3 * Dn) (nI x)) (3 * Dn + 1) (nI y)) := by
  obtain ⟨h1, h2, h3, h4, h5, h6, h7, h8⟩ := h
  have far : ∀ k, (k < 3 * Dn ∨ 3 * Dn + 2 < k) → (if c then upd (upd (upd rp (3 * Dn) (nI x)) (3 * Dn + 1) (nI y)) (3 * Dn + 2) (1 : Int32) else upd (upd rp (3 * Dn) (nI x)) (3 * Dn + 1) (nI y)) k = rp k := by
    intro k hk
    cases c with
    | true => rw [if_pos rfl, pk_un (by omega), pk_un (by omega), pk_un (by omega)]
    | false => rw [if_neg (by decide), pk_un (by omega), pk_un (by omega)]
  refine ⟨?_, by rw [far _ (by omega)]; exact h2, by rw [far _ (by omega)]; exact h3, by rw [far _ (by omega)]; exact h4, by rw [far _ (by omega)]; exact h5, fun k hk1 hk2 => by rw [far _ (by omega)]; exact h6 k hk1 hk2, fun d hd1 hd2 => by rw [far _ (by omega)]; exact h7 d (by omega) hd2, h8⟩
  intro d hd
  by_cases e : d = Dn
  · subst e
    rw [Nat.zero_add, updN_s, updN_s]
    cases c with
    | true =>
      rw [if_pos rfl, if_pos rfl, Nat.testBit_or, Nat.testBit_two_pow_self, Bool.or_true]
      exact ⟨by rw [pk_un (by omega), pk_un (by omega), pk_us], by rw [pk_un (by omega), pk_us], by rw [pk_us]; rfl⟩
    | false =>
      rw [if_neg (by decide), if_neg (by decide), Nat.testBit_lt_two_pow hbm]
      exact ⟨by rw [pk_un (by omega), pk_us], by rw [pk_us], by rw [pk_un (by omega), pk_un (by omega)]; exact h7 d (Nat.le_refl d) hD⟩
  · obtain ⟨q1, q2, q3⟩ := h1 d (by omega)
    rw [far _ (by omega), far _ (by omega), far _ (by omega), updN_n e, updN_n e]
    refine ⟨q1, q2, ?_⟩
    rw [q3]
    cases c with
    | true =>
      rw [if_pos rfl, Nat.testBit_or, Nat.testBit_two_pow, decide_eq_false (fun h => e h.symm), Bool.or_false]
    | false => rw [if_neg (by decide)]
theorem hr_do {Dn hs hR x y : Nat} {be : Option Nat} {a b : Nat → Nat} (h : HRp Dn hs be a b hR) : HRp (Dn + 1) hs be (updN a Dn x) (updN b Dn y) (max (max hR (x + 1)) (y + 1)) := by
  intro Y hY
  rw [Nat.max_le, Nat.max_le, h Y hY]
  constructor
  · rintro ⟨⟨⟨h1, h2, h3⟩, h4⟩, h5⟩
    refine ⟨fun d hd => ?_, h2, h3⟩
    by_cases e : d = Dn
    · rw [e, updN_s, updN_s]; omega
    · rw [updN_n e, updN_n e]; exact h1 d (by omega)
  · rintro ⟨h1, h2, h3⟩
    have hl := h1 Dn (by omega)
    rw [updN_s, updN_s] at hl
    refine ⟨⟨⟨fun d hd => ?_, h2, h3⟩, by omega⟩, by omega⟩
    have := h1 d (by omega)
    rw [updN_n (by omega), updN_n (by omega)] at this
    exact this
theorem bm_up {Dn bm : Nat} (h : bm < 2 ^ Dn) (c : Bool) : (if c then bm ||| 2 ^ Dn else bm) < 2 ^ (Dn + 1) := by
  have h2 : 2 ^ Dn < 2 ^ (Dn + 1) := Nat.pow_lt_pow_right (by decide) (by omega)
  cases c with
  | true => rw [if_pos rfl]; exact Nat.or_lt_two_pow (by omega) h2
  | false => rw [if_neg (by decide)]; omega
theorem dn_bZ {w : Nat → Nat} {n q : Nat} {T : Ps} (h : dn n q T) : dn n q (bZ w n T) := by
  unfold bZ
  cases mW w n T 9 with
  | true => rw [if_pos rfl]; exact dn_lx (dn_cns h)
  | false => rw [if_neg (by decide)]; exact h
theorem eq_ln1 {w : Nat → Nat} {n p : Nat} {tp mt cuts letters : Nat → Int32} {cfp ck cp cs cv mfp mk mp ms mv : Int32} {t dc rooms rc sl : Int32} {fe rules : Nat → Int32} {bd beast hab his per : Int32} {se : Nat → Int32} {mhD mhR rd rk rr rs tl : Int32} {rw_ rp : Nat → Int32} (hT : TP w n tp mt) (hC : CnR cuts letters) (hc : LT w n (.inl p) (0 : Int32) cfp ck cp cs cv) (hm : LT w n (.inl p) (0 : Int32) mfp mk mp ms mv) (hk : knd w n p ≠ 0) (hw : ∀ j, j < 14 → mW w n (.inl p) j = decide (j = 1)) (hDR : DRel t dc rooms rc sl fe rules bd beast hab his per se mhD mhR rd rk rr rs tl rw_ rp) : LnO w n p (f_X3_readLine (nI n) (0 : Int32) cfp cp ck cs cv t rooms dc rc sl fe rules bd per his beast hab se tp) (f_X8_readLine rr rd rs rk tl mhR mhD (nI n) (0 : Int32) mfp mp ms mk mv cuts letters rw_ rp mt) := by
  obtain ⟨R, Dn, K, SL, a, rl, bm, pe, hs, be, hb, b, to, tm, hR, hD, hP, hM, ⟨rfl, rfl, rfl, rfl, rfl, rfl, rfl, rfl, rfl, rfl, rfl, rfl, rfl⟩, ⟨rfl, rfl, rfl, rfl, rfl, rfl, rfl⟩⟩ := hDR
  obtain ⟨⟨a1, a2, a3, a4, a5⟩, hAW, ⟨b1, b2, b3, b4, b5, b6⟩, ⟨c1, c2, c3, c4, c5⟩, ⟨d1, d2, d3, d4⟩⟩ := hP
  have hff : ff (mW w n (.inl p)) 14 = some 1 := ff_at (by decide) (by rw [hw 1 (by decide)]; rfl) (fun i hi => by rw [hw i (by omega)]; exact decide_eq_false (by omega))
  have hname := m_name hT hC hm
  rw [hff] at hname
  rw [p_ln1 hT hc hw, m_lnDoor (Dn := Dn) c2 a3 hname]
  by_cases hD10 : Dn = 10
  · obtain ⟨mf, mg, mk', mp', ms', mv', em, hlm⟩ := m_first 5 true hT hm (by decide) (by decide)
    rw [if_pos hD10, if_pos hD10, show f_X8_step (nI n) (5 : Int32) ms mp ms mk mv mt = _ from em, ob6_s, if_neg (LT_bad hlm)]
    unfold f_X3_readDoor
    rw [if_neg (show ¬ nI Dn < (10 : Int32) from by rw [hD10]; decide), fail0, ob2_s, ob9_s]
    obtain ⟨hp, hb', q3, q4, q5, q6, q7⟩ := hc
    obtain ⟨t1, t2, t3⟩ := tke_b (w := w) hp
    have hLC : LC n (.inr (5, skp w n p)) (5 : Int32) cs cp cs := ⟨by show 0 < 5; decide, by show 5 < 8; decide, rfl, q6, _, _, t1, t2, q6, q5⟩
    obtain ⟨f1, g1, k1, p1, s1, v1, e1, hL1⟩ := p_tok (kind := ck) (value := cv) hT hLC
    obtain ⟨f3, g3, e3, hL3⟩ := p_clE (bd := nI bm) hL1
    unfold cEnd f_X3_closeLine
    rw [e1, ob6_s, jn7_s, if_neg n10]
    dsimp only
    rw [p_isWord (i := 9) hT (by omega) hL1, ob1_s, show mW w n (lx w n (.inr (5, skp w n p))) 9 = false from rfl, bz_f, if_pos rfl, e3, ob7_s]
    exact ⟨.inr (5, skp w n p), _, _, _, _, _, _, _, _, _, _, _, _, _, _, _, _, _, _, _, _, _, _, _, _, _, _, _, _, _, _, _, _, _, _, rfl, rfl, hL3, hlm, ⟨a, rl, b, rfl, rfl, rfl, hAW, Dn, K, rfl, rfl, a3, a4⟩, fun p9 h => by cases h⟩
  · have hD9 : Dn < 10 := by omega
    obtain ⟨mf, mg, mk', mp', ms', mv', em, hlm⟩ := m_first 5 false hT hm (by decide) (by decide)
    rw [if_neg hD10, if_neg hD10, show f_X8_step (nI n) (0 : Int32) mfp mp ms mk mv mt = _ from em, ob6_s]
    obtain ⟨f1, g1, k1, p1, s1, v1, e1, hl1⟩ := c_door (a := a) (b := b) (k := ck) (v := cv) hT hD9 (LT_LC hc)
    obtain ⟨f3, g3, k3, p3, s3, v3, e3, hl3⟩ := p_close1 (bm := bm) (kind := k1) (value := v1) hT hD9 (LT_LC hl1)
    unfold cEnd
    rw [e1, ob9_s, e3, ob7_s]
    have hdn := dn_lx (w := w) (dn_0 (w := w) hc.1)
    obtain ⟨h7a, hza, h7b, hzb, hrl, hzr⟩ := hAW
    have hx6 := nmb_b (w := w) (n := n) (T := lx w n (cns w n (.inl p))) (lo := 0) (hi := 6) (by decide)
    have hy6 := nmb_b (w := w) (n := n) (T := lx w n (cns w n (nmb w n (lx w n (cns w n (.inl p))) 0 6).1)) (lo := 0) (hi := 6) (by decide)
    have hAW' : AW (updN a Dn (nmb w n (lx w n (cns w n (.inl p))) 0 6).2) rl (updN b Dn (nmb w n (lx w n (cns w n (nmb w n (lx w n (cns w n (.inl p))) 0 6).1)) 0 6).2) := ⟨lt7_upd h7a (by omega), z0_upd hza hD9, lt7_upd h7b (by omega), z0_upd hzb hD9, hrl, hzr⟩
    have hlm : LT w n (lx w n (cns w n (.inl p))) mf mg mk' mp' ms' mv' := hlm
    have hdn : dn n (tke w n p) (lx w n (cns w n (.inl p))) := hdn
    generalize hX : lx w n (cns w n (.inl p)) = X at *
    cases X with
    | inr x =>
      rw [if_neg (LT_bad hlm)]
      exact ⟨.inr x, _, _, _, _, _, _, _, _, _, _, _, _, _, _, _, _, _, _, _, _, _, _, _, _, _, _, _, _, _, _, _, _, _, _, rfl, rfl, hl3, hlm, ⟨_, _, _, rfl, rfl, rfl, hAW', Dn + 1, K, rfl, rfl, by omega, a4⟩, fun p9 h => by cases h⟩
    | inl q =>
      have h0 := LT_ok hlm
      subst h0
      obtain ⟨f5, g5, k5, p5, s5, v5, M, rp', e5, hl5, hcl, hrp⟩ := m_door (hR := hR) (Dn := Dn) (rp := rp) hT hC hD9 (by omega) hlm
      have hdz := dn_cl (w := w) (dn_bZ (w := w) (dn_lx (w := w) (dn_cns (w := w) (dn_nmb (w := w) (lo := 0) (hi := 6) (dn_lx (w := w) (dn_cns (w := w) (dn_nmb (w := w) (lo := 0) (hi := 6) hdn)))))))
      generalize hz : nmb w n (.inl q) 0 6 = z at *
      obtain ⟨z1, z2⟩ := z
      simp only at *
      generalize hy : nmb w n (lx w n (cns w n z1)) 0 6 = y at *
      obtain ⟨y1, y2⟩ := y
      simp only at *
      obtain ⟨f6, g6, k6, p6, s6, v6, e6, hl6⟩ := m_close hT hl5 (fun a b c d e f => some (a, b, c, HI hD, HI (max (max hR (z2 + 1)) (y2 + 1)), nI (Dn + 1), nI K, nI R, nI SL, d, e, nI (tm ||| 2 ^ 1), f, rw_, rp'))
      rw [if_pos (show (0 : Int32) ≤ 0 from by decide), e5, ob9_s]
      unfold mEnd
      rw [e6]
      rw [hcl] at hl6 hrp
      refine ⟨cl w n (bZ w n (lx w n (cns w n y1))), _, _, _, _, _, _, _, _, _, _, _, _, _, _, _, _, _, _, _, _, _, _, _, _, _, _, _, _, _, _, _, _, _, _, rfl, rfl, hl3, hl6, ⟨_, _, _, rfl, rfl, rfl, hAW', Dn + 1, K, rfl, rfl, by omega, a4⟩, fun p9 h9 => ?_⟩
      obtain ⟨r1, r2⟩ := dn_go hc.1 hk hdz p9 h9
      have hr := hrp p9 h9
      subst hr
      exact ⟨r1, r2, R, Dn + 1, K, SL, _, rl, _, pe, hs, be, hb, _, to, tm ||| 2 ^ 1, max (max hR (z2 + 1)) (y2 + 1), hD, ⟨⟨a1, a2, by omega, a4, a5⟩, hAW', ⟨bm_up b1 _, b2, b3, b4, b5, b6⟩, ⟨c1, tm_or c2 (by decide), TR_no c3 (Or.inl rfl), c4, c5⟩, ⟨by omega, d2, hr_do d3, d4⟩⟩, rdmD hD9 b1 hM _ _ _, ⟨rfl, rfl, rfl, rfl, rfl, rfl, rfl, rfl, rfl, rfl, rfl, rfl, rfl⟩, ⟨rfl, rfl, rfl, rfl, rfl, rfl, rfl⟩⟩
