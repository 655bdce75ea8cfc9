/-! ===== pure 43: lines of rules ===== -/
theorem g18 {β : Type} {k : Nat} {o : Option β} (h : k < 18) : gin (nI k) 18 o = o := gin_k h (by omega)
theorem lwr_up {lw : Nat → Int32} {K L : Nat} {rl : Nat → Nat} {v : Int32} (h : lwr lw K rl) (hv : L < 200 → v = nI (L % 10)) : lwr (upd (upd (upd lw (3 * K) (nI (L / 100))) (3 * K + 1) (nI (ld L))) (3 * K + 2) v) (K + 1) (updN rl K L) := by
  intro k hk
  by_cases e : k = K
  · subst e
    rw [updN_s]
    exact ⟨by rw [pk_un (by omega), pk_un (by omega), pk_us], by rw [pk_un (by omega), pk_us], fun hl => by rw [pk_us]; exact hv hl⟩
  · obtain ⟨q1, q2, q3⟩ := h k (by omega)
    rw [updN_n e]
    exact ⟨by rw [pk_un (by omega), pk_un (by omega), pk_un (by omega)]; exact q1, by rw [pk_un (by omega), pk_un (by omega), pk_un (by omega)]; exact q2, fun hl => by rw [pk_un (by omega), pk_un (by omega), pk_un (by omega)]; exact q3 hl⟩
theorem hd_up {K L hD hD' : Nat} {rl : Nat → Nat} (h : HDp K rl hD) (h2 : ∀ Y, hD' ≤ Y ↔ hD ≤ Y ∧ ld L < Y ∧ (L < 100 → L % 10 < Y)) : HDp (K + 1) (updN rl K L) hD' := by
  intro Y
  rw [h2 Y, h Y]
  constructor
  · rintro ⟨h1, h3, h4⟩ k hk
    by_cases e : k = K
    · rw [e, updN_s]; exact ⟨h3, h4⟩
    · rw [updN_n e]; exact h1 k (by omega)
  · intro h1
    have hl := h1 K (by omega)
    rw [updN_s] at hl
    refine ⟨fun k hk => ?_, hl.1, hl.2⟩
    have := h1 k (by omega)
    rw [updN_n (by omega)] at this
    exact this
theorem c_rule3 {w : Nat → Nat} {n K : Nat} {rl : Nat → Nat} {tp mt : Nat → Int32} {S : Ps} {f g k p s v : Int32} (hT : TP w n tp mt) (hK : K < 6) (h : LC n S f g p s) : ∃ f' g' k' p' s' v', f_X3_readRule (nI n) f g p k s v (nI K) (rI rl) tp (0 : Int32) = some (f', g', k', p', s', v', nI (K + 1), rI (updN rl K (10 * (nmb w n (lx w n S) 0 9).2 + (nmb w n (lx w n (cns w n (nmb w n (lx w n S) 0 9).1)) 0 9).2))) ∧ LT w n (nmm w n (lx w n (cns w n (nmb w n (lx w n S) 0 9).1)) 0 9 (2 ^ (nmb w n (lx w n S) 0 9).2)).1 f' g' k' p' s' v' := by
  obtain ⟨f1, g1, k1, p1, s1, v1, e1, h1⟩ := p_num (lo := 0) (hi := 9) (kind := k) (value := v) hT (by omega) (by omega) h
  obtain ⟨f2, g2, k2, p2, s2, v2, e2, h2⟩ := p_num (lo := 0) (hi := 9) (kind := k1) (value := v1) hT (by omega) (by omega) (LT_LC h1)
  have hb1 := nmb_b (w := w) (n := n) (T := lx w n S) (lo := 0) (hi := 9) (by omega)
  have hb2 := nmb_b (w := w) (n := n) (T := lx w n (cns w n (nmb w n (lx w n S) 0 9).1)) (lo := 0) (hi := 9) (by omega)
  unfold f_X3_readRule
  rw [if_pos (show nI K < (6 : Int32) from nI_lt (b := 6) hK (by omega)), show f_X3_nextWithin (nI n) f g p k s v tp (0 : Int32) (9 : Int32) = _ from e1, ob7_s, jn1_s, if_neg (by decide)]
  dsimp only
  rw [bnd_s, jn7_s, if_neg (by decide), if_pos rfl, show f_X3_nextWithin (nI n) f1 g1 p1 k1 s1 v1 tp (0 : Int32) (9 : Int32) = _ from e2, ob7_s, jn2_s]
  dsimp only
  have hg6 : ∀ {β : Type} (o : Option β), gin (nI K) 6 o = o := fun o => gin_k hK (by omega)
  simp only [bnd_s, hg6]
  rw [show nI K + (1 : Int32) = nI (K + 1) from nI_1 K, nI_cl (by omega), show (10 : Int32) * nI (nmb w n (lx w n S) 0 9).2 = nI (10 * (nmb w n (lx w n S) 0 9).2) from pk_mul 10 _, Int32.zero_add, nI_add, rI_upd]
  unfold nmm
  generalize nmb w n (lx w n S) 0 9 = z at *
  obtain ⟨z1, z2⟩ := z
  simp only at *
  generalize nmb w n (lx w n (cns w n z1)) 0 9 = u at *
  obtain ⟨u1, u2⟩ := u
  simp only at *
  rw [Nat.testBit_two_pow]
  by_cases c : u2 = z2
  · rw [if_pos (by rw [c])]
    cases u1 with
    | inr x =>
      have hne : ¬ f2 = 0 := by rw [h2.2.2.1]; exact nI_ne0 h2.1 (by have := h2.2.1; omega)
      rw [failN hne, ob2_s]
      exact ⟨_, _, _, _, _, _, rfl, h2⟩
    | inl q =>
      obtain ⟨hp, hb, a3, a4, a5, a6, a7⟩ := h2
      obtain ⟨t1, t2, t3⟩ := tke_b (w := w) hp
      rw [a3, fail0, ob2_s]
      refine ⟨_, _, _, _, _, _, rfl, ?_⟩
      rw [decide_eq_true c.symm]
      exact ⟨by show 0 < 4; decide, by show 4 < 8; decide, rfl, a6, _, _, t1, t2, a6, a5⟩
  · rw [if_neg (fun e => c (nI_inj (by omega) (by omega) e))]
    refine ⟨_, _, _, _, _, _, rfl, ?_⟩
    cases u1 with
    | inr x => exact h2
    | inl q =>
      rw [decide_eq_false (fun e => c e.symm)]
      exact h2
theorem c_rule4 {w : Nat → Nat} {n K : Nat} {rl : Nat → Nat} {tp mt : Nat → Int32} {S : Ps} {f g k p s v : Int32} (hT : TP w n tp mt) (hK : K < 6) (h : LC n S f g p s) : ∃ f' g' k' p' s' v', f_X3_readRule (nI n) f g p k s v (nI K) (rI rl) tp (100 : Int32) = some (f', g', k', p', s', v', nI (K + 1), rI (updN rl K (100 + 10 * (nmb w n (lx w n S) 0 9).2 + (nmb w n (lx w n (cns w n (nmb w n (lx w n S) 0 9).1)) 1 6).2))) ∧ LT w n (nmb w n (lx w n (cns w n (nmb w n (lx w n S) 0 9).1)) 1 6).1 f' g' k' p' s' v' := by
  obtain ⟨f1, g1, k1, p1, s1, v1, e1, h1⟩ := p_num (lo := 0) (hi := 9) (kind := k) (value := v) hT (by omega) (by omega) h
  obtain ⟨f2, g2, k2, p2, s2, v2, e2, h2⟩ := p_num (lo := 1) (hi := 6) (kind := k1) (value := v1) hT (by omega) (by omega) (LT_LC h1)
  unfold f_X3_readRule
  rw [if_pos (show nI K < (6 : Int32) from nI_lt (b := 6) hK (by omega)), show f_X3_nextWithin (nI n) f g p k s v tp (0 : Int32) (9 : Int32) = _ from e1, ob7_s, jn1_s, if_neg (by decide)]
  dsimp only
  rw [bnd_s, jn7_s, if_pos rfl, show f_X3_nextWithin (nI n) f1 g1 p1 k1 s1 v1 tp (1 : Int32) (6 : Int32) = _ from e2, ob7_s]
  simp only [bnd_s]
  rw [gin_k hK (by omega), show nI K + (1 : Int32) = nI (K + 1) from nI_1 K, nI_cl (by omega), show (10 : Int32) * nI (nmb w n (lx w n S) 0 9).2 = nI (10 * (nmb w n (lx w n S) 0 9).2) from pk_mul 10 _, show (100 : Int32) + nI (10 * (nmb w n (lx w n S) 0 9).2) = nI (100 + 10 * (nmb w n (lx w n S) 0 9).2) from nI_add 100 _, nI_add, rI_upd]
  exact ⟨_, _, _, _, _, _, rfl, h2⟩
theorem c_rule5 {w : Nat → Nat} {n K : Nat} {rl : Nat → Nat} {tp mt : Nat → Int32} {S : Ps} {f g k p s v : Int32} (hT : TP w n tp mt) (hK : K < 6) (h : LC n S f g p s) : ∃ f' g' k' p' s' v', f_X3_readRule (nI n) f g p k s v (nI K) (rI rl) tp (200 : Int32) = some (f', g', k', p', s', v', nI (K + 1), rI (updN rl K (200 + (nmb w n (lx w n S) 0 9).2))) ∧ LT w n (nmb w n (lx w n S) 0 9).1 f' g' k' p' s' v' := by
  obtain ⟨f1, g1, k1, p1, s1, v1, e1, h1⟩ := p_num (lo := 0) (hi := 9) (kind := k) (value := v) hT (by omega) (by omega) h
  unfold f_X3_readRule
  rw [if_pos (show nI K < (6 : Int32) from nI_lt (b := 6) hK (by omega)), show f_X3_nextWithin (nI n) f g p k s v tp (0 : Int32) (9 : Int32) = _ from e1, ob7_s, jn1_s, if_pos rfl]
  dsimp only
  rw [bnd_s, jn7_s, if_neg (by decide), if_neg (by decide)]
  simp only [bnd_s]
  rw [gin_k hK (by omega), show nI K + (1 : Int32) = nI (K + 1) from nI_1 K, nI_cl (by omega), show (200 : Int32) + nI (nmb w n (lx w n S) 0 9).2 = nI (200 + (nmb w n (lx w n S) 0 9).2) from nI_add 200 _, rI_upd]
  exact ⟨_, _, _, _, _, _, rfl, h1⟩
theorem m_rule3 {w : Nat → Nat} {n hD K : Nat} {tp mt lw : Nat → Int32} {T : Ps} {f g k p s v : Int32} (hT : TP w n tp mt) (hK : K < 6) (hhD : hD ≤ 10) (h : LT w n T f g k p s v) : ∃ f' g' k' p' s' v', f_X8_readRule (nI K) (HI hD) (nI n) f g p s k v lw mt (nI 3) = some (f', g', s', HI (max (max hD ((nmb w n T 0 9).2 + 1)) ((nmm w n (lx w n (cns w n (nmb w n T 0 9).1)) 0 9 (2 ^ (nmb w n T 0 9).2)).2 + 1)), nI (K + 1), p', k', v', upd (upd (upd lw (3 * K) (nI 0)) (3 * K + 1) (nI (nmb w n T 0 9).2)) (3 * K + 2) (nI (nmm w n (lx w n (cns w n (nmb w n T 0 9).1)) 0 9 (2 ^ (nmb w n T 0 9).2)).2)) ∧ LT w n (lx w n (cns w n (nmm w n (lx w n (cns w n (nmb w n T 0 9).1)) 0 9 (2 ^ (nmb w n T 0 9).2)).1)) f' g' k' p' s' v' := by
  have hb1 := nmb_b (w := w) (n := n) (T := T) (lo := 0) (hi := 9) (by omega)
  obtain ⟨f1, g1, k1, p1, s1, v1, e1, hl1, _⟩ := m_doorOf (hh := hD) (m := 0) hT (by omega) (by omega) h
  rw [nmm_0] at e1 hl1
  have hp2 : 2 ^ (nmb w n T 0 9).2 < 2147483648 := Nat.lt_of_le_of_lt (Nat.pow_le_pow_right (by decide) hb1.2) (by decide)
  obtain ⟨f2, g2, k2, p2, s2, v2, e2, hl2, _⟩ := m_doorOf (hh := max hD ((nmb w n T 0 9).2 + 1)) (m := 2 ^ (nmb w n T 0 9).2) hT (by omega) hp2 hl1
  unfold f_X8_readRule
  rw [i3, bnd_s, g18 (by omega), bnd_s, show f_X8_doorOf (HI hD) (nI n) f g p s k v mt (0 : Int32) = _ from e1, ob8_s, show nI (3 * K) + (1 : Int32) = nI (3 * K + 1) from nI_1 _, show nI (3 * K) + (2 : Int32) = nI (3 * K + 2) from nI_add _ 2, g18 (by omega), bnd_s, jn8_s, if_pos (show nI 3 = (3 : Int32) from rfl), g18 (by omega), nI_cl (by omega), nI_cl (by omega), pk_us, shl_k _ (by omega), e2, ob8_s]
  dsimp only
  rw [g18 (by omega), bnd_s, bnd_s, nI_cl (by omega), show nI K + (1 : Int32) = nI (K + 1) from nI_1 K, show nI 3 - (3 : Int32) = nI 0 from rfl]
  exact ⟨_, _, _, _, _, _, rfl, hl2⟩
theorem m_rule4 {w : Nat → Nat} {n hD K : Nat} {tp mt lw : Nat → Int32} {T : Ps} {f g k p s v : Int32} (hT : TP w n tp mt) (hK : K < 6) (hhD : hD ≤ 10) (h : LT w n T f g k p s v) : ∃ f' g' k' p' s' v', f_X8_readRule (nI K) (HI hD) (nI n) f g p s k v lw mt (nI 4) = some (f', g', s', HI (max hD ((nmb w n T 0 9).2 + 1)), nI (K + 1), p', k', v', upd (upd (upd lw (3 * K) (nI 1)) (3 * K + 1) (nI (nmb w n T 0 9).2)) (3 * K + 2) (nI (nmb w n (lx w n (cns w n (nmb w n T 0 9).1)) 1 6).2)) ∧ LT w n (lx w n (cns w n (nmb w n (lx w n (cns w n (nmb w n T 0 9).1)) 1 6).1)) f' g' k' p' s' v' := by
  have hb1 := nmb_b (w := w) (n := n) (T := T) (lo := 0) (hi := 9) (by omega)
  obtain ⟨f1, g1, k1, p1, s1, v1, e1, hl1, _⟩ := m_doorOf (hh := hD) (m := 0) hT (by omega) (by omega) h
  rw [nmm_0] at e1 hl1
  obtain ⟨f2, g2, k2, p2, s2, v2, e2, hl2⟩ := m_other (lo := 1) (hi := 6) (m := 0) hT (by omega) (by omega) (by omega) hl1
  rw [nmm_0] at e2 hl2
  unfold f_X8_readRule
  rw [i3, bnd_s, g18 (by omega), bnd_s, show f_X8_doorOf (HI hD) (nI n) f g p s k v mt (0 : Int32) = _ from e1, ob8_s, show nI (3 * K) + (1 : Int32) = nI (3 * K + 1) from nI_1 _, show nI (3 * K) + (2 : Int32) = nI (3 * K + 2) from nI_add _ 2, g18 (by omega), bnd_s, jn8_s, if_neg (show ¬ nI 4 = (3 : Int32) from by decide), if_pos (show nI 4 = (4 : Int32) from rfl), nI_cl (by omega), nI_cl (by omega), show f_X8_other (nI n) f1 g1 p1 s1 k1 v1 mt (1 : Int32) (6 : Int32) (0 : Int32) = _ from e2, ob7_s]
  dsimp only
  rw [g18 (by omega), bnd_s, bnd_s, nI_cl (by omega), show nI K + (1 : Int32) = nI (K + 1) from nI_1 K, show nI 4 - (3 : Int32) = nI 1 from rfl]
  exact ⟨_, _, _, _, _, _, rfl, hl2⟩
theorem m_rule5 {w : Nat → Nat} {n hD K : Nat} {tp mt lw : Nat → Int32} {T : Ps} {f g k p s v : Int32} (hT : TP w n tp mt) (hK : K < 6) (hhD : hD ≤ 10) (h : LT w n T f g k p s v) : ∃ f' g' k' p' s' v', f_X8_readRule (nI K) (HI hD) (nI n) f g p s k v lw mt (nI 5) = some (f', g', s', HI (max hD ((nmb w n T 0 9).2 + 1)), nI (K + 1), p', k', v', upd (upd (upd lw (3 * K) (nI 2)) (3 * K + 1) (nI (nmb w n T 0 9).2)) (3 * K + 2) (0 : Int32)) ∧ LT w n (lx w n (cns w n (nmb w n T 0 9).1)) f' g' k' p' s' v' := by
  have hb1 := nmb_b (w := w) (n := n) (T := T) (lo := 0) (hi := 9) (by omega)
  obtain ⟨f1, g1, k1, p1, s1, v1, e1, hl1, _⟩ := m_doorOf (hh := hD) (m := 0) hT (by omega) (by omega) h
  rw [nmm_0] at e1 hl1
  unfold f_X8_readRule
  rw [i3, bnd_s, g18 (by omega), bnd_s, show f_X8_doorOf (HI hD) (nI n) f g p s k v mt (0 : Int32) = _ from e1, ob8_s, show nI (3 * K) + (1 : Int32) = nI (3 * K + 1) from nI_1 _, show nI (3 * K) + (2 : Int32) = nI (3 * K + 2) from nI_add _ 2, g18 (by omega), bnd_s, jn8_s, if_neg (show ¬ nI 5 = (3 : Int32) from by decide), if_neg (show ¬ nI 5 = (4 : Int32) from by decide), nI_cl (by omega), nI_cl (by omega)]
  dsimp only
  rw [g18 (by omega), bnd_s, bnd_s, nI_cl (by omega), show nI K + (1 : Int32) = nI (K + 1) from nI_1 K, show nI 5 - (3 : Int32) = nI 2 from rfl]
  exact ⟨_, _, _, _, _, _, rfl, hl1⟩
/-- what the three have in common -/
theorem eqR_rule {w : Nat → Nat} {n p i L hD' : Nat} {tp mt cuts letters : Nat → Int32} {cfp ck cp cs cv mfp mk mp ms mv pl : Int32} {R Dn K SL : Nat} {a rl : Nat → Nat} {bm pe hs : Nat} {be : Option Nat} {hb : Nat} {b : Nat → Nat} {to tm hR hD : Nat} {rw_ rp : Nat → Int32} {T : Ps} (hT : TP w n tp mt) (hC : CnR cuts letters) (hc : LT w n (.inl p) (0 : Int32) cfp ck cp cs cv) (hm : LT w n (.inl p) (0 : Int32) mfp mk mp ms mv) (hk : knd w n p ≠ 0) (hi : 3 ≤ i ∧ i ≤ 5) (hw : ∀ j, j < 14 → mW w n (.inl p) j = decide (j = i)) (hP : RDp R Dn K SL a rl bm pe hs be hb b to tm hR hD) (hM : RDm Dn K a rl bm pe hs be hb b rw_ rp) (hL : L < 210) (hD10 : hD' ≤ 10)
    (hcr : K < 6 → ∃ f' g' k' p' s' v', f_X3_readRule (nI n) (0 : Int32) cfp cp ck cs cv (nI K) (rI rl) tp pl = some (f', g', k', p', s', v', nI (K + 1), rI (updN rl K L)) ∧ LT w n T f' g' k' p' s' v')
    (hmr : K < 6 → ∀ q g k pp s v, lx w n (cns w n (.inl p)) = .inl q → LT w n (.inl q) (0 : Int32) g k pp s v → ∃ f' g' k' p' s' v' lw', f_X8_readRule (nI K) (HI hD) (nI n) (0 : Int32) g pp s k v rw_ mt (nI i) = some (f', g', s', HI hD', nI (K + 1), p', k', v', lw') ∧ LT w n (lx w n (cns w n T)) f' g' k' p' s' v' ∧ (∀ q9, T = .inl q9 → lwr lw' (K + 1) (updN rl K L) ∧ HDp (K + 1) (updN rl K L) hD'))
    (hXT : ∀ x, lx w n (cns w n (.inl p)) = .inr x → T = .inr x) (hdT : dn n (tke w n p) T) : LnO w n p (ob8 (f_X3_readRule (nI n) (0 : Int32) cfp cp ck cs cv (nI K) (rI rl) tp pl) (fun f g k p s v rc' rules' => cEnd n (nI bm) tp 0 f g k p s (nI to) v (nI Dn) (nI R) rc' (nI SL) (rI a) rules' (enc be) (nI hb) (nI hs) (nI pe) (rI b))) (f_X8_readLine (nI R) (nI Dn) (nI SL) (nI K) (nI tm) (HI hR) (HI hD) (nI n) (0 : Int32) mfp mp ms mk mv cuts letters rw_ rp mt) := by
  obtain ⟨⟨a1, a2, a3, a4, a5⟩, hAW, ⟨b1, b2, b3, b4, b5, b6⟩, ⟨c1, c2, c3, c4, c5⟩, ⟨d1, d2, d3, d4⟩⟩ := hP
  have hff : ff (mW w n (.inl p)) 14 = some i := ff_at (by omega) (by rw [hw i (by omega)]; exact decide_eq_true rfl) (fun j hj => by rw [hw j (by omega)]; exact decide_eq_false (by omega))
  have hname := m_name hT hC hm
  rw [hff] at hname
  rw [m_lnRule (i := i) (K := K) c2 a4 hi hname]
  by_cases hK6 : K = 6
  · obtain ⟨mf, mg, mk', mp', ms', mv', em, hlm⟩ := m_first 5 true hT hm (by decide) (by decide)
    rw [if_pos hK6, if_pos hK6, show f_X8_step (nI n) (5 : Int32) ms mp ms mk mv mt = _ from em, ob6_s, if_neg (LT_bad hlm)]
    unfold f_X3_readRule
    rw [if_neg (show ¬ nI K < (6 : Int32) from by rw [hK6]; decide), fail0, ob2_s, ob8_s]
    obtain ⟨hp, hb', q3, q4, q5, q6, q7⟩ := hc
    obtain ⟨t1, t2, t3⟩ := tke_b (w := w) hp
    have hLC : LC n (.inr (5, skp w n p)) (5 : Int32) cs cp cs := ⟨by show 0 < 5; decide, by show 5 < 8; decide, rfl, q6, _, _, t1, t2, q6, q5⟩
    obtain ⟨f3, g3, k3, p3, s3, v3, e3, hl3⟩ := p_close0 (kind := ck) (value := cv) (dc := nI Dn) (bd := nI bm) hT hLC
    unfold cEnd
    rw [e3, ob7_s]
    exact ⟨.inr (5, skp w n p), _, _, _, _, _, _, _, _, _, _, _, _, _, _, _, _, _, _, _, _, _, _, _, _, _, _, _, _, _, _, _, _, _, _, rfl, rfl, hl3, hlm, ⟨a, rl, b, rfl, rfl, rfl, hAW, Dn, K, rfl, rfl, a3, a4⟩, fun p9 h => by cases h⟩
  · have hK : K < 6 := by omega
    obtain ⟨mf, mg, mk', mp', ms', mv', em, hlm⟩ := m_first 5 false hT hm (by decide) (by decide)
    rw [if_neg hK6, if_neg hK6, show f_X8_step (nI n) (0 : Int32) mfp mp ms mk mv mt = _ from em, ob6_s]
    obtain ⟨f1, g1, k1, p1, s1, v1, e1, hl1⟩ := hcr hK
    obtain ⟨f3, g3, k3, p3, s3, v3, e3, hl3⟩ := p_close0 (kind := k1) (value := v1) (dc := nI Dn) (bd := nI bm) hT (LT_LC hl1)
    unfold cEnd
    rw [e1, ob8_s, e3, ob7_s]
    obtain ⟨h7a, hza, h7b, hzb, hrl, hzr⟩ := hAW
    have hAW' : AW a (updN rl K L) b := ⟨h7a, hza, h7b, hzb, fun k => by
      by_cases e : k = K
      · rw [e, updN_s]; exact hL
      · rw [updN_n e]; exact hrl k, z0_upd hzr hK⟩
    have hlm : LT w n (lx w n (cns w n (.inl p))) mf mg mk' mp' ms' mv' := hlm
    generalize hX : lx w n (cns w n (.inl p)) = X at *
    cases X with
    | inr x =>
      rw [hXT x rfl] at hl3
      rw [if_neg (LT_bad hlm)]
      exact ⟨.inr x, _, _, _, _, _, _, _, _, _, _, _, _, _, _, _, _, _, _, _, _, _, _, _, _, _, _, _, _, _, _, _, _, _, _, rfl, rfl, hl3, hlm, ⟨_, _, _, rfl, rfl, rfl, hAW', Dn, K + 1, rfl, rfl, a3, by omega⟩, fun p9 h => by cases h⟩
    | inl q =>
      have h0 := LT_ok hlm
      subst h0
      obtain ⟨f5, g5, k5, p5, s5, v5, lw', e5, hl5, hlw⟩ := hmr hK q _ _ _ _ _ rfl hlm
      obtain ⟨f6, g6, k6, p6, s6, v6, e6, hl6⟩ := m_close hT hl5 (fun a b c d e f => some (a, b, c, HI hD', HI hR, nI Dn, nI (K + 1), nI R, nI SL, d, e, nI (tm ||| 2 ^ i), f, lw', rp))
      rw [if_pos (show (0 : Int32) ≤ 0 from by decide), e5, ob9_s]
      unfold mEnd
      rw [e6]
      refine ⟨cl w n (lx w n (cns w n T)), _, _, _, _, _, _, _, _, _, _, _, _, _, _, _, _, _, _, _, _, _, _, _, _, _, _, _, _, _, _, _, _, _, _, rfl, rfl, hl3, hl6, ⟨_, _, _, rfl, rfl, rfl, hAW', Dn, K + 1, rfl, rfl, a3, by omega⟩, fun p9 h9 => ?_⟩
      obtain ⟨r1, r2⟩ := dn_go hc.1 hk (dn_cl (dn_lx (dn_cns hdT))) p9 h9
      obtain ⟨s9, hs9, _, _⟩ := cl_lx (LT_wf hl1) h9
      obtain ⟨q9, hq9⟩ : ∃ q9, T = .inl q9 := by
        cases T with
        | inl q9 => exact ⟨q9, rfl⟩
        | inr x => cases hs9
      obtain ⟨hl1', hl2'⟩ := hlw q9 hq9
      obtain ⟨m1, m2, m3, m4, m5, m6, m7, m8⟩ := hM
      exact ⟨r1, r2, R, Dn, K + 1, SL, a, updN rl K L, bm, pe, hs, be, hb, b, to, tm ||| 2 ^ i, hR, hD', ⟨⟨a1, a2, a3, by omega, a5⟩, hAW', ⟨b1, b2, b3, b4, b5, b6⟩, ⟨c1, tm_or c2 (by omega), TR_no c3 (by omega), c4, c5⟩, ⟨d1, hD10, d3, hl2'⟩⟩, ⟨m1, m2, m3, m4, m5, m6, m7, hl1'⟩, ⟨rfl, rfl, rfl, rfl, rfl, rfl, rfl, rfl, rfl, rfl, rfl, rfl, rfl⟩, ⟨rfl, rfl, rfl, rfl, rfl, rfl, rfl⟩⟩
theorem ld_s {d u : Nat} (hd : d ≤ 9) (hu : u ≤ 9) : ld (10 * d + u) = d ∧ (10 * d + u) / 100 = 0 ∧ (10 * d + u) % 10 = u := by
  have h2 : 10 * d + u < 200 := by omega
  unfold ld
  rw [if_pos h2]
  omega
theorem ld_t {d u : Nat} (hd : d ≤ 9) (hu : u ≤ 9) : ld (100 + 10 * d + u) = d ∧ (100 + 10 * d + u) / 100 = 1 ∧ (100 + 10 * d + u) % 10 = u := by
  have h2 : 100 + 10 * d + u < 200 := by omega
  unfold ld
  rw [if_pos h2]
  omega
theorem ld_b {d : Nat} (hd : d ≤ 9) : ld (200 + d) = d ∧ (200 + d) / 100 = 2 := by
  unfold ld
  rw [if_neg (by omega)]
  omega
theorem eq_ln3 {w : Nat → Nat} {n p : Nat} {tp mt cuts letters : Nat → Int32} {cfp ck cp cs cv mfp mk mp ms mv : Int32} {t dc rooms rc sl : Int32} {fe rules : Nat → Int32} {bd beast hab his per : Int32} {se : Nat → Int32} {mhD mhR rd rk rr rs tl : Int32} {rw_ rp : Nat → Int32} (hT : TP w n tp mt) (hC : CnR cuts letters) (hc : LT w n (.inl p) (0 : Int32) cfp ck cp cs cv) (hm : LT w n (.inl p) (0 : Int32) mfp mk mp ms mv) (hk : knd w n p ≠ 0) (hw : ∀ j, j < 14 → mW w n (.inl p) j = decide (j = 3)) (hDR : DRel t dc rooms rc sl fe rules bd beast hab his per se mhD mhR rd rk rr rs tl rw_ rp) : LnO w n p (f_X3_readLine (nI n) (0 : Int32) cfp cp ck cs cv t rooms dc rc sl fe rules bd per his beast hab se tp) (f_X8_readLine rr rd rs rk tl mhR mhD (nI n) (0 : Int32) mfp mp ms mk mv cuts letters rw_ rp mt) := by
  obtain ⟨R, Dn, K, SL, a, rl, bm, pe, hs, be, hb, b, to, tm, hR, hD, hP, hM, ⟨rfl, rfl, rfl, rfl, rfl, rfl, rfl, rfl, rfl, rfl, rfl, rfl, rfl⟩, ⟨rfl, rfl, rfl, rfl, rfl, rfl, rfl⟩⟩ := hDR
  rw [p_ln3 hT hc hw]
  have d2 := hP.2.2.2.2.2.1
  have d4 := hP.2.2.2.2.2.2.2
  have hb1 := nmb_b (w := w) (n := n) (T := lx w n (cns w n (.inl p))) (lo := 0) (hi := 9) (by decide)
  have hb2 := nmb_b (w := w) (n := n) (T := lx w n (cns w n (nmb w n (lx w n (cns w n (.inl p))) 0 9).1)) (lo := 0) (hi := 9) (by decide)
  have hb3 : (nmm w n (lx w n (cns w n (nmb w n (lx w n (cns w n (.inl p))) 0 9).1)) 0 9 (2 ^ (nmb w n (lx w n (cns w n (.inl p))) 0 9).2)).2 ≤ 9 := by
    unfold nmm
    split
    · split
      · show 0 ≤ 9; omega
      · exact hb2.2
    · show 0 ≤ 9; omega
  have hdn : dn n (tke w n p) (lx w n (cns w n (.inl p))) := dn_lx (dn_0 (w := w) hc.1)
  refine eqR_rule (hD' := max (max hD ((nmb w n (lx w n (cns w n (.inl p))) 0 9).2 + 1)) ((nmm w n (lx w n (cns w n (nmb w n (lx w n (cns w n (.inl p))) 0 9).1)) 0 9 (2 ^ (nmb w n (lx w n (cns w n (.inl p))) 0 9).2)).2 + 1)) hT hC hc hm hk (by decide) hw hP hM (by omega) (by omega) (fun hK => c_rule3 hT hK (LT_LC hc)) (fun hK q g k p' s v hq hlq => ?_) (fun x hx => by rw [hx]; rfl) (dn_nmm (dn_lx (dn_cns (dn_nmb hdn))))
  obtain ⟨f1, g1, k1, p1, s1, v1, e1, hl1⟩ := m_rule3 (hD := hD) (lw := rw_) hT hK (by omega) hlq
  rw [hq] at hb1 hb2 hb3 ⊢
  refine ⟨f1, g1, k1, p1, s1, v1, _, e1, hl1, fun q9 h9 => ?_⟩
  have e2 := (nmm_inl h9).2.1
  rw [e2]
  generalize nmb w n (.inl q) 0 9 = z at *
  obtain ⟨z1, z2⟩ := z
  simp only at *
  generalize (nmb w n (lx w n (cns w n z1)) 0 9).2 = u at *
  obtain ⟨l1, l2, l3⟩ := ld_s (d := z2) (u := u) (by omega) (by omega)
  refine ⟨?_, hd_up d4 (fun Y => ?_)⟩
  · have := lwr_up (L := 10 * z2 + u) (v := nI u) hM.2.2.2.2.2.2.2 (fun _ => by rw [l3])
    rw [l1, l2] at this
    exact this
  · rw [l1, l3, Nat.max_le, Nat.max_le]
    omega
theorem eq_ln4 {w : Nat → Nat} {n p : Nat} {tp mt cuts letters : Nat → Int32} {cfp ck cp cs cv mfp mk mp ms mv : Int32} {t dc rooms rc sl : Int32} {fe rules : Nat → Int32} {bd beast hab his per : Int32} {se : Nat → Int32} {mhD mhR rd rk rr rs tl : Int32} {rw_ rp : Nat → Int32} (hT : TP w n tp mt) (hC : CnR cuts letters) (hc : LT w n (.inl p) (0 : Int32) cfp ck cp cs cv) (hm : LT w n (.inl p) (0 : Int32) mfp mk mp ms mv) (hk : knd w n p ≠ 0) (hw : ∀ j, j < 14 → mW w n (.inl p) j = decide (j = 4)) (hDR : DRel t dc rooms rc sl fe rules bd beast hab his per se mhD mhR rd rk rr rs tl rw_ rp) : LnO w n p (f_X3_readLine (nI n) (0 : Int32) cfp cp ck cs cv t rooms dc rc sl fe rules bd per his beast hab se tp) (f_X8_readLine rr rd rs rk tl mhR mhD (nI n) (0 : Int32) mfp mp ms mk mv cuts letters rw_ rp mt) := by
  obtain ⟨R, Dn, K, SL, a, rl, bm, pe, hs, be, hb, b, to, tm, hR, hD, hP, hM, ⟨rfl, rfl, rfl, rfl, rfl, rfl, rfl, rfl, rfl, rfl, rfl, rfl, rfl⟩, ⟨rfl, rfl, rfl, rfl, rfl, rfl, rfl⟩⟩ := hDR
  rw [p_ln4 hT hc hw]
  have d2 := hP.2.2.2.2.2.1
  have d4 := hP.2.2.2.2.2.2.2
  have hb1 := nmb_b (w := w) (n := n) (T := lx w n (cns w n (.inl p))) (lo := 0) (hi := 9) (by decide)
  have hb2 := nmb_b (w := w) (n := n) (T := lx w n (cns w n (nmb w n (lx w n (cns w n (.inl p))) 0 9).1)) (lo := 1) (hi := 6) (by decide)
  have hdn : dn n (tke w n p) (lx w n (cns w n (.inl p))) := dn_lx (dn_0 (w := w) hc.1)
  refine eqR_rule (hD' := max hD ((nmb w n (lx w n (cns w n (.inl p))) 0 9).2 + 1)) hT hC hc hm hk (by decide) hw hP hM (by omega) (by omega) (fun hK => c_rule4 hT hK (LT_LC hc)) (fun hK q g k p' s v hq hlq => ?_) (fun x hx => by rw [hx]; rfl) (dn_nmb (dn_lx (dn_cns (dn_nmb hdn))))
  obtain ⟨f1, g1, k1, p1, s1, v1, e1, hl1⟩ := m_rule4 (hD := hD) (lw := rw_) hT hK (by omega) hlq
  rw [hq] at hb1 hb2 ⊢
  refine ⟨f1, g1, k1, p1, s1, v1, _, e1, hl1, fun q9 h9 => ?_⟩
  generalize nmb w n (.inl q) 0 9 = z at *
  obtain ⟨z1, z2⟩ := z
  simp only at *
  generalize (nmb w n (lx w n (cns w n z1)) 1 6).2 = u at *
  obtain ⟨l1, l2, l3⟩ := ld_t (d := z2) (u := u) (by omega) (by omega)
  refine ⟨?_, hd_up d4 (fun Y => ?_)⟩
  · have := lwr_up (L := 100 + 10 * z2 + u) (v := nI u) hM.2.2.2.2.2.2.2 (fun _ => by rw [l3])
    rw [l1, l2] at this
    exact this
  · rw [l1, Nat.max_le]
    omega
theorem eq_ln5 {w : Nat → Nat} {n p : Nat} {tp mt cuts letters : Nat → Int32} {cfp ck cp cs cv mfp mk mp ms mv : Int32} {t dc rooms rc sl : Int32} {fe rules : Nat → Int32} {bd beast hab his per : Int32} {se : Nat → Int32} {mhD mhR rd rk rr rs tl : Int32} {rw_ rp : Nat → Int32} (hT : TP w n tp mt) (hC : CnR cuts letters) (hc : LT w n (.inl p) (0 : Int32) cfp ck cp cs cv) (hm : LT w n (.inl p) (0 : Int32) mfp mk mp ms mv) (hk : knd w n p ≠ 0) (hw : ∀ j, j < 14 → mW w n (.inl p) j = decide (j = 5)) (hDR : DRel t dc rooms rc sl fe rules bd beast hab his per se mhD mhR rd rk rr rs tl rw_ rp) : LnO w n p (f_X3_readLine (nI n) (0 : Int32) cfp cp ck cs cv t rooms dc rc sl fe rules bd per his beast hab se tp) (f_X8_readLine rr rd rs rk tl mhR mhD (nI n) (0 : Int32) mfp mp ms mk mv cuts letters rw_ rp mt) := by
  obtain ⟨R, Dn, K, SL, a, rl, bm, pe, hs, be, hb, b, to, tm, hR, hD, hP, hM, ⟨rfl, rfl, rfl, rfl, rfl, rfl, rfl, rfl, rfl, rfl, rfl, rfl, rfl⟩, ⟨rfl, rfl, rfl, rfl, rfl, rfl, rfl⟩⟩ := hDR
  rw [p_ln5 hT hc hw]
  have d2 := hP.2.2.2.2.2.1
  have d4 := hP.2.2.2.2.2.2.2
  have hb1 := nmb_b (w := w) (n := n) (T := lx w n (cns w n (.inl p))) (lo := 0) (hi := 9) (by decide)
  have hdn : dn n (tke w n p) (lx w n (cns w n (.inl p))) := dn_lx (dn_0 (w := w) hc.1)
  refine eqR_rule (hD' := max hD ((nmb w n (lx w n (cns w n (.inl p))) 0 9).2 + 1)) hT hC hc hm hk (by decide) hw hP hM (by omega) (by omega) (fun hK => c_rule5 hT hK (LT_LC hc)) (fun hK q g k p' s v hq hlq => ?_) (fun x hx => by rw [hx]; rfl) (dn_nmb hdn)
  obtain ⟨f1, g1, k1, p1, s1, v1, e1, hl1⟩ := m_rule5 (hD := hD) (lw := rw_) hT hK (by omega) hlq
  rw [hq] at hb1 ⊢
  refine ⟨f1, g1, k1, p1, s1, v1, _, e1, hl1, fun q9 h9 => ?_⟩
  generalize nmb w n (.inl q) 0 9 = z at *
  obtain ⟨z1, z2⟩ := z
  simp only at *
  obtain ⟨l1, l2⟩ := ld_b (d := z2) (by omega)
  refine ⟨?_, hd_up d4 (fun Y => ?_)⟩
  · have := lwr_up (L := 200 + z2) (v := 0) hM.2.2.2.2.2.2.2 (fun h => absurd h (by omega))
    rw [l1, l2] at this
    exact this
  · rw [l1, Nat.max_le]
    omega
