/-! ===== pure 35: numbers within bounds ===== -/
theorem fail0 (a b c : Int32) : f_X3_fail (0 : Int32) a b c = some (b, c) := rfl
theorem fails0 (a h c : Int32) : f_X8_fails (0 : Int32) a h c = some (c, h) := rfl
theorem failN {x a b c : Int32} (h : ¬ x = 0) : f_X3_fail x a b c = some (x, a) := by unfold f_X3_fail; rw [if_neg h]
theorem failsN {x a b c : Int32} (h : ¬ x = 0) : f_X8_fails x a b c = some (x, a) := by unfold f_X8_fails; rw [if_neg h]
def nmb (w : Nat → Nat) (n : Nat) (T : Ps) (lo hi : Nat) : Ps × Nat := match T with
  | .inl p => if knd w n p = 2 then (if lo ≤ tkv w n p ∧ tkv w n p ≤ hi then (.inl p, tkv w n p) else (.inr (3, skp w n p), lo)) else (.inr (2, skp w n p), lo)
  | .inr x => (.inr x, lo)
theorem nmb_b {w : Nat → Nat} {n : Nat} {T : Ps} {lo hi : Nat} (h : lo ≤ hi) : lo ≤ (nmb w n T lo hi).2 ∧ (nmb w n T lo hi).2 ≤ hi := by
  cases T with
  | inr x => exact ⟨Nat.le_refl _, h⟩
  | inl p =>
    unfold nmb
    simp only
    by_cases c : knd w n p = 2
    · rw [if_pos c]
      by_cases c2 : lo ≤ tkv w n p ∧ tkv w n p ≤ hi
      · rw [if_pos c2]; exact c2
      · rw [if_neg c2]; exact ⟨Nat.le_refl _, h⟩
    · rw [if_neg c]; exact ⟨Nat.le_refl _, h⟩
theorem p_num {w : Nat → Nat} {n lo hi : Nat} {tp mt : Nat → Int32} {S : Ps} {fault fp kind place start value : Int32} (hT : TP w n tp mt) (hlh : lo ≤ hi) (hhi : hi < 1000) (h : LC n S fault fp place start) : ∃ fault' fp' kind' place' start' value', f_X3_nextWithin (nI n) fault fp place kind start value tp (nI lo) (nI hi) = some (nI (nmb w n (lx w n S) lo hi).2, fault', fp', kind', place', start', value') ∧ LT w n (nmb w n (lx w n S) lo hi).1 fault' fp' kind' place' start' value' := by
  obtain ⟨f1, g1, k1, p1, s1, v1, e, hL⟩ := p_tok (kind := kind) (value := value) hT h
  unfold f_X3_nextWithin
  rw [e, ob6_s]
  simp only [jn2_s]
  generalize lx w n S = T at hL ⊢
  cases T with
  | inr x =>
    have hL' := hL
    obtain ⟨a1, a2, a3, a4, a5⟩ := hL
    have hne : ¬ f1 = 0 := by rw [a3]; exact nI_ne0 a1 (by omega)
    rw [if_neg hne, if_neg hne, if_neg hne]
    exact ⟨_, _, _, _, _, _, rfl, hL'⟩
  | inl p =>
    have hL' := hL
    obtain ⟨hp, hb, a3, a4, a5, a6, a7⟩ := hL
    obtain ⟨t1, t2, t3⟩ := tke_b (w := w) hp
    have hk4 := knd_le (w := w) (n := n) (p := p)
    subst a3; subst a4; subst a5; subst a6
    rw [if_pos rfl]
    have en : nmb w n (.inl p) lo hi = if knd w n p = 2 then (if lo ≤ tkv w n p ∧ tkv w n p ≤ hi then (.inl p, tkv w n p) else (.inr (3, skp w n p), lo)) else (.inr (2, skp w n p), lo) := rfl
    by_cases c : knd w n p = 2
    · have hv := a7 c
      subst hv
      have h99 := (cv_val hT hp c hb).2
      rw [if_pos c] at en
      rw [if_pos (show nI (knd w n p) = (2 : Int32) from by rw [c]; rfl), if_pos rfl, p_within, ob1_s]
      by_cases c2 : lo ≤ tkv w n p ∧ tkv w n p ≤ hi
      · rw [if_pos c2] at en
        rw [decide_eq_true (show nI lo ≤ nI (tkv w n p) ∧ nI (tkv w n p) ≤ nI hi from ⟨nI_le c2.1 (by omega), nI_le c2.2 (by omega)⟩), bz_t, if_neg n10, if_pos rfl, en]
        exact ⟨_, _, _, _, _, _, rfl, hL'⟩
      · rw [if_neg c2] at en
        rw [decide_eq_false (show ¬ (nI lo ≤ nI (tkv w n p) ∧ nI (tkv w n p) ≤ nI hi) from fun hc => c2 ⟨(nI_leI (by omega) (by omega)).mp hc.1, (nI_leI (by omega) (by omega)).mp hc.2⟩), bz_f, if_pos rfl, fail0, ob2_s, if_neg (by decide), en]
        exact ⟨_, _, _, _, _, _, rfl, by show 0 < 3; decide, by show 3 < 8; decide, rfl, rfl, _, _, t1, t2, rfl, rfl⟩
    · rw [if_neg c] at en
      rw [if_neg (show ¬ nI (knd w n p) = (2 : Int32) from fun e => c (nI_inj (b := 2) (by omega) (by omega) e)), fail0, ob2_s, if_neg (by decide), if_neg (by decide), en]
      exact ⟨_, _, _, _, _, _, rfl, by show 0 < 2; decide, by show 2 < 8; decide, rfl, rfl, _, _, t1, t2, rfl, rfl⟩
/-- with a number that may not be told again -/
def nmm (w : Nat → Nat) (n : Nat) (T : Ps) (lo hi m : Nat) : Ps × Nat := match (nmb w n T lo hi).1 with
  | .inl p => if m.testBit (nmb w n T lo hi).2 then (.inr (4, skp w n p), lo) else (.inl p, (nmb w n T lo hi).2)
  | .inr x => (.inr x, lo)
theorem nmb_inr {w : Nat → Nat} {n : Nat} {T : Ps} {lo hi : Nat} {x : Nat × Nat} (h : (nmb w n T lo hi).1 = .inr x) : (nmb w n T lo hi).2 = lo := by
  cases T with
  | inr y => rfl
  | inl p =>
    unfold nmb at h ⊢
    simp only at h ⊢
    by_cases c : knd w n p = 2
    · rw [if_pos c] at h ⊢
      by_cases c2 : lo ≤ tkv w n p ∧ tkv w n p ≤ hi
      · rw [if_pos c2] at h; cases h
      · rw [if_neg c2]
    · rw [if_neg c]
theorem nmm_0 {w : Nat → Nat} {n : Nat} {T : Ps} {lo hi : Nat} : nmm w n T lo hi 0 = nmb w n T lo hi := by
  unfold nmm
  cases h : (nmb w n T lo hi).1 with
  | inl p =>
    simp only [Nat.zero_testBit, Bool.false_eq_true, if_false]
    rw [← h]
  | inr x =>
    simp only
    have h2 := nmb_inr h
    generalize nmb w n T lo hi = z at *
    obtain ⟨z1, z2⟩ := z
    simp only at h h2
    rw [h, h2]
theorem m_other {w : Nat → Nat} {n lo hi m : Nat} {tp mt : Nat → Int32} {T : Ps} {fault fp kind place start value : Int32} (hT : TP w n tp mt) (hlh : lo ≤ hi) (hhi : hi < 31) (hm : m < 2147483648) (h : LT w n T fault fp kind place start value) : ∃ fault' fp' kind' place' start' value', f_X8_other (nI n) fault fp place start kind value mt (nI lo) (nI hi) (nI m) = some (nI (nmm w n T lo hi m).2, fault', fp', start', place', kind', value') ∧ LT w n (lx w n (cns w n (nmm w n T lo hi m).1)) fault' fp' kind' place' start' value' := by
  unfold f_X8_other
  simp only [jn2_s, jn1_s]
  cases T with
  | inr x =>
    have hL' := h
    obtain ⟨a1, a2, a3, a4, a5⟩ := h
    have hne : ¬ fault = 0 := by rw [a3]; exact nI_ne0 a1 (by omega)
    obtain ⟨f1, g1, k1, p1, s1, v1, e, hL⟩ := m_tok (S := .inr x) (kind := kind) (value := value) hT hL'
    rw [if_neg hne, if_neg hne, if_neg hne, if_neg hne, e, ob6_s]
    exact ⟨_, _, _, _, _, _, rfl, hL⟩
  | inl p =>
    have hL' := h
    obtain ⟨hp, hb, a3, a4, a5, a6, a7⟩ := h
    obtain ⟨t1, t2, t3⟩ := tke_b (w := w) hp
    have hk4 := knd_le (w := w) (n := n) (p := p)
    subst a3; subst a4; subst a5; subst a6
    have hbad : ∀ x : Nat × Nat, 0 < x.1 → x.1 < 8 → ∃ fault' fp' kind' place' start' value', f_X8_step (nI n) (nI x.1) (nI x.2) (nI (tke w n p)) (nI (skp w n p)) (nI (knd w n p)) value mt = some (fault', fp', start', place', kind', value') ∧ LT w n (.inr x) fault' fp' kind' place' start' value' := fun x hx1 hx2 => m_tok (S := .inr x) (kind := nI (knd w n p)) (value := value) hT ⟨hx1, hx2, rfl, rfl, _, _, t1, t2, rfl, rfl⟩
    rw [if_pos rfl]
    have en : nmb w n (.inl p) lo hi = if knd w n p = 2 then (if lo ≤ tkv w n p ∧ tkv w n p ≤ hi then (.inl p, tkv w n p) else (.inr (3, skp w n p), lo)) else (.inr (2, skp w n p), lo) := rfl
    by_cases c : knd w n p = 2
    · have hv := a7 c
      subst hv
      have h99 := (cv_val hT hp c hb).2
      rw [if_pos c] at en
      rw [if_pos (show nI (knd w n p) = (2 : Int32) from by rw [c]; rfl), if_pos rfl, m_in, ob1_s]
      by_cases c2 : lo ≤ tkv w n p ∧ tkv w n p ≤ hi
      · rw [if_pos c2] at en
        rw [decide_eq_true (show nI lo ≤ nI (tkv w n p) ∧ nI (tkv w n p) ≤ nI hi from ⟨nI_le c2.1 (by omega), nI_le c2.2 (by omega)⟩), bz_t, if_neg n10, if_pos rfl, bit_k hm (by omega)]
        unfold nmm
        rw [en]
        dsimp only
        cases hbit : m.testBit (tkv w n p) with
        | true =>
          obtain ⟨f1, g1, k1, p1, s1, v1, e, hL⟩ := hbad (4, skp w n p) (by show 0 < 4; decide) (by show 4 < 8; decide)
          rw [bz_t, if_pos rfl, fails0, ob2_s, if_neg (by decide), show (4 : Int32) = nI 4 from rfl, e, ob6_s, if_pos rfl]
          exact ⟨_, _, _, _, _, _, rfl, hL⟩
        | false =>
          obtain ⟨f1, g1, k1, p1, s1, v1, e, hL⟩ := m_tok (S := .inl (tke w n p)) (fault := 0) (fp := fp) (kind := nI (knd w n p)) (start := nI (skp w n p)) (value := nI (tkv w n p)) hT ⟨t2, rfl, rfl⟩
          rw [bz_f, if_neg (by decide), if_pos rfl, e, ob6_s, if_neg (by decide)]
          exact ⟨_, _, _, _, _, _, rfl, hL⟩
      · rw [if_neg c2] at en
        obtain ⟨f1, g1, k1, p1, s1, v1, e, hL⟩ := hbad (3, skp w n p) (by show 0 < 3; decide) (by show 3 < 8; decide)
        rw [decide_eq_false (show ¬ (nI lo ≤ nI (tkv w n p) ∧ nI (tkv w n p) ≤ nI hi) from fun hc => c2 ⟨(nI_leI (by omega) (by omega)).mp hc.1, (nI_leI (by omega) (by omega)).mp hc.2⟩), bz_f, if_pos rfl, fails0, ob2_s, if_neg (by decide), if_neg (by decide), show (3 : Int32) = nI 3 from rfl, e, ob6_s]
        unfold nmm
        rw [en]
        exact ⟨_, _, _, _, _, _, rfl, hL⟩
    · rw [if_neg c] at en
      obtain ⟨f1, g1, k1, p1, s1, v1, e, hL⟩ := hbad (2, skp w n p) (by show 0 < 2; decide) (by show 2 < 8; decide)
      rw [if_neg (show ¬ nI (knd w n p) = (2 : Int32) from fun e => c (nI_inj (b := 2) (by omega) (by omega) e)), fails0, ob2_s, if_neg (by decide), if_neg (by decide), if_neg (by decide), show (2 : Int32) = nI 2 from rfl, e, ob6_s]
      unfold nmm
      rw [en]
      exact ⟨_, _, _, _, _, _, rfl, hL⟩
def HI (h : Nat) : Int32 := nI h - 1
theorem HI_max {h v : Nat} (hh : h < 1000) (hv : v < 1000) : (if nI v ≤ HI h then HI h else nI v) = HI (max h (v + 1)) := by
  unfold HI
  by_cases c : v + 1 ≤ h
  · obtain ⟨k, rfl⟩ : ∃ k, h = k + 1 := ⟨h - 1, by omega⟩
    rw [Nat.max_eq_left c, show nI (k + 1) - (1 : Int32) = nI k from nI_pred k, if_pos (nI_le (by omega) (by omega))]
  · rw [Nat.max_eq_right (by omega), show nI (v + 1) - (1 : Int32) = nI v from nI_pred v, if_neg]
    intro e
    rw [fa_le, nI_toInt (by omega)] at e
    cases h with
    | zero =>
      rw [show (nI 0 - (1 : Int32)).toInt = -1 from by decide] at e
      omega
    | succ k =>
      rw [show nI (k + 1) - (1 : Int32) = nI k from nI_pred k, nI_toInt (by omega)] at e
      omega
theorem m_room {w : Nat → Nat} {n hh : Nat} {tp mt : Nat → Int32} {T : Ps} {fault fp kind place start value : Int32} (hT : TP w n tp mt) (hhh : hh < 1000) (h : LT w n T fault fp kind place start value) : ∃ fault' fp' kind' place' start' value', f_X8_room (HI hh) (nI n) fault fp place start kind value mt = some (nI (nmb w n T 0 6).2, fault', fp', start', HI (max hh ((nmb w n T 0 6).2 + 1)), place', kind', value') ∧ LT w n (lx w n (cns w n (nmb w n T 0 6).1)) fault' fp' kind' place' start' value' := by
  obtain ⟨f1, g1, k1, p1, s1, v1, e, hL⟩ := m_other (m := 0) (lo := 0) (hi := 6) hT (by omega) (by omega) (by omega) h
  rw [nmm_0] at e hL
  have hb := nmb_b (w := w) (n := n) (T := T) (lo := 0) (hi := 6) (by omega)
  unfold f_X8_room
  have e' : f_X8_other (nI n) fault fp place start kind value mt (0 : Int32) (6 : Int32) (0 : Int32) = some (nI (nmb w n T 0 6).2, f1, g1, s1, p1, k1, v1) := e
  rw [e', ob7_s, jn1_s]
  refine ⟨f1, g1, k1, p1, s1, v1, ?_, hL⟩
  rw [← HI_max hhh (by omega)]
  by_cases c : nI (nmb w n T 0 6).2 ≤ HI hh
  · rw [if_pos c, if_pos c]
  · rw [if_neg c, if_neg c]
theorem m_doorOf {w : Nat → Nat} {n hh m : Nat} {tp mt : Nat → Int32} {T : Ps} {fault fp kind place start value : Int32} (hT : TP w n tp mt) (hhh : hh < 1000) (hm : m < 2147483648) (h : LT w n T fault fp kind place start value) : ∃ fault' fp' kind' place' start' value', f_X8_doorOf (HI hh) (nI n) fault fp place start kind value mt (nI m) = some (nI (nmm w n T 0 9 m).2, fault', fp', start', HI (max hh ((nmm w n T 0 9 m).2 + 1)), place', kind', value') ∧ LT w n (lx w n (cns w n (nmm w n T 0 9 m).1)) fault' fp' kind' place' start' value' ∧ (nmm w n T 0 9 m).2 ≤ 9 := by
  obtain ⟨f1, g1, k1, p1, s1, v1, e, hL⟩ := m_other (m := m) (lo := 0) (hi := 9) hT (by omega) (by omega) hm h
  have hb : (nmm w n T 0 9 m).2 ≤ 9 := by
    have hb := nmb_b (w := w) (n := n) (T := T) (lo := 0) (hi := 9) (by omega)
    unfold nmm
    split
    · split
      · show 0 ≤ 9; omega
      · exact hb.2
    · show 0 ≤ 9; omega
  unfold f_X8_doorOf
  have e' : f_X8_other (nI n) fault fp place start kind value mt (0 : Int32) (9 : Int32) (nI m) = some (nI (nmm w n T 0 9 m).2, f1, g1, s1, p1, k1, v1) := e
  rw [e', ob7_s, jn1_s]
  refine ⟨f1, g1, k1, p1, s1, v1, ?_, hL, hb⟩
  rw [← HI_max hhh (by omega)]
  by_cases c : nI (nmm w n T 0 9 m).2 ≤ HI hh
  · rw [if_pos c, if_pos c]
  · rw [if_neg c, if_neg c]
