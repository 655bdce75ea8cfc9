/-! ===== pure 36: lines: their ends, what is told once ===== -/
def cl (w : Nat → Nat) (n : Nat) (T : Ps) : Ps := match T with
  | .inl p => if knd w n p = 3 then .inl (tke w n p) else .inr (2, skp w n p)
  | .inr x => .inr x
theorem p_close0 {w : Nat → Nat} {n : Nat} {tp mt : Nat → Int32} {S : Ps} {fault fp kind place start value dc bd : Int32} (hT : TP w n tp mt) (h : LC n S fault fp place start) : ∃ fault' fp' kind' place' start' value', f_X3_closeLine (nI n) fault fp place kind start value dc bd tp (0 : Int32) = some (fault', fp', kind', place', start', value', bd) ∧ LC n (cl w n (lx w n S)) fault' fp' place' start' := by
  obtain ⟨f1, g1, k1, p1, s1, v1, e, hL⟩ := p_tok (kind := kind) (value := value) hT h
  unfold f_X3_closeLine
  rw [e, ob6_s, jn7_s, if_pos rfl]
  dsimp only
  generalize lx w n S = T at hL ⊢
  cases T with
  | inr x =>
    have hL' := hL
    obtain ⟨a1, a2, a3, a4, a5⟩ := hL
    have hne : ¬ f1 = 0 := by rw [a3]; exact nI_ne0 a1 (by omega)
    by_cases c : k1 = 3
    · rw [if_pos c]; exact ⟨_, _, _, _, _, _, rfl, hL'⟩
    · rw [if_neg c, failN hne, ob2_s]; exact ⟨_, _, _, _, _, _, rfl, hL'⟩
  | inl p =>
    obtain ⟨hp, hb, a3, a4, a5, a6, a7⟩ := hL
    obtain ⟨t1, t2, t3⟩ := tke_b (w := w) hp
    have hk4 := knd_le (w := w) (n := n) (p := p)
    subst a3; subst a4; subst a5; subst a6
    have ec : cl w n (.inl p) = if knd w n p = 3 then .inl (tke w n p) else .inr (2, skp w n p) := rfl
    by_cases c : knd w n p = 3
    · rw [if_pos (show nI (knd w n p) = (3 : Int32) from by rw [c]; rfl), ec, if_pos c]
      exact ⟨_, _, _, _, _, _, rfl, t2, rfl, rfl⟩
    · rw [if_neg (show ¬ nI (knd w n p) = (3 : Int32) from fun e => c (nI_inj (b := 3) (by omega) (by omega) e)), fail0, ob2_s, ec, if_neg c]
      exact ⟨_, _, _, _, _, _, rfl, by show 0 < 2; decide, by show 2 < 8; decide, rfl, rfl, _, _, t1, t2, rfl, rfl⟩
theorem m_close {β : Type} {w : Nat → Nat} {n : Nat} {tp mt : Nat → Int32} {T : Ps} {fault fp kind place start value : Int32} (hT : TP w n tp mt) (h : LT w n T fault fp kind place start value) (F : Int32 → Int32 → Int32 → Int32 → Int32 → Int32 → Option β) : ∃ fault' fp' kind' place' start' value', jn2 (fun b ba => ob6 (f_X8_step (nI n) b ba place start kind value mt) F) (fun j => if fault = (0 : Int32) then (if kind = (3 : Int32) then j fault fp else ob2 (f_X8_fails fault fp start (2 : Int32)) (fun x y => j x y)) else j fault fp) = F fault' fp' start' place' kind' value' ∧ LT w n (lx w n (cl w n T)) fault' fp' kind' place' start' value' := by
  rw [jn2_s]
  dsimp only
  cases T with
  | inr x =>
    have hL' := h
    obtain ⟨a1, a2, a3, a4, a5⟩ := h
    have hne : ¬ fault = 0 := by rw [a3]; exact nI_ne0 a1 (by omega)
    obtain ⟨f1, g1, k1, p1, s1, v1, e, hL⟩ := m_tok (S := .inr x) (kind := kind) (value := value) hT hL'
    rw [if_neg hne, e, ob6_s]
    exact ⟨_, _, _, _, _, _, rfl, hL⟩
  | inl p =>
    obtain ⟨hp, hb, a3, a4, a5, a6, a7⟩ := h
    obtain ⟨t1, t2, t3⟩ := tke_b (w := w) hp
    have hk4 := knd_le (w := w) (n := n) (p := p)
    subst a3; subst a4; subst a5; subst a6
    have ec : cl w n (.inl p) = if knd w n p = 3 then .inl (tke w n p) else .inr (2, skp w n p) := rfl
    by_cases c : knd w n p = 3
    · obtain ⟨f1, g1, k1, p1, s1, v1, e, hL⟩ := m_tok (S := .inl (tke w n p)) (fault := 0) (fp := fp) (kind := nI (knd w n p)) (start := nI (skp w n p)) (value := value) hT ⟨t2, rfl, rfl⟩
      rw [if_pos rfl, if_pos (show nI (knd w n p) = (3 : Int32) from by rw [c]; rfl), ec, if_pos c, e, ob6_s]
      exact ⟨_, _, _, _, _, _, rfl, hL⟩
    · obtain ⟨f1, g1, k1, p1, s1, v1, e, hL⟩ := m_tok (S := .inr (2, skp w n p)) (fault := 2) (fp := nI (skp w n p)) (place := nI (tke w n p)) (kind := nI (knd w n p)) (start := nI (skp w n p)) (value := value) hT ⟨by show 0 < 2; decide, by show 2 < 8; decide, rfl, rfl, _, _, t1, t2, rfl, rfl⟩
      rw [if_pos rfl, if_neg (show ¬ nI (knd w n p) = (3 : Int32) from fun e => c (nI_inj (b := 3) (by omega) (by omega) e)), fails0, ob2_s, ec, if_neg c, e, ob6_s]
      exact ⟨_, _, _, _, _, _, rfl, hL⟩
theorem told_0 : ∀ t, t < 32 → ∀ j, j < 5 → ((nI t &&& nI (2 ^ j) = 0 ↔ t.testBit j = false) ∧ t ||| 2 ^ j < 32) := by decide +kernel
theorem p_told {t j : Nat} {fp start : Int32} (ht : t < 32) (hj : j < 5) : f_X3_tellOnce (0 : Int32) fp start (nI t) (nI (2 ^ j)) = if t.testBit j then some ((4 : Int32), start, nI (t ||| 2 ^ j)) else some ((0 : Int32), fp, nI (t ||| 2 ^ j)) := by
  unfold f_X3_tellOnce
  rw [jn2_s, fa_or]
  dsimp only
  simp only [bnd_s]
  cases hb : t.testBit j with
  | true =>
    rw [if_neg (fun e => by have := (told_0 t ht j hj).1.mp e; rw [hb] at this; cases this), fail0, ob2_s, if_pos rfl]
  | false =>
    rw [if_pos ((told_0 t ht j hj).1.mpr hb), if_neg (by decide)]
def nmT (j : Nat) : Nat := [0, 2, 6, 7, 8].getD j 0
def TR (to tm : Nat) : Prop := ∀ j, j < 5 → to.testBit j = tm.testBit (nmT j)
theorem nmT_e : ∀ j, j < 5 → ∀ k, k < 5 → decide (j = k) = decide (nmT j = nmT k) := by decide +kernel
theorem TR_up {to tm j : Nat} (h : TR to tm) (hj : j < 5) : TR (to ||| 2 ^ j) (tm ||| 2 ^ nmT j) := by
  intro k hk
  rw [Nat.testBit_or, Nat.testBit_or, Nat.testBit_two_pow, Nat.testBit_two_pow, h k hk, nmT_e j hj k hk]
theorem TR_no {to tm i : Nat} (h : TR to tm) (hi : i = 1 ∨ i = 3 ∨ i = 4 ∨ i = 5) : TR to (tm ||| 2 ^ i) := by
  intro k hk
  have key : ∀ k, k < 5 → decide (1 = nmT k) = false ∧ decide (3 = nmT k) = false ∧ decide (4 = nmT k) = false ∧ decide (5 = nmT k) = false := by decide +kernel
  obtain ⟨k1, k2, k3, k4⟩ := key k hk
  rw [Nat.testBit_or, Nat.testBit_two_pow, h k hk]
  rcases hi with rfl | rfl | rfl | rfl
  · rw [k1, Bool.or_false]
  · rw [k2, Bool.or_false]
  · rw [k3, Bool.or_false]
  · rw [k4, Bool.or_false]
theorem tm_or {tm i : Nat} (h : tm < 512) (hi : i < 9) : tm ||| 2 ^ i < 512 := Nat.or_lt_two_pow (n := 9) h (Nat.pow_lt_pow_right (by decide) hi)
/-! what a chain of readings tells of its start -/
theorem cl_lx {w : Nat → Nat} {n p' : Nat} {S : Ps} (hw : wfP n S) (h : cl w n (lx w n S) = .inl p') : ∃ s, S = .inl s ∧ s ≤ p' ∧ p' ≤ n := by
  cases S with
  | inr x => cases h
  | inl s =>
    have hs : s ≤ n := hw
    refine ⟨s, rfl, ?_⟩
    unfold lx at h
    simp only at h
    cases hb : tkb w n s with
    | true => rw [hb, if_pos rfl] at h; cases h
    | false =>
      rw [hb, if_neg (by decide)] at h
      unfold cl at h
      simp only at h
      by_cases c : knd w n s = 3
      · rw [if_pos c] at h
        have e := Sum.inl.inj h
        have t := tke_b (w := w) hs
        have s2 := skp_b (w := w) hs
        omega
      · rw [if_neg c] at h; cases h
theorem nmb_inl {w : Nat → Nat} {n lo hi q : Nat} {T : Ps} (h : (nmb w n T lo hi).1 = .inl q) : T = .inl q ∧ knd w n q = 2 := by
  cases T with
  | inr x => cases h
  | inl p =>
    unfold nmb at h
    simp only at h
    by_cases c : knd w n p = 2
    · rw [if_pos c] at h
      by_cases c2 : lo ≤ tkv w n p ∧ tkv w n p ≤ hi
      · rw [if_pos c2] at h
        cases h
        exact ⟨rfl, c⟩
      · rw [if_neg c2] at h; cases h
    · rw [if_neg c] at h; cases h
theorem lx_inl {w : Nat → Nat} {n p : Nat} {S : Ps} (h : lx w n S = .inl p) : S = .inl p ∧ tkb w n p = false := by
  cases S with
  | inr x => cases h
  | inl s =>
    unfold lx at h
    simp only at h
    cases hb : tkb w n s with
    | true => rw [hb, if_pos rfl] at h; cases h
    | false => rw [hb, if_neg (by decide)] at h; cases h; exact ⟨rfl, hb⟩
theorem LT_wf {w : Nat → Nat} {n : Nat} {T : Ps} {fault fp kind place start value : Int32} (h : LT w n T fault fp kind place start value) : wfP n (cns w n T) := by
  cases T with
  | inl p => exact (tke_b h.1).2.1
  | inr x => exact ⟨h.1, h.2.1⟩
