/-! ===== pure 2: the class's small functions ===== -/
theorem p_within (v a b : Int32) : f_X7_isWithin v a b = some (bz (decide (a ≤ v ∧ v ≤ b))) := by
  unfold f_X7_isWithin
  by_cases h1 : v < a
  · rw [if_pos h1]
    have : ¬ (a ≤ v ∧ v ≤ b) := by rw [fa_le, fa_le]; rw [fa_lt] at h1; omega
    simp [this, bz]
  · rw [if_neg h1]
    by_cases h2 : b < v
    · rw [if_pos h2]
      have : ¬ (a ≤ v ∧ v ≤ b) := by rw [fa_le, fa_le]; rw [fa_lt] at h2; omega
      simp [this, bz]
    · rw [if_neg h2]
      have : (a ≤ v ∧ v ≤ b) := by rw [fa_le, fa_le]; rw [fa_lt] at h1 h2; omega
      simp [this, bz]
theorem gbl_b {β : Type} (b : Bool) (o : Option β) : gbl (bz b) o = o := by
  unfold gbl; rw [if_pos (bz_01 b)]
theorem p_asNumber (b : Bool) : f_X7_asNumber (bz b) = some (bz b) := by cases b <;> rfl
theorem p_isHabit (v : Int32) : f_X7_isHabit v = some (bz (decide (0 ≤ v ∧ v ≤ 3))) := by
  unfold f_X7_isHabit; rw [p_within]; exact gbl_b _ _
theorem p_isLane (v : Int32) : f_X7_isLane v = some (bz (decide (0 ≤ v ∧ v ≤ 2))) := by
  unfold f_X7_isLane; rw [p_within]; exact gbl_b _ _
theorem p_hasDoor (n v : Int32) : f_X2_hasDoor n v = some (bz (decide (0 ≤ v ∧ v < n))) := by
  unfold f_X2_hasDoor
  by_cases h1 : v < 0
  · rw [if_pos h1]
    have : ¬ (0 ≤ v ∧ v < n) := by rw [fa_le, fa_lt]; rw [fa_lt] at h1; omega
    simp [this, bz]
  · rw [if_neg h1]
    by_cases h2 : n ≤ v
    · rw [if_pos h2]
      have : ¬ (0 ≤ v ∧ v < n) := by rw [fa_le, fa_lt]; rw [fa_le] at h2; omega
      simp [this, bz]
    · rw [if_neg h2]
      have : (0 ≤ v ∧ v < n) := by rw [fa_le, fa_lt]; rw [fa_lt] at h1; rw [fa_le] at h2; omega
      simp [this, bz]
theorem p_hasRoom (n v : Int32) : f_X2_hasRoom n v = some (bz (decide (0 ≤ v ∧ v < n))) := p_hasDoor n v
/-- d is one of n -/
theorem dec_in {d n : Nat} (hd : d < n) (hn : n < 2147483648) : decide ((0 : Int32) ≤ nI d ∧ nI d < nI n) = true := by
  rw [decide_eq_true_iff, fa_le, fa_lt, nI_toInt (by omega), nI_toInt hn]
  simp; omega
theorem dec_out {x : Int32} {n : Nat} (hn : n < 2147483648) (h : x.toInt < 0 ∨ (n : Int) ≤ x.toInt) : decide ((0 : Int32) ≤ x ∧ x < nI n) = false := by
  rw [decide_eq_false_iff_not, fa_le, fa_lt, nI_toInt hn]
  simp; omega
theorem p_modulo {a b : Nat} (ha : a < 2147483648) (h0 : 0 < b) (hb : b < 2147483648) : f_X7_modulo (nI a) (nI b) = some (nI (a % b)) := by
  unfold f_X7_modulo
  rw [if_neg (nI_nle h0 hb), gnz_k h0 hb, pk_rem ha h0 hb]
theorem p_isBarred {bm d : Nat} (hb : bm < 2147483648) (hd : d < 31) : f_X6_isBarred (nI bm) (nI d) = some (bz (bm.testBit d)) := by
  unfold f_X6_isBarred
  rw [bit_k hb hd]
  cases bm.testBit d <;> rfl
/-- a row of n numbers -/
def row (n : Nat) (f : Nat → Int32) (a : Nat → Nat) : Prop := ∀ d, d < n → f d = nI (a d)
/-- the other end of a door, from a room -/
def lead (a b : Nat → Nat) (bm d x : Nat) : Option Nat := if bm.testBit d then none else if a d = x then some (b d) else if b d = x then some (a d) else none
def enc (o : Option Nat) : Int32 := match o with | none => -4 | some n => nI n
theorem enc_none (o : Option Nat) (h : ∀ n, o = some n → n < 2147483648) : (enc o = -4) ↔ o = none := by
  cases o with
  | none => simp [enc]
  | some n =>
    simp only [enc, reduceCtorEq, iff_false]
    intro e
    have h1 := h n rfl
    have h2 : (nI n).toInt = (-4 : Int32).toInt := by rw [e]
    rw [nI_toInt h1] at h2
    have h3 : (-4 : Int32).toInt = -4 := by decide
    omega
theorem p_across {bm Dn d x : Nat} {fe se : Nat → Int32} {a b : Nat → Nat} (hb : bm < 2147483648) (hD : Dn ≤ 10) (hd : d < Dn) (hfe : row Dn fe a) (hse : row Dn se b) (ha : ∀ d, d < Dn → a d < 1000) (hbb : ∀ d, d < Dn → b d < 1000) (hx : x < 1000) : f_X6_across (nI bm) (nI Dn) fe se (nI d) (nI x) = some (enc (lead a b bm d x)) := by
  unfold f_X6_across
  rw [p_hasDoor, dec_in hd (by omega), ob1_s, bz_t, if_neg (by decide), p_isBarred hb (by omega), ob1_s]
  unfold lead
  cases hB : bm.testBit d with
  | true => rw [bz_t, if_neg (by decide)]; simp [enc]
  | false =>
    rw [bz_f, if_pos rfl, gin_k (by omega) (by omega), gin_k (by omega) (by omega), gin_k (by omega) (by omega), gin_k (by omega) (by omega)]
    rw [nI_cl (by omega), hfe d hd, hse d hd]
    have h1 := ha d hd
    have h2 := hbb d hd
    by_cases e1 : a d = x
    · rw [if_pos (by rw [e1])]; simp [e1, enc]
    · rw [if_neg (fun h => e1 (nI_inj (by omega) (by omega) h))]
      by_cases e2 : b d = x
      · rw [if_pos (by rw [e2])]; simp [e1, e2, enc]
      · rw [if_neg (fun h => e2 (nI_inj (by omega) (by omega) h))]; simp [e1, e2, enc]
