/-! ===== pure 1: numbers, bits, loops (fa_, nx_ rows begun from the kit's laws/) ===== -/
theorem itr_count {σ τ : Type} {step : σ → Option (σ ⊕ τ)} (s : Nat → σ) (N : Nat) (o : τ) (hs : ∀ i, i < N → step (s i) = some (.inl (s (i + 1)))) (he : step (s N) = some (.inr o)) (n : Nat) (hn : N < n) : itr step n (s 0) = some o := by
  have key : ∀ (k i n : Nat), i + k = N → k < n → itr step n (s i) = some o := by
    intro k
    induction k with
    | zero =>
      intro i n hi hn
      obtain ⟨n, rfl⟩ : ∃ m, n = m + 1 := ⟨n - 1, by omega⟩
      have : i = N := by omega
      subst this
      rw [itr, he]
    | succ k ih =>
      intro i n hi hn
      obtain ⟨n, rfl⟩ : ∃ m, n = m + 1 := ⟨n - 1, by omega⟩
      rw [itr, hs i (by omega)]
      exact ih (i + 1) n (by omega) (by omega)
  exact key N 0 n (by omega) hn
theorem gin_k {β : Type} {k n : Nat} {o : Option β} (h : k < n) (hn : n < 2147483648) : gin (nI k) n o = o := by
  unfold gin
  rw [if_neg]
  exact vp_in_nI h hn
theorem nI_cl {n : Nat} (h : n < 2147483648) : (nI n).toNatClampNeg = n := nI_clamp h
theorem gnz_k {β : Type} {k : Nat} {o : Option β} (h : 0 < k) (hn : k < 2147483648) : gnz (nI k) o = o := by
  unfold gnz
  rw [if_neg (nI_ne0 h hn)]
theorem fa_lt (a b : Int32) : a < b ↔ a.toInt < b.toInt := Int32.lt_iff_toInt_lt
theorem fa_le (a b : Int32) : a ≤ b ↔ a.toInt ≤ b.toInt := Int32.le_iff_toInt_le
theorem fa_eq (a b : Int32) : a = b ↔ a.toInt = b.toInt := Int32.toInt_inj.symm
theorem fa_lt64 (a b : Int64) : a < b ↔ a.toInt < b.toInt := Int64.lt_iff_toInt_lt
theorem fa_le64 (a b : Int64) : a ≤ b ↔ a.toInt ≤ b.toInt := Int64.le_iff_toInt_le
theorem fa_wide_lt (a b : Int32) : a.toInt64 < b.toInt64 ↔ a < b := by rw [fa_lt64, fa_lt, Int32.toInt_toInt64, Int32.toInt_toInt64]
theorem fa_wide_le (a b : Int32) : a.toInt64 ≤ b.toInt64 ↔ a ≤ b := by rw [fa_le64, fa_le, Int32.toInt_toInt64, Int32.toInt_toInt64]
theorem fa_or (a b : Nat) : nI a ||| nI b = nI (a ||| b) := by
  apply Int32.toBitVec_inj.1
  show BitVec.ofNat 32 a ||| BitVec.ofNat 32 b = BitVec.ofNat 32 (a ||| b)
  apply BitVec.eq_of_getLsbD_eq
  intro i hi
  simp [hi]
theorem fa_and (a b : Nat) : nI a &&& nI b = nI (a &&& b) := by
  apply Int32.toBitVec_inj.1
  show BitVec.ofNat 32 a &&& BitVec.ofNat 32 b = BitVec.ofNat 32 (a &&& b)
  apply BitVec.eq_of_getLsbD_eq
  intro i hi
  simp [hi]
theorem nx_xor (a b : Nat) : nI a ^^^ nI b = nI (a ^^^ b) := by
  apply Int32.toBitVec_inj.1
  show BitVec.ofNat 32 a ^^^ BitVec.ofNat 32 b = BitVec.ofNat 32 (a ^^^ b)
  apply BitVec.eq_of_getLsbD_eq
  intro i hi
  simp [hi]
theorem s_l : ∀ n, n < 32 → ((nI n &&& 31).toBitVec.smod 32).toNat = n := by decide +kernel
theorem shl_k : ∀ d, d < 31 → (1 : Int32) <<< (nI d &&& 31) = nI (2 ^ d) := by decide +kernel
theorem lit (n : Nat) : (OfNat.ofNat n : Int32) = nI n := rfl
theorem nI_inj {a b : Nat} (ha : a < 2147483648) (hb : b < 2147483648) (h : nI a = nI b) : a = b := (nI_eq ha hb).mp h
/-- what is below a number is one of the small ones, or out of bounds -/
theorem i32_in (x : Int32) (n : Nat) (hn : n < 2147483648) : (∃ j, j < n ∧ x = nI j) ∨ (x.toInt < 0 ∨ (n : Int) ≤ x.toInt) := by
  by_cases h0 : x.toInt < 0
  · exact Or.inr (Or.inl h0)
  · by_cases h1 : (n : Int) ≤ x.toInt
    · exact Or.inr (Or.inr h1)
    · refine Or.inl ⟨x.toInt.toNat, by omega, ?_⟩
      rw [fa_eq, nI_toInt (by omega)]
      omega
/-- bit d of a small number -/
def bz (b : Bool) : Int32 := if b then 1 else 0
theorem bz_t : bz true = 1 := rfl
theorem bz_f : bz false = 0 := rfl
theorem bz_01 (b : Bool) : bz b = 0 ∨ bz b = 1 := by cases b <;> simp [bz]
theorem bz_eq0 (b : Bool) : (bz b = 0) ↔ b = false := by cases b <;> simp [bz]
theorem bz_eq1 (b : Bool) : (bz b = 1) ↔ b = true := by cases b <;> simp [bz]
theorem bit_k {m d : Nat} (hm : m < 2147483648) (hd : d < 31) : (nI m >>> (nI d &&& 31)) &&& (1 : Int32) = bz (m.testBit d) := by
  rw [pk_shrN hm _ d (s_l d (by omega))]
  have h1 : m / 2 ^ d < 2 ^ 32 := Nat.lt_of_le_of_lt (Nat.div_le_self _ _) (by omega)
  rw [pk_andN (n := m / 2 ^ d) h1 (m := 1) 1 (by decide)]
  rw [Nat.testBit_eq_decide_div_mod_eq]
  have h2 : m / 2 ^ d % 2 ^ 1 = 0 ∨ m / 2 ^ d % 2 ^ 1 = 1 := by omega
  rcases h2 with h | h
  · rw [h]
    have : ¬ (m / 2 ^ d % 2 = 1) := by omega
    simp [bz, this, nI_0]
  · rw [h]
    have : m / 2 ^ d % 2 = 1 := by omega
    simp [bz, this]
    rfl
/-- the numbers below n with p, as bits -/
def msk (p : Nat → Bool) : Nat → Nat
  | 0 => 0
  | n + 1 => msk p n + (if p n then 2 ^ n else 0)
theorem msk_lt (p : Nat → Bool) (n : Nat) : msk p n < 2 ^ n := by
  induction n with
  | zero => exact Nat.one_pos
  | succ n ih =>
    rw [msk, Nat.pow_succ]
    split <;> omega
theorem msk_bit (p : Nat → Bool) (n d : Nat) : (msk p n).testBit d = (decide (d < n) && p d) := by
  induction n with
  | zero => simp [msk]
  | succ n ih =>
    rw [msk]
    by_cases hp : p n = true
    · rw [if_pos hp]
      by_cases hd : d = n
      · subst hd
        rw [Nat.add_comm, Nat.testBit_two_pow_add_eq, ih]
        simp [hp]
      · by_cases hlt : d < n
        · rw [Nat.add_comm, Nat.testBit_two_pow_add_gt hlt, ih]
          have h2 : d < n + 1 := by omega
          simp [hlt, h2]
        · have h1 : msk p n + 2 ^ n < 2 ^ d := by
            have := msk_lt p n
            have h2 : 2 ^ (n + 1) ≤ 2 ^ d := Nat.pow_le_pow_right (by decide) (by omega)
            rw [Nat.pow_succ] at h2
            omega
          rw [Nat.testBit_lt_two_pow h1]
          have : ¬ d < n + 1 := by omega
          simp [this]
    · rw [if_neg hp, Nat.add_zero, ih]
      by_cases hd : d = n
      · rw [hd]; simp at hp; simp [hp]
      · have : d < n + 1 ↔ d < n := by omega
        simp [this]
theorem msk_or (p : Nat → Bool) (n : Nat) (h : p n = true) : msk p n ||| 2 ^ n = msk p (n + 1) := by
  apply Nat.eq_of_testBit_eq
  intro i
  rw [Nat.testBit_or, msk_bit, msk_bit, Nat.testBit_two_pow]
  by_cases hi : i = n
  · subst hi; simp [h]
  · have h1 : ¬ n = i := fun e => hi e.symm
    have h2 : i < n + 1 ↔ i < n := by omega
    simp [h1, h2]
theorem msk_no (p : Nat → Bool) (n : Nat) (h : p n = false) : msk p (n + 1) = msk p n := by rw [msk, h]; simp
theorem msk_le {p : Nat → Bool} {n k : Nat} (h : n ≤ k) : msk p n < 2 ^ k := Nat.lt_of_lt_of_le (msk_lt p n) (Nat.pow_le_pow_right (by decide) h)
theorem msk_ext {p q : Nat → Bool} {n : Nat} (h : ∀ d, d < n → p d = q d) : msk p n = msk q n := by
  induction n with
  | zero => rfl
  | succ n ih => rw [msk, msk, ih (fun d hd => h d (by omega)), h n (by omega)]
