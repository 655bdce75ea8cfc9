/-! ===== pure 3: doors, laws, the beast, in numbers; what the class's functions answer ===== -/
def rI (b : Nat → Nat) : Nat → Int32 := fun k => nI (b k)
theorem rI_at (b : Nat → Nat) (k : Nat) : rI b k = nI (b k) := rfl
theorem rI_row (b : Nat → Nat) (n : Nat) : row n (rI b) b := fun _ _ => rfl
def updN (f : Nat → Nat) (k x : Nat) : Nat → Nat := fun j => if j = k then x else f j
theorem rI_upd (b : Nat → Nat) (k x : Nat) : upd (rI b) k (nI x) = rI (updN b k x) := by
  funext j
  unfold upd rI updN
  by_cases h : j = k <;> simp [h]
def cpyN (f g : Nat → Nat) (n : Nat) : Nat → Nat := fun k => if k < n then f k else g k
theorem rI_cpy (f g : Nat → Nat) (n : Nat) : va_cpy (rI f) (rI g) 0 0 n = rI (cpyN f g n) := by
  funext k
  unfold va_cpy rI cpyN
  by_cases h : k < n <;> simp [h]
def lt7 (b : Nat → Nat) : Prop := ∀ d, b d < 7
theorem lt7_upd {b : Nat → Nat} {k x : Nat} (h : lt7 b) (hx : x < 7) : lt7 (updN b k x) := by
  intro d; unfold updN; split
  · exact hx
  · exact h d
/-- the first (or only) door of a law -/
def ld (L : Nat) : Nat := if L < 200 then L / 10 % 10 else L % 10
def chg (R L : Nat) (w : (Nat → Nat) × Nat) : (Nat → Nat) × Nat :=
  if L < 100 then (updN (updN w.1 (ld L) (w.1 (L % 10))) (L % 10) (w.1 (ld L)), w.2)
  else if L < 200 then (updN w.1 (ld L) ((w.1 (ld L) + L % 10) % R), w.2)
  else (w.1, w.2 ^^^ 2 ^ ld L)
def rls (R : Nat) (rl : Nat → Nat) : Nat → (Nat → Nat) × Nat → (Nat → Nat) × Nat
  | 0, w => w
  | k + 1, w => chg R (rl k) (rls R rl k w)
theorem p_first : ∀ L, L < 210 → f_X7_firstDoorOf (nI L) = some (nI (ld L)) := by decide +kernel
theorem p_second : ∀ L, L < 210 → f_X7_secondPartOf (nI L) = some (nI (L % 10)) := by decide +kernel
theorem ld_lt (L : Nat) : ld L < 10 := by unfold ld; split <;> omega
theorem lt7_chg {R L : Nat} {w : (Nat → Nat) × Nat} (hR : 0 < R) (hR7 : R ≤ 7) (h : lt7 w.1) : lt7 (chg R L w).1 := by
  unfold chg
  split
  · exact lt7_upd (lt7_upd h (h _)) (h _)
  · split
    · exact lt7_upd h (by have := Nat.mod_lt (w.1 (ld L) + L % 10) hR; omega)
    · exact h
theorem lt7_rls {R : Nat} {rl : Nat → Nat} {k : Nat} {w : (Nat → Nat) × Nat} (hR : 0 < R) (hR7 : R ≤ 7) (h : lt7 w.1) : lt7 (rls R rl k w).1 := by
  induction k with
  | zero => exact h
  | succ k ih => exact lt7_chg hR hR7 ih
theorem bm_chg {R L n : Nat} {w : (Nat → Nat) × Nat} (h : w.2 < 2 ^ n) (hL : ld L < n) : (chg R L w).2 < 2 ^ n := by
  unfold chg
  split
  · exact h
  · split
    · exact h
    · exact Nat.xor_lt_two_pow h (Nat.pow_lt_pow_right (by decide) hL)
theorem p_change {R L bm : Nat} {b : Nat → Nat} (hL : L < 210) (hR : 0 < R) (hR7 : R ≤ 7) (h7 : lt7 b) : f_X6_change (nI bm) (nI R) (rI b) (nI L) = some (nI (chg R L (b, bm)).2, rI (chg R L (b, bm)).1) := by
  unfold f_X6_change
  rw [p_first L hL, ob1_s, p_second L hL, ob1_s]
  have hd := ld_lt L
  have hn : L % 10 < 10 := Nat.mod_lt _ (by decide)
  have e200 : (200 : Int32) = nI 200 := rfl
  have e100 : (100 : Int32) = nI 100 := rfl
  unfold chg
  by_cases h2 : L < 200
  · rw [if_pos (show nI L < 200 from nI_lt h2 (by decide))]
    by_cases h1 : L < 100
    · rw [if_pos (show nI L < 100 from nI_lt h1 (by decide))]
      rw [gin_k hd (by decide), bnd_s, gin_k hn (by decide), gin_k hd (by decide), bnd_s, gin_k hn (by decide), bnd_s]
      rw [nI_cl (by omega), nI_cl (by omega), rI_at, rI_at, rI_upd, rI_upd, if_pos h1]
    · rw [if_neg (show ¬ nI L < 100 from nI_nlt (b := 100) (by omega) (by omega)), if_neg h1, if_pos h2]
      rw [gin_k hd (by decide), nI_cl (by omega), rI_at, nI_add, p_modulo (by have := h7 (ld L); omega) hR (by omega), ob1_s, gin_k hd (by decide), bnd_s, rI_upd]
  · rw [if_neg (show ¬ nI L < 200 from nI_nlt (b := 200) (by omega) (by omega)), if_neg (show ¬ L < 100 by omega), if_neg h2, bnd_s, shl_k _ (by omega), nx_xor]
theorem p_applyRules {R K bm : Nat} {b rl : Nat → Nat} (hK : K ≤ 6) (hrl : ∀ k, rl k < 210) (hR : 0 < R) (hR7 : R ≤ 7) (h7 : lt7 b) : f_X6_applyRules (nI bm) (nI R) (nI K) (rI rl) (rI b) = some (nI (rls R rl K (b, bm)).2, rI (rls R rl K (b, bm)).1) := by
  unfold f_X6_applyRules
  have h := itr_count (step := un3 (b_X6_applyRules_2 (nI R) (nI K) (rI rl))) (fun i => (nI i, nI (rls R rl i (b, bm)).2, rI (rls R rl i (b, bm)).1)) K (nI K, nI (rls R rl K (b, bm)).2, rI (rls R rl K (b, bm)).1) ?_ ?_ FU (by unfold FU; omega)
  · rw [show ((0 : Int32), nI bm, rI b) = (nI 0, nI (rls R rl 0 (b, bm)).2, rI (rls R rl 0 (b, bm)).1) from rfl, h]
    rfl
  · intro i hi
    rw [un3_s]
    unfold b_X6_applyRules_2
    rw [if_neg (nI_ge hi (by omega)), gin_k (by omega) (by decide), nI_cl (by omega), rI_at, p_change (hrl i) hR hR7 (lt7_rls hR hR7 h7), ob2_s, bnd_s]
    rw [show nI i + 1 = nI (i + 1) from nI_1 i]
    rfl
  · rw [un3_s]
    unfold b_X6_applyRules_2
    rw [if_pos (nI_le (Nat.le_refl K) (by omega))]
theorem p_passTime {R K bm per st : Nat} {b rl : Nat → Nat} (hK : K ≤ 6) (hrl : ∀ k, rl k < 210) (hR : 0 < R) (hR7 : R ≤ 7) (h7 : lt7 b) (hp : 0 < per) (hp6 : per ≤ 6) (hst : st < 100000) : f_X6_passTime (nI bm) (nI per) (nI st) (nI R) (nI K) (rI rl) (rI b) = some (nI (if (st + 1) % per = 0 then rls R rl K (b, bm) else (b, bm)).2, nI (st + 1), rI (if (st + 1) % per = 0 then rls R rl K (b, bm) else (b, bm)).1) := by
  unfold f_X6_passTime
  rw [bnd_s, show nI st + 1 = nI (st + 1) from nI_1 st, p_modulo (by omega) hp (by omega), ob1_s]
  have hm : (st + 1) % per < per := Nat.mod_lt _ hp
  by_cases h : (st + 1) % per = 0
  · rw [if_pos (show nI ((st + 1) % per) = 0 by rw [h]; rfl), p_applyRules hK hrl hR hR7 h7, ob2_s, if_pos h]
  · rw [if_neg (nI_ne0 (by omega) (by omega)), if_neg h]
/-- a search for the first i with p i -/
def ff (p : Nat → Bool) : Nat → Option Nat
  | 0 => none
  | n + 1 => match ff p n with
    | some k => some k
    | none => if p n then some n else none
theorem ff_some {p : Nat → Bool} {n k : Nat} (h : ff p n = some k) : k < n ∧ p k = true ∧ ∀ i, i < k → p i = false := by
  induction n with
  | zero => cases h
  | succ n ih =>
    rw [ff] at h
    cases hc : ff p n with
    | some j =>
      rw [hc] at h
      cases h
      have := ih hc
      exact ⟨by omega, this.2⟩
    | none =>
      rw [hc] at h
      have hno : ∀ i, i < n → p i = false := by
        clear ih h
        induction n with
        | zero => intro i hi; omega
        | succ n ih2 =>
          rw [ff] at hc
          cases hc2 : ff p n with
          | some j => rw [hc2] at hc; cases hc
          | none =>
            rw [hc2] at hc
            intro i hi
            by_cases e : i = n
            · subst e
              cases hp : p i with
              | false => rfl
              | true => simp [hp] at hc
            · exact ih2 hc2 i (by omega)
      by_cases hp : p n = true
      · simp [hp] at h
        subst h
        exact ⟨by omega, hp, hno⟩
      · simp [hp] at h
theorem ff_none {p : Nat → Bool} {n : Nat} (h : ff p n = none) : ∀ i, i < n → p i = false := by
  induction n with
  | zero => intro i hi; omega
  | succ n ih =>
    rw [ff] at h
    cases hc : ff p n with
    | some j => rw [hc] at h; cases h
    | none =>
      rw [hc] at h
      intro i hi
      by_cases e : i = n
      · subst e
        cases hp : p i with
        | false => rfl
        | true => simp [hp] at h
      · exact ih hc i (by omega)
theorem itr_first {σ ρ α : Type} {step : σ → Option (σ ⊕ (ρ ⊕ α))} (p : Nat → Bool) (s : Nat → σ) (N : Nat) (r : Nat → ρ) (o : α) (hs : ∀ i, i < N → p i = false → step (s i) = some (.inl (s (i + 1)))) (hr : ∀ i, i < N → p i = true → step (s i) = some (.inr (.inl (r i)))) (he : step (s N) = some (.inr (.inr o))) (n : Nat) (hn : N < n) : itr step n (s 0) = some (match ff p N with | some k => .inl (r k) | none => .inr o) := by
  cases hf : ff p N with
  | none =>
    have h := ff_none hf
    exact itr_count s N (.inr o) (fun i hi => hs i hi (h i hi)) he n hn
  | some k =>
    obtain ⟨h1, h2, h3⟩ := ff_some hf
    exact itr_count s k (.inl (r k)) (fun i hi => hs i (by omega) (h3 i hi)) (hr k h1 h2) n (by omega)
theorem p_openFrom {bm Dn x : Nat} {a b : Nat → Nat} (hb : bm < 2147483648) (hD : Dn ≤ 10) (h7a : lt7 a) (h7 : lt7 b) (hx : x < 1000) : f_X6_openFrom (nI bm) (nI Dn) (rI a) (rI b) (nI x) = some (nI (msk (fun d => (lead a b bm d x).isSome) Dn)) := by
  unfold f_X6_openFrom
  have h := itr_count (step := un2 (b_X6_openFrom_4 (nI bm) (nI Dn) (rI a) (rI b) (nI x))) (fun i => (nI (msk (fun d => (lead a b bm d x).isSome) i), nI i)) Dn (nI (msk (fun d => (lead a b bm d x).isSome) Dn), nI Dn) ?_ ?_ FU (by unfold FU; omega)
  · rw [show ((0 : Int32), (0 : Int32)) = (nI (msk (fun d => (lead a b bm d x).isSome) 0), nI 0) from rfl, h]
    rfl
  · intro i hi
    rw [un2_s]
    unfold b_X6_openFrom_4
    rw [if_neg (nI_ge hi (by omega)), p_across hb hD hi (rI_row a Dn) (rI_row b Dn) (fun d _ => by have := h7a d; omega) (fun d _ => by have := h7 d; omega) hx, ob1_s, jn1_s]
    have hl : ∀ n, lead a b bm i x = some n → n < 2147483648 := by
      intro n hn
      unfold lead at hn
      have h1 := h7a i
      have h2 := h7 i
      split at hn
      · cases hn
      · split at hn
        · cases hn; omega
        · split at hn
          · cases hn; omega
          · cases hn
    by_cases hc : lead a b bm i x = none
    · rw [if_pos ((enc_none _ hl).mpr hc)]
      simp only [bnd_s]
      rw [show nI i + 1 = nI (i + 1) from nI_1 i, msk_no _ _ (by simp [hc])]
    · have hs : (lead a b bm i x).isSome = true := by
        cases h : lead a b bm i x with
        | none => exact absurd h hc
        | some n => rfl
      rw [if_neg (fun e => hc ((enc_none _ hl).mp e))]
      simp only [bnd_s]
      rw [show nI i + 1 = nI (i + 1) from nI_1 i, shl_k i (by omega), fa_or, msk_or (fun d => (lead a b bm d x).isSome) i hs]
  · rw [un2_s]
    unfold b_X6_openFrom_4
    rw [if_pos (nI_le (Nat.le_refl Dn) (by omega))]
theorem lead_lt {a b : Nat → Nat} {bm d x n : Nat} (h7a : lt7 a) (h7 : lt7 b) (h : lead a b bm d x = some n) : n < 7 := by
  unfold lead at h
  have h1 := h7a d
  have h2 := h7 d
  split at h
  · cases h
  · split at h
    · cases h; omega
    · split at h
      · cases h; omega
      · cases h
theorem enc_eq {o : Option Nat} {y : Nat} (h : ∀ n, o = some n → n < 2147483648) (hy : y < 2147483648) : (enc o = nI y) ↔ o = some y := by
  cases o with
  | none =>
    simp only [enc, reduceCtorEq, iff_false]
    intro e
    have h2 : (nI y).toInt = (-4 : Int32).toInt := by rw [← e]
    rw [nI_toInt hy] at h2
    have h3 : (-4 : Int32).toInt = -4 := by decide
    omega
  | some n =>
    simp only [enc, Option.some.injEq]
    exact nI_eq (h n rfl) hy
theorem p_between {bm Dn x y : Nat} {a b : Nat → Nat} (hb : bm < 2147483648) (hD : Dn ≤ 10) (h7a : lt7 a) (h7 : lt7 b) (hx : x < 1000) (hy : y < 1000) : f_X6_isDoorBetween (nI bm) (nI Dn) (rI a) (rI b) (nI x) (nI y) = some (bz (ff (fun d => lead a b bm d x == some y) Dn).isSome) := by
  unfold f_X6_isDoorBetween
  have h := itr_first (step := un1 (b_X6_isDoorBetween_2 (nI bm) (nI Dn) (rI a) (rI b) (nI x) (nI y))) (fun d => lead a b bm d x == some y) nI Dn (fun _ => (1 : Int32)) (nI Dn) ?_ ?_ ?_ FU (by unfold FU; omega)
  · rw [show (0 : Int32) = nI 0 from rfl, h]
    cases ff (fun d => lead a b bm d x == some y) Dn <;> rfl
  · intro i hi hp
    rw [un1_s]
    unfold b_X6_isDoorBetween_2
    rw [if_neg (nI_ge hi (by omega)), p_across hb hD hi (rI_row a Dn) (rI_row b Dn) (fun d _ => by have := h7a d; omega) (fun d _ => by have := h7 d; omega) hx, ob1_s]
    rw [if_neg (fun e => by rw [enc_eq (fun n hn => by have := lead_lt h7a h7 hn; omega) (by omega)] at e; simp [e] at hp), bnd_s, show nI i + 1 = nI (i + 1) from nI_1 i]
  · intro i hi hp
    rw [un1_s]
    unfold b_X6_isDoorBetween_2
    rw [if_neg (nI_ge hi (by omega)), p_across hb hD hi (rI_row a Dn) (rI_row b Dn) (fun d _ => by have := h7a d; omega) (fun d _ => by have := h7 d; omega) hx, ob1_s]
    rw [if_pos ((enc_eq (fun n hn => by have := lead_lt h7a h7 hn; omega) (by omega)).mpr (by simpa using hp))]
  · rw [un1_s]
    unfold b_X6_isDoorBetween_2
    rw [if_pos (nI_le (Nat.le_refl Dn) (by omega))]
