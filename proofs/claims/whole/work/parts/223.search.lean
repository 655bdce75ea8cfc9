/-! ===== pure 23: layers of states, in numbers ===== -/
/-- his room, the beast's -/
abbrev St := Nat × Option Nat
def cd (s : St) : Nat := 8 * s.1 + s.2.getD 7
def vS (R : Nat) (s : St) : Prop := s.1 < R ∧ ∀ x, s.2 = some x → x < R
theorem cd_lt {s : St} (h : vS 7 s) : cd s < 56 := by
  obtain ⟨h, be⟩ := s
  unfold cd
  have := h.1
  cases be with
  | none => simp only [Option.getD_none]; simp only at this; omega
  | some x => have := h.2 x rfl; simp only [Option.getD_some]; simp only at *; omega
theorem cd_inj {s s' : St} (h : vS 7 s) (h' : vS 7 s') (e : cd s = cd s') : s = s' := by
  obtain ⟨a, b⟩ := s
  obtain ⟨a', b'⟩ := s'
  unfold cd at e
  have h1 := h.1
  have h1' := h'.1
  have h2 := h.2
  have h2' := h'.2
  simp only at *
  have hb : b.getD 7 < 8 := by
    cases b with
    | none => decide
    | some x => have := h2 x rfl; simp only [Option.getD_some]; omega
  have hb' : b'.getD 7 < 8 := by
    cases b' with
    | none => decide
    | some x => have := h2' x rfl; simp only [Option.getD_some]; omega
  have ea : a = a' := by omega
  have eb : b.getD 7 = b'.getD 7 := by omega
  rw [ea]
  cases b with
  | none =>
    cases b' with
    | none => rfl
    | some x => have := h2' x rfl; simp at eb; omega
  | some x =>
    have := h2 x rfl
    cases b' with
    | none => simp at eb; omega
    | some y => simp at eb; rw [eb]
/-- a layer, as it grows: how many, which, by which, their bits -/
def acc (f : Nat → Option St) : Nat → Nat × (Nat → St) × (Nat → Nat) × Nat
  | 0 => (0, fun _ => (0, none), fun _ => 0, 0)
  | e + 1 => match f e with
    | none => acc f e
    | some s => if (acc f e).2.2.2.testBit (cd s) then acc f e else ((acc f e).1 + 1, fun j => if j = (acc f e).1 then s else (acc f e).2.1 j, fun j => if j = (acc f e).1 then e else (acc f e).2.2.1 j, (acc f e).2.2.2 ||| 2 ^ cd s)
theorem cntl_or {m c : Nat} (h : m.testBit c = false) : ∀ n, cntl (m ||| 2 ^ c) n = cntl m n + (if c < n then 1 else 0)
  | 0 => by simp [cntl]
  | n + 1 => by
    rw [cntl, cntl, cntl_or h n, Nat.testBit_or, Nat.testBit_two_pow]
    by_cases e : c = n
    · subst e
      rw [h]
      simp
    · have h1 : ¬ c = n := e
      by_cases hl : c < n
      · have : c < n + 1 := by omega
        simp [h1, hl, this]; omega
      · have : ¬ c < n + 1 := by omega
        simp [h1, hl, this]
def AccP (f : Nat → Option St) (E : Nat) : Prop :=
  (∀ j, j < (acc f E).1 → (acc f E).2.2.1 j < E ∧ f ((acc f E).2.2.1 j) = some ((acc f E).2.1 j)) ∧
  (∀ j, j < (acc f E).1 → ∀ e', e' < (acc f E).2.2.1 j → ∀ s, f e' = some s → ∃ j', j' < j ∧ (acc f E).2.1 j' = s) ∧
  (∀ e', e' < E → ∀ s, f e' = some s → ∃ j, j < (acc f E).1 ∧ (acc f E).2.1 j = s) ∧
  (∀ c, (acc f E).2.2.2.testBit c = true ↔ ∃ j, j < (acc f E).1 ∧ cd ((acc f E).2.1 j) = c) ∧
  (cntl (acc f E).2.2.2 56 = (acc f E).1) ∧
  (acc f E).2.2.2 < 2 ^ 56
theorem acc_prop {f : Nat → Option St} (hv : ∀ e s, f e = some s → vS 7 s) : ∀ E, AccP f E := by
  intro E
  induction E with
  | zero =>
    refine ⟨?_, ?_, ?_, ?_, ?_, ?_⟩
    · intro j hj; exact absurd hj (Nat.not_lt_zero _)
    · intro j hj; exact absurd hj (Nat.not_lt_zero _)
    · intro e he; exact absurd he (Nat.not_lt_zero _)
    · intro c
      constructor
      · intro h; rw [show (acc f 0).2.2.2 = 0 from rfl, Nat.zero_testBit] at h; cases h
      · rintro ⟨j, hj, _⟩; exact absurd hj (Nat.not_lt_zero _)
    · show cntl 0 56 = 0; decide
    · show 0 < 2 ^ 56; decide
  | succ E ih =>
    obtain ⟨i1, i2, i3, i4, i5, i6⟩ := ih
    cases hf : f E with
    | none =>
      have e : acc f (E + 1) = acc f E := by rw [acc, hf]
      refine ⟨?_, ?_, ?_, ?_, ?_, ?_⟩ <;> rw [e]
      · intro j hj; exact ⟨by have := (i1 j hj).1; omega, (i1 j hj).2⟩
      · exact i2
      · intro e' he s hs
        by_cases c : e' = E
        · rw [c, hf] at hs; cases hs
        · exact i3 e' (by omega) s hs
      · exact i4
      · exact i5
      · exact i6
    | some s0 =>
      have hs0 := hv E s0 hf
      by_cases hb : (acc f E).2.2.2.testBit (cd s0) = true
      · have e : acc f (E + 1) = acc f E := by rw [acc, hf]; simp only [hb, if_true]
        refine ⟨?_, ?_, ?_, ?_, ?_, ?_⟩ <;> rw [e]
        · intro j hj; exact ⟨by have := (i1 j hj).1; omega, (i1 j hj).2⟩
        · exact i2
        · intro e' he s hs
          by_cases c : e' = E
          · rw [c, hf] at hs
            cases hs
            obtain ⟨j, hj, ej⟩ := (i4 (cd s0)).mp hb
            exact ⟨j, hj, cd_inj (hv _ _ (i1 j hj).2) hs0 ej⟩
          · exact i3 e' (by omega) s hs
        · exact i4
        · exact i5
        · exact i6
      · have hb' : (acc f E).2.2.2.testBit (cd s0) = false := by simpa using hb
        have e : acc f (E + 1) = ((acc f E).1 + 1, fun j => if j = (acc f E).1 then s0 else (acc f E).2.1 j, fun j => if j = (acc f E).1 then E else (acc f E).2.2.1 j, (acc f E).2.2.2 ||| 2 ^ cd s0) := by rw [acc, hf]; simp only [hb', Bool.false_eq_true, if_false]
        generalize hA : acc f E = A at *
        obtain ⟨m, L, ev, mm⟩ := A
        simp only at *
        refine ⟨?_, ?_, ?_, ?_, ?_, ?_⟩ <;> rw [e] <;> simp only
        · intro j hj
          by_cases c : j = m
          · simp only [c, if_true]; exact ⟨by omega, hf⟩
          · simp only [if_neg c]
            have := i1 j (by omega)
            exact ⟨by omega, this.2⟩
        · intro j hj e' he s hs
          by_cases c : j = m
          · simp only [c, if_true] at he
            obtain ⟨j', hj', ej⟩ := i3 e' he s hs
            refine ⟨j', by omega, ?_⟩
            rw [if_neg (by omega)]; exact ej
          · simp only [if_neg c] at he
            obtain ⟨j', hj', ej⟩ := i2 j (by omega) e' he s hs
            refine ⟨j', hj', ?_⟩
            rw [if_neg (by omega)]; exact ej
        · intro e' he s hs
          by_cases c : e' = E
          · rw [c, hf] at hs
            cases hs
            exact ⟨m, by omega, by simp⟩
          · obtain ⟨j, hj, ej⟩ := i3 e' (by omega) s hs
            refine ⟨j, by omega, ?_⟩
            rw [if_neg (by omega)]; exact ej
        · intro c
          rw [Nat.testBit_or, Bool.or_eq_true, i4 c, Nat.testBit_two_pow, decide_eq_true_eq]
          constructor
          · rintro (⟨j, hj, ej⟩ | h)
            · refine ⟨j, by omega, ?_⟩
              rw [if_neg (by omega)]; exact ej
            · exact ⟨m, by omega, by rw [if_pos rfl]; exact h⟩
          · rintro ⟨j, hj, ej⟩
            by_cases cc : j = m
            · rw [if_pos cc] at ej; exact Or.inr ej
            · rw [if_neg cc] at ej; exact Or.inl ⟨j, by omega, ej⟩
        · rw [cntl_or hb', i5, if_pos (cd_lt hs0)]
        · exact Nat.or_lt_two_pow i6 (Nat.pow_lt_pow_right (by decide) (cd_lt hs0))
theorem acc_le {f : Nat → Option St} (hv : ∀ e s, f e = some s → vS 7 s) (E : Nat) : (acc f E).1 ≤ 56 := by
  have := (acc_prop hv E).2.2.2.2.1
  rw [← this]
  exact cntl_le _ 56
def lay (nx : Nat → Nat → St → Option St) (s0 : St) : Nat → Nat × (Nat → St) × (Nat → Nat) × Nat
  | 0 => (1, fun _ => s0, fun _ => 0, 0)
  | t + 1 => acc (fun e => nx t (e % 11) ((lay nx s0 t).2.1 (e / 11))) (11 * (lay nx s0 t).1)
def RS (nx : Nat → Nat → St → Option St) (s0 : St) : Nat → St → Prop
  | 0, s => s = s0
  | t + 1, s' => ∃ s d, RS nx s0 t s ∧ d ≤ 10 ∧ nx t d s = some s'
/-- what a step keeps -/
def nxV (R : Nat) (nx : Nat → Nat → St → Option St) : Prop := ∀ t d s s', vS R s → nx t d s = some s' → vS R s'
theorem vS_7 {R : Nat} {s : St} (hR : R ≤ 7) (h : vS R s) : vS 7 s := ⟨by have := h.1; omega, fun x hx => by have := h.2 x hx; omega⟩
/-- the same steps, none from what is no state -/
theorem lay_v {R : Nat} {nx : Nat → Nat → St → Option St} {s0 : St} (hR : R ≤ 7) (hn : nxV R nx) (h0 : vS R s0) : ∀ t, (∀ j, j < (lay nx s0 t).1 → vS R ((lay nx s0 t).2.1 j)) ∧ (lay nx s0 t).1 ≤ 56 ∧ ∀ s, (∃ j, j < (lay nx s0 t).1 ∧ (lay nx s0 t).2.1 j = s) ↔ RS nx s0 t s := by
  intro t
  induction t with
  | zero =>
    refine ⟨fun j _ => h0, by show 1 ≤ 56; omega, fun s => ?_⟩
    constructor
    · rintro ⟨j, _, e⟩; exact e.symm
    · intro e; exact ⟨0, Nat.one_pos, e.symm⟩
  | succ t ih =>
    obtain ⟨i1, i2, i3⟩ := ih
    -- events of real states
    have key : ∀ E, E ≤ 11 * (lay nx s0 t).1 → ∀ f : Nat → Option St, (f = fun e => if e < 11 * (lay nx s0 t).1 then nx t (e % 11) ((lay nx s0 t).2.1 (e / 11)) else none) → acc (fun e => nx t (e % 11) ((lay nx s0 t).2.1 (e / 11))) E = acc f E := by
      intro E
      induction E with
      | zero => intro _ f _; rfl
      | succ E ih =>
        intro hE f hf
        have e1 : f E = nx t (E % 11) ((lay nx s0 t).2.1 (E / 11)) := by rw [hf]; simp only; rw [if_pos (by omega)]
        rw [acc, acc, e1, ih (by omega) f hf]
    obtain ⟨f, hf⟩ : ∃ f : Nat → Option St, f = fun e => if e < 11 * (lay nx s0 t).1 then nx t (e % 11) ((lay nx s0 t).2.1 (e / 11)) else none := ⟨_, rfl⟩
    have hvR : ∀ e s, f e = some s → vS R s := by
      intro e s h
      rw [hf] at h
      simp only at h
      by_cases c : e < 11 * (lay nx s0 t).1
      · rw [if_pos c] at h; exact hn _ _ _ _ (i1 (e / 11) (by omega)) h
      · rw [if_neg c] at h; cases h
    have hv : ∀ e s, f e = some s → vS 7 s := fun e s h => vS_7 hR (hvR e s h)
    have el : lay nx s0 (t + 1) = acc f (11 * (lay nx s0 t).1) := by rw [lay]; exact key _ (Nat.le_refl _) f hf
    have hp := acc_prop hv (11 * (lay nx s0 t).1)
    rw [el]
    refine ⟨fun j hj => hvR _ _ (hp.1 j hj).2, acc_le hv _, fun s => ?_⟩
    constructor
    · rintro ⟨j, hj, e⟩
      have h1 := (hp.1 j hj)
      rw [e] at h1
      have h2 := h1.2
      have hfv : ∀ v, v < 11 * (lay nx s0 t).1 → f v = nx t (v % 11) ((lay nx s0 t).2.1 (v / 11)) := fun v hv => by rw [hf]; simp only; rw [if_pos hv]
      rw [hfv _ h1.1] at h2
      refine ⟨_, _, (i3 _).mp ⟨(acc f (11 * (lay nx s0 t).1)).2.2.1 j / 11, by have := h1.1; omega, rfl⟩, ?_, h2⟩
      have : (acc f (11 * (lay nx s0 t).1)).2.2.1 j % 11 < 11 := Nat.mod_lt _ (by decide)
      omega
    · rintro ⟨s1, d, h1, h2, h3⟩
      obtain ⟨i, hi, ei⟩ := (i3 s1).mpr h1
      have hlt : 11 * i + d < 11 * (lay nx s0 t).1 := by omega
      apply hp.2.2.1 (11 * i + d) hlt s
      rw [hf]
      simp only
      rw [if_pos hlt, show (11 * i + d) % 11 = d by omega, show (11 * i + d) / 11 = i by omega, ei]
      exact h3
/-- what the next layer's places tell -/
theorem lay_ev {R : Nat} {nx : Nat → Nat → St → Option St} {s0 : St} (hR : R ≤ 7) (hn : nxV R nx) (h0 : vS R s0) (t : Nat) : (∀ j, j < (lay nx s0 (t + 1)).1 → (lay nx s0 (t + 1)).2.2.1 j < 11 * (lay nx s0 t).1 ∧ nx t ((lay nx s0 (t + 1)).2.2.1 j % 11) ((lay nx s0 t).2.1 ((lay nx s0 (t + 1)).2.2.1 j / 11)) = some ((lay nx s0 (t + 1)).2.1 j)) ∧ (∀ j, j < (lay nx s0 (t + 1)).1 → ∀ i d, i < (lay nx s0 t).1 → d ≤ 10 → 11 * i + d < (lay nx s0 (t + 1)).2.2.1 j → ∀ s, nx t d ((lay nx s0 t).2.1 i) = some s → ∃ j', j' < j ∧ (lay nx s0 (t + 1)).2.1 j' = s) := by
  obtain ⟨i1, i2, i3⟩ := lay_v hR hn h0 t
  have key : ∀ E, E ≤ 11 * (lay nx s0 t).1 → ∀ f : Nat → Option St, (f = fun e => if e < 11 * (lay nx s0 t).1 then nx t (e % 11) ((lay nx s0 t).2.1 (e / 11)) else none) → acc (fun e => nx t (e % 11) ((lay nx s0 t).2.1 (e / 11))) E = acc f E := by
    intro E
    induction E with
    | zero => intro _ f _; rfl
    | succ E ih =>
      intro hE f hf
      have e1 : f E = nx t (E % 11) ((lay nx s0 t).2.1 (E / 11)) := by rw [hf]; simp only; rw [if_pos (by omega)]
      rw [acc, acc, e1, ih (by omega) f hf]
  obtain ⟨f, hf⟩ : ∃ f : Nat → Option St, f = fun e => if e < 11 * (lay nx s0 t).1 then nx t (e % 11) ((lay nx s0 t).2.1 (e / 11)) else none := ⟨_, rfl⟩
  have hvR : ∀ e s, f e = some s → vS R s := by
    intro e s h
    rw [hf] at h
    simp only at h
    by_cases c : e < 11 * (lay nx s0 t).1
    · rw [if_pos c] at h; exact hn _ _ _ _ (i1 (e / 11) (by omega)) h
    · rw [if_neg c] at h; cases h
  have hv : ∀ e s, f e = some s → vS 7 s := fun e s h => vS_7 hR (hvR e s h)
  have el : lay nx s0 (t + 1) = acc f (11 * (lay nx s0 t).1) := by rw [lay]; exact key _ (Nat.le_refl _) f hf
  have hp := acc_prop hv (11 * (lay nx s0 t).1)
  rw [el]
  refine ⟨fun j hj => ?_, fun j hj i d hi hd hlt s hs => ?_⟩
  · have h1 := hp.1 j hj
    refine ⟨h1.1, ?_⟩
    have h2 := h1.2
    rw [show ∀ v, v < 11 * (lay nx s0 t).1 → f v = nx t (v % 11) ((lay nx s0 t).2.1 (v / 11)) from fun v hv => by rw [hf]; simp only; rw [if_pos hv]] at h2
    · exact h2
    · exact h1.1
  · apply hp.2.1 j hj (11 * i + d) hlt s
    have h1 := (hp.1 j hj).1
    rw [hf]
    simp only
    rw [if_pos (by omega), show (11 * i + d) % 11 = d by omega, show (11 * i + d) / 11 = i by omega]
    exact hs
/-- the first place that leads on has its parent first, its door least -/
theorem lay_back {R : Nat} {nx : Nat → Nat → St → Option St} {s0 : St} (hR : R ≤ 7) (hn : nxV R nx) (h0 : vS R s0) (t : Nat) (G G' : St → Bool) (hG : ∀ s, G s = true ↔ ∃ d, d ≤ 10 ∧ ∃ s', nx t d s = some s' ∧ G' s' = true) (e : Nat) (he : e < (lay nx s0 (t + 1)).1) (h1 : G' ((lay nx s0 (t + 1)).2.1 e) = true) (h2 : ∀ j, j < e → G' ((lay nx s0 (t + 1)).2.1 j) = false) : (lay nx s0 (t + 1)).2.2.1 e / 11 < (lay nx s0 t).1 ∧ G ((lay nx s0 t).2.1 ((lay nx s0 (t + 1)).2.2.1 e / 11)) = true ∧ (∀ j, j < (lay nx s0 (t + 1)).2.2.1 e / 11 → G ((lay nx s0 t).2.1 j) = false) ∧ nx t ((lay nx s0 (t + 1)).2.2.1 e % 11) ((lay nx s0 t).2.1 ((lay nx s0 (t + 1)).2.2.1 e / 11)) = some ((lay nx s0 (t + 1)).2.1 e) ∧ ∀ d, d < (lay nx s0 (t + 1)).2.2.1 e % 11 → ∀ s', nx t d ((lay nx s0 t).2.1 ((lay nx s0 (t + 1)).2.2.1 e / 11)) = some s' → G' s' = false := by
  obtain ⟨u1, u2⟩ := lay_ev hR hn h0 t
  obtain ⟨v1, v2⟩ := u1 e he
  have w1 := u2 e he
  have hm : (lay nx s0 (t + 1)).2.2.1 e % 11 < 11 := Nat.mod_lt _ (by decide)
  generalize (lay nx s0 (t + 1)).2.2.1 e = v at *
  refine ⟨by omega, (hG _).mpr ⟨_, by omega, _, v2, h1⟩, fun j hj => ?_, v2, fun d hd s' hs => ?_⟩
  · cases hg : G ((lay nx s0 t).2.1 j) with
    | false => rfl
    | true =>
      obtain ⟨d, hd, s', hs, hs'⟩ := (hG _).mp hg
      obtain ⟨j', hj', ej⟩ := w1 j d (by omega) hd (by omega) s' hs
      rw [← ej, h2 j' hj'] at hs'
      cases hs'
  · obtain ⟨j', hj', ej⟩ := w1 (v / 11) d (by omega) (by omega) (by omega) s' hs
    rw [← ej]
    exact h2 j' hj'
