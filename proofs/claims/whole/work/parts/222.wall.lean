/-! ===== pure 22: wall ===== -/
theorem and0f : ∀ p : Fin 7, ∀ q : Fin 7, ∀ m : Fin 128, decide (nI (2 ^ p.val ||| 2 ^ q.val) &&& nI m.val = 0) = (!m.val.testBit p.val && !m.val.testBit q.val) := by decide +kernel
theorem and1f : ∀ m : Fin 128, nI m.val &&& 1 = bz (m.val.testBit 0) := by decide +kernel
/-- the rooms at a door's ends, if it is open and one of them is in the set -/
def addD (a b : Nat → Nat) (bm wl m d : Nat) : Nat := if wl.testBit d || bm.testBit d then 0 else if m.testBit (a d) || m.testBit (b d) then 2 ^ a d ||| 2 ^ b d else 0
def nwd (a b : Nat → Nat) (bm wl m : Nat) : Nat → Nat
  | 0 => 0
  | d + 1 => nwd a b bm wl m d ||| addD a b bm wl m d
def stp (a b : Nat → Nat) (bm wl Dn m : Nat) : Nat := m ||| nwd a b bm wl m Dn
theorem addD_lt {a b : Nat → Nat} {bm wl m d : Nat} (h7a : lt7 a) (h7 : lt7 b) : addD a b bm wl m d < 2 ^ 7 := by
  unfold addD
  split
  · decide
  · split
    · exact Nat.or_lt_two_pow (Nat.pow_lt_pow_right (by decide) (h7a d)) (Nat.pow_lt_pow_right (by decide) (h7 d))
    · decide
theorem nwd_lt {a b : Nat → Nat} {bm wl m : Nat} (h7a : lt7 a) (h7 : lt7 b) : ∀ d, nwd a b bm wl m d < 2 ^ 7
  | 0 => by rw [nwd]; decide
  | d + 1 => Nat.or_lt_two_pow (nwd_lt h7a h7 d) (addD_lt h7a h7)
theorem stp_lt {a b : Nat → Nat} {bm wl Dn m : Nat} (h7a : lt7 a) (h7 : lt7 b) (hm : m < 2 ^ 7) : stp a b bm wl Dn m < 2 ^ 7 := Nat.or_lt_two_pow hm (nwd_lt h7a h7 Dn)
theorem addD_bit {a b : Nat → Nat} {bm wl m d y : Nat} : (addD a b bm wl m d).testBit y = true ↔ wl.testBit d = false ∧ bm.testBit d = false ∧ (m.testBit (a d) = true ∨ m.testBit (b d) = true) ∧ (a d = y ∨ b d = y) := by
  unfold addD
  by_cases h1 : (wl.testBit d || bm.testBit d) = true
  · rw [if_pos h1, Nat.zero_testBit]
    constructor
    · intro h; cases h
    · rintro ⟨e1, e2, _⟩; rw [e1, e2] at h1; cases h1
  · rw [if_neg h1]
    have h1' : wl.testBit d = false ∧ bm.testBit d = false := by revert h1; cases wl.testBit d <;> cases bm.testBit d <;> simp
    by_cases h2 : (m.testBit (a d) || m.testBit (b d)) = true
    · rw [if_pos h2, Nat.testBit_or, Nat.testBit_two_pow, Nat.testBit_two_pow]
      rw [Bool.or_eq_true] at h2
      simp only [Bool.or_eq_true, decide_eq_true_eq]
      exact ⟨fun h => ⟨h1'.1, h1'.2, h2, h⟩, fun h => h.2.2.2⟩
    · rw [if_neg h2, Nat.zero_testBit]
      constructor
      · intro h; cases h
      · rintro ⟨_, _, e3, _⟩
        rw [Bool.or_eq_true] at h2
        exact absurd e3 h2
theorem nwd_bit {a b : Nat → Nat} {bm wl m y : Nat} : ∀ {n : Nat}, (nwd a b bm wl m n).testBit y = true ↔ ∃ d, d < n ∧ wl.testBit d = false ∧ bm.testBit d = false ∧ (m.testBit (a d) = true ∨ m.testBit (b d) = true) ∧ (a d = y ∨ b d = y) := by
  intro n
  induction n with
  | zero =>
    rw [nwd, Nat.zero_testBit]
    constructor
    · intro h; cases h
    · rintro ⟨d, h, _⟩; omega
  | succ n ih =>
    rw [nwd, Nat.testBit_or, Bool.or_eq_true, ih, addD_bit]
    constructor
    · rintro (⟨d, h, e⟩ | e)
      · exact ⟨d, by omega, e⟩
      · exact ⟨n, by omega, e⟩
    · rintro ⟨d, h, e⟩
      by_cases c : d = n
      · subst c; exact Or.inr e
      · exact Or.inl ⟨d, by omega, e⟩
/-- what the class lays of the doors to come -/
def enO (a : Nat → Nat) (Dn : Nat) (ws : Nat → (Nat → Nat) × Nat) (T : Nat) (en : Nat → Int32) : Prop := ∀ t, t < T → ∀ d, d < Dn → en (10 * t + d) = nI (if (ws t).2.testBit d then 0 else 2 ^ a d ||| 2 ^ (ws t).1 d)
theorem p_foreRow {a b : Nat → Nat} {bm Dn t : Nat} {en : Nat → Int32} (hD : Dn ≤ 10) (hbm : bm < 2147483648) (h7a : lt7 a) (h7 : lt7 b) (ht : t < 24) : ∃ x en', itr (un2 (b_X1_foresee_21 (nI Dn) (rI a) (nI t) (nI bm) (rI b))) FU ((0 : Int32), en) = some (x, en') ∧ (∀ d, d < Dn → en' (10 * t + d) = nI (if bm.testBit d then 0 else 2 ^ a d ||| 2 ^ b d)) ∧ ∀ j, j < 10 * t → en' j = en j := by
  have hh := itr_inv (step := un2 (b_X1_foresee_21 (nI Dn) (rI a) (nI t) (nI bm) (rI b))) (fun i x => x.1 = nI i ∧ (∀ d, d < i → x.2 (10 * t + d) = nI (if bm.testBit d then 0 else 2 ^ a d ||| 2 ^ b d)) ∧ ∀ j, j < 10 * t → x.2 j = en j) Dn (fun x => (∀ d, d < Dn → x.2 (10 * t + d) = nI (if bm.testBit d then 0 else 2 ^ a d ||| 2 ^ b d)) ∧ ∀ j, j < 10 * t → x.2 j = en j) ?_ ?_ ((0 : Int32), en) ⟨rfl, fun d hd => absurd hd (Nat.not_lt_zero _), fun _ _ => rfl⟩ FU (by unfold FU; omega)
  · obtain ⟨⟨o1, o2⟩, e, q⟩ := hh
    exact ⟨o1, o2, e, q⟩
  · rintro i ⟨x1, x2⟩ hi ⟨h1, h2, h3⟩
    simp only at h1 h2 h3
    subst h1
    have c1 := h7a i
    have c2 := h7 i
    refine ⟨(nI (i + 1), upd x2 (10 * t + i) (nI (if bm.testBit i then 0 else 2 ^ a i ||| 2 ^ b i))), ?_, rfl, ?_, ?_⟩
    · rw [un2_s]
      unfold b_X1_foresee_21
      rw [if_neg (nI_ge hi (by omega)), gin_k (by omega) (by omega), gin_k (by omega) (by omega), bnd_s, p_isBarred hbm (by omega), ob1_s, jn1_s, nI_cl (by omega), rI_at, rI_at, shl_k _ (by omega), shl_k _ (by omega), fa_or, show nI t * (10 : Int32) = nI (t * 10) from pk_mul t 10, nI_add, show t * 10 + i = 10 * t + i by omega]
      simp only [gin_k (show 10 * t + i < 240 by omega) (show 240 < 2147483648 by omega), bnd_s, nI_cl (show 10 * t + i < 2147483648 by omega)]
      rw [show nI i + 1 = nI (i + 1) from nI_1 i]
      cases bm.testBit i <;> rfl
    · intro d hd
      simp only
      by_cases c : d = i
      · rw [c, pk_us]
      · rw [pk_un (by omega)]; exact h2 d (by omega)
    · intro j hj
      simp only
      rw [pk_un (by omega)]; exact h3 j hj
  · rintro ⟨x1, x2⟩ ⟨h1, h2, h3⟩
    simp only at h1 h2 h3
    subst h1
    refine ⟨(nI Dn, x2), ?_, h2, h3⟩
    rw [un2_s]
    unfold b_X1_foresee_21
    rw [if_pos (nI_le (Nat.le_refl Dn) (by omega))]
theorem p_foresee {R Dn K SL : Nat} {a b rl : Nat → Nat} {bm per st : Nat} {en : Nat → Int32} (hP : PlO R Dn K SL a rl) (hW : Wok R Dn (b, bm)) (hp : 0 < per) (hp6 : per ≤ 6) (hst : st ≤ 999) : ∃ en', f_X1_foresee (nI bm) (nI per) (nI st) (nI R) (nI Dn) (nI K) (rI a) (rI rl) (rI b) en = some (nI (tw R K rl per st (b, bm) 24).2, nI (st + 24), rI (tw R K rl per st (b, bm) 24).1, nI Dn, en') ∧ enO a Dn (tw R K rl per st (b, bm)) 24 en' := by
  obtain ⟨q1, q2, q3, q4, q5, q6, q7, q8, q9, q10, q11⟩ := hP
  have hT := fun t => Wok_tw (per := per) (st := st) (K := K) q3 q11 (by omega) q2 hW t
  unfold f_X1_foresee
  generalize htw : tw R K rl per st (b, bm) = ws at hT ⊢
  have hh := itr_inv (step := un5 (b_X1_foresee_13 (nI per) (nI R) (nI Dn) (nI K) (rI a) (rI rl))) (fun i x => x.1 = nI i ∧ x.2.1 = nI (ws i).2 ∧ x.2.2.1 = nI (st + i) ∧ x.2.2.2.1 = rI (ws i).1 ∧ enO a Dn ws i x.2.2.2.2) 24 (fun x => x.2.1 = nI (ws 24).2 ∧ x.2.2.1 = nI (st + 24) ∧ x.2.2.2.1 = rI (ws 24).1 ∧ enO a Dn ws 24 x.2.2.2.2) ?_ ?_ ((0 : Int32), nI bm, nI st, rI b, en) ⟨rfl, by rw [← htw]; rfl, rfl, by rw [← htw]; rfl, fun t ht => absurd ht (Nat.not_lt_zero _)⟩ FU (by unfold FU; omega)
  · obtain ⟨⟨o1, o2, o3, o4, o5⟩, e, z1, z2, z3, z4⟩ := hh
    simp only at z1 z2 z3 z4
    subst z1 z2 z3
    rw [e, ob5_s]
    exact ⟨o5, rfl, z4⟩
  · rintro i ⟨x1, x2, x3, x4, x5⟩ hi ⟨z1, z2, z3, z4, z5⟩
    simp only at z1 z2 z3 z4 z5
    subst z1 z2 z3 z4
    have hbi := p2_lt (hT i).2.2.2 q3
    obtain ⟨xx, en', e1, u1, u2⟩ := p_foreRow (a := a) (b := (ws i).1) (bm := (ws i).2) (en := x5) q3 (by omega) q6 (hT i).1 hi
    have et := p_tick (R := R) (K := K) (bm := (ws i).2) (per := per) (st := st + i) (b := (ws i).1) (rl := rl) q4 q9 (by omega) q2 (hT i).1 hp hp6 (by omega)
    have etw : tick R K rl per (st + i) ((ws i).1, (ws i).2) = ws (i + 1) := by rw [← htw]; rfl
    rw [etw] at et
    refine ⟨(nI (i + 1), nI (ws (i + 1)).2, nI (st + (i + 1)), rI (ws (i + 1)).1, en'), ?_, rfl, rfl, rfl, rfl, ?_⟩
    · rw [un5_s]
      unfold b_X1_foresee_13
      rw [if_neg (show ¬ (24 : Int32) ≤ nI i from nI_ge (b := 24) hi (by omega)), e1, ob2_s, et, ob3_s, bnd_s, show nI i + 1 = nI (i + 1) from nI_1 i]
      rfl
    · intro t ht d hd
      by_cases c : t = i
      · subst c; exact u1 d hd
      · show en' (10 * t + d) = _
        rw [u2 _ (by omega)]; exact z5 t (by omega) d hd
  · rintro ⟨x1, x2, x3, x4, x5⟩ ⟨z1, z2, z3, z4, z5⟩
    simp only at z1 z2 z3 z4 z5
    subst z1 z2 z3 z4
    refine ⟨(nI 24, nI (ws 24).2, nI (st + 24), rI (ws 24).1, x5), ?_, rfl, rfl, rfl, z5⟩
    rw [un5_s]
    unfold b_X1_foresee_13
    rw [if_pos (show (24 : Int32) ≤ nI 24 from nI_le (a := 24) (Nat.le_refl 24) (by omega))]
theorem p_newly {a : Nat → Nat} {Dn t wl m : Nat} {ws : Nat → (Nat → Nat) × Nat} {en : Nat → Int32} (hD : Dn ≤ 10) (h7a : lt7 a) (h7 : lt7 (ws t).1) (hen : enO a Dn ws 24 en) (ht : t < 24) (hwl : wl < 2147483648) (hm : m < 2 ^ 7) : f_X1_newlyReached (nI Dn) en (nI m) (nI t) (nI wl) = some (nI (nwd a (ws t).1 (ws t).2 wl m Dn)) := by
  unfold f_X1_newlyReached
  have h := itr_count (step := un2 (b_X1_newlyReached_6 (nI Dn) en (nI m) (nI t) (nI wl))) (fun i => (nI (nwd a (ws t).1 (ws t).2 wl m i), nI i)) Dn (nI (nwd a (ws t).1 (ws t).2 wl m Dn), nI Dn) ?_ ?_ FU (by unfold FU; omega)
  · rw [show ((0 : Int32), (0 : Int32)) = (nI (nwd a (ws t).1 (ws t).2 wl m 0), nI 0) from rfl, h, ob2_s]
  · intro i hi
    rw [un2_s]
    unfold b_X1_newlyReached_6
    rw [if_neg (nI_ge hi (by omega)), show nI t * (10 : Int32) = nI (t * 10) from pk_mul t 10, nI_add, show t * 10 + i = 10 * t + i by omega, gin_k (by omega) (by omega), bnd_s, jn1_s, nI_cl (by omega), hen t ht i hi, bit_k hwl (by omega), show nI i + 1 = nI (i + 1) from nI_1 i, nwd, addD]
    simp only [bnd_s]
    cases hw : wl.testBit i with
    | true =>
      rw [bz_t, if_neg n10, Bool.true_or, if_pos rfl, Nat.or_zero]
    | false =>
      rw [bz_f, if_pos rfl, Bool.false_or]
      cases hb : (ws t).2.testBit i with
      | true =>
        rw [if_pos rfl, if_pos rfl, Nat.or_zero, show nI 0 &&& nI m = 0 by rw [fa_and, Nat.zero_and]; rfl, if_pos rfl]
      | false =>
        simp only [Bool.false_eq_true, if_false]
        have e := and0f ⟨a i, h7a i⟩ ⟨(ws t).1 i, h7 i⟩ ⟨m, hm⟩
        simp only at e
        by_cases hc : nI (2 ^ a i ||| 2 ^ (ws t).1 i) &&& nI m = 0
        · rw [if_pos hc]
          rw [decide_eq_true hc] at e
          have e' : (m.testBit (a i) || m.testBit ((ws t).1 i)) = false := by revert e; cases m.testBit (a i) <;> cases m.testBit ((ws t).1 i) <;> simp
          rw [e', if_neg (by decide), Nat.or_zero]
        · rw [if_neg hc, fa_or]
          rw [decide_eq_false hc] at e
          have e' : (m.testBit (a i) || m.testBit ((ws t).1 i)) = true := by revert e; cases m.testBit (a i) <;> cases m.testBit ((ws t).1 i) <;> simp
          rw [e', if_pos rfl]
  · rw [un2_s]
    unfold b_X1_newlyReached_6
    rw [if_pos (nI_le (Nat.le_refl Dn) (by omega))]
/-- the rooms that the beast can be in behind t steps -/
def rch (a : Nat → Nat) (Dn wl : Nat) (ws : Nat → (Nat → Nat) × Nat) (x : Nat) : Nat → Nat
  | 0 => 2 ^ x
  | t + 1 => stp a (ws t).1 (ws t).2 wl Dn (rch a Dn wl ws x t)
theorem rch_lt {a : Nat → Nat} {Dn wl : Nat} {ws : Nat → (Nat → Nat) × Nat} {x : Nat} (h7a : lt7 a) (hT : ∀ t, lt7 (ws t).1) (hx : x < 7) : ∀ t, rch a Dn wl ws x t < 2 ^ 7
  | 0 => Nat.pow_lt_pow_right (by decide) hx
  | t + 1 => stp_lt h7a (hT t) (rch_lt h7a hT hx t)
theorem rch_mono {a : Nat → Nat} {Dn wl : Nat} {ws : Nat → (Nat → Nat) × Nat} {x t y : Nat} (h : (rch a Dn wl ws x t).testBit y = true) : ∀ k, (rch a Dn wl ws x (t + k)).testBit y = true
  | 0 => h
  | k + 1 => by
    rw [← Nat.add_assoc, rch, stp, Nat.testBit_or, rch_mono h k, Bool.true_or]
theorem p_keepOut {a : Nat → Nat} {Dn wl x : Nat} {ws : Nat → (Nat → Nat) × Nat} {en : Nat → Int32} (hD : Dn ≤ 10) (h7a : lt7 a) (hT : ∀ t, lt7 (ws t).1) (hen : enO a Dn ws 24 en) (hwl : wl < 2147483648) (hx : x < 7) : f_X1_keepOut (nI Dn) en (nI x) (nI wl) = some (bz (!(rch a Dn wl ws x 24).testBit 0)) := by
  unfold f_X1_keepOut
  have hr := rch_lt (Dn := Dn) (wl := wl) h7a hT hx
  rw [bnd_s, shl_k x (by omega)]
  have stepd : ∀ t, t < 24 → b_X1_keepOut_7 (nI Dn) en (nI wl) (nI (rch a Dn wl ws x t)) (nI t) = (if (rch a Dn wl ws x t).testBit 0 then some (.inr (nI (rch a Dn wl ws x t), nI t)) else some (.inl (nI (rch a Dn wl ws x (t + 1)), nI (t + 1)))) := by
    intro t ht
    unfold b_X1_keepOut_7
    have e1 := and1f ⟨_, hr t⟩
    simp only at e1
    rw [if_neg (show ¬ (24 : Int32) ≤ nI t from nI_ge (b := 24) ht (by omega)), e1]
    cases hb : (rch a Dn wl ws x t).testBit 0 with
    | true => rw [bz_t, if_neg n10, if_pos rfl]
    | false =>
      rw [bz_f, if_pos rfl, if_neg (by decide), p_newly hD h7a (hT t) hen ht hwl (hr t), ob1_s, bnd_s, bnd_s, fa_or, show nI t + 1 = nI (t + 1) from nI_1 t]
      rfl
  have fin : ∀ t, t ≤ 24 → ((rch a Dn wl ws x t).testBit 0 = (rch a Dn wl ws x 24).testBit 0) → itr (un2 (b_X1_keepOut_7 (nI Dn) en (nI wl))) FU (nI (2 ^ x), (0 : Int32)) = some (nI (rch a Dn wl ws x t), nI t) → (ob2 (itr (un2 (b_X1_keepOut_7 (nI Dn) en (nI wl))) FU (nI (2 ^ x), (0 : Int32))) fun x3_11 x4_12 => if x3_11 &&& 1 = 0 then some (1 : Int32) else some 0) = some (bz (!(rch a Dn wl ws x 24).testBit 0)) := by
    intro t ht e1 e2
    have e3 := and1f ⟨_, hr t⟩
    simp only at e3
    rw [e2, ob2_s, e3, e1]
    cases (rch a Dn wl ws x 24).testBit 0 <;> rfl
  cases hf : ff (fun t => (rch a Dn wl ws x t).testBit 0) 24 with
  | none =>
    have hn := ff_none hf
    apply fin 24 (Nat.le_refl 24) rfl
    exact itr_count (fun t => (nI (rch a Dn wl ws x t), nI t)) 24 _ (fun i hi => by
      rw [un2_s, stepd i hi, hn i hi, if_neg (by decide)]) (by
      rw [un2_s]
      unfold b_X1_keepOut_7
      rw [if_pos (show (24 : Int32) ≤ nI 24 from nI_le (a := 24) (Nat.le_refl 24) (by omega))]) FU (by unfold FU; omega)
  | some k =>
    obtain ⟨k1, k2, k3⟩ := ff_some hf
    have hk : (rch a Dn wl ws x 24).testBit 0 = true := by
      have := rch_mono k2 (24 - k)
      rwa [show k + (24 - k) = 24 by omega] at this
    apply fin k (by omega) (by rw [k2, hk])
    exact itr_count (fun t => (nI (rch a Dn wl ws x t), nI t)) k _ (fun i hi => by
      rw [un2_s, stepd i (by omega), k3 i hi, if_neg (by decide)]) (by
      rw [un2_s, stepd k k1, k2, if_pos rfl]) FU (by unfold FU; omega)
theorem lead_iff {a b : Nat → Nat} {bm d x y : Nat} : lead a b bm d x = some y ↔ bm.testBit d = false ∧ ((a d = x ∧ b d = y) ∨ (a d ≠ x ∧ b d = x ∧ a d = y)) := by
  unfold lead
  cases hb : bm.testBit d with
  | true => simp
  | false =>
    simp only [Bool.false_eq_true, if_false, true_and]
    by_cases c1 : a d = x
    · simp [c1]
    · by_cases c2 : b d = x
      · simp [c1, c2]
      · simp [c1, c2]
theorem m_freeRow {a : Nat → Nat} {Dn t wl m x th0 : Nat} {w : (Nat → Nat) × Nat} {pg : Nat → Int32} (hD : Dn ≤ 10) (h7a : lt7 a) (h7 : lt7 w.1) (hpg : hse pg (30 * t) Dn a w.1 w.2) (ht : t < 24) (hwl : wl < 2147483648) (hm : m < 2 ^ 7) (hx : x < 7) (hth : th0 < 2 ^ 7) : ∃ th z, itr (un2 (b_X8_isFree_33 (nI Dn) pg (nI wl) (nI m) (nI t) (nI x))) FU (nI th0, (0 : Int32)) = some (nI th, z) ∧ th < 2 ^ 7 ∧ ∀ y, th.testBit y = true ↔ th0.testBit y = true ∨ (m.testBit x = true ∧ ∃ d, d < Dn ∧ wl.testBit d = false ∧ lead a w.1 w.2 d x = some y) := by
  cases hb : m.testBit x with
  | false =>
    refine ⟨th0, (0 : Int32), ?_, hth, fun y => by simp⟩
    rw [show FU = 4095 + 1 from rfl, itr, un2_s]
    unfold b_X8_isFree_33
    by_cases h0 : nI Dn ≤ 0
    · rw [if_pos h0]
    · rw [if_neg h0, bit_k (by omega) (by omega), hb, bz_f, if_neg n01]
  | true =>
    have hh := itr_inv (step := un2 (b_X8_isFree_33 (nI Dn) pg (nI wl) (nI m) (nI t) (nI x))) (fun i s => s.2 = nI i ∧ ∃ th, s.1 = nI th ∧ th < 2 ^ 7 ∧ ∀ y, th.testBit y = true ↔ th0.testBit y = true ∨ ∃ d, d < i ∧ wl.testBit d = false ∧ lead a w.1 w.2 d x = some y) Dn (fun s => ∃ th, s.1 = nI th ∧ th < 2 ^ 7 ∧ ∀ y, th.testBit y = true ↔ th0.testBit y = true ∨ ∃ d, d < Dn ∧ wl.testBit d = false ∧ lead a w.1 w.2 d x = some y) ?_ ?_ (nI th0, (0 : Int32)) ⟨rfl, th0, rfl, hth, fun y => by
      constructor
      · intro h; exact Or.inl h
      · rintro (h | ⟨d, h, _⟩)
        · exact h
        · omega⟩ FU (by unfold FU; omega)
    · obtain ⟨⟨o1, o2⟩, e, th, z1, z2, z3⟩ := hh
      simp only at z1
      subst z1
      exact ⟨th, o2, e, z2, fun y => by rw [z3 y]; simp⟩
    · rintro i ⟨s1, s2⟩ hi ⟨z1, th, z2, z3, z4⟩
      simp only at z1 z2
      subst z1 z2
      have el : f_X8_leadsTo 750 pg (nI (30 * t)) (nI i) (nI x) = some (enc (lead a w.1 w.2 i x)) := m_leadsTo hpg hD hi (by omega) (by omega) h7a h7 (by omega)
      have ebody : b_X8_isFree_33 (nI Dn) pg (nI wl) (nI m) (nI t) (nI x) (nI th) (nI i) = (if wl.testBit i then some (.inl (nI th, nI (i + 1))) else match lead a w.1 w.2 i x with | none => some (.inl (nI th, nI (i + 1))) | some y => some (.inl (nI (th ||| 2 ^ y), nI (i + 1)))) := by
        unfold b_X8_isFree_33
        rw [if_neg (nI_ge hi (by omega)), bit_k (by omega) (by omega), hb, bz_t, if_pos rfl, jn1_s, bit_k hwl (by omega), show (30 : Int32) * nI t = nI (30 * t) from pk_mul 30 t, el, ob1_s]
        simp only [jn1_s, bnd_s]
        rw [show nI i + 1 = nI (i + 1) from nI_1 i]
        cases wl.testBit i with
        | true =>
          rw [bz_t, if_pos rfl, if_pos rfl, show (0 : Int32) = nI 0 from rfl, fa_or, Nat.or_zero]
          simp
        | false =>
          rw [bz_f, if_neg n01]
          simp only [Bool.false_eq_true, if_false]
          cases hl : lead a w.1 w.2 i x with
          | none => rw [if_pos (show enc none = (-4 : Int32) from rfl), show (0 : Int32) = nI 0 from rfl, fa_or, Nat.or_zero]
          | some y =>
            have hy := lead_lt h7a h7 hl
            rw [if_neg (show ¬ enc (some y) = (-4 : Int32) from ne4 (by omega))]
            show some (Sum.inl (nI th ||| (1 : Int32) <<< (nI y &&& 31), nI (i + 1))) = _
            rw [shl_k y (by omega), fa_or]
      cases hw : wl.testBit i with
      | true =>
        rw [hw, if_pos rfl] at ebody
        refine ⟨(nI th, nI (i + 1)), by rw [un2_s, ebody], rfl, th, rfl, z3, fun y => ?_⟩
        rw [z4 y]
        constructor
        · rintro (h | ⟨d, h1, h2⟩)
          · exact Or.inl h
          · exact Or.inr ⟨d, by omega, h2⟩
        · rintro (h | ⟨d, h1, h2, h3⟩)
          · exact Or.inl h
          · by_cases c : d = i
            · rw [c, hw] at h2; cases h2
            · exact Or.inr ⟨d, by omega, h2, h3⟩
      | false =>
        rw [hw, if_neg (by decide)] at ebody
        cases hl : lead a w.1 w.2 i x with
        | none =>
          rw [hl] at ebody
          refine ⟨(nI th, nI (i + 1)), by rw [un2_s, ebody], rfl, th, rfl, z3, fun y => ?_⟩
          rw [z4 y]
          constructor
          · rintro (h | ⟨d, h1, h2⟩)
            · exact Or.inl h
            · exact Or.inr ⟨d, by omega, h2⟩
          · rintro (h | ⟨d, h1, h2, h3⟩)
            · exact Or.inl h
            · by_cases c : d = i
              · rw [c, hl] at h3; cases h3
              · exact Or.inr ⟨d, by omega, h2, h3⟩
        | some y0 =>
          have hy := lead_lt h7a h7 hl
          rw [hl] at ebody
          refine ⟨(nI (th ||| 2 ^ y0), nI (i + 1)), by rw [un2_s, ebody], rfl, th ||| 2 ^ y0, rfl, Nat.or_lt_two_pow z3 (Nat.pow_lt_pow_right (by decide) hy), fun y => ?_⟩
          rw [Nat.testBit_or, Nat.testBit_two_pow, Bool.or_eq_true, decide_eq_true_eq, z4 y]
          constructor
          · rintro ((h | ⟨d, h1, h2⟩) | h)
            · exact Or.inl h
            · exact Or.inr ⟨d, by omega, h2⟩
            · exact Or.inr ⟨i, by omega, hw, by rw [hl, h]⟩
          · rintro (h | ⟨d, h1, h2, h3⟩)
            · exact Or.inl (Or.inl h)
            · by_cases c : d = i
              · rw [c, hl] at h3; cases h3; exact Or.inr rfl
              · exact Or.inl (Or.inr ⟨d, by omega, h2, h3⟩)
    · rintro ⟨s1, s2⟩ ⟨z1, th, z2, z3, z4⟩
      simp only at z1 z2
      subst z1 z2
      refine ⟨(nI th, nI Dn), ?_, th, rfl, z3, z4⟩
      rw [un2_s]
      unfold b_X8_isFree_33
      rw [if_pos (nI_le (Nat.le_refl Dn) (by omega))]
theorem m_freeStep {R : Nat} {a : Nat → Nat} {Dn t wl m : Nat} {w : (Nat → Nat) × Nat} {pg : Nat → Int32} (hR : R ≤ 7) (hD : Dn ≤ 10) (h7a : lt7 a) (haR : ∀ d, d < Dn → a d < R) (hW : Wok R Dn w) (hpg : hse pg (30 * t) Dn a w.1 w.2) (ht : t < 24) (hwl : wl < 2147483648) (hm : m < 2 ^ 7) : ∃ z, itr (un2 (b_X8_isFree_21 (nI R) (nI Dn) pg (nI wl) (nI m) (nI t))) FU (nI m, (0 : Int32)) = some (nI (stp a w.1 w.2 wl Dn m), z) := by
  have hh := itr_inv (step := un2 (b_X8_isFree_21 (nI R) (nI Dn) pg (nI wl) (nI m) (nI t))) (fun i s => s.2 = nI i ∧ ∃ th, s.1 = nI th ∧ th < 2 ^ 7 ∧ ∀ y, th.testBit y = true ↔ m.testBit y = true ∨ ∃ x, x < i ∧ m.testBit x = true ∧ ∃ d, d < Dn ∧ wl.testBit d = false ∧ lead a w.1 w.2 d x = some y) R (fun s => ∃ th, s.1 = nI th ∧ th < 2 ^ 7 ∧ ∀ y, th.testBit y = true ↔ m.testBit y = true ∨ ∃ x, x < R ∧ m.testBit x = true ∧ ∃ d, d < Dn ∧ wl.testBit d = false ∧ lead a w.1 w.2 d x = some y) ?_ ?_ (nI m, (0 : Int32)) ⟨rfl, m, rfl, hm, fun y => by
      constructor
      · intro h; exact Or.inl h
      · rintro (h | ⟨d, h, _⟩)
        · exact h
        · omega⟩ FU (by unfold FU; omega)
  · obtain ⟨⟨o1, o2⟩, e, th, z1, z2, z3⟩ := hh
    simp only at z1
    subst z1
    refine ⟨o2, ?_⟩
    rw [e]
    have : th = stp a w.1 w.2 wl Dn m := by
      apply Nat.eq_of_testBit_eq
      intro y
      rw [Bool.eq_iff_iff, z3 y, stp, Nat.testBit_or, Bool.or_eq_true, nwd_bit]
      constructor
      · rintro (h | ⟨x, h1, h2, d, h3, h4, h5⟩)
        · exact Or.inl h
        · obtain ⟨u1, u2⟩ := lead_iff.mp h5
          refine Or.inr ⟨d, h3, h4, u1, ?_, ?_⟩
          · rcases u2 with ⟨v1, v2⟩ | ⟨v1, v2, v3⟩
            · exact Or.inl (by rw [v1]; exact h2)
            · exact Or.inr (by rw [v2]; exact h2)
          · rcases u2 with ⟨v1, v2⟩ | ⟨v1, v2, v3⟩
            · exact Or.inr v2
            · exact Or.inl v3
      · rintro (h | ⟨d, h1, h2, h3, h4, h5⟩)
        · exact Or.inl h
        · have ra := haR d h1
          have rb := hW.2.2.1 d h1
          rcases h4 with h4 | h4
          · rcases h5 with h5 | h5
            · exact Or.inl (by rw [← h5]; exact h4)
            · exact Or.inr ⟨a d, ra, h4, d, h1, h2, lead_iff.mpr ⟨h3, Or.inl ⟨rfl, h5⟩⟩⟩
          · rcases h5 with h5 | h5
            · by_cases c : a d = w.1 d
              · exact Or.inl (by rw [← h5, c]; exact h4)
              · exact Or.inr ⟨w.1 d, rb, h4, d, h1, h2, lead_iff.mpr ⟨h3, Or.inr ⟨c, rfl, h5⟩⟩⟩
            · exact Or.inl (by rw [← h5]; exact h4)
    rw [this]
  · rintro i ⟨s1, s2⟩ hi ⟨z1, th, z2, z3, z4⟩
    simp only at z1 z2
    subst z1 z2
    obtain ⟨th', z, e1, u1, u2⟩ := m_freeRow (x := i) hD h7a hW.1 hpg ht hwl hm (by omega) z3
    refine ⟨(nI th', nI (i + 1)), ?_, rfl, th', rfl, u1, fun y => ?_⟩
    · rw [un2_s]
      unfold b_X8_isFree_21
      rw [if_neg (nI_ge hi (by omega)), e1, ob2_s, bnd_s, show nI i + 1 = nI (i + 1) from nI_1 i]
    · rw [u2 y, z4 y]
      constructor
      · rintro ((h | ⟨x, h1, h2⟩) | ⟨h1, h2⟩)
        · exact Or.inl h
        · exact Or.inr ⟨x, by omega, h2⟩
        · exact Or.inr ⟨i, by omega, h1, h2⟩
      · rintro (h | ⟨x, h1, h2, h3⟩)
        · exact Or.inl (Or.inl h)
        · by_cases c : x = i
          · subst c; exact Or.inr ⟨h2, h3⟩
          · exact Or.inl (Or.inr ⟨x, by omega, h2, h3⟩)
  · rintro ⟨s1, s2⟩ ⟨z1, th, z2, z3, z4⟩
    simp only at z1 z2
    subst z1 z2
    refine ⟨(nI th, nI R), ?_, th, rfl, z3, z4⟩
    rw [un2_s]
    unfold b_X8_isFree_21
    rw [if_pos (nI_le (Nat.le_refl R) (by omega))]
theorem m_isFree {R : Nat} {a : Nat → Nat} {Dn wl x : Nat} {ws : Nat → (Nat → Nat) × Nat} {g pg : Nat → Int32} (hR : R ≤ 7) (hD : Dn ≤ 10) (h7a : lt7 a) (haR : ∀ d, d < Dn → a d < R) (hT : ∀ t, Wok R Dn (ws t)) (hpg : ∀ t, t ≤ 24 → hse pg (30 * t) Dn a (ws t).1 (ws t).2) (hwl : wl < 2147483648) (hx : x < 7) (h32 : g 32 = enb (some x)) : f_X8_isFree (nI R) (nI Dn) pg g (nI wl) = some (bz (!(rch a Dn wl ws x 24).testBit 0)) := by
  unfold f_X8_isFree
  have hr := rch_lt (Dn := Dn) (wl := wl) h7a (fun t => (hT t).1) hx
  rw [m_beastNow h32 (fun y hy => by cases hy; exact hx), ob1_s]
  show (bnd ((1 : Int32) <<< (nI x &&& 31)) fun v2_3 => _) = _
  rw [bnd_s, shl_k x (by omega)]
  have h := itr_count (step := un2 (b_X8_isFree_9 (nI R) (nI Dn) pg (nI wl))) (fun t => (nI (rch a Dn wl ws x t), nI t)) 24 (nI (rch a Dn wl ws x 24), nI 24) ?_ ?_ FU (by unfold FU; omega)
  · have e3 := and1f ⟨_, hr 24⟩
    simp only at e3
    rw [show (nI (2 ^ x), (0 : Int32)) = (nI (rch a Dn wl ws x 0), nI 0) from rfl, h, ob2_s, e3]
    cases (rch a Dn wl ws x 24).testBit 0 <;> rfl
  · intro t ht
    rw [un2_s]
    unfold b_X8_isFree_9
    obtain ⟨z, e⟩ := m_freeStep (m := rch a Dn wl ws x t) hR hD h7a haR (hT t) (hpg t (by omega)) ht hwl (hr t)
    rw [if_neg (show ¬ (24 : Int32) ≤ nI t from nI_ge (b := 24) ht (by omega)), e, ob2_s, bnd_s, show nI t + 1 = nI (t + 1) from nI_1 t]
    rfl
  · rw [un2_s]
    unfold b_X8_isFree_9
    rw [if_pos (show (24 : Int32) ≤ nI 24 from nI_le (a := 24) (Nat.le_refl 24) (by omega))]
/-- the best so far: how many, and which -/
def bst (c : Nat → Nat) (p : Nat → Bool) : Nat → Option (Nat × Nat)
  | 0 => none
  | i + 1 => match bst c p i with
    | none => if c i ≤ 3 && p i then some (c i, i) else none
    | some (s, w) => if c i ≤ 3 && decide (c i < s) && p i then some (c i, i) else some (s, w)
theorem bst_prop {c : Nat → Nat} {p : Nat → Bool} : ∀ i, (bst c p i = none → ∀ w, w < i → c w ≤ 3 → p w = false) ∧ ∀ s w, bst c p i = some (s, w) → w < i ∧ c w = s ∧ s ≤ 3 ∧ p w = true ∧ (∀ v, v < i → p v = true → c v ≤ 3 → s ≤ c v) ∧ ∀ v, v < w → p v = true → c v ≠ s
  | 0 => ⟨fun _ w hw => absurd hw (Nat.not_lt_zero _), fun s w h => by cases h⟩
  | i + 1 => by
    obtain ⟨h1, h2⟩ := bst_prop (c := c) (p := p) i
    cases hb : bst c p i with
    | none =>
      have h1' := h1 hb
      rw [bst, hb]
      by_cases hc : (decide (c i ≤ 3) && p i) = true
      · simp only [hc, if_true, reduceCtorEq, false_implies, true_and, Option.some.injEq, Prod.mk.injEq]
        simp only [Bool.and_eq_true, decide_eq_true_eq] at hc
        rintro s w ⟨rfl, rfl⟩
        refine ⟨by omega, rfl, hc.1, hc.2, fun v hv hp hcv => ?_, fun v hv hp => ?_⟩
        · by_cases e : v = i
          · rw [e]; exact Nat.le_refl _
          · rw [h1' v (by omega) hcv] at hp; cases hp
        · intro e
          rw [h1' v hv (by omega)] at hp; cases hp
      · simp only [if_neg hc, forall_const, reduceCtorEq, false_implies, implies_true, and_true]
        intro w hw hcw
        by_cases e : w = i
        · subst e
          cases hp : p w with
          | false => rfl
          | true => exact absurd (by simp [hcw, hp]) hc
        · exact h1' w (by omega) hcw
    | some sw =>
      obtain ⟨s0, w0⟩ := sw
      obtain ⟨u1, u2, u3, u4, u5, u6⟩ := h2 s0 w0 hb
      rw [bst, hb]
      by_cases hc : (decide (c i ≤ 3) && decide (c i < s0) && p i) = true
      · simp only [hc, if_true, reduceCtorEq, false_implies, true_and, Option.some.injEq, Prod.mk.injEq]
        simp only [Bool.and_eq_true, decide_eq_true_eq] at hc
        rintro s w ⟨rfl, rfl⟩
        refine ⟨by omega, rfl, hc.1.1, hc.2, fun v hv hp hcv => ?_, fun v hv hp => ?_⟩
        · by_cases e : v = i
          · rw [e]; exact Nat.le_refl _
          · have := u5 v (by omega) hp hcv; omega
        · intro e
          have := u5 v hv hp (by omega); omega
      · simp only [if_neg hc, reduceCtorEq, false_implies, true_and, Option.some.injEq, Prod.mk.injEq]
        rintro s w ⟨rfl, rfl⟩
        refine ⟨by omega, u2, u3, u4, fun v hv hp hcv => ?_, u6⟩
        by_cases e : v = i
        · subst e
          rcases Nat.lt_or_ge (c v) s0 with hl | hl
          · exact absurd (by simp [hcv, hl, hp]) hc
          · exact hl
        · exact u5 v (by omega) hp hcv
theorem ff_at {p : Nat → Bool} {n k : Nat} (hk : k < n) (hp : p k = true) (hn : ∀ i, i < k → p i = false) : ff p n = some k := by
  cases h : ff p n with
  | none => rw [ff_none h k hk] at hp; cases hp
  | some j =>
    obtain ⟨j1, j2, j3⟩ := ff_some h
    rcases Nat.lt_trichotomy j k with c | c | c
    · rw [hn j c] at j2; cases j2
    · rw [c]
    · rw [j3 k c] at hp; cases hp
theorem co_wall {R Dn K SL : Nat} {a b rl : Nat → Nat} {bm per hs : Nat} {be : Option Nat} {hb on : Nat} {sg : Nat → Nat} {st : Nat} {ea : Bool} {g lw wk pg ase astr en : Nat → Int32} (x1 x2 x3 x4 x5 x6 x7 x8 dc : Int32) (hP : PlO R Dn K SL a rl) (hl : lwr lw K rl) (hO : PgO R Dn b bm per hs be hb on sg st) (hM : PgM Dn a b bm per hs be hb on sg st ea g 0) (hA : ScR ase astr) (p1 : Int32) : ∃ (rr y1 y2 y3 y4 y5 y6 y7 y8 : Int32) (se' str' : Nat → Int32) (dc' : Int32) (en' pg' w' : Nat → Int32), f_X7_wall x1 x2 x3 x4 x5 x6 x7 x8 ase astr (nI bm) (nI per) (nI hs) (enc be) (nI hb) (nI on) (nI st) (bz ea) (rI b) (rI sg) dc en (nI R) (nI Dn) (nI K) (rI a) (rI rl) p1 = some (rr, y1, y2, y3, y4, y5, y6, y7, y8, se', str', dc', en') ∧ f_X8_wall (nI R) (nI Dn) (nI K) lw pg g wk p1 = some (rr, pg', w') ∧ ScR se' str' := by
  have hP' := hP
  have hA' := hA
  obtain ⟨q1, q2, q3, q4, q5, q6, q7, q8, q9, q10, q11⟩ := hP
  obtain ⟨o1, o2, o3, o4, o5, o6, o7, o8, o9, o10, o11, o12, o13, o14⟩ := hO
  obtain ⟨h1, h2, h3, h4, h5, h6, h7, h8, h9⟩ := hM
  simp only [Nat.zero_add] at h2 h3 h4 h5 h6 h7 h8 h9
  obtain ⟨b0, s0, rfl, ha2, ha3, rfl, ha5, ha6⟩ := hA
  unfold f_X7_wall f_X8_wall
  rw [show (0 : Int64) = (0 : Int32).toInt64 from rfl, show (1 : Int64) = (1 : Int32).toInt64 from rfl, m_in, p_within, ob1_s, ob1_s, m_beastNow h4 (fun x hx => by have := o8 x hx; omega), ob1_s]
  by_cases hc : (0 : Int32) ≤ p1 ∧ p1 ≤ 1
  · rw [decide_eq_true hc, bz_t, if_neg n10, if_neg n10]
    cases be with
    | none =>
      rw [if_pos (show enc none = (-4 : Int32) from rfl), if_pos (show enc none = (-4 : Int32) from rfl)]
      exact ⟨_, _, _, _, _, _, _, _, _, _, _, _, _, pg, wk, rfl, rfl, hA'⟩
    | some x =>
      have hxR := o8 x rfl
      have hx7 : x < 7 := by omega
      rw [if_neg (show ¬ enc (some x) = (-4 : Int32) from ne4 (by omega)), if_neg (show ¬ enc (some x) = (-4 : Int32) from ne4 (by omega)), p_copyFrom o2 o12 ha3 ha5, ob10_s]
      have hW0 : Wok R Dn (b, bm) := ⟨o1, o2, o3, o4⟩
      have hT := fun t => Wok_tw (per := per) (st := st) (K := K) q3 q11 (by omega) q2 hW0 t
      obtain ⟨en', ef, hen⟩ := p_foresee (en := en) hP' hW0 o5 o6 o14
      obtain ⟨pg', w', ep, hpg⟩ := m_layPages (wk := wk) (pg := pg) hP' hl hW0 o5 o6 o14 h1 h2 h8
      rw [ef, ob5_s, bnd_s, ep, ob2_s, shl_k Dn (by omega)]
      have hsc : ScR (rI (tw R K rl per st (b, bm) 24).1) (rI sg) := ⟨_, _, rfl, (hT 24).1, (hT 24).2.1, rfl, o12, o13⟩
      have hN : 2 ^ Dn ≤ 1024 := Nat.pow_le_pow_right (n := 2) (by decide) q3
      generalize hws : tw R K rl per st (b, bm) = ws at hT hen hpg hsc
      have hko : ∀ wl, wl < 1024 → f_X1_keepOut (nI Dn) en' (enc (some x)) (nI wl) = some (bz (!(rch a Dn wl ws x 24).testBit 0)) := fun wl hwl => p_keepOut q3 q6 (fun t => (hT t).1) hen (by omega) hx7
      have hfr : ∀ wl, wl < 1024 → f_X8_isFree (nI R) (nI Dn) pg' g (nI wl) = some (bz (!(rch a Dn wl ws x 24).testBit 0)) := fun wl hwl => m_isFree q2 q3 q6 q8 hT hpg (by omega) hx7 h4
      generalize hp : (fun wl => !(rch a Dn wl ws x 24).testBit 0) = p
      have hko' : ∀ wl, wl < 1024 → f_X1_keepOut (nI Dn) en' (enc (some x)) (nI wl) = some (bz (p wl)) := fun wl hwl => by rw [← hp]; exact hko wl hwl
      have hfr' : ∀ wl, wl < 1024 → f_X8_isFree (nI R) (nI Dn) pg' g (nI wl) = some (bz (p wl)) := fun wl hwl => by rw [← hp]; exact hfr wl hwl
      -- the model's loop
      let few : Option (Nat × Nat) → Int32 := fun o => match o with | none => -4 | some (s, _) => nI s
      let whi : Option (Nat × Nat) → Int32 := fun o => match o with | none => -4 | some (_, w) => nI w
      have hmo := itr_count (step := un3 (b_X8_wall_37 (nI R) (nI Dn) g pg')) (fun i => (few (bst (fun w => cntr w 10) p i), whi (bst (fun w => cntr w 10) p i), nI i)) (2 ^ Dn) (few (bst (fun w => cntr w 10) p (2 ^ Dn)), whi (bst (fun w => cntr w 10) p (2 ^ Dn)), nI (2 ^ Dn)) ?_ ?_ FU (by unfold FU; omega)
      · -- the class's inner loop
        have hin : ∀ s, s ≤ 3 → ∀ (y2 y3 y4 y5 y6 y7 : Int32) (y10 : Nat → Int32) (y1 y8 : Int32) (y9 : Nat → Int32), itr (un1 (b_X7_wall_68 (enc (some x)) p1 y2 y3 y4 y5 y6 y7 y10 y1 y8 y9 (nI Dn) en' (nI (2 ^ Dn)) (nI s))) FU (0 : Int32) = some (match ff (fun w => cntr w 10 == s && p w) (2 ^ Dn) with | some k => .inl ((if p1 = 0 then nI s else nI k), y1, y2, y3, y4, y5, y6, y7, y8, y9, y10, nI Dn, en') | none => .inr (nI (2 ^ Dn))) := by
          intro s hs y2 y3 y4 y5 y6 y7 y10 y1 y8 y9
          have stepd : ∀ i, i < 2 ^ Dn → b_X7_wall_68 (enc (some x)) p1 y2 y3 y4 y5 y6 y7 y10 y1 y8 y9 (nI Dn) en' (nI (2 ^ Dn)) (nI s) (nI i) = (if (cntr i 10 == s && p i) then some (.inr (.inl ((if p1 = 0 then nI s else nI i), y1, y2, y3, y4, y5, y6, y7, y8, y9, y10, nI Dn, en'))) else some (.inl (nI (i + 1)))) := by
            intro i hi
            unfold b_X7_wall_68
            have hcl := cntr_le (om := i) 10
            rw [if_neg (nI_ge hi (by omega)), p_bitCount i (by omega), ob1_s, jn0_s, bnd_s, show nI i + 1 = nI (i + 1) from nI_1 i, hko' i (by omega), ob1_s]
            by_cases hcs : cntr i 10 = s
            · have e1 : (cntr i 10 == s) = true := by simpa using hcs
              rw [if_pos (by rw [hcs]), e1, Bool.true_and]
              cases p i with
              | true =>
                rw [bz_t, if_neg n10, if_pos rfl]
                by_cases hp0 : p1 = 0
                · rw [if_pos hp0, if_pos hp0]
                · rw [if_neg hp0, if_neg hp0]
              | false => rw [bz_f, if_pos rfl, if_neg (by decide)]
            · have e1 : (cntr i 10 == s) = false := by simpa using hcs
              rw [if_neg (fun e => hcs (nI_inj (by omega) (by omega) e)), e1, Bool.false_and, if_neg (by decide)]
          have h := itr_first (step := un1 (b_X7_wall_68 (enc (some x)) p1 y2 y3 y4 y5 y6 y7 y10 y1 y8 y9 (nI Dn) en' (nI (2 ^ Dn)) (nI s))) (fun w => cntr w 10 == s && p w) nI (2 ^ Dn) (fun k => ((if p1 = 0 then nI s else nI k), y1, y2, y3, y4, y5, y6, y7, y8, y9, y10, nI Dn, en')) (nI (2 ^ Dn)) ?_ ?_ ?_ FU (by unfold FU; omega)
          · exact h
          · intro i hi hpi
            rw [un1_s, stepd i hi, hpi, if_neg (by decide)]
          · intro i hi hpi
            rw [un1_s, stepd i hi, hpi, if_pos rfl]
          · rw [un1_s]
            unfold b_X7_wall_68
            rw [if_pos (nI_le (Nat.le_refl (2 ^ Dn)) (by omega))]
        have hcl : ∀ (y2 y3 y4 y5 y6 y7 : Int32) (y10 : Nat → Int32) (y1 y8 : Int32) (y9 : Nat → Int32), itr (un1 (b_X7_wall_60 (enc (some x)) p1 y2 y3 y4 y5 y6 y7 y10 y1 y8 y9 (nI Dn) en' (nI (2 ^ Dn)))) FU (0 : Int32) = some (match ff (fun s => (ff (fun w => cntr w 10 == s && p w) (2 ^ Dn)).isSome) 4 with | some s => .inl ((if p1 = 0 then nI s else nI ((ff (fun w => cntr w 10 == s && p w) (2 ^ Dn)).getD 0)), y1, y2, y3, y4, y5, y6, y7, y8, y9, y10, nI Dn, en') | none => .inr (nI 4)) := by
          intro y2 y3 y4 y5 y6 y7 y10 y1 y8 y9
          have h := itr_first (step := un1 (b_X7_wall_60 (enc (some x)) p1 y2 y3 y4 y5 y6 y7 y10 y1 y8 y9 (nI Dn) en' (nI (2 ^ Dn)))) (fun s => (ff (fun w => cntr w 10 == s && p w) (2 ^ Dn)).isSome) nI 4 (fun s => ((if p1 = 0 then nI s else nI ((ff (fun w => cntr w 10 == s && p w) (2 ^ Dn)).getD 0)), y1, y2, y3, y4, y5, y6, y7, y8, y9, y10, nI Dn, en')) (nI 4) ?_ ?_ ?_ FU (by unfold FU; omega)
          · exact h
          · intro s hs hps
            rw [un1_s]
            unfold b_X7_wall_60
            rw [if_neg (show ¬ (3 : Int32) < nI s from nI_nlt (a := 3) (by omega) (by omega)), hin s (by omega)]
            cases hff : ff (fun w => cntr w 10 == s && p w) (2 ^ Dn) with
            | some k => rw [hff] at hps; cases hps
            | none => dsimp only; rw [obl1_s, bnd_s, show nI s + 1 = nI (s + 1) from nI_1 s]
          · intro s hs hps
            rw [un1_s]
            unfold b_X7_wall_60
            rw [if_neg (show ¬ (3 : Int32) < nI s from nI_nlt (a := 3) (by omega) (by omega)), hin s (by omega)]
            cases hff : ff (fun w => cntr w 10 == s && p w) (2 ^ Dn) with
            | some k => dsimp only; rw [obl1_r]; rfl
            | none => rw [hff] at hps; cases hps
          · rw [un1_s]
            unfold b_X7_wall_60
            rw [if_pos (show (3 : Int32) < nI 4 from nI_lt (a := 3) (by omega) (by omega))]
        rw [hcl, show ((-4 : Int32), (-4 : Int32), (0 : Int32)) = (few (bst (fun w => cntr w 10) p 0), whi (bst (fun w => cntr w 10) p 0), nI 0) from rfl, hmo, ob3_s]
        obtain ⟨u1, u2⟩ := bst_prop (c := fun w => cntr w 10) (p := p) (2 ^ Dn)
        cases hbest : bst (fun w => cntr w 10) p (2 ^ Dn) with
        | none =>
          have u1' := u1 hbest
          have e : ff (fun s => (ff (fun w => cntr w 10 == s && p w) (2 ^ Dn)).isSome) 4 = none := ff_no (fun s hs => by
            rw [ff_no (fun w hw => by
              cases hcw : (cntr w 10 == s) with
              | false => rfl
              | true =>
                have : cntr w 10 = s := by simpa using hcw
                rw [u1' w hw (by show cntr w 10 ≤ 3; omega)]; rfl)]
            rfl)
          rw [e]
          dsimp only
          rw [obm1_s]
          have : (if p1 = 0 then some ((-4 : Int32), pg', w') else some ((-4 : Int32), pg', w')) = some ((-4 : Int32), pg', w') := by split <;> rfl
          refine ⟨_, _, _, _, _, _, _, _, _, _, _, _, _, pg', w', rfl, this, hsc⟩
        | some sw =>
          obtain ⟨s, w⟩ := sw
          obtain ⟨v1, v2, v3, v4, v5, v6⟩ := u2 s w hbest
          have ew : ff (fun w => cntr w 10 == s && p w) (2 ^ Dn) = some w := ff_at v1 (by simp [v2, v4]) (fun i hi => by
            cases hpi : p i with
            | false => simp
            | true =>
              have := v6 i hi hpi
              have : ¬ cntr i 10 = s := this
              simp [this])
          have e : ff (fun s => (ff (fun w => cntr w 10 == s && p w) (2 ^ Dn)).isSome) 4 = some s := ff_at (by omega) (by rw [ew]; rfl) (fun i hi => by
            rw [ff_no (fun w hw => by
              cases hpw : p w with
              | false => simp
              | true =>
                by_cases hcw : cntr w 10 = i
                · have := v5 w hw hpw (by show cntr w 10 ≤ 3; omega)
                  have : s ≤ cntr w 10 := this
                  omega
                · simp [hcw])]
            rfl)
          rw [e]
          dsimp only
          rw [obm1_r, ew]
          have : (if p1 = 0 then some (nI s, pg', w') else some (nI w, pg', w')) = some ((if p1 = 0 then nI s else nI w), pg', w') := by split <;> rfl
          refine ⟨_, _, _, _, _, _, _, _, _, _, _, _, _, pg', w', rfl, this, hsc⟩
      · intro i hi
        have hcl := cntr_le (om := i) 10
        rw [un3_s]
        unfold b_X8_wall_37
        rw [shl_k Dn (by omega), if_neg (nI_ge hi (by omega)), m_bitsOf (by omega), ob1_s, jn2_s, hfr' i (by omega), ob1_s, jn0_s, show nI i + 1 = nI (i + 1) from nI_1 i]
        simp only [bnd_s]
        rw [bst]
        cases hb : bst (fun w => cntr w 10) p i with
        | none =>
          show (if (3 : Int32) < nI (cntr i 10) then some (Sum.inl ((-4 : Int32), (-4 : Int32), nI (i + 1))) else if (-4 : Int32) = -4 then (if bz (p i) = 0 then some (Sum.inl ((-4 : Int32), (-4 : Int32), nI (i + 1))) else some (Sum.inl (nI (cntr i 10), nI i, nI (i + 1)))) else _) = _
          rw [if_pos (show (-4 : Int32) = -4 from rfl)]
          by_cases h3 : cntr i 10 ≤ 3
          · rw [if_neg (show ¬ (3 : Int32) < nI (cntr i 10) from nI_nlt (a := 3) h3 (by omega))]
            cases p i with
            | true => rw [bz_t, if_neg n10]; simp [h3, few, whi]
            | false => rw [bz_f, if_pos rfl]; simp [few, whi]
          · rw [if_pos (show (3 : Int32) < nI (cntr i 10) from nI_lt (a := 3) (by omega) (by omega))]
            simp [h3, few, whi]
        | some sw =>
          obtain ⟨s, w⟩ := sw
          obtain ⟨v1, v2, v3, v4, v5, v6⟩ := (bst_prop (c := fun w => cntr w 10) (p := p) i).2 s w hb
          show (if (3 : Int32) < nI (cntr i 10) then some (Sum.inl (nI s, nI w, nI (i + 1))) else if nI s = -4 then _ else if nI s ≤ nI (cntr i 10) then some (Sum.inl (nI s, nI w, nI (i + 1))) else (if bz (p i) = 0 then some (Sum.inl (nI s, nI w, nI (i + 1))) else some (Sum.inl (nI (cntr i 10), nI i, nI (i + 1))))) = _
          rw [if_neg (show ¬ nI s = (-4 : Int32) from ne4 (by omega))]
          by_cases h3 : cntr i 10 ≤ 3
          · rw [if_neg (show ¬ (3 : Int32) < nI (cntr i 10) from nI_nlt (a := 3) h3 (by omega))]
            by_cases h4' : s ≤ cntr i 10
            · rw [if_pos (nI_le h4' (by omega))]
              have : ¬ cntr i 10 < s := by omega
              simp [this, few, whi]
            · rw [if_neg (nI_ge (by omega) (by omega))]
              have h5' : cntr i 10 < s := by omega
              cases p i with
              | true => rw [bz_t, if_neg n10]; simp [h3, h5', few, whi]
              | false => rw [bz_f, if_pos rfl]; simp [few, whi]
          · rw [if_pos (show (3 : Int32) < nI (cntr i 10) from nI_lt (a := 3) (by omega) (by omega))]
            simp [h3, few, whi]
      · rw [un3_s]
        unfold b_X8_wall_37
        rw [shl_k Dn (by omega), if_pos (nI_le (Nat.le_refl (2 ^ Dn)) (by omega))]
  · rw [decide_eq_false hc, bz_f, if_pos rfl, if_pos rfl]
    exact ⟨_, _, _, _, _, _, _, _, _, _, _, _, _, pg, wk, rfl, rfl, hA'⟩
