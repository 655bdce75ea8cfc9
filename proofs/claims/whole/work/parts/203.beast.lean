/-! ===== pure 4: places in a set of doors; the beast; a step ===== -/
/-- how many of the doors 10 - r .. 9 are in the set -/
def cntr (om : Nat) : Nat → Nat
  | 0 => 0
  | r + 1 => (if om.testBit (9 - r) then 1 else 0) + cntr om r
/-- the door at a place among those of 10 - r .. 9; 10: there is none -/
def nthr (om : Nat) : Nat → Nat → Nat
  | 0, _ => 10
  | r + 1, k => if om.testBit (9 - r) then (if k = 0 then 9 - r else nthr om r (k - 1)) else nthr om r k
theorem nthr_in {om : Nat} : ∀ {r k : Nat}, r ≤ 10 → k < cntr om r → nthr om r k < 10 ∧ om.testBit (nthr om r k) = true := by
  intro r
  induction r with
  | zero => intro k _ h; exact absurd h (Nat.not_lt_zero _)
  | succ r ih =>
    intro k hr h
    rw [cntr] at h
    rw [nthr]
    by_cases hb : om.testBit (9 - r) = true
    · rw [if_pos hb]
      rw [if_pos hb] at h
      by_cases hk : k = 0
      · rw [if_pos hk]; exact ⟨by omega, hb⟩
      · rw [if_neg hk]; exact ih (by omega) (by omega)
    · rw [if_neg hb]
      rw [if_neg hb] at h
      exact ih (by omega) (by omega)
theorem nthr_out {om : Nat} : ∀ {r k : Nat}, cntr om r ≤ k → nthr om r k = 10 := by
  intro r
  induction r with
  | zero => intro k _; rfl
  | succ r ih =>
    intro k h
    rw [cntr] at h
    rw [nthr]
    by_cases hb : om.testBit (9 - r) = true
    · rw [if_pos hb]
      rw [if_pos hb] at h
      rw [if_neg (by omega)]
      exact ih (by omega)
    · rw [if_neg hb]
      rw [if_neg hb] at h
      exact ih (by omega)
theorem cntr_le {om : Nat} : ∀ r, cntr om r ≤ r
  | 0 => Nat.le_refl 0
  | r + 1 => by
    have := cntr_le (om := om) r
    rw [cntr]
    split <;> omega
theorem cntr_0 {om : Nat} (h : om < 1024) (h0 : cntr om 10 = 0) : om = 0 := by
  have key : ∀ om, om < 1024 → cntr om 10 = 0 → om = 0 := by decide +kernel
  exact key om h h0
theorem cntr_z : cntr 0 10 = 0 := by decide
theorem p_bitCount : ∀ om, om < 1024 → f_J6_bitCount_0f7a4 (nI om) = some (nI (cntr om 10)) := by decide +kernel
theorem p_doorAt_r {om : Nat} (hom : om < 2147483648) : ∀ (r k n : Nat), r ≤ 10 → k < 1000 → r < n → obm2 (itr (un2 (b_X7_doorAt_4 (nI om))) n (nI k, nI (10 - r))) (fun _ _ => some (10 : Int32)) = some (nI (nthr om r k)) := by
  intro r
  induction r with
  | zero =>
    intro k n _ _ hn
    obtain ⟨n, rfl⟩ : ∃ m, n = m + 1 := ⟨n - 1, by omega⟩
    rw [itr, un2_s]
    unfold b_X7_doorAt_4
    rw [if_pos (show (10 : Int32) ≤ nI (10 - 0) from nI_le (a := 10) (by omega) (by omega))]
    rfl
  | succ r ih =>
    intro k n hr hk hn
    obtain ⟨n, rfl⟩ : ∃ m, n = m + 1 := ⟨n - 1, by omega⟩
    rw [itr, un2_s]
    unfold b_X7_doorAt_4
    have e1 : 10 - (r + 1) = 9 - r := by omega
    have e2 : nI (9 - r) + 1 = nI (10 - r) := by rw [nI_1]; congr 1; omega
    rw [e1, if_neg (show ¬ (10 : Int32) ≤ nI (9 - r) from nI_ge (b := 10) (by omega) (by omega)), bit_k hom (by omega), jn1_s, nthr]
    by_cases hb : om.testBit (9 - r) = true
    · rw [hb, bz_t, if_neg (by decide), if_pos rfl]
      by_cases h0 : k = 0
      · subst h0
        rw [if_pos (show nI 0 = 0 from rfl), if_pos rfl]
        rfl
      · rw [if_neg (nI_ne0 (by omega) (by omega)), if_neg h0, bnd_s]
        obtain ⟨k, rfl⟩ : ∃ j, k = j + 1 := ⟨k - 1, by omega⟩
        simp only [bnd_s]
        rw [show nI (k + 1) + (-1) = nI k from pk_m1 k, e2]
        exact ih k n (by omega) (by omega) (by omega)
    · have hb : om.testBit (9 - r) = false := by simpa using hb
      rw [hb, bz_f, if_pos rfl, if_neg (by decide)]
      simp only [bnd_s]
      rw [e2]
      exact ih k n (by omega) hk (by omega)
theorem p_doorAt {om k : Nat} (hom : om < 2147483648) (hk : k < 1000) : f_X7_doorAt (nI om) (nI k) = some (nI (nthr om 10 k)) := by
  unfold f_X7_doorAt
  exact p_doorAt_r hom 10 k FU (by omega) hk (by unfold FU; omega)
/-- the doors that lead from a room, as bits -/
def opn (a b : Nat → Nat) (bm Dn x : Nat) : Nat := msk (fun d => (lead a b bm d x).isSome) Dn
theorem opn_lt {a b : Nat → Nat} {bm Dn x : Nat} (h : Dn ≤ 10) : opn a b bm Dn x < 1024 := msk_le (k := 10) h
theorem p_opn {bm Dn x : Nat} {a b : Nat → Nat} (hb : bm < 2147483648) (hD : Dn ≤ 10) (h7a : lt7 a) (h7 : lt7 b) (hx : x < 1000) : f_X6_openFrom (nI bm) (nI Dn) (rI a) (rI b) (nI x) = some (nI (opn a b bm Dn x)) := p_openFrom hb hD h7a h7 hx
/-- where a beast with a habit goes from a room -/
def prw (a b : Nat → Nat) (bm Dn st hb x y : Nat) : Nat :=
  if hb = 0 then x
  else if hb = 2 then (if (ff (fun d => lead a b bm d x == some y) Dn).isSome then y else x)
  else if opn a b bm Dn x = 0 then x
  else (lead a b bm (nthr (opn a b bm Dn x) 10 (if hb = 1 then 0 else st % cntr (opn a b bm Dn x) 10)) x).getD x
theorem prw_lt {a b : Nat → Nat} {bm Dn st hb x y : Nat} (h7a : lt7 a) (h7 : lt7 b) (hx : x < 7) (hy : y < 7) : prw a b bm Dn st hb x y < 7 := by
  unfold prw
  split
  · exact hx
  · split
    · split
      · exact hy
      · exact hx
    · split
      · exact hx
      · cases hl : lead a b bm (nthr (opn a b bm Dn x) 10 (if hb = 1 then 0 else st % cntr (opn a b bm Dn x) 10)) x with
        | none => exact hx
        | some n => exact lead_lt h7a h7 hl
theorem opn_bit {a b : Nat → Nat} {bm Dn x d : Nat} (h : (opn a b bm Dn x).testBit d = true) : d < Dn ∧ ∃ n, lead a b bm d x = some n := by
  unfold opn at h
  rw [msk_bit] at h
  simp only [Bool.and_eq_true, decide_eq_true_eq] at h
  refine ⟨h.1, ?_⟩
  cases hl : lead a b bm d x with
  | none => rw [hl] at h; simp at h
  | some n => exact ⟨n, rfl⟩
theorem p_prowl {bm Dn st hb x y : Nat} {a b : Nat → Nat} (hbm : bm < 2147483648) (hD : Dn ≤ 10) (h7a : lt7 a) (h7 : lt7 b) (hst : st < 100000) (hx : x < 7) (hy : y < 7) (hh : hb < 4) : f_X6_prowl (nI bm) (nI st) (nI Dn) (rI a) (rI b) (nI hb) (nI x) (nI y) = some (nI (prw a b bm Dn st hb x y)) := by
  unfold f_X6_prowl prw
  have hne : ¬ nI x = (-4 : Int32) := fun e => by
    have := (enc_none (some x) (fun n hn => by cases hn; omega)).mp e
    cases this
  rw [if_neg hne]
  by_cases h0 : hb = 0
  · subst h0; rw [if_pos (show nI 0 = 0 from rfl), if_pos rfl]
  · rw [if_neg (nI_ne0 (by omega) (by omega)), if_neg h0]
    by_cases h2 : hb = 2
    · subst h2
      rw [if_pos (show nI 2 = 2 from rfl), if_pos rfl, p_between hbm hD h7a h7 (by omega) (by omega), ob1_s]
      cases (ff (fun d => lead a b bm d x == some y) Dn).isSome <;> rfl
    · rw [if_neg (show ¬ nI hb = (2 : Int32) from fun e => h2 (nI_inj (b := 2) (by omega) (by omega) e)), if_neg h2, p_opn hbm hD h7a h7 (by omega), ob1_s]
      have hol := opn_lt (a := a) (b := b) (bm := bm) (x := x) hD
      by_cases ho : opn a b bm Dn x = 0
      · rw [if_pos (show nI (opn a b bm Dn x) = 0 by rw [ho]; rfl), if_pos ho]
      · rw [if_neg (nI_ne0 (by omega) (by omega)), if_neg ho, jn1_s]
        have hc : 0 < cntr (opn a b bm Dn x) 10 := by
          rcases Nat.eq_zero_or_pos (cntr (opn a b bm Dn x) 10) with h | h
          · exact absurd (cntr_0 hol h) ho
          · exact h
        have hcl := cntr_le (om := opn a b bm Dn x) 10
        have fin : ∀ k, k < cntr (opn a b bm Dn x) 10 → (ob1 (f_X7_doorAt (nI (opn a b bm Dn x)) (nI k)) fun r_9 => ob1 (f_X6_across (nI bm) (nI Dn) (rI a) (rI b) r_9 (nI x)) fun r_11 => some r_11) = some (nI ((lead a b bm (nthr (opn a b bm Dn x) 10 k) x).getD x)) := by
          intro k hk
          obtain ⟨h1, h3⟩ := nthr_in (Nat.le_refl 10) hk
          obtain ⟨h4, n, h5⟩ := opn_bit h3
          rw [p_doorAt (by omega) (by omega), ob1_s, p_across hbm hD h4 (rI_row a Dn) (rI_row b Dn) (fun d _ => by have := h7a d; omega) (fun d _ => by have := h7 d; omega) (by omega), ob1_s, h5]
          rfl
        by_cases h1 : hb = 1
        · rw [if_pos (show nI hb = 1 by rw [h1]; rfl), if_pos h1]
          exact fin 0 hc
        · rw [if_neg (show ¬ nI hb = (1 : Int32) from fun e => h1 (nI_inj (b := 1) (by omega) (by omega) e)), if_neg h1]
          rw [p_bitCount _ hol, ob1_s, p_modulo (by omega) hc (by omega), ob1_s]
          exact fin _ (Nat.mod_lt _ hc)
/-- the doors and their time: ends, bars, steps -/
def tick (R K : Nat) (rl : Nat → Nat) (per st : Nat) (w : (Nat → Nat) × Nat) : (Nat → Nat) × Nat := if (st + 1) % per = 0 then rls R rl K w else w
theorem p_tick {R K bm per st : Nat} {b rl : Nat → Nat} (hK : K ≤ 6) (hrl : ∀ k, rl k < 210) (hR : 0 < R) (hR7 : R ≤ 7) (h7 : lt7 b) (hp : 0 < per) (hp6 : per ≤ 6) (hst : st < 100000) : f_X6_passTime (nI bm) (nI per) (nI st) (nI R) (nI K) (rI rl) (rI b) = some (nI (tick R K rl per st (b, bm)).2, nI (st + 1), rI (tick R K rl per st (b, bm)).1) := p_passTime hK hrl hR hR7 h7 hp hp6 hst
theorem lt7_tick {R K : Nat} {rl : Nat → Nat} {per st : Nat} {w : (Nat → Nat) × Nat} (hR : 0 < R) (hR7 : R ≤ 7) (h : lt7 w.1) : lt7 (tick R K rl per st w).1 := by
  unfold tick; split
  · exact lt7_rls hR hR7 h
  · exact h
/-- where the beast is behind a step (none: there is none) -/
def prwO (a b : Nat → Nat) (bm Dn st hb : Nat) (be : Option Nat) (y : Nat) : Option Nat := be.map (fun x => if x = y then x else prw a b bm Dn st hb x y)
theorem p_prowlO {bm Dn st hb y : Nat} {be : Option Nat} {a b : Nat → Nat} (hbm : bm < 2147483648) (hD : Dn ≤ 10) (h7a : lt7 a) (h7 : lt7 b) (hst : st < 100000) (hx : ∀ x, be = some x → x < 7) (hy : y < 7) (hh : hb < 4) : (be.map (fun x => prw a b bm Dn st hb x y) = be.map (fun x => prw a b bm Dn st hb x y)) ∧ f_X6_prowl (nI bm) (nI st) (nI Dn) (rI a) (rI b) (nI hb) (enc be) (nI y) = some (enc (be.map (fun x => prw a b bm Dn st hb x y))) := by
  refine ⟨rfl, ?_⟩
  cases be with
  | none => unfold f_X6_prowl; rw [if_pos (show enc none = (-4 : Int32) from rfl)]; rfl
  | some x => exact p_prowl hbm hD h7a h7 hst (hx x rfl) hy hh
theorem enc_some_ne {be : Option Nat} {y : Nat} (hx : ∀ x, be = some x → x < 7) (hy : y < 7) : (enc be = nI y) ↔ be = some y := enc_eq (fun n hn => by have := hx n hn; omega) (by omega)
/-- a step of his, by a door that leads to 'to' (or none: to is where he is) -/
theorem p_takeStep {R K Dn SL bm per his hb on st : Nat} {be : Option Nat} {ea : Bool} {a b rl sg : Nat → Nat} (hK : K ≤ 6) (hrl : ∀ k, rl k < 210) (hR : 0 < R) (hR7 : R ≤ 7) (h7a : lt7 a) (h7 : lt7 b) (hp : 0 < per) (hp6 : per ≤ 6) (hst : st < 99000) (hbm : bm < 2147483648) (hD : Dn ≤ 10) (hbe : ∀ x, be = some x → x < 7) (hh : hb < 4) (hSL : SL ≤ 12) (hon : on ≤ 12) (d to : Nat) (hd : d ≤ 10) (hto : to < 7) (hhis : his < 7) (h : if d = 10 then to = his else d < Dn ∧ lead a b bm d his = some to) :
    f_X6_takeStep (nI bm) (nI per) (nI his) (enc be) (nI hb) (nI on) (nI st) (bz ea) (nI R) (nI Dn) (nI K) (nI SL) (rI a) (rI rl) (rI b) (rI sg) (nI d) = some (nI (tick R K rl per st (b, bm)).2, enc (prwO a b bm Dn st hb be to), bz (ea || prwO a b bm Dn st hb be to == some to), nI to, nI (if d ≠ 10 ∧ on < SL then on + 1 else on), nI (st + 1), rI (tick R K rl per st (b, bm)).1, rI (if d ≠ 10 ∧ on < SL then updN sg on d else sg)) := by
  unfold f_X6_takeStep
  -- behind the string
  have key : ∀ (on' : Nat) (sg' : Nat → Nat), (jn1 (fun t_beast_5 => jn1 (fun t_eaten_7 => ob3 (f_X6_passTime (nI bm) (nI per) (nI st) (nI R) (nI K) (rI rl) (rI b)) fun t_barred_9 t_step_10 t_secondEnds_11 => some (t_barred_9, t_beast_5, t_eaten_7, nI to, nI on', t_step_10, t_secondEnds_11, rI sg')) fun j_8 => if t_beast_5 = nI to then j_8 1 else j_8 (bz ea)) fun j_6 => if enc be = nI to then j_6 (enc be) else ob1 (f_X6_prowl (nI bm) (nI st) (nI Dn) (rI a) (rI b) (nI hb) (enc be) (nI to)) fun r_15 => j_6 r_15) = some (nI (tick R K rl per st (b, bm)).2, enc (prwO a b bm Dn st hb be to), bz (ea || prwO a b bm Dn st hb be to == some to), nI to, nI on', nI (st + 1), rI (tick R K rl per st (b, bm)).1, rI sg') := by
    intro on' sg'
    simp only [jn1_s, p_tick hK hrl hR hR7 h7 hp hp6 (show st < 100000 by omega), ob3_s]
    by_cases h1 : be = some to
    · rw [if_pos ((enc_some_ne hbe hto).mpr h1), if_pos ((enc_some_ne hbe hto).mpr h1)]
      subst h1
      simp [prwO, bz]
    · rw [if_neg (fun e => h1 ((enc_some_ne hbe hto).mp e)), (p_prowlO hbm hD h7a h7 (by omega) hbe hto hh).2, ob1_s]
      have e2 : prwO a b bm Dn st hb be to = be.map (fun x => prw a b bm Dn st hb x to) := by
        cases be with
        | none => rfl
        | some x =>
          have : ¬ x = to := fun e => h1 (by rw [e])
          simp [prwO, this]
      rw [e2]
      have hb2 : ∀ x, be.map (fun x => prw a b bm Dn st hb x to) = some x → x < 7 := by
        intro x hx
        cases be with
        | none => cases hx
        | some z => cases hx; exact prw_lt h7a h7 (hbe z rfl) hto
      by_cases h3 : be.map (fun x => prw a b bm Dn st hb x to) = some to
      · rw [if_pos ((enc_some_ne hb2 hto).mpr h3)]
        simp [h3, bz]
      · rw [if_neg (fun e => h3 ((enc_some_ne hb2 hto).mp e))]
        have : (be.map (fun x => prw a b bm Dn st hb x to) == some to) = false := by simpa using h3
        simp [this]
  rw [jn3_s]
  by_cases hd10 : d = 10
  · subst hd10
    rw [if_pos rfl] at h
    rw [if_pos (show nI 10 = 10 from rfl)]
    subst h
    have := key on sg
    simpa using this
  · rw [if_neg hd10] at h
    rw [if_neg (show ¬ nI d = (10 : Int32) from fun e => hd10 (nI_inj (b := 10) (by omega) (by omega) e)), p_across hbm hD h.1 (rI_row a Dn) (rI_row b Dn) (fun d _ => by have := h7a d; omega) (fun d _ => by have := h7 d; omega) (by omega), h.2, ob1_s]
    show (if nI SL ≤ nI on then _ else _) = _
    by_cases hs : on < SL
    · rw [if_neg (nI_ge hs (by omega)), gin_k (by omega) (by decide)]
      simp only [bnd_s]
      rw [nI_cl (by omega), rI_upd, show nI on + 1 = nI (on + 1) from nI_1 on]
      have := key (on + 1) (updN sg on d)
      rw [if_pos ⟨hd10, hs⟩, if_pos ⟨hd10, hs⟩]
      exact this
    · rw [if_pos (nI_le (by omega) (by omega))]
      have := key on sg
      rw [if_neg (fun q => hs q.2), if_neg (fun q => hs q.2)]
      exact this
