/-! ===== pure 10: steps keep the page's bounds; go ===== -/
def Wok (R Dn : Nat) (w : (Nat → Nat) × Nat) : Prop := lt7 w.1 ∧ z0 10 w.1 ∧ (∀ d, d < Dn → w.1 d < R) ∧ w.2 < 2 ^ Dn
theorem z0_upd {n k x : Nat} {f : Nat → Nat} (h : z0 n f) (hk : k < n) : z0 n (updN f k x) := by
  intro j hj
  unfold updN
  rw [if_neg (by omega)]
  exact h j hj
theorem Wok_chg {R Dn L : Nat} {w : (Nat → Nat) × Nat} (hD : Dn ≤ 10) (hL : lok Dn L) (hR : 0 < R) (hR7 : R ≤ 7) (h : Wok R Dn w) : Wok R Dn (chg R L w) := by
  obtain ⟨h1, h2, h3, h4⟩ := h
  obtain ⟨l1, l2, l3⟩ := hL
  refine ⟨lt7_chg hR hR7 h1, ?_, ?_, bm_chg h4 l2⟩
  · unfold chg
    split
    · rename_i hc; have := l3 hc; exact z0_upd (z0_upd h2 (by omega)) (by omega)
    · split
      · exact z0_upd h2 (by omega)
      · exact h2
  · intro d hd
    unfold chg
    split
    · rename_i hc
      have hl := l3 hc
      unfold updN
      dsimp only
      split
      · exact h3 _ l2
      · split
        · exact h3 _ hl
        · exact h3 d hd
    · split
      · unfold updN
        dsimp only
        split
        · exact Nat.mod_lt _ hR
        · exact h3 d hd
      · exact h3 d hd
theorem Wok_rls {R Dn K : Nat} {rl : Nat → Nat} {w : (Nat → Nat) × Nat} (hD : Dn ≤ 10) (hok : ∀ k, k < K → lok Dn (rl k)) (hR : 0 < R) (hR7 : R ≤ 7) (h : Wok R Dn w) : ∀ k, k ≤ K → Wok R Dn (rls R rl k w) := by
  intro k
  induction k with
  | zero => intro _; exact h
  | succ k ih => intro hk; exact Wok_chg hD (hok k (by omega)) hR hR7 (ih (by omega))
theorem Wok_tick {R Dn K per st : Nat} {rl : Nat → Nat} {w : (Nat → Nat) × Nat} (hD : Dn ≤ 10) (hok : ∀ k, k < K → lok Dn (rl k)) (hR : 0 < R) (hR7 : R ≤ 7) (h : Wok R Dn w) : Wok R Dn (tick R K rl per st w) := by
  unfold tick
  split
  · exact Wok_rls hD hok hR hR7 h K (Nat.le_refl K)
  · exact h
theorem lead_ltR {a b : Nat → Nat} {bm d x n R Dn : Nat} (ha : ∀ d, d < Dn → a d < R) (hb : ∀ d, d < Dn → b d < R) (hd : d < Dn) (h : lead a b bm d x = some n) : n < R := by
  unfold lead at h
  have h1 := ha d hd
  have h2 := hb d hd
  split at h
  · cases h
  · split at h
    · cases h; exact h2
    · split at h
      · cases h; exact h1
      · cases h
theorem prw_ltR {a b : Nat → Nat} {bm Dn st hb x y R : Nat} (hD : Dn ≤ 10) (ha : ∀ d, d < Dn → a d < R) (hb' : ∀ d, d < Dn → b d < R) (hx : x < R) (hy : y < R) : prw a b bm Dn st hb x y < R := by
  unfold prw
  split
  · exact hx
  · split
    · split
      · exact hy
      · exact hx
    · split
      · exact hx
      · rename_i _ _ ho
        have hol := opn_lt (a := a) (b := b) (bm := bm) (x := x) hD
        have hc : 0 < cntr (opn a b bm Dn x) 10 := by
          rcases Nat.eq_zero_or_pos (cntr (opn a b bm Dn x) 10) with h | h
          · exact absurd (cntr_0 hol h) ho
          · exact h
        have hk : (if hb = 1 then 0 else st % cntr (opn a b bm Dn x) 10) < cntr (opn a b bm Dn x) 10 := by
          split
          · exact hc
          · exact Nat.mod_lt _ hc
        obtain ⟨h1, h3⟩ := nthr_in (Nat.le_refl 10) hk
        obtain ⟨h4, n, h5⟩ := opn_bit h3
        rw [h5]
        exact lead_ltR ha hb' h4 h5
theorem prwO_ltR {a b : Nat → Nat} {bm Dn st hb y R : Nat} {be : Option Nat} (hD : Dn ≤ 10) (ha : ∀ d, d < Dn → a d < R) (hb' : ∀ d, d < Dn → b d < R) (hbe : ∀ x, be = some x → x < R) (hy : y < R) : ∀ x, prwO a b bm Dn st hb be y = some x → x < R := by
  intro x h
  cases be with
  | none => cases h
  | some z =>
    have hz := hbe z rfl
    simp only [prwO, Option.map_some, Option.some.injEq] at h
    subst h
    split
    · exact hz
    · exact prw_ltR hD ha hb' hz hy
theorem PgO_step {R Dn K SL : Nat} {a b rl : Nat → Nat} {bm per hs : Nat} {be : Option Nat} {hb on : Nat} {sg : Nat → Nat} {st d to : Nat} (hP : PlO R Dn K SL a rl) (hO : PgO R Dn b bm per hs be hb on sg st) (hst : st < 999) (h : if d = 10 then to = hs else d < Dn ∧ lead a b bm d hs = some to) (hd : d ≤ 10) : PgO R Dn (tick R K rl per st (b, bm)).1 (tick R K rl per st (b, bm)).2 per to (prwO a b bm Dn st hb be to) hb (if d ≠ 10 ∧ on < SL then on + 1 else on) (if d ≠ 10 ∧ on < SL then updN sg on d else sg) (st + 1) := by
  obtain ⟨p1, p2, p3, p4, p5, p6, p7, p8, p9, p10, p11⟩ := hP
  obtain ⟨o1, o2, o3, o4, o5, o6, o7, o8, o9, o10, o11, o12, o13, o14⟩ := hO
  have hto : to < R := by
    by_cases h10 : d = 10
    · rw [if_pos h10] at h; omega
    · rw [if_neg h10] at h; exact lead_ltR p8 o3 h.1 h.2
  obtain ⟨w1, w2, w3, w4⟩ := Wok_tick (per := per) (st := st) (K := K) p3 p11 (by omega) p2 (show Wok R Dn (b, bm) from ⟨o1, o2, o3, o4⟩)
  refine ⟨w1, w2, w3, w4, o5, o6, hto, prwO_ltR p3 p8 o3 o8 hto, o9, ?_, ?_, ?_, ?_, by omega⟩
  · split <;> omega
  · intro i hi
    by_cases hy : d ≠ 10 ∧ on < SL
    · rw [if_pos hy] at hi ⊢
      rw [if_neg hy.1] at h
      unfold updN
      split
      · exact h.1
      · exact o11 i (by omega)
    · rw [if_neg hy] at hi ⊢
      exact o11 i hi
  · by_cases hy : d ≠ 10 ∧ on < SL
    · rw [if_pos hy]; exact z0_upd o12 (by omega)
    · rw [if_neg hy]; exact o12
  · intro i
    by_cases hy : d ≠ 10 ∧ on < SL
    · rw [if_pos hy]
      rw [if_neg hy.1] at h
      unfold updN
      split
      · omega
      · exact o13 i
    · rw [if_neg hy]; exact o13 i
theorem p2_lt {n m : Nat} (h : m < 2 ^ n) (hn : n ≤ 10) : m < 1024 := Nat.lt_of_lt_of_le h (Nat.pow_le_pow_right (n := 2) (by decide) hn)
/-- go() and goes(): the same answer, the same page behind it -/
theorem co_go0 {R Dn K SL : Nat} {a b rl : Nat → Nat} {bm per hs : Nat} {be : Option Nat} {hb on : Nat} {sg : Nat → Nat} {st : Nat} {ea : Bool} {g lw wk : Nat → Int32} (hP : PlO R Dn K SL a rl) (hl : lwr lw K rl) (hO : PgO R Dn b bm per hs be hb on sg st) (hM : PgM Dn a b bm per hs be hb on sg st ea g 0) (p1 : Int32) : (∃ rr : Int32, rr < 0 ∧ f_X7_refusalOf (nI bm) (nI hs) (nI st) (bz ea) (rI b) (nI Dn) (rI a) p1 = some rr ∧ f_X8_goes (nI R) (nI Dn) (nI SL) (nI K) lw g wk p1 = some (rr, g, wk)) ∨ (∃ (b' : Nat → Nat) (bm' hs' : Nat) (be' : Option Nat) (on' : Nat) (sg' : Nat → Nat) (st' : Nat) (ea' : Bool) (g' w' : Nat → Int32), f_X7_refusalOf (nI bm) (nI hs) (nI st) (bz ea) (rI b) (nI Dn) (rI a) p1 = some 0 ∧ f_X6_takeStep (nI bm) (nI per) (nI hs) (enc be) (nI hb) (nI on) (nI st) (bz ea) (nI R) (nI Dn) (nI K) (nI SL) (rI a) (rI rl) (rI b) (rI sg) p1 = some (nI bm', enc be', bz ea', nI hs', nI on', nI st', rI b', rI sg') ∧ f_X8_goes (nI R) (nI Dn) (nI SL) (nI K) lw g wk p1 = some (nI (hs' + if ea' then 10 else 0), g', w') ∧ PgO R Dn b' bm' per hs' be' hb on' sg' st' ∧ PgM Dn a b' bm' per hs' be' hb on' sg' st' ea' g' 0 ∧ ∀ j, 49 ≤ j → g' j = g j) := by
  have hP' := hP
  have hO' := hO
  have hM' := hM
  obtain ⟨p1', p2, p3, p4, p5, p6, p7, p8, p9, p10, p11⟩ := hP
  obtain ⟨o1, o2, o3, o4, o5, o6, o7, o8, o9, o10, o11, o12, o13, o14⟩ := hO
  have hbm := p2_lt o4 p3
  obtain ⟨h1, h2, h3, h4, h5, h6, h7, h8, h9⟩ := hM
  simp only [Nat.zero_add] at h2 h3 h4 h5 h6 h7 h8 h9
  rcases p_refusal (ea := ea) (bm := bm) (a := a) (b := b) (Dn := Dn) (hs := hs) (st := st) p3 (by omega) p6 o1 (by omega) (by omega) p1 with ⟨d, to, hd, hto, rfl, hcond, rfl, hst, hr⟩ | ⟨rr, hneg, hr, hg⟩
  · refine Or.inr ?_
    have hbe7 : ∀ x, be = some x → x < 7 := fun x hx => by have := o8 x hx; omega
    have hstep := p_takeStep (R := R) (K := K) (SL := SL) (on := on) (ea := false) (sg := sg) (rl := rl) (per := per) p4 p9 (by omega) p2 p6 o1 o5 o6 (show st < 99000 by omega) (show bm < 2147483648 by omega) p3 hbe7 o9 p5 o10 d to hd hto (show hs < 7 by omega) hcond
    obtain ⟨g', w', e1, q1, q2⟩ := m_stepsBy (R := R) (K := K) (SL := SL) (wk := wk) (to := to) (d := d) p3 p4 p5 hl p11 (by omega) p2 p6 o1 o5 o6 (show st < 99000 by omega) o10 hbe7 o9 hto hd hM'
    refine ⟨_, _, _, _, _, _, _, _, g', w', hr, hstep, ?_, PgO_step hP' hO' hst hcond hd, ?_, q2⟩
    · have eb : (false || prwO a b bm Dn st hb be to == some to) = (prwO a b bm Dn st hb be to == some to) := Bool.false_or _
      rw [eb]
      have e2 : (if (prwO a b bm Dn st hb be to == some to) = true then 10 else 0) = (if prwO a b bm Dn st hb be to = some to then 10 else 0) := by simp
      rw [e2]
      unfold f_X8_goes
      by_cases h10 : d = 10
      · subst h10
        rw [if_pos rfl] at hcond
        subst hcond
        have hout : (nI 10).toInt < 0 ∨ ((Dn : Nat) : Int) ≤ (nI 10).toInt := by
          right
          rw [nI_toInt (by omega)]
          omega
        rw [m_isDoor _ (by omega), dec_out (by omega) hout, bz_f, ob1_s, jn0_s, if_pos rfl, if_pos (show nI 10 = (10 : Int32) from rfl), g31, bnd_s, jn1_s, if_pos (show nI 10 = (10 : Int32) from rfl)]
        dsimp only
        rw [g48, k48, h9, bz_f, if_neg n01, k31, h3, if_neg (ne4 (by omega)), g47, k47, h8, if_neg (show ¬ nI st = (999 : Int32) from fun e => by have := nI_inj (b := 999) (by omega) (by omega) e; omega), e1, ob3_s]
      · rw [if_neg h10] at hcond
        have hn10 : ¬ nI d = (10 : Int32) := fun e => h10 (nI_inj (b := 10) (by omega) (by omega) e)
        rw [m_isDoor _ (by omega), dec_in hcond.1 (by omega), bz_t, ob1_s, jn0_s, if_neg n10, g31, bnd_s, jn1_s, if_neg hn10, k31, h3, show (0 : Int32) = nI 0 from rfl, m_leadsTo h1 p3 hcond.1 (by omega) (by omega) p6 o1 (by omega), ob1_s, hcond.2]
        dsimp only
        rw [g48, k48, h9, bz_f, if_neg n01, if_neg (show ¬ enc (some to) = (-4 : Int32) from ne4 (by omega)), g47, k47, h8, if_neg (show ¬ nI st = (999 : Int32) from fun e => by have := nI_inj (b := 999) (by omega) (by omega) e; omega)]
        show ob3 (f_X8_stepsBy (nI R) (nI Dn) (nI SL) (nI K) lw g wk (nI d) (nI to)) _ = _
        rw [e1, ob3_s]
    · rw [Bool.false_or]; exact q1
  · exact Or.inl ⟨rr, hneg, hr, hg (nI R) (nI SL) (nI K) lw g wk h1 h3 h8 h9 o14⟩
theorem co_go {R Dn K SL : Nat} {a b rl : Nat → Nat} {bm per hs : Nat} {be : Option Nat} {hb on : Nat} {sg : Nat → Nat} {st : Nat} {ea : Bool} {g lw wk : Nat → Int32} (hP : PlO R Dn K SL a rl) (hl : lwr lw K rl) (hO : PgO R Dn b bm per hs be hb on sg st) (hM : PgM Dn a b bm per hs be hb on sg st ea g 0) (p1 : Int32) : ∃ (rr : Int32) (b' : Nat → Nat) (bm' hs' : Nat) (be' : Option Nat) (on' : Nat) (sg' : Nat → Nat) (st' : Nat) (ea' : Bool) (g' w' : Nat → Int32), f_X7_go (nI bm) (nI per) (nI hs) (enc be) (nI hb) (nI on) (nI st) (bz ea) (rI b) (rI sg) (nI R) (nI Dn) (nI K) (nI SL) (rI a) (rI rl) p1 = some (rr, nI bm', enc be', bz ea', nI hs', nI on', nI st', rI b', rI sg') ∧ f_X8_go (nI R) (nI Dn) (nI SL) (nI K) lw g wk p1 = some (rr, g', w') ∧ PgO R Dn b' bm' per hs' be' hb on' sg' st' ∧ PgM Dn a b' bm' per hs' be' hb on' sg' st' ea' g' 0 ∧ ∀ j, 49 ≤ j → g' j = g j := by
  unfold f_X7_go f_X8_go
  rcases co_go0 (wk := wk) hP hl hO hM p1 with ⟨rr, hneg, h1, h2⟩ | ⟨b', bm', hs', be', on', sg', st', ea', g', w', h1, h2, h3, h4, h5, h6⟩
  · rw [h1, ob1_s, h2, ob3_s, if_neg (fun e => by rw [e] at hneg; exact absurd hneg (by decide))]
    exact ⟨rr, b, bm, hs, be, on, sg, st, ea, g, wk, rfl, rfl, hO, hM, fun _ _ => rfl⟩
  · rw [h1, ob1_s, if_pos rfl, h2, ob8_s, h3, ob3_s]
    refine ⟨_, b', bm', hs', be', on', sg', st', ea', g', w', ?_, rfl, h4, h5, h6⟩
    cases ea' with
    | true => rw [bz_t, if_neg n10, show (10 : Int32) + nI hs' = nI (10 + hs') from nI_add 10 hs', Nat.add_comm 10 hs']; rfl
    | false => rw [bz_f, if_pos rfl]; rfl
