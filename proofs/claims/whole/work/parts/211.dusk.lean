/-! ===== pure 11: dusk, again, leads ===== -/
def dsk (R K : Nat) (rl : Nat → Nat) : Nat → (Nat → Nat) × Nat → (Nat → Nat) × Nat
  | 0, w => w
  | i + 1, w => rls R rl K (dsk R K rl i w)
theorem Wok_dsk {R Dn K : Nat} {rl : Nat → Nat} {w : (Nat → Nat) × Nat} (hD : Dn ≤ 10) (hok : ∀ k, k < K → lok Dn (rl k)) (hR : 0 < R) (hR7 : R ≤ 7) (h : Wok R Dn w) (i : Nat) : Wok R Dn (dsk R K rl i w) := by
  induction i with
  | zero => exact h
  | succ i ih => exact Wok_rls hD hok hR hR7 ih K (Nat.le_refl K)
theorem co_dusk {R Dn K SL : Nat} {a b rl : Nat → Nat} {bm per hs : Nat} {be : Option Nat} {hb on : Nat} {sg : Nat → Nat} {st : Nat} {ea : Bool} {g lw wk ase astr : Nat → Int32} (x1 x2 x3 x4 x5 x6 x7 x8 : Int32) (hP : PlO R Dn K SL a rl) (hl : lwr lw K rl) (hO : PgO R Dn b bm per hs be hb on sg st) (hM : PgM Dn a b bm per hs be hb on sg st ea g 0) (hA : ScR ase astr) (p1 p2 p3 : Int32) : ∃ (rr y1 y2 y3 y4 y5 y6 y7 y8 : Int32) (se' str' w' : Nat → Int32), f_X7_dusk x1 x2 x3 x4 x5 x6 x7 x8 ase astr (nI bm) (nI per) (nI hs) (enc be) (nI hb) (nI on) (nI st) (bz ea) (rI b) (rI sg) (nI R) (nI Dn) (nI K) (rI a) (rI rl) p1 p2 p3 = some (rr, y1, y2, y3, y4, y5, y6, y7, y8, se', str') ∧ f_X8_dusk (nI R) (nI Dn) (nI K) lw g wk p1 p2 p3 = some (rr, w') ∧ ScR se' str' := by
  obtain ⟨q1, q2, q3, q4, q5, q6, q7, q8, q9, q10, q11⟩ := hP
  obtain ⟨o1, o2, o3, o4, o5, o6, o7, o8, o9, o10, o11, o12, o13, o14⟩ := hO
  have hbm := p2_lt o4 q3
  have hA' := hA
  obtain ⟨b0, s0, rfl, ha2, ha3, rfl, ha5, ha6⟩ := hA
  unfold f_X7_dusk f_X8_dusk
  rw [show (0 : Int64) = (0 : Int32).toInt64 from rfl, show (60 : Int64) = (60 : Int32).toInt64 from rfl, m_in, p_within, ob1_s, ob1_s]
  rcases i32_in p1 61 (by omega) with ⟨n, hn, rfl⟩ | hout
  · have e60 : decide ((0 : Int32) ≤ nI n ∧ nI n ≤ 60) = true := dec_le (n := 60) (by omega) (by omega)
    rw [e60, bz_t, if_neg n10, if_neg n10, p_copyFrom o2 o12 ha3 ha5, ob10_s]
    have hW := fun i => Wok_dsk (K := K) (rl := rl) q3 q11 (by omega) q2 (show Wok R Dn (b, bm) from ⟨o1, o2, o3, o4⟩) i
    have hcl := itr_count (step := un3 (b_X7_dusk_26 (nI R) (nI K) (rI rl) (nI n))) (fun i => (nI i, nI (dsk R K rl i (b, bm)).2, rI (dsk R K rl i (b, bm)).1)) n (nI n, nI (dsk R K rl n (b, bm)).2, rI (dsk R K rl n (b, bm)).1) ?_ ?_ FU (by unfold FU; omega)
    · rw [show ((0 : Int32), nI bm, rI b) = (nI 0, nI (dsk R K rl 0 (b, bm)).2, rI (dsk R K rl 0 (b, bm)).1) from rfl, hcl, ob3_s]
      obtain ⟨w1, w2, w3, w4⟩ := hW n
      have hbmn := p2_lt w4 q3
      have hsc : ScR (rI (dsk R K rl n (b, bm)).1) (rI sg) := ⟨_, _, rfl, w1, w2, rfl, o12, o13⟩
      obtain ⟨wk1, e1, z1, z2⟩ := m_worksNow g wk
      have hh := itr_inv (step := un2 (b_X8_dusk_41 (nI R) (nI K) lw (nI n))) (fun i x => x.1 = nI i ∧ hse x.2 0 Dn a (dsk R K rl i (b, bm)).1 (dsk R K rl i (b, bm)).2) n (fun o => hse o.2 0 Dn a (dsk R K rl n (b, bm)).1 (dsk R K rl n (b, bm)).2) ?_ ?_ ((0 : Int32), wk1) ⟨rfl, hse_of hM.1 q3 z1⟩ FU (by unfold FU; omega)
      · obtain ⟨⟨oo1, wk2⟩, e2, hw2⟩ := hh
        simp only at hw2
        obtain ⟨rr, er, err⟩ := p_ofDoor (a := a) (b := (dsk R K rl n (b, bm)).1) (bm := (dsk R K rl n (b, bm)).2) q3 (by omega) p2 p3 hw2
        rw [er, ob1_s, m_isDoor p2 (by omega), ob1_s, show (2 : Int64) = (2 : Int32).toInt64 from rfl, m_in, ob1_s, e1, ob1_s, e2, ob2_s]
        rcases i32_in p2 Dn (by omega) with ⟨d, hd, rfl⟩ | hout2
        · rw [dec_in hd (by omega), bz_t, if_neg n10]
          rcases i32_in p3 3 (by omega) with ⟨w, hw, rfl⟩ | hout3
          · have e2' : decide ((0 : Int32) ≤ nI w ∧ nI w ≤ 2) = true := dec_le (n := 2) (by omega) (by omega)
            have hc : 0 ≤ nI d ∧ nI d < nI Dn ∧ (0 : Int32) ≤ nI w ∧ nI w ≤ 2 := by
              have c1 := dec_in hd (show Dn < 2147483648 by omega)
              rw [decide_eq_true_iff] at c1
              rw [decide_eq_true_iff] at e2'
              exact ⟨c1.1, c1.2, e2'⟩
            rw [if_pos hc, nI_cl (by omega), nI_cl (by omega), Nat.zero_add] at err
            rw [e2', bz_t, if_neg n10, i3, nI_add, gin_k (by omega) (by omega), nI_cl (by omega), ← err]
            exact ⟨rr, _, _, _, _, _, _, _, _, _, _, _, rfl, rfl, hsc⟩
          · have e2' : decide ((0 : Int32) ≤ p3 ∧ p3 ≤ 2) = false := dec_gt (n := 2) (by omega) hout3
            rw [e2', bz_f, if_pos rfl]
            rw [if_neg (fun q => by rw [decide_eq_false_iff_not] at e2'; exact e2' q.2.2)] at err
            rw [err]
            exact ⟨-1, _, _, _, _, _, _, _, _, _, _, _, rfl, rfl, hsc⟩
        · have e1' := dec_out (show Dn < 2147483648 by omega) hout2
          rw [e1', bz_f, if_pos rfl]
          rw [if_neg (fun q => by rw [decide_eq_false_iff_not] at e1'; exact e1' ⟨q.1, q.2.1⟩)] at err
          rw [err]
          exact ⟨-1, _, _, _, _, _, _, _, _, _, _, _, rfl, rfl, hsc⟩
      · rintro i ⟨y1, y2⟩ hi ⟨h1, h2⟩
        simp only at h1 h2
        subst h1
        obtain ⟨g', e, z, _⟩ := m_dusks (R := R) h2 q3 q4 hl q11 (by omega) q2 (hW i).1
        refine ⟨(nI (i + 1), g'), ?_, rfl, z⟩
        rw [un2_s]
        unfold b_X8_dusk_41
        rw [if_neg (nI_ge hi (by omega)), e, ob1_s, bnd_s, show nI i + 1 = nI (i + 1) from nI_1 i]
      · rintro ⟨y1, y2⟩ ⟨h1, h2⟩
        simp only at h1 h2
        subst h1
        refine ⟨(nI n, y2), ?_, h2⟩
        rw [un2_s]
        unfold b_X8_dusk_41
        rw [if_pos (nI_le (Nat.le_refl n) (by omega))]
    · intro i hi
      rw [un3_s]
      unfold b_X7_dusk_26
      rw [if_neg (nI_ge hi (by omega)), p_applyRules q4 q9 (by omega) q2 (hW i).1, ob2_s, bnd_s, show nI i + 1 = nI (i + 1) from nI_1 i]
      rfl
    · rw [un3_s]
      unfold b_X7_dusk_26
      rw [if_pos (nI_le (Nat.le_refl n) (by omega))]
  · have e60 : decide ((0 : Int32) ≤ p1 ∧ p1 ≤ 60) = false := dec_gt (n := 60) (by omega) hout
    rw [e60, bz_f, if_pos rfl, if_pos rfl]
    exact ⟨-1, _, _, _, _, _, _, _, _, _, _, wk, rfl, rfl, hA'⟩
/-- a search whose states are known by what holds of them -/
theorem itr_firstP {σ ρ α : Type} {step : σ → Option (σ ⊕ (ρ ⊕ α))} (p : Nat → Bool) (P : Nat → σ → Prop) (N : Nat) (Qr : Nat → ρ → Prop) (Qe : α → Prop) (hs : ∀ i x, i < N → P i x → p i = false → ∃ y, step x = some (.inl y) ∧ P (i + 1) y) (hr : ∀ i x, i < N → P i x → p i = true → ∃ r, step x = some (.inr (.inl r)) ∧ Qr i r) (he : ∀ x, P N x → ∃ o, step x = some (.inr (.inr o)) ∧ Qe o) (x0 : σ) (h0 : P 0 x0) (n : Nat) (hn : N < n) : (∃ k r, ff p N = some k ∧ itr step n x0 = some (.inl r) ∧ Qr k r) ∨ (∃ o, ff p N = none ∧ itr step n x0 = some (.inr o) ∧ Qe o) := by
  cases hf : ff p N with
  | none =>
    have h := ff_none hf
    obtain ⟨o, e, q⟩ := itr_inv (step := step) P N (fun o => ∃ z, o = .inr z ∧ Qe z) (fun i x hi hx => hs i x hi hx (h i hi)) (fun x hx => by
      obtain ⟨o, e, q⟩ := he x hx
      exact ⟨_, e, o, rfl, q⟩) x0 h0 n hn
    obtain ⟨z, rfl, q⟩ := q
    exact Or.inr ⟨z, rfl, e, q⟩
  | some k =>
    obtain ⟨h1, h2, h3⟩ := ff_some hf
    obtain ⟨o, e, q⟩ := itr_inv (step := step) P k (fun o => ∃ z, o = .inl z ∧ Qr k z) (fun i x hi hx => hs i x (by omega) hx (h3 i hi)) (fun x hx => by
      obtain ⟨o, e, q⟩ := hr k x h1 hx h2
      exact ⟨_, e, o, rfl, q⟩) x0 h0 n (by omega)
    obtain ⟨z, rfl, q⟩ := q
    exact Or.inl ⟨k, z, rfl, e, q⟩
