/-! ===== pure 8: calls that change a page ===== -/
theorem n10 : ¬ (1 : Int32) = 0 := by decide
theorem hse_upd {g : Nat → Int32} {Dn bm k : Nat} {a b : Nat → Nat} {v : Int32} (h : hse g 0 Dn a b bm) (hD : Dn ≤ 10) (hk : 30 ≤ k) : hse (upd g k v) 0 Dn a b bm := hse_congr h hD (fun j hj => by rw [Nat.zero_add, pk_un (by omega)])
theorem m_sets_t {g : Nat → Int32} {k : Nat} {v : Int32} (hk : k < 196) : f_X8_sets g 1 (nI k) v = some (g k, upd g k v) := by
  unfold f_X8_sets
  rw [if_neg n10, gin_k (by omega) (by omega), bnd_s, gin_k (by omega) (by omega), bnd_s, nI_cl (by omega)]
theorem m_sets_f {g : Nat → Int32} {p v : Int32} : f_X8_sets g 0 p v = some (-1, g) := by
  unfold f_X8_sets
  rw [if_pos rfl]
theorem m_bar {Dn : Nat} {g : Nat → Int32} (hD : Dn ≤ 10) (p1 : Int32) (q : Bool) : f_X8_bar (nI Dn) g p1 (bz q) = ob2 (f_X8_sets g (bz (decide (0 ≤ p1 ∧ p1 < nI Dn))) ((3 : Int32) * p1 + 2) (bz q)) (fun r t => some (r, t)) := by
  unfold f_X8_bar
  rw [m_isDoor p1 (by omega), ob1_s, jn1_s]
  cases q <;> rfl
theorem co_bar {Dn : Nat} {a b : Nat → Nat} {bm per hs : Nat} {be : Option Nat} {hb on : Nat} {sg : Nat → Nat} {st : Nat} {ea : Bool} {g : Nat → Int32} (hD : Dn ≤ 10) (hon : on ≤ 12) (hbm : bm < 2 ^ Dn) (hM : PgM Dn a b bm per hs be hb on sg st ea g 0) (p1 : Int32) (q : Bool) : ∃ (rr : Int32) (bm' : Nat) (g' : Nat → Int32), f_X7_bar (nI bm) (nI Dn) p1 (bz q) = some (rr, nI bm') ∧ f_X8_bar (nI Dn) g p1 (bz q) = some (rr, g') ∧ bm' < 2 ^ Dn ∧ PgM Dn a b bm' per hs be hb on sg st ea g' 0 ∧ ∀ j, 49 ≤ j → g' j = g j := by
  have hb10 : bm < 1024 := Nat.lt_of_lt_of_le hbm (Nat.pow_le_pow_right (n := 2) (by decide) hD)
  rw [m_bar hD]
  unfold f_X7_bar
  rw [p_hasDoor, ob1_s]
  rcases i32_in p1 Dn (by omega) with ⟨d, hd, rfl⟩ | hout
  · rw [dec_in hd (by omega), bz_t, if_neg n10, p_isBarred (by omega) (by omega), ob1_s, jn1_s, i3, show nI (3 * d) + 2 = nI (3 * d + 2) from nI_add _ 2, m_sets_t (by omega), ob2_s]
    have h1 := hM.1 d hd
    simp only [Nat.zero_add] at h1
    rw [h1.2.2, p_asNumber]
    have fr : ∀ j, 49 ≤ j → upd g (3 * d + 2) (bz q) j = g j := fun j hj => by rw [pk_un (by omega)]
    have rest : ∀ bm' : Nat, (∀ e, e < Dn → bm'.testBit e = (if e = d then q else bm.testBit e)) → PgM Dn a b bm' per hs be hb on sg st ea (upd g (3 * d + 2) (bz q)) 0 := by
      intro bm' hb'
      obtain ⟨h1, h2, h3, h4, h5, h6, h7, h8, h9⟩ := hM
      simp only [Nat.zero_add] at h2 h3 h4 h5 h6 h7 h8 h9
      refine ⟨?_, ?_, ?_, ?_, ?_, ?_, ?_, ?_, ?_⟩
      · intro e he
        have z := h1 e he
        simp only [Nat.zero_add] at z ⊢
        refine ⟨by rw [pk_un (by omega)]; exact z.1, by rw [pk_un (by omega)]; exact z.2.1, ?_⟩
        rw [hb' e he]
        by_cases c : e = d
        · rw [if_pos c, c, pk_us]
        · rw [if_neg c, pk_un (by omega)]; exact z.2.2
      all_goals simp only [Nat.zero_add]
      · rw [pk_un (by omega)]; exact h2
      · rw [pk_un (by omega)]; exact h3
      · rw [pk_un (by omega)]; exact h4
      · rw [pk_un (by omega)]; exact h5
      · intro i hi; rw [pk_un (by omega)]; exact h6 i hi
      · rw [pk_un (by omega)]; exact h7
      · rw [pk_un (by omega)]; exact h8
      · rw [pk_un (by omega)]; exact h9
    by_cases hq : bm.testBit d = q
    · rw [if_pos (by rw [hq])]
      refine ⟨bz (bm.testBit d), bm, upd g (3 * d + 2) (bz q), rfl, rfl, hbm, rest bm (fun e he => ?_), fr⟩
      by_cases c : e = d
      · rw [if_pos c, c, hq]
      · rw [if_neg c]
    · rw [if_neg (fun e => hq (by revert e; cases bm.testBit d <;> cases q <;> simp [bz]))]
      simp only [bnd_s]
      rw [shl_k d (by omega), nx_xor, ob1_s]
      refine ⟨bz (bm.testBit d), bm ^^^ 2 ^ d, upd g (3 * d + 2) (bz q), rfl, rfl, Nat.xor_lt_two_pow hbm (Nat.pow_lt_pow_right (by decide) hd), rest _ (fun e he => ?_), fr⟩
      rw [xor_bit]
      by_cases c : e = d
      · rw [if_pos c, if_pos c, c]
        revert hq
        cases bm.testBit d <;> cases q <;> simp
      · rw [if_neg c, if_neg c]
  · rw [dec_out (by omega) hout, bz_f, if_pos rfl, m_sets_f, ob2_s]
    exact ⟨_, bm, g, rfl, rfl, hbm, hM, fun _ _ => rfl⟩
theorem co_period {Dn : Nat} {a b : Nat → Nat} {bm per hs : Nat} {be : Option Nat} {hb on : Nat} {sg : Nat → Nat} {st : Nat} {ea : Bool} {g : Nat → Int32} (hD : Dn ≤ 10) (hp : 0 < per) (hp6 : per ≤ 6) (hon : on ≤ 12) (hM : PgM Dn a b bm per hs be hb on sg st ea g 0) (p1 : Int32) : ∃ (rr : Int32) (per' : Nat) (g' : Nat → Int32), f_X7_period (nI per) p1 = some (rr, nI per') ∧ f_X8_period g p1 = some (rr, g') ∧ 0 < per' ∧ per' ≤ 6 ∧ PgM Dn a b bm per' hs be hb on sg st ea g' 0 ∧ ∀ j, 49 ≤ j → g' j = g j := by
  unfold f_X7_period f_X8_period
  rw [show (1 : Int64) = (1 : Int32).toInt64 from rfl, show (6 : Int64) = (6 : Int32).toInt64 from rfl, m_in, p_within, ob1_s, ob1_s]
  by_cases hc : (1 : Int32) ≤ p1 ∧ p1 ≤ 6
  · rw [decide_eq_true hc, bz_t, if_neg n10, if_neg n10]
    have c1 := (fa_le _ _).mp hc.1
    have c2 := (fa_le _ _).mp hc.2
    rcases i32_in p1 7 (by omega) with ⟨v, hv, rfl⟩ | hout
    · rw [show (30 : Int32) = nI 30 from rfl, m_sets_t (by omega), ob2_s]
      rw [nI_toInt (by omega)] at c1
      have hv0 : 0 < v := by
        have : (1 : Int32).toInt = 1 := by decide
        omega
      obtain ⟨h1, h2, h3, h4, h5, h6, h7, h8, h9⟩ := hM
      simp only [Nat.zero_add] at h2 h3 h4 h5 h6 h7 h8 h9
      obtain ⟨v, rfl⟩ : ∃ w, v = w + 1 := ⟨v - 1, by omega⟩
      rw [h2, show nI (v + 1) - 1 = nI v from nI_pred v, show (1 : Int32) + nI (per - 1) = nI (1 + (per - 1)) from nI_add 1 _, show 1 + (per - 1) = per by omega]
      refine ⟨nI per, v + 1, _, rfl, rfl, by omega, by omega, ⟨hse_upd h1 hD (by omega), ?_, ?_, ?_, ?_, ?_, ?_, ?_, ?_⟩, fun j hj => by rw [pk_un (by omega)]⟩
      all_goals simp only [Nat.zero_add]
      · rw [pk_us]; rfl
      · rw [pk_un (by omega)]; exact h3
      · rw [pk_un (by omega)]; exact h4
      · rw [pk_un (by omega)]; exact h5
      · intro i hi; rw [pk_un (by omega)]; exact h6 i hi
      · rw [pk_un (by omega)]; exact h7
      · rw [pk_un (by omega)]; exact h8
      · rw [pk_un (by omega)]; exact h9
    · exfalso
      have e1 : (1 : Int32).toInt = 1 := by decide
      have e6 : (6 : Int32).toInt = 6 := by decide
      omega
  · rw [decide_eq_false hc, bz_f, if_pos rfl, if_pos rfl]
    exact ⟨_, per, g, rfl, rfl, hp, hp6, hM, fun _ _ => rfl⟩
theorem co_put {R Dn : Nat} {a b : Nat → Nat} {bm per hs : Nat} {be : Option Nat} {hb on : Nat} {sg : Nat → Nat} {st : Nat} {ea : Bool} {g : Nat → Int32} (hR : R ≤ 7) (hD : Dn ≤ 10) (hhs : hs < R) (hbe : ∀ x, be = some x → x < R) (hon : on ≤ 12) (hM : PgM Dn a b bm per hs be hb on sg st ea g 0) (p1 : Int32) : ∃ (rr : Int32) (ea' : Bool) (hs' : Nat) (g' : Nat → Int32), f_X7_put (nI hs) (enc be) (bz ea) (nI R) p1 = some (rr, bz ea', nI hs') ∧ f_X8_put (nI R) g p1 = some (rr, g') ∧ hs' < R ∧ PgM Dn a b bm per hs' be hb on sg st ea' g' 0 ∧ ∀ j, 49 ≤ j → g' j = g j := by
  unfold f_X7_put f_X8_put
  rw [p_hasRoom, m_isRoom p1 (by omega), ob1_s, ob1_s]
  have hM' := hM
  obtain ⟨h1, h2, h3, h4, h5, h6, h7, h8, h9⟩ := hM
  simp only [Nat.zero_add] at h2 h3 h4 h5 h6 h7 h8 h9
  rcases i32_in p1 R (by omega) with ⟨x, hx, rfl⟩ | hout
  · rw [dec_in hx (by omega), bz_t, if_neg n10, if_neg n10, m_beastNow h4 (fun x hx => by have := hbe x hx; omega), ob1_s]
    by_cases hc : enc be = nI x
    · rw [if_pos hc, if_pos hc]
      exact ⟨_, ea, hs, g, rfl, rfl, hhs, hM', fun _ _ => rfl⟩
    · rw [if_neg hc, if_neg hc, g48, bnd_s, k48, show (31 : Int32) = nI 31 from rfl, m_sets_t (by omega), ob2_s]
      rw [pk_un (show (31 : Nat) ≠ 48 by omega), h3]
      refine ⟨nI hs, false, x, _, rfl, rfl, hx, ⟨hse_upd (hse_upd h1 hD (by omega)) hD (by omega), ?_, ?_, ?_, ?_, ?_, ?_, ?_, ?_⟩, fun j hj => by rw [pk_un (by omega), pk_un (by omega)]⟩
      all_goals simp only [Nat.zero_add]
      · rw [pk_un (by omega), pk_un (by omega)]; exact h2
      · rw [pk_us]
      · rw [pk_un (by omega), pk_un (by omega)]; exact h4
      · rw [pk_un (by omega), pk_un (by omega)]; exact h5
      · intro i hi; rw [pk_un (by omega), pk_un (by omega)]; exact h6 i hi
      · rw [pk_un (by omega), pk_un (by omega)]; exact h7
      · rw [pk_un (by omega), pk_un (by omega)]; exact h8
      · rw [pk_un (by omega), pk_us]; rfl
  · rw [dec_out (by omega) hout, bz_f, if_pos rfl, if_pos rfl]
    exact ⟨_, ea, hs, g, rfl, rfl, hhs, hM', fun _ _ => rfl⟩
theorem co_bite {Dn : Nat} {a b : Nat → Nat} {bm per hs : Nat} {be : Option Nat} {hb on : Nat} {sg : Nat → Nat} {st : Nat} {ea : Bool} {g : Nat → Int32} (hD : Dn ≤ 10) (hon : on ≤ 12) (hM : PgM Dn a b bm per hs be hb on sg st ea g 0) (p1 : Int32) : ∃ (rr : Int32) (on' : Nat) (g' : Nat → Int32), f_X7_bite (nI on) p1 = some (rr, nI on') ∧ f_X8_bite g p1 = some (rr, g') ∧ on' ≤ on ∧ PgM Dn a b bm per hs be hb on' sg st ea g' 0 ∧ ∀ j, 49 ≤ j → g' j = g j := by
  unfold f_X7_bite f_X8_bite
  have hM' := hM
  obtain ⟨h1, h2, h3, h4, h5, h6, h7, h8, h9⟩ := hM
  simp only [Nat.zero_add] at h2 h3 h4 h5 h6 h7 h8 h9
  rw [g46, k46, h7, m_in0 (by omega), p_within, ob1_s, ob1_s]
  rcases i32_in p1 (on + 1) (by omega) with ⟨v, hv, rfl⟩ | hout
  · rw [dec_le (by omega) (by omega), bz_t, if_neg n10, show (46 : Int32) = nI 46 from rfl, m_sets_t (by omega), ob2_s, h7]
    refine ⟨nI on, v, _, rfl, rfl, by omega, ⟨hse_upd h1 hD (by omega), ?_, ?_, ?_, ?_, ?_, ?_, ?_, ?_⟩, fun j hj => by rw [pk_un (by omega)]⟩
    all_goals simp only [Nat.zero_add]
    · rw [pk_un (by omega)]; exact h2
    · rw [pk_un (by omega)]; exact h3
    · rw [pk_un (by omega)]; exact h4
    · rw [pk_un (by omega)]; exact h5
    · intro i hi; rw [pk_un (by omega)]; exact h6 i (by omega)
    · rw [pk_us]
    · rw [pk_un (by omega)]; exact h8
    · rw [pk_un (by omega)]; exact h9
  · rw [dec_gt (by omega) hout, bz_f, if_pos rfl, m_sets_f, ob2_s]
    exact ⟨_, on, g, rfl, rfl, Nat.le_refl on, hM', fun _ _ => rfl⟩
theorem co_lurk {R Dn : Nat} {a b : Nat → Nat} {bm per hs : Nat} {be : Option Nat} {hb on : Nat} {sg : Nat → Nat} {st : Nat} {ea : Bool} {g : Nat → Int32} (hR : R ≤ 7) (hD : Dn ≤ 10) (hhs : hs < R) (hbe : ∀ x, be = some x → x < R) (hhb : hb < 4) (hon : on ≤ 12) (hM : PgM Dn a b bm per hs be hb on sg st ea g 0) (p1 p2 : Int32) : ∃ (rr : Int32) (be' : Option Nat) (hb' : Nat) (g' : Nat → Int32), f_X7_lurk (nI hs) (enc be) (nI hb) (nI R) p1 p2 = some (rr, enc be', nI hb') ∧ f_X8_lurk (nI R) g p1 p2 = some (rr, g') ∧ (∀ x, be' = some x → x < R) ∧ hb' < 4 ∧ PgM Dn a b bm per hs be' hb' on sg st ea g' 0 ∧ ∀ j, 49 ≤ j → g' j = g j := by
  unfold f_X7_lurk f_X8_lurk
  have hM' := hM
  obtain ⟨h1, h2, h3, h4, h5, h6, h7, h8, h9⟩ := hM
  simp only [Nat.zero_add] at h2 h3 h4 h5 h6 h7 h8 h9
  have bad : ∃ (rr : Int32) (be' : Option Nat) (hb' : Nat) (g' : Nat → Int32), (some ((-1 : Int32), enc be, nI hb)) = some (rr, enc be', nI hb') ∧ (some ((-1 : Int32), g)) = some (rr, g') ∧ (∀ x, be' = some x → x < R) ∧ hb' < 4 ∧ PgM Dn a b bm per hs be' hb' on sg st ea g' 0 ∧ ∀ j, 49 ≤ j → g' j = g j := ⟨_, be, hb, g, rfl, rfl, hbe, hhb, hM', fun _ _ => rfl⟩
  rw [m_isRoom p1 (by omega), ob1_s, jn0_s, jn0_s, p_isHabit, ob1_s, show (0 : Int64) = (0 : Int32).toInt64 from rfl, show (3 : Int64) = (3 : Int32).toInt64 from rfl, m_in, ob1_s, g31, k31, h3, m_beastNow h4 (fun x hx => by have := hbe x hx; omega), ob1_s, jn1_s, p_hasRoom, ob1_s]
  simp only [g32, g33, k32, k33, bnd_s]
  -- the two ways on: a room, or none
  have go : ∀ (be' : Option Nat) (s9 : Int32), p1 = enc be' → (∀ x, be' = some x → x < R) → s9 = enb be' → ∃ (rr : Int32) (be' : Option Nat) (hb' : Nat) (g' : Nat → Int32), (if bz (decide (0 ≤ p2 ∧ p2 ≤ 3)) = 0 then some (-1, enc be, nI hb) else if nI hs = p1 then some (-2, enc be, nI hb) else some (enc be, p1, p2)) = some (rr, enc be', nI hb') ∧ (if bz (decide (0 ≤ p2 ∧ p2 ≤ 3)) = 0 then some (-1, g) else if p1 = nI hs then some (-2, g) else some (enc be, upd (upd g 32 s9) 33 p2)) = some (rr, g') ∧ (∀ x, be' = some x → x < R) ∧ hb' < 4 ∧ PgM Dn a b bm per hs be' hb' on sg st ea g' 0 ∧ ∀ j, 49 ≤ j → g' j = g j := by
    intro be' s9 e1 e2 e3
    rcases i32_in p2 4 (by omega) with ⟨v, hv, rfl⟩ | hout
    · rw [show decide ((0 : Int32) ≤ nI v ∧ nI v ≤ 3) = true from dec_le (n := 3) (by omega) (by omega), bz_t, if_neg n10, if_neg n10]
      by_cases hc : p1 = nI hs
      · rw [if_pos hc.symm, if_pos hc]
        exact ⟨_, be, hb, g, rfl, rfl, hbe, hhb, hM', fun _ _ => rfl⟩
      · rw [if_neg (fun q => hc q.symm), if_neg hc]
        refine ⟨enc be, be', v, _, by rw [e1], rfl, e2, hv, ⟨hse_upd (hse_upd h1 hD (by omega)) hD (by omega), ?_, ?_, ?_, ?_, ?_, ?_, ?_, ?_⟩, fun j hj => by rw [pk_un (by omega), pk_un (by omega)]⟩
        all_goals simp only [Nat.zero_add]
        · rw [pk_un (by omega), pk_un (by omega)]; exact h2
        · rw [pk_un (by omega), pk_un (by omega)]; exact h3
        · rw [pk_un (by omega), pk_us]; exact e3
        · rw [pk_us]
        · intro i hi; rw [pk_un (by omega), pk_un (by omega)]; exact h6 i hi
        · rw [pk_un (by omega), pk_un (by omega)]; exact h7
        · rw [pk_un (by omega), pk_un (by omega)]; exact h8
        · rw [pk_un (by omega), pk_un (by omega)]; exact h9
    · rw [show decide ((0 : Int32) ≤ p2 ∧ p2 ≤ 3) = false from dec_gt (n := 3) (by omega) hout, bz_f, if_pos rfl, if_pos rfl]
      exact bad
  by_cases hn : p1 = -4
  · rw [if_pos hn]
    have hout : p1.toInt < 0 ∨ ((R : Nat) : Int) ≤ p1.toInt := Or.inl (by rw [hn]; decide)
    rw [dec_out (by omega) hout, bz_f, if_pos rfl, if_pos hn, if_pos hn]
    exact go none 0 hn (fun x hx => by cases hx) rfl
  · rw [if_neg hn]
    rcases i32_in p1 R (by omega) with ⟨x, hx, rfl⟩ | hout
    · rw [dec_in hx (by omega), bz_t, if_neg n10, if_neg n10, if_neg hn, show nI x + 1 = nI (x + 1) from nI_1 x]
      exact go (some x) (nI (x + 1)) rfl (fun y hy => by cases hy; exact hx) rfl
    · rw [dec_out (by omega) hout, bz_f, if_pos rfl, if_pos rfl, if_neg hn]
      exact bad
