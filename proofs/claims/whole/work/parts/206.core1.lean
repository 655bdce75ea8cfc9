/-! ===== pure 7: the calls, one by one (in the words of 205) ===== -/
theorem ex_ite {c : Prop} [Decidable c] {x y : Option Int32} (hx : c → ∃ r, x = some r) (hy : ¬ c → ∃ r, y = some r) : ∃ r, (if c then x else y) = some r := by
  by_cases h : c
  · rw [if_pos h]; exact hx h
  · rw [if_neg h]; exact hy h
theorem co_rule {R Dn K SL : Nat} {a b : Nat → Nat} {bm per hs : Nat} {be : Option Nat} {hb on : Nat} {sg : Nat → Nat} {st : Nat} {ea : Bool} {g : Nat → Int32} (hO : PgO R Dn b bm per hs be hb on sg st) (hR : R ≤ 7) (hM : PgM Dn a b bm per hs be hb on sg st ea g 0) (p1 : Int32) : ∃ rr : Int32, f_X7_rule (nI per) (nI hs) (enc be) (nI hb) (nI st) (bz ea) (nI R) (nI Dn) (nI K) (nI SL) p1 = some rr ∧ f_X8_rule (nI R) (nI Dn) (nI SL) (nI K) g p1 = some rr := by
  obtain ⟨h1, h2, h3, h4, h5, h6, h7, h8, h9⟩ := hM
  simp only [Nat.zero_add] at h2 h3 h4 h5 h7 h8 h9
  obtain ⟨o1, o2, o3, o4, o5, o6, o7, o8, o9, o10⟩ := hO
  have e : f_X8_rule (nI R) (nI Dn) (nI SL) (nI K) g p1 = f_X7_rule (nI per) (nI hs) (enc be) (nI hb) (nI st) (bz ea) (nI R) (nI Dn) (nI K) (nI SL) p1 := by
    unfold f_X8_rule f_X7_rule
    rw [g30, g31, g33, g47, g48, k30, k31, k33, k47, k48, h2, h3, h5, h8, h9, m_beastNow h4 (fun x hx => by have := o8 x hx; omega), p_asNumber, ob1_s, ob1_s, show nI (per - 1) + 1 = nI (per - 1 + 1) from nI_1 _, show per - 1 + 1 = per by omega]
  rw [e]
  have : ∃ rr, f_X7_rule (nI per) (nI hs) (enc be) (nI hb) (nI st) (bz ea) (nI R) (nI Dn) (nI K) (nI SL) p1 = some rr := by
    unfold f_X7_rule
    rw [p_asNumber, ob1_s]
    repeat' (refine ex_ite (fun _ => ?_) (fun _ => ?_))
    all_goals exact ⟨_, rfl⟩
  obtain ⟨rr, h⟩ := this
  exact ⟨rr, h, h⟩
theorem m_in0 {x : Int32} {n : Nat} (hn : n < 2147483648) : f_X8_in x.toInt64 (0 : Int64) (nI n).toInt64 = some (bz (decide ((0 : Int32) ≤ x ∧ x ≤ nI n))) := m_in x 0 (nI n)
theorem dec_le {j n : Nat} (hj : j ≤ n) (hn : n < 2147483648) : decide ((0 : Int32) ≤ nI j ∧ nI j ≤ nI n) = true := by
  rw [decide_eq_true_iff, fa_le, fa_le, nI_toInt (by omega), nI_toInt hn]
  simp; omega
theorem dec_gt {x : Int32} {n : Nat} (hn : n < 2147483648) (h : x.toInt < 0 ∨ ((n + 1 : Nat) : Int) ≤ x.toInt) : decide ((0 : Int32) ≤ x ∧ x ≤ nI n) = false := by
  rw [decide_eq_false_iff_not, fa_le, fa_le, nI_toInt hn]
  simp; omega
/-- what the document calls of a door: 0, 1 its ends, 2 whether it is barred -/
theorem p_ofDoor {Dn bm : Nat} {a b : Nat → Nat} (hD : Dn ≤ 10) (hbm : bm < 2147483648) (p1 p2 : Int32) {g : Nat → Int32} {o : Nat} (h : hse g o Dn a b bm) : ∃ rr : Int32, f_X6_ofDoor (nI bm) (nI Dn) (rI a) (rI b) p1 p2 = some rr ∧ (rr = (if 0 ≤ p1 ∧ p1 < nI Dn ∧ 0 ≤ p2 ∧ p2 ≤ 2 then g (o + 3 * p1.toNatClampNeg + p2.toNatClampNeg) else -1)) := by
  unfold f_X6_ofDoor
  rw [p_hasDoor, ob1_s]
  rcases i32_in p1 Dn (by omega) with ⟨d, hd, rfl⟩ | hout
  · rw [dec_in hd (by omega), bz_t, if_neg (by decide), p_within, ob1_s]
    rcases i32_in p2 3 (by omega) with ⟨w, hw, rfl⟩ | hout2
    · have e1 : decide ((0 : Int32) ≤ nI w ∧ nI w ≤ 2) = true := dec_le (n := 2) (by omega) (by omega)
      rw [e1, bz_t, if_neg (by decide), p_isBarred hbm (by omega), ob1_s, p_asNumber, ob1_s, gin_k (by omega) (by omega), gin_k (by omega) (by omega), nI_cl (by omega), nI_cl (by omega)]
      have hc : 0 ≤ nI d ∧ nI d < nI Dn ∧ (0 : Int32) ≤ nI w ∧ nI w ≤ 2 := by
        have c1 := dec_in hd (show Dn < 2147483648 by omega)
        rw [decide_eq_true_iff] at c1
        rw [decide_eq_true_iff] at e1
        exact ⟨c1.1, c1.2, e1⟩
      rw [if_pos hc]
      obtain ⟨q1, q2, q3⟩ := h d hd
      rcases (show w = 0 ∨ w = 1 ∨ w = 2 by omega) with rfl | rfl | rfl
      · refine ⟨_, by rw [if_neg (show ¬ nI 0 = (2 : Int32) by decide), if_pos (show nI 0 = (0 : Int32) from rfl)], ?_⟩
        rw [Nat.add_zero, q1]; rfl
      · refine ⟨_, by rw [if_neg (show ¬ nI 1 = (2 : Int32) by decide), if_neg (show ¬ nI 1 = (0 : Int32) by decide)], ?_⟩
        rw [q2]; rfl
      · refine ⟨_, by rw [if_pos (show nI 2 = (2 : Int32) from rfl)], ?_⟩
        rw [q3]
    · have e1 : decide ((0 : Int32) ≤ p2 ∧ p2 ≤ 2) = false := dec_gt (n := 2) (by omega) hout2
      rw [e1, bz_f, if_pos rfl]
      refine ⟨_, rfl, ?_⟩
      rw [if_neg]
      intro q
      rw [decide_eq_false_iff_not] at e1
      exact e1 q.2.2
  · rw [dec_out (by omega) hout, bz_f, if_pos rfl]
    refine ⟨_, rfl, ?_⟩
    rw [if_neg]
    intro q
    have e1 := dec_out (show Dn < 2147483648 by omega) hout
    rw [decide_eq_false_iff_not] at e1
    exact e1 ⟨q.1, q.2.1⟩
theorem co_door {Dn bm : Nat} {a b : Nat → Nat} {g : Nat → Int32} (hD : Dn ≤ 10) (hbm : bm < 2147483648) (h : hse g 0 Dn a b bm) (p1 p2 : Int32) : ∃ rr : Int32, f_X7_door (nI bm) (rI b) (nI Dn) (rI a) p1 p2 = some rr ∧ f_X8_door (nI Dn) g p1 p2 = some rr := by
  obtain ⟨rr, e, er⟩ := p_ofDoor hD hbm p1 p2 h
  refine ⟨rr, by unfold f_X7_door; rw [e, ob1_s], ?_⟩
  unfold f_X8_door
  rw [m_isDoor p1 (by omega), ob1_s, er]
  rcases i32_in p1 Dn (by omega) with ⟨d, hd, rfl⟩ | hout
  · rw [dec_in hd (by omega), bz_t, if_neg (by decide), show (0 : Int64) = (0 : Int32).toInt64 from rfl, show (2 : Int64) = (2 : Int32).toInt64 from rfl, m_in, ob1_s]
    rcases i32_in p2 3 (by omega) with ⟨w, hw, rfl⟩ | hout2
    · have e1 : decide ((0 : Int32) ≤ nI w ∧ nI w ≤ 2) = true := dec_le (n := 2) (by omega) (by omega)
      rw [e1, bz_t, if_neg (by decide), i3, nI_add, gin_k (by omega) (by omega), nI_cl (by omega), nI_cl (by omega), nI_cl (by omega)]
      have hc : 0 ≤ nI d ∧ nI d < nI Dn ∧ (0 : Int32) ≤ nI w ∧ nI w ≤ 2 := by
        have c1 := dec_in hd (show Dn < 2147483648 by omega)
        rw [decide_eq_true_iff] at c1
        rw [decide_eq_true_iff] at e1
        exact ⟨c1.1, c1.2, e1⟩
      rw [if_pos hc, Nat.zero_add]
    · have e1 : decide ((0 : Int32) ≤ p2 ∧ p2 ≤ 2) = false := dec_gt (n := 2) (by omega) hout2
      rw [e1, bz_f, if_pos rfl, if_neg]
      intro q
      rw [decide_eq_false_iff_not] at e1
      exact e1 q.2.2
  · rw [dec_out (by omega) hout, bz_f, if_pos rfl, if_neg]
    intro q
    have e1 := dec_out (show Dn < 2147483648 by omega) hout
    rw [decide_eq_false_iff_not] at e1
    exact e1 ⟨q.1, q.2.1⟩
theorem co_law {K Dn : Nat} {rl : Nat → Nat} {lw : Nat → Int32} (hK : K ≤ 6) (hl : lwr lw K rl) (hok : ∀ k, k < K → lok Dn (rl k)) (p1 : Int32) : ∃ rr : Int32, f_X7_law (nI K) (rI rl) p1 = some rr ∧ f_X8_law (nI K) lw p1 = some rr := by
  unfold f_X7_law f_X8_law
  rw [show (0 : Int64) = (0 : Int32).toInt64 from rfl, m_in, p_within, dec_lt (by omega), ob1_s, ob1_s]
  rcases i32_in p1 K (by omega) with ⟨k, hk, rfl⟩ | hout
  · rw [dec_in hk (by omega), bz_t, if_neg (by decide), if_neg (by decide)]
    obtain ⟨z1, z2, z3⟩ := hl k hk
    obtain ⟨l1, l2, l3⟩ := hok k hk
    rw [gin_k (by omega) (by omega), nI_cl (by omega), i3, show nI (3 * k) + 1 = nI (3 * k + 1) from nI_1 _, show nI (3 * k) + 2 = nI (3 * k + 2) from nI_add _ 2, gin_k (by omega) (by omega), bnd_s, gin_k (by omega) (by omega), gin_k (by omega) (by omega), gin_k (by omega) (by omega), nI_cl (by omega), nI_cl (by omega), nI_cl (by omega), z1, z2]
    refine ⟨_, rfl, ?_⟩
    rw [rI_at]
    by_cases h2 : rl k < 200
    · rw [if_neg (show ¬ nI (rl k / 100) = (2 : Int32) from fun e => by have := nI_inj (b := 2) (by omega) (by omega) e; omega), z3 h2]
      rw [show (100 : Int32) * nI (rl k / 100) = nI (100 * (rl k / 100)) from pk_mul 100 _, show (10 : Int32) * nI (ld (rl k)) = nI (10 * ld (rl k)) from pk_mul 10 _, nI_add, nI_add]
      have : ld (rl k) = rl k / 10 % 10 := by unfold ld; rw [if_pos h2]
      rw [this]
      congr 2
      omega
    · rw [if_pos (show nI (rl k / 100) = (2 : Int32) by rw [show rl k / 100 = 2 by omega]; rfl)]
      rw [show (100 : Int32) * nI (rl k / 100) = nI (100 * (rl k / 100)) from pk_mul 100 _, nI_add]
      have : ld (rl k) = rl k % 10 := by unfold ld; rw [if_neg h2]
      rw [this]
      congr 2
      omega
  · rw [dec_out (by omega) hout, bz_f, if_pos rfl, if_pos rfl]
    exact ⟨_, rfl, rfl⟩
theorem co_doors {R Dn bm : Nat} {a b : Nat → Nat} {g : Nat → Int32} (hR : R ≤ 7) (hD : Dn ≤ 10) (hbm : bm < 2147483648) (h7a : lt7 a) (h7 : lt7 b) (h : hse g 0 Dn a b bm) (p1 : Int32) : ∃ rr : Int32, f_X7_doors (nI bm) (rI b) (nI R) (nI Dn) (rI a) p1 = some rr ∧ f_X8_doors (nI R) (nI Dn) g p1 = some rr := by
  unfold f_X7_doors f_X8_doors
  rw [p_hasRoom, m_isRoom p1 (by omega), ob1_s, ob1_s]
  rcases i32_in p1 R (by omega) with ⟨x, hx, rfl⟩ | hout
  · rw [dec_in hx (by omega), bz_t, if_neg (by decide), if_neg (by decide), p_opn hbm hD h7a h7 (by omega), ob1_s, show (0 : Int32) = nI 0 from rfl, m_leading h hD (by omega) (by omega) h7a h7 (by omega), ob1_s]
    exact ⟨_, rfl, rfl⟩
  · rw [dec_out (by omega) hout, bz_f, if_pos rfl, if_pos rfl]
    exact ⟨_, rfl, rfl⟩
theorem co_thread {on : Nat} {sg : Nat → Nat} {g : Nat → Int32} (hon : on ≤ 12) (h1 : g 46 = nI on) (h2 : ∀ i, i < on → g (34 + i) = nI (sg i)) (p1 : Int32) : ∃ rr : Int32, f_X7_thread (nI on) (rI sg) p1 = some rr ∧ f_X8_thread g p1 = some rr := by
  unfold f_X7_thread f_X8_thread
  rw [g46, k46, h1]
  by_cases h0 : (0 : Int32) ≤ p1
  · rw [if_pos h0, if_pos h0]
    by_cases h : nI on ≤ p1
    · rw [if_pos h, if_pos h]; exact ⟨_, rfl, rfl⟩
    · rw [if_neg h, if_neg h]
      have h0' := (fa_le _ _).mp h0
      have h' : ¬ (nI on).toInt ≤ p1.toInt := fun q => h ((fa_le _ _).mpr q)
      rw [nI_toInt (by omega)] at h'
      rcases i32_in p1 on (by omega) with ⟨i, hi, rfl⟩ | hout
      · rw [gin_k (by omega) (by omega), nI_cl (by omega), show (34 : Int32) + nI i = nI (34 + i) from nI_add 34 i, gin_k (by omega) (by omega), nI_cl (by omega), h2 i hi]
        exact ⟨_, rfl, rfl⟩
      · exfalso
        simp at h0'
        omega
  · rw [if_neg h0, if_neg h0]; exact ⟨_, rfl, rfl⟩
