/-! ===== pure 13: leads, see, forget, hear, hush, end ===== -/
theorem sub_m1 (x : Int32) : x + (-1) = x - 1 := (Int32.sub_eq_add_neg x 1).symm
theorem leads_loop {Dn bm on : Nat} {a b sg : Nat → Nat} {g : Nat → Int32} (hD : Dn ≤ 10) (hbm : bm < 2147483648) (h7a : lt7 a) (h7 : lt7 b) (hon : on ≤ 12) (hg : hse g 0 Dn a b bm) (h6 : ∀ i, i < on → g (34 + i) = nI (sg i)) (hsg : ∀ i, i < on → sg i < Dn) (p1 : Int32) : ∀ (i n x : Nat), i ≤ on → x < 7 → i < n → ∃ o, itr (un2 (b_X7_leads_29 (nI bm) (rI b) (rI sg) (nI Dn) (rI a) p1)) n (nI x, nI i - 1) = some o ∧ itr (un2 (b_X8_leads_30 g p1)) n (nI x, nI i - 1) = some o := by
  intro i
  induction i with
  | zero =>
    intro n x _ hx hn
    obtain ⟨n, rfl⟩ : ∃ m, n = m + 1 := ⟨n - 1, by omega⟩
    rw [itr, itr, un2_s, un2_s]
    unfold b_X7_leads_29 b_X8_leads_30
    rw [if_pos (show nI 0 - 1 < (0 : Int32) by decide)]
    exact ⟨_, rfl, rfl⟩
  | succ i ih =>
    intro n x hi hx hn
    obtain ⟨n, rfl⟩ : ∃ m, n = m + 1 := ⟨n - 1, by omega⟩
    have hd := hsg i (by omega)
    rw [itr, itr, un2_s, un2_s, show nI (i + 1) - 1 = nI i from nI_pred i]
    unfold b_X7_leads_29 b_X8_leads_30
    have hneg : ¬ nI i < (0 : Int32) := nI_nlt (a := i) (b := 0) (by omega) (by omega)
    rw [if_neg hneg, if_neg hneg, gin_k (by omega) (by omega), show (34 : Int32) + nI i = nI (34 + i) from nI_add 34 i, gin_k (by omega) (by omega), nI_cl (by omega), nI_cl (by omega), h6 i (by omega), rI_at, show (0 : Int32) = nI 0 from rfl, m_leadsTo hg hD hd (by omega) (by omega) h7a h7 (by omega), p_across hbm hD hd (rI_row a Dn) (rI_row b Dn) (fun d _ => by have := h7a d; omega) (fun d _ => by have := h7 d; omega) (by omega), ob1_s]
    cases hl : lead a b bm (sg i) x with
    | none =>
      rw [if_pos (show enc none = (-4 : Int32) from rfl)]
      by_cases hp : p1 = nI 0
      · rw [if_pos hp]; exact ⟨_, rfl, rfl⟩
      · rw [if_neg hp]; exact ⟨_, rfl, rfl⟩
    | some y =>
      have hy := lead_lt h7a h7 hl
      rw [if_neg (show ¬ enc (some y) = (-4 : Int32) from ne4 (by omega)), bnd_s, sub_m1]
      exact ih n y (by omega) hy (by omega)
theorem co_leads {Dn bm on hs : Nat} {a b sg : Nat → Nat} {g : Nat → Int32} (hD : Dn ≤ 10) (hbm : bm < 2147483648) (h7a : lt7 a) (h7 : lt7 b) (hon : on ≤ 12) (hhs : hs < 7) (hg : hse g 0 Dn a b bm) (h31 : g 31 = nI hs) (h46 : g 46 = nI on) (h6 : ∀ i, i < on → g (34 + i) = nI (sg i)) (hsg : ∀ i, i < on → sg i < Dn) (p1 : Int32) : ∃ rr : Int32, f_X7_leads (nI bm) (nI hs) (nI on) (rI b) (rI sg) (nI Dn) (rI a) p1 = some rr ∧ f_X8_leads g p1 = some rr := by
  unfold f_X7_leads f_X8_leads
  rw [show (0 : Int64) = (0 : Int32).toInt64 from rfl, show (1 : Int64) = (1 : Int32).toInt64 from rfl, m_in, p_within, ob1_s, ob1_s]
  by_cases hc : (0 : Int32) ≤ p1 ∧ p1 ≤ 1
  · rw [decide_eq_true hc, bz_t, if_neg n10, if_neg n10, g31, bnd_s, bnd_s, g46, k31, k46, h31, h46, bnd_s]
    obtain ⟨o, e1, e2⟩ := leads_loop hD hbm h7a h7 hon hg h6 hsg p1 on FU hs (Nat.le_refl on) hhs (by unfold FU; omega)
    rw [e1, e2]
    rcases o with r | ⟨x, y⟩
    · rw [obm2_r]; exact ⟨_, rfl, rfl⟩
    · rw [obm2_s]
      by_cases hp : p1 = 0
      · rw [if_pos hp]; exact ⟨_, rfl, rfl⟩
      · rw [if_neg hp]; exact ⟨_, rfl, rfl⟩
  · rw [decide_eq_false hc, bz_f, if_pos rfl, if_pos rfl]
    exact ⟨_, rfl, rfl⟩
theorem i32_1 {p1 : Int32} {n : Nat} (hn : n < 1000) (h1 : (1 : Int32) ≤ p1) (h2 : p1 ≤ nI n) : ∃ v, 1 ≤ v ∧ v ≤ n ∧ p1 = nI v := by
  have c1 := (fa_le _ _).mp h1
  have c2 := (fa_le _ _).mp h2
  rw [nI_toInt (by omega)] at c2
  have e1 : (1 : Int32).toInt = 1 := by decide
  rcases i32_in p1 (n + 1) (by omega) with ⟨v, hv, rfl⟩ | hout
  · rw [nI_toInt (by omega)] at c1
    exact ⟨v, by omega, by omega, rfl⟩
  · exfalso; omega
theorem co_see {R Dn : Nat} {size many : Int32} {times subjects values seen : Nat → Int32} (hR : R ≤ 7) (hD : Dn ≤ 10) (h : SnR R Dn size times subjects values seen many) (p1 p2 p3 : Int32) : ∃ (rr size' : Int32) (sb' tm' vl' : Nat → Int32) (many' : Int32) (seen' : Nat → Int32), f_X7_see (nI R) (nI Dn) size subjects times values p1 p2 p3 = some (rr, size', sb', tm', vl') ∧ f_X8_see (nI R) (nI Dn) many seen p1 p2 p3 = some (rr, many', seen') ∧ SnR R Dn size' tm' sb' vl' seen' many' := by
  have h' := h
  obtain ⟨n, tm, sb, vl, hn, rfl, rfl, hh⟩ := h
  unfold f_X7_see f_X8_see
  rw [show (1 : Int64) = (1 : Int32).toInt64 from rfl, show (6 : Int64) = (6 : Int32).toInt64 from rfl, m_in, p_within, ob1_s, ob1_s, m_isDoor p2 (by omega), p_hasDoor, m_isRoom p3 (by omega), p_hasRoom, ob1_s, ob1_s, ob1_s, ob1_s]
  by_cases hc : (1 : Int32) ≤ p1 ∧ p1 ≤ 6
  · rw [decide_eq_true hc, bz_t, if_neg n10, if_neg n10]
    obtain ⟨v, hv1, hv2, rfl⟩ := i32_1 (n := 6) (by omega) hc.1 hc.2
    rcases i32_in p2 Dn (by omega) with ⟨d, hd, rfl⟩ | hout
    · rw [dec_in hd (by omega), bz_t, if_neg n10, if_neg n10]
      rcases i32_in p3 R (by omega) with ⟨x, hx, rfl⟩ | hout3
      · rw [dec_in hx (by omega), bz_t, if_neg n10, if_neg n10]
        unfold f_X0_add
        by_cases h6 : n < 6
        · rw [if_pos (show nI n < 6 from nI_lt (b := 6) h6 (by omega)), gin_k h6 (by omega), bnd_s, gin_k h6 (by omega), bnd_s, gin_k h6 (by omega), bnd_s, bnd_s, ob5_s, if_neg n10, nI_cl (by omega), if_neg (show ¬ nI n = (6 : Int32) from fun e => by have := nI_inj (b := 6) (by omega) (by omega) e; omega)]
          rw [i3, show nI (3 * n) + 1 = nI (3 * n + 1) from nI_1 _, show nI (3 * n) + 2 = nI (3 * n + 2) from nI_add _ 2, gin_k (by omega) (by omega), bnd_s, gin_k (by omega) (by omega), bnd_s, gin_k (by omega) (by omega), bnd_s, bnd_s, nI_cl (by omega), nI_cl (by omega), nI_cl (by omega), show nI n + 1 = nI (n + 1) from nI_1 n]
          refine ⟨_, _, _, _, _, _, _, rfl, rfl, n + 1, updN tm n v, updN sb n d, updN vl n x, by omega, rfl, rfl, ?_⟩
          intro i hi
          unfold updN
          by_cases c : i = n
          · subst c
            rw [pk_us, pk_us, pk_us, pk_un (by omega), pk_un (by omega), pk_us, pk_un (by omega), pk_us, pk_us]
            simp only [if_true]
            exact ⟨trivial, trivial, trivial, trivial, trivial, trivial, hv1, hv2, hd, hx⟩
          · rw [pk_un c, pk_un c, pk_un c, pk_un (by omega), pk_un (by omega), pk_un (by omega), pk_un (by omega), pk_un (by omega), pk_un (by omega), pk_un (by omega), pk_un (by omega), pk_un (by omega)]
            simp only [if_neg c]
            exact hh i (by omega)
        · rw [if_neg (show ¬ nI n < 6 from nI_nlt (b := 6) (by omega) (by omega)), ob5_s, if_pos rfl, if_pos (show nI n = (6 : Int32) by rw [show n = 6 by omega]; rfl)]
          exact ⟨_, _, _, _, _, _, _, rfl, rfl, h'⟩
      · rw [dec_out (by omega) hout3, bz_f, if_pos rfl, if_pos rfl]
        exact ⟨_, _, _, _, _, _, _, rfl, rfl, h'⟩
    · rw [dec_out (by omega) hout, bz_f, if_pos rfl, if_pos rfl]
      exact ⟨_, _, _, _, _, _, _, rfl, rfl, h'⟩
  · rw [decide_eq_false hc, bz_f, if_pos rfl, if_pos rfl]
    exact ⟨_, _, _, _, _, _, _, rfl, rfl, h'⟩
theorem co_hear {R : Nat} {size many : Int32} {times subjects values heard : Nat → Int32} (hR : R ≤ 7) (h : HdR R size times subjects values heard many) (p1 p2 : Int32) (q : Bool) : ∃ (rr size' : Int32) (sb' tm' vl' : Nat → Int32) (many' : Int32) (heard' : Nat → Int32), f_X7_hear size subjects times values (nI R) p1 p2 (bz q) = some (rr, size', sb', tm', vl') ∧ f_X8_hear (nI R) many heard p1 p2 (bz q) = some (rr, many', heard') ∧ HdR R size' tm' sb' vl' heard' many' := by
  have h' := h
  obtain ⟨n, tm, sb, vl, hn, rfl, rfl, hh⟩ := h
  unfold f_X7_hear f_X8_hear
  rw [show (1 : Int64) = (1 : Int32).toInt64 from rfl, show (12 : Int64) = (12 : Int32).toInt64 from rfl, m_in, p_within, ob1_s, ob1_s, m_isRoom p2 (by omega), p_hasRoom, ob1_s, ob1_s, p_asNumber, ob1_s]
  by_cases hc : (1 : Int32) ≤ p1 ∧ p1 ≤ 12
  · rw [decide_eq_true hc, bz_t, if_neg n10, if_neg n10]
    obtain ⟨v, hv1, hv2, rfl⟩ := i32_1 (n := 12) (by omega) hc.1 hc.2
    rcases i32_in p2 R (by omega) with ⟨x, hx, rfl⟩ | hout
    · rw [dec_in hx (by omega), bz_t, if_neg n10, if_neg n10]
      unfold f_X0_add
      by_cases h6 : n < 6
      · rw [if_pos (show nI n < 6 from nI_lt (b := 6) h6 (by omega)), gin_k h6 (by omega), bnd_s, gin_k h6 (by omega), bnd_s, gin_k h6 (by omega), bnd_s, bnd_s, ob5_s, if_neg n10, nI_cl (by omega), if_neg (show ¬ nI n = (6 : Int32) from fun e => by have := nI_inj (b := 6) (by omega) (by omega) e; omega)]
        rw [i3, show nI (3 * n) + 1 = nI (3 * n + 1) from nI_1 _, show nI (3 * n) + 2 = nI (3 * n + 2) from nI_add _ 2, gin_k (by omega) (by omega), bnd_s, gin_k (by omega) (by omega), bnd_s, jn1_s, nI_cl (by omega), nI_cl (by omega), nI_cl (by omega), show nI n + 1 = nI (n + 1) from nI_1 n]
        have e0 : (if bz q = 0 then (gin (nI (3 * n + 2)) 18 (bnd (upd (upd (upd heard (3 * n) (nI v)) (3 * n + 1) (nI x)) (3 * n + 2) 0) fun t_heard_15 => bnd (nI (n + 1)) fun t_heardMany_16 => some (t_heardMany_16, t_heardMany_16, t_heard_15))) else (gin (nI (3 * n + 2)) 18 (bnd (upd (upd (upd heard (3 * n) (nI v)) (3 * n + 1) (nI x)) (3 * n + 2) 1) fun t_heard_15 => bnd (nI (n + 1)) fun t_heardMany_16 => some (t_heardMany_16, t_heardMany_16, t_heard_15)))) = some (nI (n + 1), nI (n + 1), upd (upd (upd heard (3 * n) (nI v)) (3 * n + 1) (nI x)) (3 * n + 2) (bz q)) := by
          cases q with
          | true => rw [bz_t, if_neg n10, gin_k (by omega) (by omega), bnd_s, bnd_s]
          | false => rw [bz_f, if_pos rfl, gin_k (by omega) (by omega), bnd_s, bnd_s]
        rw [e0]
        refine ⟨_, _, _, _, _, _, _, rfl, rfl, n + 1, updN tm n v, updN sb n x, (fun i => if i = n then q else vl i), by omega, rfl, rfl, ?_⟩
        intro i hi
        unfold updN
        by_cases c : i = n
        · subst c
          rw [pk_us, pk_us, pk_us, pk_un (by omega), pk_un (by omega), pk_us, pk_un (by omega), pk_us, pk_us]
          simp only [if_true]
          exact ⟨trivial, trivial, trivial, trivial, trivial, trivial, hv1, hv2, hx⟩
        · rw [pk_un c, pk_un c, pk_un c, pk_un (by omega), pk_un (by omega), pk_un (by omega), pk_un (by omega), pk_un (by omega), pk_un (by omega), pk_un (by omega), pk_un (by omega), pk_un (by omega)]
          simp only [if_neg c]
          exact hh i (by omega)
      · rw [if_neg (show ¬ nI n < 6 from nI_nlt (b := 6) (by omega) (by omega)), ob5_s, if_pos rfl, if_pos (show nI n = (6 : Int32) by rw [show n = 6 by omega]; rfl)]
        exact ⟨_, _, _, _, _, _, _, rfl, rfl, h'⟩
    · rw [dec_out (by omega) hout, bz_f, if_pos rfl, if_pos rfl]
      exact ⟨_, _, _, _, _, _, _, rfl, rfl, h'⟩
  · rw [decide_eq_false hc, bz_f, if_pos rfl, if_pos rfl]
    exact ⟨_, _, _, _, _, _, _, rfl, rfl, h'⟩
theorem co_cut {n : Nat} (hn : n < 1000) (p1 : Int32) : ∃ (rr : Int32) (m : Nat), m ≤ n ∧ f_X0_keepFirst (nI n) p1 = some (rr, nI m) ∧ f_X8_forget (nI n) p1 = some (rr, nI m) ∧ f_X8_hush (nI n) p1 = some (rr, nI m) ∧ f_X7_end (nI n) p1 = some (rr, nI m) ∧ f_X8_end (nI n) p1 = some (rr, nI m) := by
  unfold f_X0_keepFirst f_X8_forget f_X8_hush f_X7_end f_X8_end
  rw [m_in0 (by omega), p_within]
  simp only [ob1_s]
  rcases i32_in p1 (n + 1) (by omega) with ⟨v, hv, rfl⟩ | hout
  · rw [dec_le (by omega) (by omega), bz_t, if_neg n10]
    exact ⟨nI n, v, by omega, rfl, rfl, rfl, rfl, rfl⟩
  · rw [dec_gt (by omega) hout, bz_f, if_pos rfl]
    exact ⟨-1, n, Nat.le_refl n, rfl, rfl, rfl, rfl, rfl⟩
theorem co_forget {R Dn : Nat} {size many : Int32} {times subjects values seen : Nat → Int32} (h : SnR R Dn size times subjects values seen many) (p1 : Int32) : ∃ (rr size' many' : Int32), f_X7_forget size p1 = some (rr, size') ∧ f_X8_forget many p1 = some (rr, many') ∧ SnR R Dn size' times subjects values seen many' := by
  obtain ⟨n, tm, sb, vl, hn, rfl, rfl, hh⟩ := h
  obtain ⟨rr, m, hm, e1, e2, e3, e4, e5⟩ := co_cut (n := n) (by omega) p1
  unfold f_X7_forget
  rw [e1, ob2_s]
  exact ⟨rr, _, _, rfl, e2, m, tm, sb, vl, by omega, rfl, rfl, fun i hi => hh i (by omega)⟩
theorem co_hush {R : Nat} {size many : Int32} {times subjects values heard : Nat → Int32} (h : HdR R size times subjects values heard many) (p1 : Int32) : ∃ (rr size' many' : Int32), f_X7_hush size p1 = some (rr, size') ∧ f_X8_hush many p1 = some (rr, many') ∧ HdR R size' times subjects values heard many' := by
  obtain ⟨n, tm, sb, vl, hn, rfl, rfl, hh⟩ := h
  obtain ⟨rr, m, hm, e1, e2, e3, e4, e5⟩ := co_cut (n := n) (by omega) p1
  unfold f_X7_hush
  rw [e1, ob2_s]
  exact ⟨rr, _, _, rfl, e3, m, tm, sb, vl, by omega, rfl, rfl, fun i hi => hh i (by omega)⟩
theorem co_end {len taped : Int32} {tape mtape : Nat → Int32} (h : TpR len tape mtape taped) (p1 : Int32) : ∃ (rr len' taped' : Int32), f_X7_end len p1 = some (rr, len') ∧ f_X8_end taped p1 = some (rr, taped') ∧ TpR len' tape mtape taped' := by
  obtain ⟨n, hn, rfl, rfl, hh⟩ := h
  obtain ⟨rr, m, hm, e1, e2, e3, e4, e5⟩ := co_cut (n := n) (by omega) p1
  exact ⟨rr, _, _, e4, e5, m, by omega, rfl, rfl, fun i hi => hh i (by omega)⟩
