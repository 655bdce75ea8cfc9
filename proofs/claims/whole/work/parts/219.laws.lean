/-! ===== pure 19: laws that fit ===== -/
def isL (R Dn L : Nat) : Bool := if L < 100 then decide (ld L < Dn) && decide (L % 10 < Dn) && decide (ld L < L % 10) else if L < 200 then decide (ld L < Dn) && decide (1 ≤ L % 10 ∧ L % 10 < R) else decide (ld L < Dn)
theorem isL_ok {R Dn L : Nat} (hL : L < 210) (h : isL R Dn L = true) : lok Dn L := by
  unfold isL at h
  by_cases h1 : L < 100
  · rw [if_pos h1] at h
    simp only [Bool.and_eq_true, decide_eq_true_eq] at h
    exact ⟨hL, h.1.1, fun _ => h.1.2⟩
  · rw [if_neg h1] at h
    by_cases h2 : L < 200
    · rw [if_pos h2] at h
      simp only [Bool.and_eq_true, decide_eq_true_eq] at h
      exact ⟨hL, h.1, fun q => absurd q h1⟩
    · rw [if_neg h2] at h
      simp only [decide_eq_true_eq] at h
      exact ⟨hL, h, fun q => absurd q h1⟩
theorem dec_nI {d n : Nat} (hd : d < 1000) (hn : n < 1000) : decide ((0 : Int32) ≤ nI d ∧ nI d < nI n) = decide (d < n) := by
  by_cases h : d < n
  · rw [dec_in h (by omega), decide_eq_true h]
  · rw [dec_out (by omega) (by rw [nI_toInt (by omega)]; omega), decide_eq_false h]
theorem dec_1 {d n : Nat} (hd : d < 1000) (hn : n < 1000) : decide ((1 : Int32) ≤ nI d ∧ nI d ≤ nI n - 1) = decide (1 ≤ d ∧ d < n) := by
  rw [decide_eq_decide, fa_le, fa_le, pred_int (by omega), nI_toInt (by omega)]
  have e1 : (1 : Int32).toInt = 1 := by decide
  omega
theorem bz_ite (b : Bool) : (if bz b = 0 then some (0 : Int32) else some 1) = some (bz b) := by cases b <;> rfl
theorem bz_and (b c : Bool) : (if bz b = 0 then some (0 : Int32) else if bz c = 0 then some 0 else some 1) = some (bz (b && c)) := by cases b <;> cases c <;> rfl
theorem p_isLaw {R Dn L : Nat} (hR : R ≤ 7) (hD : Dn ≤ 10) (hL : L < 210) : f_X2_isLaw (nI R) (nI Dn) (nI L) = some (bz (isL R Dn L)) := by
  have hd := ld_lt L
  have hm : L % 10 < 10 := Nat.mod_lt _ (by decide)
  unfold f_X2_isLaw f_X2_hasDoorsOf isL
  rw [p_first L hL, p_second L hL]
  simp only [ob1_s, p_hasDoor, p_within, gbl_b, dec_nI (show ld L < 1000 by omega) (show Dn < 1000 by omega), dec_nI (show L % 10 < 1000 by omega) (show Dn < 1000 by omega), dec_1 (show L % 10 < 1000 by omega) (show R < 1000 by omega)]
  by_cases h1 : L < 100
  · rw [if_pos h1, if_neg (show ¬ (100 : Int32) ≤ nI L from nI_ge (b := 100) h1 (by omega)), if_pos (show nI L < 200 from nI_lt (b := 200) (by omega) (by omega)), if_pos (show nI L < 100 from nI_lt (b := 100) h1 (by omega)), bz_and, ob1_s]
    by_cases hc : ld L < L % 10
    · rw [if_neg (nI_ge hc (by omega)), decide_eq_true hc, Bool.and_true]
      cases (decide (ld L < Dn) && decide (L % 10 < Dn)) <;> rfl
    · rw [if_pos (nI_le (by omega) (by omega)), decide_eq_false hc, Bool.and_false]
      cases (decide (ld L < Dn) && decide (L % 10 < Dn)) <;> rfl
  · rw [if_neg h1, if_pos (show (100 : Int32) ≤ nI L from nI_le (a := 100) (by omega) (by omega)), bz_ite, ob1_s]
    by_cases h2 : L < 200
    · rw [if_pos h2, if_pos (show nI L < 200 from nI_lt (b := 200) h2 (by omega)), if_neg (show ¬ nI L < 100 from nI_nlt (b := 100) (by omega) (by omega))]
      cases decide (ld L < Dn) <;> rfl
    · rw [if_neg h2, if_neg (show ¬ nI L < 200 from nI_nlt (b := 200) (by omega) (by omega))]
      exact bz_ite _
theorem d10 : ∀ L, L < 210 → nI L / 10 = nI (L / 10) := by decide +kernel
theorem d100 : ∀ L, L < 210 → nI L / 100 = nI (L / 100) := by decide +kernel
theorem r10 {L : Nat} (hL : L < 210) : nI L - nI L / 10 * 10 = nI (L % 10) := pk_rem (d := 10) (by omega) (by omega) (by omega)
theorem rr10 {L : Nat} (hL : L < 210) : nI L / 10 - nI L / 10 / 10 * 10 = nI (L / 10 % 10) := by rw [d10 L hL]; exact pk_rem (d := 10) (by omega) (by omega) (by omega)
theorem m_isLaw {R Dn L : Nat} (hR : R ≤ 7) (hD : Dn ≤ 10) (hL : L < 210) : f_X8_isLaw (nI R) (nI Dn) (nI L) = some (bz (isL R Dn L)) := by
  have hm : L % 10 < 10 := Nat.mod_lt _ (by decide)
  have hm2 : L / 10 % 10 < 10 := Nat.mod_lt _ (by decide)
  unfold f_X8_isLaw isL
  rw [rr10 hL, r10 hL, bnd_s, bnd_s]
  simp only [m_isDoor _ (show Dn < 2147483648 by omega), ob1_s, gbl_b, dec_nI (show L / 10 % 10 < 1000 by omega) (show Dn < 1000 by omega), dec_nI (show L % 10 < 1000 by omega) (show Dn < 1000 by omega), show (1 : Int64) = (1 : Int32).toInt64 from rfl, m_in, dec_1 (show L % 10 < 1000 by omega) (show R < 1000 by omega)]
  by_cases h1 : L < 100
  · have e : ld L = L / 10 % 10 := by unfold ld; rw [if_pos (by omega)]
    rw [if_pos h1, if_neg (show ¬ (100 : Int32) ≤ nI L from nI_ge (b := 100) h1 (by omega)), e]
    by_cases hc : L / 10 % 10 < L % 10
    · rw [if_neg (nI_ge hc (by omega)), decide_eq_true hc, Bool.and_true, bz_and]
    · rw [if_pos (nI_le (by omega) (by omega)), decide_eq_false hc, Bool.and_false]
      cases decide (L / 10 % 10 < Dn) <;> cases decide (L % 10 < Dn) <;> rfl
  · rw [if_neg h1, if_pos (show (100 : Int32) ≤ nI L from nI_le (a := 100) (by omega) (by omega))]
    by_cases h2 : L < 200
    · have e : ld L = L / 10 % 10 := by unfold ld; rw [if_pos h2]
      rw [if_pos h2, if_neg (show ¬ (200 : Int32) ≤ nI L from nI_ge (b := 200) h2 (by omega)), e, bz_and]
    · have e : ld L = L % 10 := by unfold ld; rw [if_neg h2]
      rw [if_neg h2, if_pos (show (200 : Int32) ≤ nI L from nI_le (a := 200) (by omega) (by omega)), e]
def lwn (R L : Nat) : Nat → (Nat → Nat) × Nat → (Nat → Nat) × Nat
  | 0, w => w
  | n + 1, w => chg R L (lwn R L n w)
theorem Wok_lwn {R Dn L : Nat} {w : (Nat → Nat) × Nat} (hD : Dn ≤ 10) (hL : lok Dn L) (hR : 0 < R) (hR7 : R ≤ 7) (h : Wok R Dn w) (i : Nat) : Wok R Dn (lwn R L i w) := by
  induction i with
  | zero => exact h
  | succ i ih => exact Wok_chg hD hL hR hR7 ih
def allF (p : Nat → Bool) : Nat → Nat → Bool
  | _, 0 => true
  | i, r + 1 => p i && allF p (i + 1) r
theorem allF_iff {p : Nat → Bool} : ∀ {r i : Nat}, allF p i r = true ↔ ∀ j, i ≤ j → j < i + r → p j = true := by
  intro r
  induction r with
  | zero => intro i; simp only [allF, true_iff]; intro j h1 h2; omega
  | succ r ih =>
    intro i
    rw [allF, Bool.and_eq_true, ih]
    constructor
    · rintro ⟨h1, h2⟩ j h3 h4
      by_cases e : j = i
      · rw [e]; exact h1
      · exact h2 j (by omega) (by omega)
    · intro h
      exact ⟨h i (Nat.le_refl i) (by omega), fun j h1 h2 => h j (by omega) (by omega)⟩
/-- whether a law is as seen -/
def fitB (R Dn n : Nat) (tm sb vl : Nat → Nat) (w : (Nat → Nat) × Nat) (L : Nat) : Bool := isL R Dn L && allF (fun i => (lwn R L (tm i) w).1 (sb i) == vl i) 0 n
theorem p_isAsSeen {n t : Nat} {tm sb vl b1 : Nat → Nat} {times subjects values : Nat → Int32} (hn : n ≤ 6) (h7 : lt7 b1) (hh : ∀ i, i < n → times i = nI (tm i) ∧ subjects i = nI (sb i) ∧ values i = nI (vl i) ∧ tm i ≤ 6 ∧ sb i < 10 ∧ vl i < 7) (ht : t ≤ 6) : f_X7_isAsSeen (rI b1) (nI n) subjects times values (nI t) = some (bz (ff (fun i => tm i == t && !(b1 (sb i) == vl i)) n).isNone) := by
  unfold f_X7_isAsSeen
  have h := itr_first (step := un1 (b_X7_isAsSeen_2 (rI b1) (nI n) subjects times values (nI t))) (fun i => tm i == t && !(b1 (sb i) == vl i)) nI n (fun _ => (0 : Int32)) (nI n) ?_ ?_ ?_ FU (by unfold FU; omega)
  · rw [show (0 : Int32) = nI 0 from rfl] at *
    rw [h]
    cases ff (fun i => tm i == t && !(b1 (sb i) == vl i)) n <;> rfl
  · intro i hi hp
    obtain ⟨z1, z2, z3, z4, z5, z6⟩ := hh i hi
    rw [un1_s]
    unfold b_X7_isAsSeen_2
    rw [if_neg (nI_ge hi (by omega)), gin_k (by omega) (by omega), jn0_s, bnd_s, nI_cl (by omega), z1, z2, z3, show nI i + 1 = nI (i + 1) from nI_1 i]
    by_cases hc : tm i = t
    · rw [if_pos (by rw [hc]), gin_k (by omega) (by omega), gin_k (by omega) (by omega), gin_k (by omega) (by omega), nI_cl (by omega), rI_at]
      have : b1 (sb i) = vl i := by simpa [hc] using hp
      rw [if_pos (by rw [this])]
    · rw [if_neg (fun e => hc (nI_inj (by omega) (by omega) e))]
  · intro i hi hp
    obtain ⟨z1, z2, z3, z4, z5, z6⟩ := hh i hi
    rw [un1_s]
    unfold b_X7_isAsSeen_2
    have hp' : tm i = t ∧ ¬ b1 (sb i) = vl i := by simpa using hp
    have h7' := h7 (sb i)
    rw [if_neg (nI_ge hi (by omega)), gin_k (by omega) (by omega), jn0_s, bnd_s, nI_cl (by omega), z1, z2, z3, if_pos (by rw [hp'.1]), gin_k (by omega) (by omega), gin_k (by omega) (by omega), gin_k (by omega) (by omega), nI_cl (by omega), rI_at, if_neg (fun e => hp'.2 (nI_inj (by omega) (by omega) e))]
  · rw [un1_s]
    unfold b_X7_isAsSeen_2
    rw [if_pos (nI_le (Nat.le_refl n) (by omega))]
theorem p_fits {R Dn K SL : Nat} {a b rl : Nat → Nat} {bm per hs : Nat} {be : Option Nat} {hb on : Nat} {sg : Nat → Nat} {st : Nat} {ea : Bool} {ase astr times subjects values : Nat → Int32} {n : Nat} {tm sb vl : Nat → Nat} {L : Nat} (x1 x2 x3 x4 x5 x6 x7 x8 : Int32) (hP : PlO R Dn K SL a rl) (hO : PgO R Dn b bm per hs be hb on sg st) (hA : ScR ase astr) (hn : n ≤ 6) (hh : ∀ i, i < n → times i = nI (tm i) ∧ subjects i = nI (sb i) ∧ values i = nI (vl i) ∧ 1 ≤ tm i ∧ tm i ≤ 6 ∧ sb i < Dn ∧ vl i < R) (hL : L < 210) : ∃ (y1 y2 y3 y4 y5 y6 y7 y8 : Int32) (se' str' : Nat → Int32), f_X7_fits x1 x2 x3 x4 x5 x6 x7 x8 ase astr (nI bm) (nI per) (nI hs) (enc be) (nI hb) (nI on) (nI st) (bz ea) (rI b) (rI sg) (nI R) (nI Dn) (nI n) subjects times values (nI L) = some (bz (fitB R Dn n tm sb vl (b, bm) L), y1, y2, y3, y4, y5, y6, y7, y8, se', str') ∧ ScR se' str' := by
  have hA' := hA
  obtain ⟨q1, q2, q3, q4, q5, q6, q7, q8, q9, q10, q11⟩ := hP
  obtain ⟨o1, o2, o3, o4, o5, o6, o7, o8, o9, o10, o11, o12, o13, o14⟩ := hO
  obtain ⟨b0, s0, rfl, ha2, ha3, rfl, ha5, ha6⟩ := hA
  unfold f_X7_fits fitB
  rw [p_isLaw q2 q3 hL, ob1_s]
  cases hi : isL R Dn L with
  | false => rw [bz_f, if_pos rfl]; exact ⟨_, _, _, _, _, _, _, _, _, _, rfl, hA'⟩
  | true =>
    have hok := isL_ok hL hi
    have hW := fun i => Wok_lwn (L := L) q3 hok (by omega) q2 (show Wok R Dn (b, bm) from ⟨o1, o2, o3, o4⟩) i
    rw [bz_t, if_neg n10, p_copyFrom o2 o12 ha3 ha5, ob10_s, Bool.true_and]
    have hs6 : ∀ i t, t ≤ 6 → f_X7_isAsSeen (rI (lwn R L i (b, bm)).1) (nI n) subjects times values (nI t) = some (bz (ff (fun k => tm k == t && !((lwn R L i (b, bm)).1 (sb k) == vl k)) n).isNone) := fun i t ht => p_isAsSeen hn (hW i).1 (fun k hk => by
      obtain ⟨z1, z2, z3, z4, z5, z6, z7⟩ := hh k hk
      exact ⟨z1, z2, z3, z5, by omega, by omega⟩) ht
    have hcl := itr_first (step := un3 (b_X7_fits_26 (nI R) (nI n) subjects times values (nI L) (enc be) (bz ea) (nI hb) (nI hs) (nI on) (nI per) (nI st) (rI sg))) (fun i => (ff (fun k => tm k == i + 1 && !((lwn R L (i + 1) (b, bm)).1 (sb k) == vl k)) n).isSome) (fun i => (nI (i + 1), nI (lwn R L i (b, bm)).2, rI (lwn R L i (b, bm)).1)) 6 (fun i => ((0 : Int32), nI (lwn R L (i + 1) (b, bm)).2, enc be, bz ea, nI hb, nI hs, nI on, nI per, nI st, rI (lwn R L (i + 1) (b, bm)).1, rI sg)) (nI 7, nI (lwn R L 6 (b, bm)).2, rI (lwn R L 6 (b, bm)).1) ?_ ?_ ?_ FU (by unfold FU; omega)
    · rw [show ((1 : Int32), nI bm, rI b) = (nI (0 + 1), nI (lwn R L 0 (b, bm)).2, rI (lwn R L 0 (b, bm)).1) from rfl, hcl]
      cases hf : ff (fun i => (ff (fun k => tm k == i + 1 && !((lwn R L (i + 1) (b, bm)).1 (sb k) == vl k)) n).isSome) 6 with
      | some k =>
        obtain ⟨k1, k2, k3⟩ := ff_some hf
        have e : allF (fun i => (lwn R L (tm i) (b, bm)).1 (sb i) == vl i) 0 n = false := by
          cases hc : ff (fun j => tm j == k + 1 && !((lwn R L (k + 1) (b, bm)).1 (sb j) == vl j)) n with
          | none => rw [hc] at k2; cases k2
          | some j =>
            obtain ⟨j1, j2, j3⟩ := ff_some hc
            have j2' : tm j = k + 1 ∧ ¬ (lwn R L (k + 1) (b, bm)).1 (sb j) = vl j := by simpa using j2
            cases hall : allF (fun i => (lwn R L (tm i) (b, bm)).1 (sb i) == vl i) 0 n with
            | false => rfl
            | true =>
              have := allF_iff.mp hall j (by omega) (by omega)
              rw [j2'.1] at this
              exact absurd (by simpa using this) j2'.2
        rw [e]
        dsimp only
        rw [obm3_r]
        exact ⟨_, _, _, _, _, _, _, _, _, _, rfl, _, _, rfl, (hW (k + 1)).1, (hW (k + 1)).2.1, rfl, o12, o13⟩
      | none =>
        have k1 := ff_none hf
        have e : allF (fun i => (lwn R L (tm i) (b, bm)).1 (sb i) == vl i) 0 n = true := by
          rw [allF_iff]
          intro j _ hj
          obtain ⟨z1, z2, z3, z4, z5, z6, z7⟩ := hh j (by omega)
          have k2 := k1 (tm j - 1) (by omega)
          rw [show tm j - 1 + 1 = tm j by omega] at k2
          cases hc : ff (fun k => tm k == tm j && !((lwn R L (tm j) (b, bm)).1 (sb k) == vl k)) n with
          | some m => rw [hc] at k2; cases k2
          | none =>
            have := ff_none hc j (by omega)
            simpa using this
        rw [e]
        dsimp only
        rw [obm3_s]
        exact ⟨_, _, _, _, _, _, _, _, _, _, rfl, _, _, rfl, (hW 6).1, (hW 6).2.1, rfl, o12, o13⟩
    · intro i hi' hp
      rw [un3_s]
      unfold b_X7_fits_26
      rw [if_neg (show ¬ (6 : Int32) < nI (i + 1) from nI_nlt (a := 6) (by omega) (by omega)), p_change hL (by omega) q2 (hW i).1, ob2_s]
      have e := hs6 (i + 1) (i + 1) (by omega)
      have e0 : (ff (fun k => tm k == i + 1 && !((lwn R L (i + 1) (b, bm)).1 (sb k) == vl k)) n).isNone = true := by
        revert hp
        cases ff (fun k => tm k == i + 1 && !((lwn R L (i + 1) (b, bm)).1 (sb k) == vl k)) n <;> simp
      rw [e0] at e
      rw [show rI (chg R L ((lwn R L i (b, bm)).1, (lwn R L i (b, bm)).2)).1 = rI (lwn R L (i + 1) (b, bm)).1 from rfl, e, ob1_s, bz_t, if_neg n10, bnd_s, show nI (i + 1) + 1 = nI (i + 1 + 1) from nI_1 _]
      rfl
    · intro i hi' hp
      rw [un3_s]
      unfold b_X7_fits_26
      rw [if_neg (show ¬ (6 : Int32) < nI (i + 1) from nI_nlt (a := 6) (by omega) (by omega)), p_change hL (by omega) q2 (hW i).1, ob2_s]
      have e := hs6 (i + 1) (i + 1) (by omega)
      have e0 : (ff (fun k => tm k == i + 1 && !((lwn R L (i + 1) (b, bm)).1 (sb k) == vl k)) n).isNone = false := by
        revert hp
        cases ff (fun k => tm k == i + 1 && !((lwn R L (i + 1) (b, bm)).1 (sb k) == vl k)) n <;> simp
      rw [e0] at e
      rw [show rI (chg R L ((lwn R L i (b, bm)).1, (lwn R L i (b, bm)).2)).1 = rI (lwn R L (i + 1) (b, bm)).1 from rfl, e, ob1_s, bz_f, if_pos rfl]
      rfl
    · rw [un3_s]
      unfold b_X7_fits_26
      rw [if_pos (show (6 : Int32) < nI (6 + 1) from nI_lt (a := 6) (by omega) (by omega))]
theorem m_dusksBy {g wk : Nat → Int32} {R Dn L n bm : Nat} {a b : Nat → Nat} (h : hse g 0 Dn a b bm) (hD : Dn ≤ 10) (hL : lok Dn L) (hR : 0 < R) (hR7 : R ≤ 7) (hn : n ≤ 6) (hW : ∀ i, lt7 (lwn R L i (b, bm)).1) : ∃ w', f_X8_dusksBy (nI R) g wk (nI L) (nI n) = some w' ∧ hse w' 0 Dn a (lwn R L n (b, bm)).1 (lwn R L n (b, bm)).2 := by
  unfold f_X8_dusksBy
  have hL210 := hL.1
  obtain ⟨w1, e1, z1, z2⟩ := m_worksNow g wk
  rw [e1, ob1_s]
  have hh := itr_inv (step := un2 (b_X8_dusksBy_6 (nI R) (nI L) (nI n))) (fun i x => x.1 = nI i ∧ hse x.2 0 Dn a (lwn R L i (b, bm)).1 (lwn R L i (b, bm)).2) n (fun o => hse o.2 0 Dn a (lwn R L n (b, bm)).1 (lwn R L n (b, bm)).2) ?_ ?_ ((0 : Int32), w1) ⟨rfl, hse_of h hD z1⟩ FU (by unfold FU; omega)
  · obtain ⟨⟨o1, o2⟩, e, q⟩ := hh
    rw [e, ob2_s]
    exact ⟨o2, rfl, q⟩
  · rintro i ⟨y1, y2⟩ hi ⟨h1, h2⟩
    simp only at h1 h2
    subst h1
    obtain ⟨g', e, q, _⟩ := m_doesRule (R := R) (n9 := nI (L % 10)) h2 hD hL hR hR7 (hW i) (fun _ => rfl)
    refine ⟨(nI (i + 1), g'), ?_, rfl, q⟩
    rw [un2_s]
    unfold b_X8_dusksBy_6
    rw [if_neg (nI_ge hi (by omega)), jn1_s, rr10 hL210, r10 hL210, d100 L hL210]
    by_cases h2 : L < 200
    · have el : ld L = L / 10 % 10 := by unfold ld; rw [if_pos h2]
      rw [el] at e
      rw [if_neg (show ¬ (200 : Int32) ≤ nI L from nI_ge (b := 200) h2 (by omega))]
      dsimp only
      rw [e, ob1_s, bnd_s, show nI i + 1 = nI (i + 1) from nI_1 i]
    · have el : ld L = L % 10 := by unfold ld; rw [if_neg h2]
      rw [el] at e
      rw [if_pos (show (200 : Int32) ≤ nI L from nI_le (a := 200) (by omega) (by omega))]
      dsimp only
      rw [e, ob1_s, bnd_s, show nI i + 1 = nI (i + 1) from nI_1 i]
  · rintro ⟨y1, y2⟩ ⟨h1, h2⟩
    simp only at h1 h2
    subst h1
    refine ⟨(nI n, y2), ?_, h2⟩
    rw [un2_s]
    unfold b_X8_dusksBy_6
    rw [if_pos (nI_le (Nat.le_refl n) (by omega))]
theorem m_isLawSo {R Dn n L bm : Nat} {a b tm sb vl : Nat → Nat} {g seen wk : Nat → Int32} (h : hse g 0 Dn a b bm) (hR : 0 < R) (hR7 : R ≤ 7) (hD : Dn ≤ 10) (hW0 : Wok R Dn (b, bm)) (hn : n ≤ 6) (hh : ∀ i, i < n → seen (3 * i) = nI (tm i) ∧ seen (3 * i + 1) = nI (sb i) ∧ seen (3 * i + 2) = nI (vl i) ∧ tm i ≤ 6 ∧ sb i < Dn ∧ vl i < R) (hL : L < 210) : ∃ w', f_X8_isLawSo (nI R) (nI Dn) (nI n) seen g wk (nI L) = some (bz (fitB R Dn n tm sb vl (b, bm) L), w') := by
  unfold f_X8_isLawSo
  rw [m_isLaw hR7 hD hL, ob1_s]
  have key : ∀ (r i f : Nat) (c : Bool) (wk : Nat → Int32), i + r = n → r < f → (c = true → isL R Dn L = true) → ∃ x3 w', itr (un3 (b_X8_isLawSo_8 (nI R) (nI n) seen g (nI L))) f (bz c, nI i, wk) = some (bz (c && allF (fun i => (lwn R L (tm i) (b, bm)).1 (sb i) == vl i) i r), x3, w') := by
    intro r
    induction r with
    | zero =>
      intro i f c wk hi hf hc
      obtain ⟨f, rfl⟩ : ∃ m, f = m + 1 := ⟨f - 1, by omega⟩
      have : i = n := by omega
      subst this
      rw [itr, un3_s]
      unfold b_X8_isLawSo_8
      rw [if_pos (nI_le (Nat.le_refl i) (by omega)), allF, Bool.and_true]
      exact ⟨_, _, rfl⟩
    | succ r ih =>
      intro i f c wk hi hf hc
      obtain ⟨f, rfl⟩ : ∃ m, f = m + 1 := ⟨f - 1, by omega⟩
      have hin : i < n := by omega
      cases c with
      | false =>
        rw [itr, un3_s]
        unfold b_X8_isLawSo_8
        rw [if_neg (nI_ge hin (by omega)), bz_f, if_pos rfl, Bool.false_and]
        exact ⟨_, _, rfl⟩
      | true =>
        have hok := isL_ok hL (hc rfl)
        have hW := fun i => Wok_lwn (L := L) hD hok hR hR7 hW0 i
        obtain ⟨z1, z2, z3, z4, z5, z6⟩ := hh i hin
        obtain ⟨w1, e1, q1⟩ := m_dusksBy (n := tm i) (wk := wk) h hD hok hR hR7 z4 (fun i => (hW i).1)
        have q2 := (q1 (sb i) z5).2.1
        rw [Nat.zero_add] at q2
        have c1 := (hW (tm i)).1 (sb i)
        have eb : b_X8_isLawSo_8 (nI R) (nI n) seen g (nI L) (bz true) (nI i) wk = some (.inl (bz ((lwn R L (tm i) (b, bm)).1 (sb i) == vl i), nI (i + 1), w1)) := by
          unfold b_X8_isLawSo_8
          rw [if_neg (nI_ge hin (by omega)), bz_t, if_neg n10, i3, show nI (3 * i) + 1 = nI (3 * i + 1) from nI_1 _, show nI (3 * i) + 2 = nI (3 * i + 2) from nI_add _ 2, gin_k (by omega) (by omega), nI_cl (by omega), z1, e1, ob1_s, gin_k (by omega) (by omega), nI_cl (by omega), z2, i3, show nI (3 * sb i) + 1 = nI (3 * sb i + 1) from nI_1 _, gin_k (by omega) (by omega), gin_k (by omega) (by omega), jn1_s, nI_cl (by omega), nI_cl (by omega), q2, z3]
          simp only [bnd_s]
          rw [show nI i + 1 = nI (i + 1) from nI_1 i]
          by_cases hv : (lwn R L (tm i) (b, bm)).1 (sb i) = vl i
          · rw [if_pos (by rw [hv])]; simp [hv, bz]
          · rw [if_neg (fun e => hv (nI_inj (by omega) (by omega) e))]
            have : ((lwn R L (tm i) (b, bm)).1 (sb i) == vl i) = false := by simpa using hv
            simp [this, bz]
        obtain ⟨x3, w', e3⟩ := ih (i + 1) f ((lwn R L (tm i) (b, bm)).1 (sb i) == vl i) w1 (by omega) (by omega) (fun _ => hc rfl)
        rw [itr, un3_s, eb]
        refine ⟨x3, w', ?_⟩
        rw [Bool.true_and, allF]
        exact e3
  obtain ⟨x3, w', e⟩ := key n 0 FU (isL R Dn L) wk (by omega) (by unfold FU; omega) id
  rw [show ((bz (isL R Dn L)), (0 : Int32), wk) = (bz (isL R Dn L), nI 0, wk) from rfl, e, ob3_s, gbl_b]
  exact ⟨w', rfl⟩
