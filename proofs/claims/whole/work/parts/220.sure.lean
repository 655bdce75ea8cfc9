/-! ===== pure 20: laws, sure ===== -/
def lws (p : Nat → Bool) : Nat → Nat × Int32 × Int32
  | 0 => (0, -4, -4)
  | i + 1 => if p i then ((lws p i).1 + 1, (if (lws p i).1 = 0 then nI i else (lws p i).2.1), nI i) else lws p i
theorem lws_le (p : Nat → Bool) : ∀ i, (lws p i).1 ≤ i
  | 0 => Nat.le_refl 0
  | i + 1 => by
    have := lws_le p i
    rw [lws]
    split
    · dsimp only; omega
    · omega
theorem lws_4 (p : Nat → Bool) : ∀ i, i < 1000 → ((lws p i).2.1 = -4 ↔ (lws p i).1 = 0)
  | 0, _ => by simp [lws]
  | i + 1, hi => by
    have := lws_4 p i (by omega)
    rw [lws]
    split
    · dsimp only
      constructor
      · intro h
        by_cases c : (lws p i).1 = 0
        · rw [if_pos c] at h; exact absurd h (ne4 (by omega))
        · rw [if_neg c] at h; exact absurd (this.mp h) c
      · intro h; omega
    · exact this
theorem co_laws {R Dn K SL : Nat} {a b rl : Nat → Nat} {bm per hs : Nat} {be : Option Nat} {hb on : Nat} {sg : Nat → Nat} {st : Nat} {ea : Bool} {g wk ase astr times subjects values seen : Nat → Int32} {size many : Int32} (x1 x2 x3 x4 x5 x6 x7 x8 : Int32) (hP : PlO R Dn K SL a rl) (hO : PgO R Dn b bm per hs be hb on sg st) (hM : PgM Dn a b bm per hs be hb on sg st ea g 0) (hA : ScR ase astr) (hS : SnR R Dn size times subjects values seen many) (p1 : Int32) : ∃ (rr y1 y2 y3 y4 y5 y6 y7 y8 : Int32) (se' str' w' : Nat → Int32), f_X7_laws x1 x2 x3 x4 x5 x6 x7 x8 ase astr (nI bm) (nI per) (nI hs) (enc be) (nI hb) (nI on) (nI st) (bz ea) (rI b) (rI sg) (nI R) (nI Dn) size subjects times values p1 = some (rr, y1, y2, y3, y4, y5, y6, y7, y8, se', str') ∧ f_X8_laws (nI R) (nI Dn) many seen g wk p1 = some (rr, w') ∧ ScR se' str' := by
  obtain ⟨n, tm, sb, vl, hn, rfl, rfl, hh⟩ := hS
  have hP' := hP
  have hO' := hO
  obtain ⟨q1, q2, q3, q4, q5, q6, q7, q8, q9, q10, q11⟩ := hP
  obtain ⟨o1, o2, o3, o4, o5, o6, o7, o8, o9, o10, o11, o12, o13, o14⟩ := hO
  unfold f_X7_laws f_X8_laws
  rw [show (0 : Int64) = (0 : Int32).toInt64 from rfl, show (2 : Int64) = (2 : Int32).toInt64 from rfl, m_in, p_within, ob1_s, ob1_s]
  by_cases hc : (0 : Int32) ≤ p1 ∧ p1 ≤ 2
  · rw [decide_eq_true hc, bz_t, if_neg n10, if_neg n10]
    generalize hp : fitB R Dn n tm sb vl (b, bm) = p
    have hcl := itr_inv (step := un14 (b_X7_laws_23 (nI bm) (nI per) (nI hs) (enc be) (nI hb) (nI on) (nI st) (bz ea) (rI b) (rI sg) (nI R) (nI Dn) (nI n) subjects times values)) (fun i x => x.1 = nI (lws p i).1 ∧ x.2.1 = (lws p i).2.1 ∧ x.2.2.1 = (lws p i).2.2 ∧ x.2.2.2.1 = nI i ∧ ScR x.2.2.2.2.2.2.2.2.2.2.2.2.1 x.2.2.2.2.2.2.2.2.2.2.2.2.2) 210 (fun x => x.1 = nI (lws p 210).1 ∧ x.2.1 = (lws p 210).2.1 ∧ x.2.2.1 = (lws p 210).2.2 ∧ ScR x.2.2.2.2.2.2.2.2.2.2.2.2.1 x.2.2.2.2.2.2.2.2.2.2.2.2.2) ?_ ?_ ((0 : Int32), (-4 : Int32), (-4 : Int32), (0 : Int32), x1, x4, x8, x5, x3, x6, x2, x7, ase, astr) ⟨rfl, rfl, rfl, rfl, hA⟩ FU (by unfold FU; omega)
    · have hmo := itr_inv (step := un5 (b_X8_laws_26 (nI R) (nI Dn) (nI n) seen g)) (fun i x => x.1 = nI (lws p i).1 ∧ x.2.1 = (lws p i).2.1 ∧ x.2.2.1 = (lws p i).2.2 ∧ x.2.2.2.1 = nI i) 210 (fun x => x.1 = nI (lws p 210).1 ∧ x.2.1 = (lws p 210).2.1 ∧ x.2.2.1 = (lws p 210).2.2) ?_ ?_ ((0 : Int32), (-4 : Int32), (-4 : Int32), (0 : Int32), wk) ⟨rfl, rfl, rfl, rfl⟩ FU (by unfold FU; omega)
      · obtain ⟨⟨c1, c2, c3, c4, c5, c6, c7, c8, c9, c10, c11, c12, c13, c14⟩, e1, z1, z2, z3, z4⟩ := hcl
        obtain ⟨⟨m1, m2, m3, m4, m5⟩, e2, z5, z6, z7⟩ := hmo
        simp only at z1 z2 z3 z4 z5 z6 z7
        rw [e1, e2, ob14_s, ob5_s, z1, z2, z3, z5, z6, z7]
        by_cases hp0 : p1 = 0
        · rw [if_pos hp0, if_pos hp0]; exact ⟨_, _, _, _, _, _, _, _, _, _, _, _, rfl, rfl, z4⟩
        · rw [if_neg hp0, if_neg hp0]
          by_cases hp1 : p1 = 1
          · rw [if_pos hp1, if_pos hp1]; exact ⟨_, _, _, _, _, _, _, _, _, _, _, _, rfl, rfl, z4⟩
          · rw [if_neg hp1, if_neg hp1]; exact ⟨_, _, _, _, _, _, _, _, _, _, _, _, rfl, rfl, z4⟩
      · rintro i ⟨m1, m2, m3, m4, m5⟩ hi ⟨z1, z2, z3, z4⟩
        simp only at z1 z2 z3 z4
        subst z1 z2 z3 z4
        obtain ⟨w', e⟩ := m_isLawSo (n := n) (tm := tm) (sb := sb) (vl := vl) (seen := seen) (wk := m5) (L := i) hM.1 (by omega) q2 q3 ⟨o1, o2, o3, o4⟩ hn (fun k hk => by
          obtain ⟨y1, y2, y3, y4, y5, y6, y7, y8, y9, y10⟩ := hh k hk
          exact ⟨y4, y5, y6, y8, y9, y10⟩) hi
        rw [hp] at e
        have hle := lws_le p i
        refine ⟨(nI (lws p (i + 1)).1, (lws p (i + 1)).2.1, (lws p (i + 1)).2.2, nI (i + 1), w'), ?_, rfl, rfl, rfl, rfl⟩
        rw [un5_s]
        unfold b_X8_laws_26
        rw [if_neg (show ¬ (210 : Int32) ≤ nI i from nI_ge (b := 210) hi (by omega)), e, ob2_s, jn3_s, lws]
        cases p i with
        | false =>
          rw [bz_f, if_pos rfl, if_neg (by decide)]
          dsimp only
          rw [bnd_s, show nI i + 1 = nI (i + 1) from nI_1 i]
        | true =>
          rw [bz_t, if_neg n10, jn1_s, if_pos rfl]
          simp only [bnd_s]
          rw [show nI i + 1 = nI (i + 1) from nI_1 i, show nI (lws p i).1 + 1 = nI ((lws p i).1 + 1) from nI_1 _]
          by_cases c : (lws p i).1 = 0
          · rw [if_pos (show nI (lws p i).1 = 0 by rw [c]; rfl), if_pos c]
          · rw [if_neg (nI_ne0 (by omega) (by omega)), if_neg c]
      · rintro ⟨m1, m2, m3, m4, m5⟩ ⟨z1, z2, z3, z4⟩
        simp only at z1 z2 z3 z4
        subst z1 z2 z3 z4
        refine ⟨(nI (lws p 210).1, (lws p 210).2.1, (lws p 210).2.2, nI 210, m5), ?_, rfl, rfl, rfl⟩
        · rw [un5_s]
          unfold b_X8_laws_26
          rw [if_pos (show (210 : Int32) ≤ nI 210 from nI_le (a := 210) (Nat.le_refl 210) (by omega))]
    · rintro i ⟨c1, c2, c3, c4, c5, c6, c7, c8, c9, c10, c11, c12, c13, c14⟩ hi ⟨z1, z2, z3, z4, z5⟩
      simp only at z1 z2 z3 z4 z5
      subst z1 z2 z3 z4
      obtain ⟨y1, y2, y3, y4, y5, y6, y7, y8, se', str', e, hsc⟩ := p_fits (n := n) (tm := tm) (sb := sb) (vl := vl) (times := times) (subjects := subjects) (values := values) (L := i) (ea := ea) c5 c11 c9 c6 c8 c10 c12 c7 hP' hO' z5 hn (fun k hk => by
          obtain ⟨y1, y2, y3, y4, y5, y6, y7, y8, y9, y10⟩ := hh k hk
          exact ⟨y1, y2, y3, y7, y8, y9, y10⟩) hi
      rw [hp] at e
      have hle := lws_le p i
      refine ⟨(nI (lws p (i + 1)).1, (lws p (i + 1)).2.1, (lws p (i + 1)).2.2, nI (i + 1), y1, y2, y3, y4, y5, y6, y7, y8, se', str'), ?_, rfl, rfl, rfl, rfl, hsc⟩
      rw [un14_s]
      unfold b_X7_laws_23
      rw [if_neg (show ¬ (209 : Int32) < nI i from nI_nlt (a := 209) (by omega) (by omega)), e, ob11_s, jn3_s, lws]
      cases p i with
      | false =>
        rw [bz_f, if_pos rfl, if_neg (by decide)]
        dsimp only
        rw [bnd_s, show nI i + 1 = nI (i + 1) from nI_1 i]
      | true =>
        rw [bz_t, if_neg n10, if_pos rfl]
        simp only [bnd_s, jn1_s]
        rw [show nI i + 1 = nI (i + 1) from nI_1 i, show nI (lws p i).1 + 1 = nI ((lws p i).1 + 1) from nI_1 _]
        by_cases c : (lws p i).1 = 0
        · rw [if_pos ((lws_4 p i (by omega)).mpr c), if_pos c]
        · rw [if_neg (fun q => c ((lws_4 p i (by omega)).mp q)), if_neg c]
    · rintro ⟨c1, c2, c3, c4, c5, c6, c7, c8, c9, c10, c11, c12, c13, c14⟩ ⟨z1, z2, z3, z4, z5⟩
      simp only at z1 z2 z3 z4 z5
      subst z1 z2 z3 z4
      refine ⟨(nI (lws p 210).1, (lws p 210).2.1, (lws p 210).2.2, nI 210, c5, c6, c7, c8, c9, c10, c11, c12, c13, c14), ?_, rfl, rfl, rfl, z5⟩
      · rw [un14_s]
        unfold b_X7_laws_23
        rw [if_pos (show (209 : Int32) < nI 210 from nI_lt (a := 209) (by omega) (by omega))]
  · rw [decide_eq_false hc, bz_f, if_pos rfl, if_pos rfl]
    exact ⟨_, _, _, _, _, _, _, _, _, _, _, wk, rfl, rfl, hA⟩
/-- what is found so far, and the ends met, as bits -/
def fnd (p : Nat → Bool) (e : Nat → Nat) : Nat → Option Nat
  | 0 => none
  | i + 1 => if p i then some (e i) else fnd p e i
def emk (p : Nat → Bool) (e : Nat → Nat) : Nat → Nat
  | 0 => 0
  | i + 1 => if p i then emk p e i ||| 2 ^ e i else emk p e i
theorem emk_lt {p : Nat → Bool} {e : Nat → Nat} (h : ∀ i, p i = true → e i < 7) : ∀ i, emk p e i < 2 ^ 7
  | 0 => by rw [emk]; decide
  | i + 1 => by
    have := emk_lt h i
    rw [emk]
    split
    · rename_i hp
      exact Nat.or_lt_two_pow this (Nat.pow_lt_pow_right (by decide) (h i hp))
    · exact this
theorem emk_mono {p : Nat → Bool} {e : Nat → Nat} {x i : Nat} (h : (emk p e i).testBit x = true) : ∀ k, (emk p e (i + k)).testBit x = true
  | 0 => h
  | k + 1 => by
    have := emk_mono h k
    rw [← Nat.add_assoc, emk]
    split
    · rw [Nat.testBit_or, this, Bool.true_or]
    · exact this
theorem two_bits0 : ∀ m : Fin 128, ∀ x : Fin 7, ∀ y : Fin 7, (x.val == y.val || !m.val.testBit x.val || !m.val.testBit y.val || !(cntr m.val 10 == 1)) = true := by decide +kernel
theorem two_bits (m : Nat) (hm : m < 128) (x : Nat) (hx : x < 7) (y : Nat) (hy : y < 7) (hne : x ≠ y) (h1 : m.testBit x = true) (h2 : m.testBit y = true) : cntr m 10 ≠ 1 := by
  have h := two_bits0 ⟨m, hm⟩ ⟨x, hx⟩ ⟨y, hy⟩
  intro e
  simp [h1, h2, e, hne] at h
theorem one_bit : ∀ x, x < 7 → cntr (2 ^ x) 10 = 1 ∧ nthr (2 ^ x) 10 0 = x := by decide
theorem p_endByLaw {R Dn K SL : Nat} {a b rl : Nat → Nat} {bm per hs : Nat} {be : Option Nat} {hb on : Nat} {sg : Nat → Nat} {st : Nat} {ea : Bool} {ase astr : Nat → Int32} {L n d : Nat} (hP : PlO R Dn K SL a rl) (hO : PgO R Dn b bm per hs be hb on sg st) (hA : ScR ase astr) (hL : lok Dn L) (hn : n ≤ 6) (hd : d < 10) : ∃ (y1 y2 y3 y4 y5 y6 y7 y8 : Int32) (se' str' : Nat → Int32), f_X7_endByLaw ase astr (nI bm) (nI per) (nI hs) (enc be) (nI hb) (nI on) (nI st) (bz ea) (rI b) (rI sg) (nI R) (nI L) (nI n) (nI d) = some (nI ((lwn R L n (b, bm)).1 d), y1, y2, y3, y4, y5, y6, y7, y8, se', str') ∧ ScR se' str' := by
  obtain ⟨q1, q2, q3, q4, q5, q6, q7, q8, q9, q10, q11⟩ := hP
  obtain ⟨o1, o2, o3, o4, o5, o6, o7, o8, o9, o10, o11, o12, o13, o14⟩ := hO
  obtain ⟨b0, s0, rfl, ha2, ha3, rfl, ha5, ha6⟩ := hA
  have hW := fun i => Wok_lwn (L := L) q3 hL (by omega) q2 (show Wok R Dn (b, bm) from ⟨o1, o2, o3, o4⟩) i
  unfold f_X7_endByLaw
  rw [p_copyFrom o2 o12 ha3 ha5, ob10_s]
  have h := itr_count (step := un3 (b_X7_endByLaw_14 (nI R) (nI L) (nI n))) (fun i => (nI i, nI (lwn R L i (b, bm)).2, rI (lwn R L i (b, bm)).1)) n (nI n, nI (lwn R L n (b, bm)).2, rI (lwn R L n (b, bm)).1) ?_ ?_ FU (by unfold FU; omega)
  · rw [show ((0 : Int32), nI bm, rI b) = (nI 0, nI (lwn R L 0 (b, bm)).2, rI (lwn R L 0 (b, bm)).1) from rfl, h, ob3_s, gin_k hd (by omega), nI_cl (by omega), rI_at]
    exact ⟨_, _, _, _, _, _, _, _, _, _, rfl, _, _, rfl, (hW n).1, (hW n).2.1, rfl, o12, o13⟩
  · intro i hi
    rw [un3_s]
    unfold b_X7_endByLaw_14
    rw [if_neg (nI_ge hi (by omega)), p_change hL.1 (by omega) q2 (hW i).1, ob2_s, bnd_s, show nI i + 1 = nI (i + 1) from nI_1 i]
    rfl
  · rw [un3_s]
    unfold b_X7_endByLaw_14
    rw [if_pos (nI_le (Nat.le_refl n) (by omega))]
theorem co_sure {R Dn K SL : Nat} {a b rl : Nat → Nat} {bm per hs : Nat} {be : Option Nat} {hb on : Nat} {sg : Nat → Nat} {st : Nat} {ea : Bool} {g wk ase astr times subjects values seen : Nat → Int32} {size many : Int32} (x1 x2 x3 x4 x5 x6 x7 x8 : Int32) (hP : PlO R Dn K SL a rl) (hO : PgO R Dn b bm per hs be hb on sg st) (hM : PgM Dn a b bm per hs be hb on sg st ea g 0) (hA : ScR ase astr) (hS : SnR R Dn size times subjects values seen many) (p1 p2 : Int32) : ∃ (rr y1 y2 y3 y4 y5 y6 y7 y8 : Int32) (se' str' w' : Nat → Int32), f_X7_sure x1 x2 x3 x4 x5 x6 x7 x8 ase astr (nI bm) (nI per) (nI hs) (enc be) (nI hb) (nI on) (nI st) (bz ea) (rI b) (rI sg) (nI R) (nI Dn) size subjects times values p1 p2 = some (rr, y1, y2, y3, y4, y5, y6, y7, y8, se', str') ∧ f_X8_sure (nI R) (nI Dn) many seen g wk p1 p2 = some (rr, w') ∧ ScR se' str' := by
  obtain ⟨n, tm, sb, vl, hn, rfl, rfl, hh⟩ := hS
  have hP' := hP
  have hO' := hO
  obtain ⟨q1, q2, q3, q4, q5, q6, q7, q8, q9, q10, q11⟩ := hP
  obtain ⟨o1, o2, o3, o4, o5, o6, o7, o8, o9, o10, o11, o12, o13, o14⟩ := hO
  unfold f_X7_sure f_X8_sure
  rw [show (1 : Int64) = (1 : Int32).toInt64 from rfl, show (6 : Int64) = (6 : Int32).toInt64 from rfl, m_in, p_within, ob1_s, ob1_s, p_hasDoor, m_isDoor p2 (by omega), ob1_s, ob1_s]
  by_cases hc : (1 : Int32) ≤ p1 ∧ p1 ≤ 6
  · rw [decide_eq_true hc, bz_t, if_neg n10, if_neg n10]
    obtain ⟨v, hv1, hv2, rfl⟩ := i32_1 (n := 6) (by omega) hc.1 hc.2
    rcases i32_in p2 Dn (by omega) with ⟨d, hd, rfl⟩ | hout
    · rw [dec_in hd (by omega), bz_t, if_neg n10, if_neg n10]
      have hpL : ∀ L, L < 210 → fitB R Dn n tm sb vl (b, bm) L = true → lok Dn L := fun L hL h => by
        unfold fitB at h
        rw [Bool.and_eq_true] at h
        exact isL_ok hL h.1
      have hW : ∀ L, lok Dn L → ∀ i, Wok R Dn (lwn R L i (b, bm)) := fun L hL i => Wok_lwn (L := L) q3 hL (by omega) q2 (show Wok R Dn (b, bm) from ⟨o1, o2, o3, o4⟩) i
      -- p below 210
      obtain ⟨p, hp⟩ : ∃ p : Nat → Bool, p = (fun L => decide (L < 210) && fitB R Dn n tm sb vl (b, bm) L) := ⟨_, rfl⟩
      obtain ⟨e, he⟩ : ∃ e : Nat → Nat, e = (fun L => (lwn R L v (b, bm)).1 d) := ⟨_, rfl⟩
      have hp1 : ∀ L, L < 210 → fitB R Dn n tm sb vl (b, bm) L = p L := fun L hL => by rw [hp]; simp [hL]
      have hp2 : ∀ L, p L = true → lok Dn L := fun L h => by
        rw [hp] at h
        simp only [Bool.and_eq_true, decide_eq_true_eq] at h
        exact hpL L h.1 h.2
      have he7 : ∀ L, p L = true → e L < 7 := fun L h => by rw [he]; exact (hW L (hp2 L h) v).1 d
      have hml := emk_lt he7
      have hmo := itr_inv (step := un3 (b_X8_sure_27 (nI R) (nI Dn) (nI n) seen g (nI v) (nI d))) (fun i x => x.1 = nI (emk p e i) ∧ x.2.1 = nI i) 210 (fun x => x.1 = nI (emk p e 210)) ?_ ?_ ((0 : Int32), (0 : Int32), wk) ⟨rfl, rfl⟩ FU (by unfold FU; omega)
      · have hcl := itr_firstP (step := un12 (b_X7_sure_29 (nI bm) (nI per) (nI hs) (enc be) (nI hb) (nI on) (nI st) (bz ea) (rI b) (rI sg) (nI R) (nI Dn) (nI n) subjects times values (nI v) (nI d))) (fun i => p i && !(fnd p e i == none || fnd p e i == some (e i))) (fun i x => x.1 = enc (fnd p e i) ∧ x.2.1 = nI i ∧ ScR x.2.2.2.2.2.2.2.2.2.2.1 x.2.2.2.2.2.2.2.2.2.2.2 ∧ (∀ y, fnd p e i = some y → y < 7) ∧ emk p e i = (match fnd p e i with | none => 0 | some y => 2 ^ y)) 210 (fun i r => r.1 = -4 ∧ ScR r.2.2.2.2.2.2.2.2.2.1 r.2.2.2.2.2.2.2.2.2.2 ∧ i < 210 ∧ ∃ y, y < 7 ∧ e i < 7 ∧ y ≠ e i ∧ emk p e (i + 1) = 2 ^ y ||| 2 ^ e i) (fun x => x.1 = enc (fnd p e 210) ∧ ScR x.2.2.2.2.2.2.2.2.2.2.1 x.2.2.2.2.2.2.2.2.2.2.2 ∧ (∀ y, fnd p e 210 = some y → y < 7) ∧ emk p e 210 = (match fnd p e 210 with | none => 0 | some y => 2 ^ y)) ?_ ?_ ?_ ((-4 : Int32), (0 : Int32), x1, x4, x8, x5, x3, x6, x2, x7, ase, astr) ⟨rfl, rfl, hA, (fun y h => by cases h), rfl⟩ FU (by unfold FU; omega)
        · obtain ⟨⟨m1, m2, m3⟩, em, zm⟩ := hmo
          simp only at zm
          subst zm
          have h210 : emk p e 210 < 128 := hml 210
          rw [em, ob3_s, m_bitsOf (by omega), ob1_s]
          have hcl4 := cntr_le (om := emk p e 210) 10
          rcases hcl with ⟨k, ⟨r1, r2, r3, r4, r5, r6, r7, r8, r9, r10, r11⟩, hf, ec, z1, z2, z3, y, z4, z5, z6, z7⟩ | ⟨⟨r0, r1, r2, r3, r4, r5, r6, r7, r8, r9, r10, r11⟩, hf, ec, z1, z2, z3, z4⟩
          · simp only at z1 z2
            subst z1
            have b1 : (emk p e 210).testBit y = true := by
              have := emk_mono (p := p) (e := e) (x := y) (i := k + 1) (by rw [z7, Nat.testBit_or, Nat.testBit_two_pow]; simp) (210 - (k + 1))
              rwa [show k + 1 + (210 - (k + 1)) = 210 by omega] at this
            have b2 : (emk p e 210).testBit (e k) = true := by
              have := emk_mono (p := p) (e := e) (x := e k) (i := k + 1) (by rw [z7, Nat.testBit_or, Nat.testBit_two_pow, Nat.testBit_two_pow]; simp) (210 - (k + 1))
              rwa [show k + 1 + (210 - (k + 1)) = 210 by omega] at this
            have hne := two_bits _ h210 y z4 (e k) z5 z6 b1 b2
            rw [ec, obm12_r, if_neg (show ¬ nI (cntr (emk p e 210) 10) = (1 : Int32) from fun q => hne (nI_inj (b := 1) (by omega) (by omega) q))]
            exact ⟨_, _, _, _, _, _, _, _, _, _, _, _, rfl, rfl, z2⟩
          · simp only at z1 z2 z3 z4
            subst z1
            rw [ec, obm12_s]
            cases hfn : fnd p e 210 with
            | none =>
              rw [hfn] at z4
              simp only at z4
              rw [z4, cntr_z, if_neg (show ¬ nI 0 = (1 : Int32) by decide)]
              exact ⟨_, _, _, _, _, _, _, _, _, _, _, _, rfl, rfl, z2⟩
            | some y =>
              rw [hfn] at z4
              simp only at z4
              have hy := z3 y hfn
              obtain ⟨u1, u2⟩ := one_bit y hy
              have hpow : 2 ^ y < 128 := Nat.lt_of_lt_of_le (Nat.pow_lt_pow_right (by decide) hy) (by decide)
              rw [z4, u1, if_pos (show nI 1 = (1 : Int32) from rfl), show f_X8_placeOf (nI (2 ^ y)) (0 : Int32) = some (nI (nthr (2 ^ y) 10 0)) from m_placeOf (k := 0) (by omega) (by omega), ob1_s, u2]
              exact ⟨_, _, _, _, _, _, _, _, _, _, _, _, rfl, rfl, z2⟩
        · rintro i ⟨c3, c4, c5, c6, c7, c8, c9, c10, c11, c12, c13, c14⟩ hi ⟨z1, z2, z3, z4, z5⟩ hpi
          simp only at z1 z2 z3
          subst z1 z2
          obtain ⟨y1, y2, y3, y4, y5, y6, y7, y8, se', str', ef, hsc⟩ := p_fits (n := n) (tm := tm) (sb := sb) (vl := vl) (times := times) (subjects := subjects) (values := values) (L := i) (ea := ea) c5 c11 c9 c6 c8 c10 c12 c7 hP' hO' z3 hn (fun k hk => by
            obtain ⟨y1, y2, y3, y4, y5, y6, y7, y8, y9, y10⟩ := hh k hk
            exact ⟨y1, y2, y3, y7, y8, y9, y10⟩) hi
          rw [hp1 i hi] at ef
          cases hpp : p i with
          | false =>
            rw [hpp] at ef
            refine ⟨(enc (fnd p e i), nI (i + 1), y1, y2, y3, y4, y5, y6, y7, y8, se', str'), ?_, ?_, rfl, hsc, ?_, ?_⟩
            · rw [un12_s]
              unfold b_X7_sure_29
              rw [if_neg (show ¬ (209 : Int32) < nI i from nI_nlt (a := 209) (by omega) (by omega)), ef, ob11_s, jn11_s, bz_f, if_pos rfl]
              dsimp only
              rw [bnd_s, show nI i + 1 = nI (i + 1) from nI_1 i]
            · rw [fnd, hpp]; rfl
            · rw [fnd, hpp]; exact z4
            · rw [fnd, emk, hpp]; exact z5
          | true =>
            rw [hpp] at ef hpi
            obtain ⟨u1, u2, u3, u4, u5, u6, u7, u8, se2, str2, ee, hsc2⟩ := p_endByLaw (ea := ea) (L := i) (n := v) (d := d) hP' hO' hsc (hp2 i hpp) hv2 (by omega)
            have e7 := he7 i hpp
            have eei : nI ((lwn R i v (b, bm)).1 d) = nI (e i) := by rw [he]
            rw [eei] at ee
            refine ⟨(nI (e i), nI (i + 1), u1, u2, u3, u4, u5, u6, u7, u8, se2, str2), ?_, ?_, rfl, hsc2, ?_, ?_⟩
            · rw [un12_s]
              unfold b_X7_sure_29
              rw [if_neg (show ¬ (209 : Int32) < nI i from nI_nlt (a := 209) (by omega) (by omega)), ef, ob11_s, jn11_s, bz_t, if_neg n10, ee, ob11_s, jn0_s]
              dsimp only
              rw [bnd_s, show nI i + 1 = nI (i + 1) from nI_1 i]
              have hpi' : fnd p e i = none ∨ fnd p e i = some (e i) := by
                revert hpi
                cases fnd p e i <;> simp
              rcases hpi' with hq | hq
              · rw [hq, if_pos (show enc none = (-4 : Int32) from rfl)]
              · rw [hq, if_neg (show ¬ enc (some (e i)) = (-4 : Int32) from ne4 (by omega)), if_pos (show enc (some (e i)) = nI (e i) from rfl)]
            · rw [fnd, hpp]; rfl
            · intro y hy; rw [fnd, hpp] at hy; simp only [if_true, Option.some.injEq] at hy; omega
            · rw [fnd, emk, hpp, z5]
              have hpi' : fnd p e i = none ∨ fnd p e i = some (e i) := by
                revert hpi
                cases fnd p e i <;> simp
              rcases hpi' with hq | hq
              · rw [hq]; simp
              · rw [hq]; simp
        · rintro i ⟨c3, c4, c5, c6, c7, c8, c9, c10, c11, c12, c13, c14⟩ hi ⟨z1, z2, z3, z4, z5⟩ hpi
          simp only at z1 z2 z3
          subst z1 z2
          obtain ⟨y1, y2, y3, y4, y5, y6, y7, y8, se', str', ef, hsc⟩ := p_fits (n := n) (tm := tm) (sb := sb) (vl := vl) (times := times) (subjects := subjects) (values := values) (L := i) (ea := ea) c5 c11 c9 c6 c8 c10 c12 c7 hP' hO' z3 hn (fun k hk => by
            obtain ⟨y1, y2, y3, y4, y5, y6, y7, y8, y9, y10⟩ := hh k hk
            exact ⟨y1, y2, y3, y7, y8, y9, y10⟩) hi
          rw [hp1 i hi] at ef
          have hpp : p i = true := by revert hpi; cases p i <;> simp
          rw [hpp] at ef hpi
          obtain ⟨u1, u2, u3, u4, u5, u6, u7, u8, se2, str2, ee, hsc2⟩ := p_endByLaw (ea := ea) (L := i) (n := v) (d := d) hP' hO' hsc (hp2 i hpp) hv2 (by omega)
          have e7 := he7 i hpp
          have eei : nI ((lwn R i v (b, bm)).1 d) = nI (e i) := by rw [he]
          rw [eei] at ee
          obtain ⟨y, hy, hne⟩ : ∃ y, fnd p e i = some y ∧ y ≠ e i := by
            revert hpi
            cases fnd p e i with
            | none => simp
            | some y => intro h; exact ⟨y, rfl, by simpa using h⟩
          have hy7 := z4 y hy
          refine ⟨((-4 : Int32), u1, u2, u3, u4, u5, u6, u7, u8, se2, str2), ?_, rfl, hsc2, hi, y, hy7, e7, hne, ?_⟩
          · rw [un12_s]
            unfold b_X7_sure_29
            rw [if_neg (show ¬ (209 : Int32) < nI i from nI_nlt (a := 209) (by omega) (by omega)), ef, ob11_s, jn11_s, bz_t, if_neg n10, ee, ob11_s, jn0_s, hy, if_neg (show ¬ enc (some y) = (-4 : Int32) from ne4 (by omega)), if_neg (show ¬ enc (some y) = nI (e i) from fun q => hne (nI_inj (by omega) (by omega) q))]
          · rw [emk, hpp, z5, hy]; rfl
        · rintro ⟨c3, c4, c5, c6, c7, c8, c9, c10, c11, c12, c13, c14⟩ ⟨z1, z2, z3, z4, z5⟩
          simp only at z1 z2 z3
          subst z1 z2
          refine ⟨(enc (fnd p e 210), nI 210, c5, c6, c7, c8, c9, c10, c11, c12, c13, c14), ?_, rfl, z3, z4, z5⟩
          rw [un12_s]
          unfold b_X7_sure_29
          rw [if_pos (show (209 : Int32) < nI 210 from nI_lt (a := 209) (by omega) (by omega))]
      · rintro i ⟨m1, m2, m3⟩ hi ⟨z1, z2⟩
        simp only at z1 z2
        subst z1 z2
        obtain ⟨w', ef⟩ := m_isLawSo (n := n) (tm := tm) (sb := sb) (vl := vl) (seen := seen) (wk := m3) (L := i) hM.1 (by omega) q2 q3 ⟨o1, o2, o3, o4⟩ hn (fun k hk => by
          obtain ⟨y1, y2, y3, y4, y5, y6, y7, y8, y9, y10⟩ := hh k hk
          exact ⟨y4, y5, y6, y8, y9, y10⟩) hi
        rw [hp1 i hi] at ef
        cases hpp : p i with
        | false =>
          rw [hpp] at ef
          refine ⟨(nI (emk p e (i + 1)), nI (i + 1), w'), ?_, rfl, rfl⟩
          rw [un3_s]
          unfold b_X8_sure_27
          rw [if_neg (show ¬ (210 : Int32) ≤ nI i from nI_ge (b := 210) hi (by omega)), ef, ob2_s, jn2_s, bz_f, if_pos rfl]
          dsimp only
          rw [bnd_s, show nI i + 1 = nI (i + 1) from nI_1 i, emk, hpp]
          rfl
        | true =>
          rw [hpp] at ef
          have hok := hp2 i hpp
          have e7 := he7 i hpp
          obtain ⟨w2, e2, q2'⟩ := m_dusksBy (n := v) (wk := w') hM.1 q3 hok (by omega) q2 hv2 (fun j => (hW i hok j).1)
          have q3' := (q2' d hd).2.1
          rw [Nat.zero_add] at q3'
          have eei : nI ((lwn R i v (b, bm)).1 d) = nI (e i) := by rw [he]
          rw [eei] at q3'
          refine ⟨(nI (emk p e (i + 1)), nI (i + 1), w2), ?_, rfl, rfl⟩
          rw [un3_s]
          unfold b_X8_sure_27
          rw [if_neg (show ¬ (210 : Int32) ≤ nI i from nI_ge (b := 210) hi (by omega)), ef, ob2_s, jn2_s, bz_t, if_neg n10, e2, ob1_s, i3, show nI (3 * d) + 1 = nI (3 * d + 1) from nI_1 _, gin_k (by omega) (by omega), bnd_s]
          dsimp only
          rw [bnd_s, nI_cl (by omega), q3', shl_k _ (by omega), fa_or, show nI i + 1 = nI (i + 1) from nI_1 i, emk, hpp]
          rfl
      · rintro ⟨m1, m2, m3⟩ ⟨z1, z2⟩
        simp only at z1 z2
        subst z1 z2
        refine ⟨(nI (emk p e 210), nI 210, m3), ?_, rfl⟩
        rw [un3_s]
        unfold b_X8_sure_27
        rw [if_pos (show (210 : Int32) ≤ nI 210 from nI_le (a := 210) (Nat.le_refl 210) (by omega))]
    · rw [dec_out (by omega) hout, bz_f, if_pos rfl, if_pos rfl]
      exact ⟨_, _, _, _, _, _, _, _, _, _, _, wk, rfl, rfl, hA⟩
  · rw [decide_eq_false hc, bz_f, if_pos rfl, if_pos rfl]
    exact ⟨_, _, _, _, _, _, _, _, _, _, _, wk, rfl, rfl, hA⟩
