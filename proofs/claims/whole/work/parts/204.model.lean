/-! ===== pure 5: the reference's small functions ===== -/
theorem m_in (x y z : Int32) : f_X8_in x.toInt64 y.toInt64 z.toInt64 = some (bz (decide (y ≤ x ∧ x ≤ z))) := by
  unfold f_X8_in
  by_cases h1 : x < y
  · rw [if_pos ((lg_cmp_lt _ _).mpr ((fa_wide_lt x y).mpr h1))]
    have : ¬ (y ≤ x ∧ x ≤ z) := by rw [fa_le, fa_le]; rw [fa_lt] at h1; omega
    simp [this, bz]
  · rw [if_neg (fun q => h1 ((fa_wide_lt x y).mp ((lg_cmp_lt _ _).mp q)))]
    by_cases h2 : z < x
    · rw [if_pos ((lg_cmp_gt _ _).mpr ((fa_wide_lt z x).mpr h2))]
      have : ¬ (y ≤ x ∧ x ≤ z) := by rw [fa_le, fa_le]; rw [fa_lt] at h2; omega
      simp [this, bz]
    · rw [if_neg (fun q => h2 ((fa_wide_lt z x).mp ((lg_cmp_gt _ _).mp q)))]
      have : (y ≤ x ∧ x ≤ z) := by rw [fa_le, fa_le]; rw [fa_lt] at h1 h2; omega
      simp [this, bz]
theorem dec_lt {x : Int32} {n : Nat} (hn : n < 2147483648) : decide ((0 : Int32) ≤ x ∧ x ≤ nI n - 1) = decide ((0 : Int32) ≤ x ∧ x < nI n) := by
  rw [decide_eq_decide, fa_le, fa_le, fa_lt]
  have e : (nI n - 1 : Int32).toInt = (n : Int) - 1 := by
    cases n with
    | zero => rfl
    | succ n => rw [show nI (n + 1) - 1 = nI n from nI_pred n, nI_toInt (by omega)]; omega
  rw [e, nI_toInt hn]
  omega
theorem m_isDoor {n : Nat} (x : Int32) (hn : n < 2147483648) : f_X8_isDoor (nI n) x = some (bz (decide ((0 : Int32) ≤ x ∧ x < nI n))) := by
  unfold f_X8_isDoor
  rw [show (0 : Int64) = (0 : Int32).toInt64 from rfl, m_in, ob1_s, gbl_b, dec_lt hn]
theorem m_isRoom {n : Nat} (x : Int32) (hn : n < 2147483648) : f_X8_isRoom (nI n) x = some (bz (decide ((0 : Int32) ≤ x ∧ x < nI n))) := by
  unfold f_X8_isRoom
  rw [show (0 : Int64) = (0 : Int32).toInt64 from rfl, m_in, ob1_s, gbl_b, dec_lt hn]
/-- a row of doors at a place of an array: ends and bars -/
def hse (g : Nat → Int32) (o Dn : Nat) (a b : Nat → Nat) (bm : Nat) : Prop := ∀ d, d < Dn → g (o + 3 * d) = nI (a d) ∧ g (o + 3 * d + 1) = nI (b d) ∧ g (o + 3 * d + 2) = bz (bm.testBit d)
theorem i3 (d : Nat) : (3 : Int32) * nI d = nI (3 * d) := pk_mul 3 d
theorem m_leadsTo {g : Nat → Int32} {o Dn n d x bm : Nat} {a b : Nat → Nat} (h : hse g o Dn a b bm) (hD : Dn ≤ 10) (hd : d < Dn) (hn : o + 30 ≤ n) (hn2 : n < 100000) (h7a : lt7 a) (h7 : lt7 b) (hx : x < 1000) : f_X8_leadsTo n g (nI o) (nI d) (nI x) = some (enc (lead a b bm d x)) := by
  unfold f_X8_leadsTo
  obtain ⟨e1, e2, e3⟩ := h d hd
  have h1 := h7a d
  have h2 := h7 d
  rw [i3, nI_add, show nI (o + 3 * d) + 1 = nI (o + 3 * d + 1) from nI_1 _, show nI (o + 3 * d) + 2 = nI (o + 3 * d + 2) from nI_add _ 2]
  rw [gin_k (by omega) (by omega), bnd_s, gin_k (by omega) (by omega), bnd_s, gin_k (by omega) (by omega), nI_cl (by omega), nI_cl (by omega), nI_cl (by omega), e1, e2, e3, jn0_s]
  unfold lead
  cases hB : bm.testBit d with
  | true => rw [bz_t, if_pos rfl]; rfl
  | false =>
    rw [bz_f, if_neg (by decide)]
    by_cases c1 : a d = x
    · rw [if_pos (show nI (a d) = nI x by rw [c1])]; simp [c1, enc]
    · rw [if_neg (fun q => c1 (nI_inj (by omega) (by omega) q))]
      by_cases c2 : b d = x
      · rw [if_pos (show nI (b d) = nI x by rw [c2]), if_neg (fun q => c1 (nI_inj (by omega) (by omega) q))]; simp [c1, c2, enc]
      · rw [if_neg (fun q => c2 (nI_inj (by omega) (by omega) q))]; simp [c1, c2, enc]
theorem m_leading {g : Nat → Int32} {o Dn n x bm : Nat} {a b : Nat → Nat} (h : hse g o Dn a b bm) (hD : Dn ≤ 10) (hn : o + 30 ≤ n) (hn2 : n < 100000) (h7a : lt7 a) (h7 : lt7 b) (hx : x < 1000) : f_X8_leading (nI Dn) n g (nI o) (nI x) = some (nI (opn a b bm Dn x)) := by
  unfold f_X8_leading opn
  have hh := itr_count (step := un2 (b_X8_leading_6 (nI Dn) n g (nI o) (nI x))) (fun i => (nI (msk (fun d => (lead a b bm d x).isSome) i), nI i)) Dn (nI (msk (fun d => (lead a b bm d x).isSome) Dn), nI Dn) ?_ ?_ FU (by unfold FU; omega)
  · rw [show ((0 : Int32), (0 : Int32)) = (nI (msk (fun d => (lead a b bm d x).isSome) 0), nI 0) from rfl, hh]
    rfl
  · intro i hi
    rw [un2_s]
    unfold b_X8_leading_6
    rw [if_neg (nI_ge hi (by omega)), m_leadsTo h hD hi hn hn2 h7a h7 hx, ob1_s, jn1_s]
    have hl : ∀ n, lead a b bm i x = some n → n < 2147483648 := fun n hn => by have := lead_lt h7a h7 hn; omega
    by_cases hc : lead a b bm i x = none
    · rw [if_pos ((enc_none _ hl).mpr hc)]
      simp only [bnd_s]
      rw [show nI i + 1 = nI (i + 1) from nI_1 i, msk_no _ _ (by simp [hc]), show (0 : Int32) = nI 0 from rfl, fa_or, Nat.or_zero]
    · have hs : (lead a b bm i x).isSome = true := by
        cases h : lead a b bm i x with
        | none => exact absurd h hc
        | some n => rfl
      rw [if_neg (fun e => hc ((enc_none _ hl).mp e))]
      simp only [bnd_s]
      rw [show nI i + 1 = nI (i + 1) from nI_1 i, shl_k i (by omega), fa_or, msk_or (fun d => (lead a b bm d x).isSome) i hs]
  · rw [un2_s]
    unfold b_X8_leading_6
    rw [if_pos (nI_le (Nat.le_refl Dn) (by omega))]
def cntl (om : Nat) : Nat → Nat
  | 0 => 0
  | i + 1 => cntl om i + (if om.testBit i then 1 else 0)
theorem cntl_r : ∀ om, om < 1024 → cntl om 10 = cntr om 10 := by decide +kernel
theorem cntl_le (om : Nat) : ∀ i, cntl om i ≤ i
  | 0 => Nat.le_refl 0
  | i + 1 => by
    have := cntl_le om i
    rw [cntl]
    split <;> omega
theorem m_bitsOf {om : Nat} (h : om < 1024) : f_X8_bitsOf (nI om) = some (nI (cntr om 10)) := by
  unfold f_X8_bitsOf
  have hh := itr_count (step := un2 (b_X8_bitsOf_4 (nI om))) (fun i => (nI (cntl om i), nI i)) 10 (nI (cntl om 10), nI 10) ?_ ?_ FU (by unfold FU; omega)
  · rw [show ((0 : Int32), (0 : Int32)) = (nI (cntl om 0), nI 0) from rfl, hh, ← cntl_r om h]
    rfl
  · intro i hi
    rw [un2_s]
    unfold b_X8_bitsOf_4
    rw [if_neg (show ¬ (10 : Int32) ≤ nI i from nI_ge (b := 10) hi (by omega)), bit_k (by omega) (by omega), bnd_s, bnd_s, show nI i + 1 = nI (i + 1) from nI_1 i]
    rw [cntl]
    cases om.testBit i with
    | true => rw [bz_t, show nI (cntl om i) + 1 = nI (cntl om i + 1) from nI_1 _]; rfl
    | false => rw [bz_f, show nI (cntl om i) + 0 = nI (cntl om i) by rw [Int32.add_zero]]; rfl
  · rw [un2_s]
    unfold b_X8_bitsOf_4
    rw [if_pos (show (10 : Int32) ≤ nI 10 from nI_le (a := 10) (Nat.le_refl 10) (by omega))]
theorem m_placeOf_r {om : Nat} (hom : om < 2147483648) : ∀ (r k n : Nat), r ≤ 10 → k < cntr om r → r < n → ob2 (itr (un2 (b_X8_placeOf_4 (nI om))) n (nI k, nI (10 - r))) (fun _ x => some x) = some (nI (nthr om r k)) := by
  intro r
  induction r with
  | zero => intro k n _ h _; exact absurd h (Nat.not_lt_zero _)
  | succ r ih =>
    intro k n hr hk hn
    obtain ⟨n, rfl⟩ : ∃ m, n = m + 1 := ⟨n - 1, by omega⟩
    have hcl := cntr_le (om := om) (r + 1)
    have hcl2 := cntr_le (om := om) r
    rw [itr, un2_s]
    unfold b_X8_placeOf_4
    have e1 : 10 - (r + 1) = 9 - r := by omega
    have e2 : nI (9 - r) + 1 = nI (10 - r) := by rw [nI_1]; congr 1; omega
    rw [e1, bit_k hom (by omega), jn0_s, nthr]
    rw [cntr] at hk
    by_cases hb : om.testBit (9 - r) = true
    · rw [if_pos hb] at hk
      rw [hb, bz_t, if_neg (by decide), if_pos rfl]
      by_cases h0 : k = 0
      · subst h0
        rw [if_pos (show nI 0 ≤ 0 by decide), if_pos rfl]
        rfl
      · rw [if_neg (nI_nle (by omega) (by omega)), if_neg h0]
        obtain ⟨k, rfl⟩ : ∃ j, k = j + 1 := ⟨k - 1, by omega⟩
        simp only [bnd_s]
        rw [show nI (k + 1) - 1 = nI k from nI_pred k, e2]
        exact ih k n (by omega) (by omega) (by omega)
    · rw [if_neg hb] at hk
      have hb : om.testBit (9 - r) = false := by simpa using hb
      rw [hb, bz_f, if_pos rfl, if_neg (by decide)]
      simp only [bnd_s]
      rw [show nI k - 0 = nI k by rw [Int32.sub_zero], e2]
      exact ih k n (by omega) (by omega) (by omega)
theorem m_placeOf {om k : Nat} (hom : om < 2147483648) (hk : k < cntr om 10) : f_X8_placeOf (nI om) (nI k) = some (nI (nthr om 10 k)) := by
  unfold f_X8_placeOf
  exact m_placeOf_r hom 10 k FU (by omega) hk (by unfold FU; omega)
theorem opn_0 {a b : Nat → Nat} {bm Dn x : Nat} (h : opn a b bm Dn x = 0) (d : Nat) (hd : d < Dn) : lead a b bm d x = none := by
  have h1 : (opn a b bm Dn x).testBit d = false := by rw [h]; exact Nat.zero_testBit d
  unfold opn at h1
  rw [msk_bit] at h1
  simp [hd] at h1
  exact h1
theorem ff_no {p : Nat → Bool} {n : Nat} (h : ∀ i, i < n → p i = false) : ff p n = none := by
  induction n with
  | zero => rfl
  | succ n ih => rw [ff, ih (fun i hi => h i (by omega))]; simp [h n (by omega)]
theorem ff_succ (p : Nat → Bool) (n : Nat) : (ff p (n + 1)).isSome = ((ff p n).isSome || p n) := by
  rw [ff]
  cases ff p n with
  | some k => rfl
  | none => cases p n <;> rfl
theorem m_goesTo {g : Nat → Int32} {o Dn n x y st hb bm : Nat} {a b : Nat → Nat} (h : hse g o Dn a b bm) (hD : Dn ≤ 10) (hn : o + 30 ≤ n) (hn2 : n < 100000) (h7a : lt7 a) (h7 : lt7 b) (hx : x < 7) (hy : y < 7) (hst : st < 100000) (hh : hb < 4) : f_X8_goesTo (nI Dn) n g (nI o) (nI x) (nI y) (nI hb) (nI st) = some (nI (prw a b bm Dn st hb x y)) := by
  unfold f_X8_goesTo prw
  rw [m_leading h hD hn hn2 h7a h7 (by omega), ob1_s]
  have hol := opn_lt (a := a) (b := b) (bm := bm) (x := x) hD
  by_cases h0 : hb = 0
  · subst h0; rw [if_pos (show nI 0 = 0 from rfl), if_pos rfl]
  · rw [if_neg (nI_ne0 (by omega) (by omega)), if_neg h0]
    by_cases ho : opn a b bm Dn x = 0
    · rw [if_pos (show nI (opn a b bm Dn x) = 0 by rw [ho]; rfl), if_pos ho]
      by_cases h2 : hb = 2
      · rw [if_pos h2, ff_no (fun i hi => by rw [opn_0 ho i hi]; rfl)]; rfl
      · rw [if_neg h2]
    · rw [if_neg (nI_ne0 (by omega) (by omega)), if_neg ho]
      by_cases h2 : hb = 2
      · subst h2
        rw [if_pos (show nI 2 = 2 from rfl), if_pos rfl]
        have hh := itr_count (step := un2 (b_X8_goesTo_33 (nI Dn) n g (nI o) (nI x) (nI y))) (fun i => (bz (ff (fun d => lead a b bm d x == some y) i).isSome, nI i)) Dn (bz (ff (fun d => lead a b bm d x == some y) Dn).isSome, nI Dn) ?_ ?_ FU (by unfold FU; omega)
        · rw [show ((0 : Int32), (0 : Int32)) = (bz (ff (fun d => lead a b bm d x == some y) 0).isSome, nI 0) from rfl, hh, ob2_s]
          cases (ff (fun d => lead a b bm d x == some y) Dn).isSome <;> rfl
        · intro i hi
          rw [un2_s]
          unfold b_X8_goesTo_33
          rw [if_neg (nI_ge hi (by omega)), jn1_s, jn0_s, m_leadsTo h hD hi hn hn2 h7a h7 (by omega), ob1_s, ff_succ]
          simp only [bnd_s]
          rw [show nI i + 1 = nI (i + 1) from nI_1 i]
          have hl : ∀ n, lead a b bm i x = some n → n < 2147483648 := fun n hn => by have := lead_lt h7a h7 hn; omega
          cases (ff (fun d => lead a b bm d x == some y) i).isSome with
          | true => rw [bz_t, if_neg (by decide)]; rfl
          | false =>
            rw [bz_f, if_pos rfl]
            by_cases hc : lead a b bm i x = some y
            · rw [if_pos ((enc_eq hl (by omega)).mpr hc)]; simp [hc, bz]
            · rw [if_neg (fun q => hc ((enc_eq hl (by omega)).mp q))]
              have : (lead a b bm i x == some y) = false := by simpa using hc
              simp [this, bz]
        · rw [un2_s]
          unfold b_X8_goesTo_33
          rw [if_pos (nI_le (Nat.le_refl Dn) (by omega))]
      · rw [if_neg (show ¬ nI hb = (2 : Int32) from fun e => h2 (nI_inj (b := 2) (by omega) (by omega) e)), if_neg h2, jn1_s]
        have hc : 0 < cntr (opn a b bm Dn x) 10 := by
          rcases Nat.eq_zero_or_pos (cntr (opn a b bm Dn x) 10) with h | h
          · exact absurd (cntr_0 hol h) ho
          · exact h
        have hcl := cntr_le (om := opn a b bm Dn x) 10
        have fin : ∀ k, k < cntr (opn a b bm Dn x) 10 → (ob1 (f_X8_placeOf (nI (opn a b bm Dn x)) (nI k)) fun r_8 => ob1 (f_X8_leadsTo n g (nI o) r_8 (nI x)) fun r_10 => some r_10) = some (nI ((lead a b bm (nthr (opn a b bm Dn x) 10 k) x).getD x)) := by
          intro k hk
          obtain ⟨h1, h3⟩ := nthr_in (Nat.le_refl 10) hk
          obtain ⟨h4, n, h5⟩ := opn_bit h3
          rw [m_placeOf (by omega) hk, ob1_s, m_leadsTo h hD h4 hn hn2 h7a h7 (by omega), ob1_s, h5]
          rfl
        by_cases h1 : hb = 1
        · rw [if_pos (show nI hb = 1 by rw [h1]; rfl), if_pos h1]
          exact fin 0 hc
        · rw [if_neg (show ¬ nI hb = (1 : Int32) from fun e => h1 (nI_inj (b := 1) (by omega) (by omega) e)), if_neg h1]
          rw [m_bitsOf hol, ob1_s, gnz_k hc (by omega), pk_rem (by omega) hc (by omega)]
          exact fin _ (Nat.mod_lt _ hc)
/-- a law that these doors can have -/
def lok (Dn L : Nat) : Prop := L < 210 ∧ ld L < Dn ∧ (L < 100 → L % 10 < Dn)
theorem bz_flip (b : Bool) : (1 : Int32) - bz b = bz (!b) := by cases b <;> rfl
theorem xor_bit (bm d e : Nat) : (bm ^^^ 2 ^ e).testBit d = (if d = e then !bm.testBit d else bm.testBit d) := by
  rw [Nat.testBit_xor, Nat.testBit_two_pow]
  by_cases h : d = e
  · subst h; simp
  · have : ¬ e = d := fun q => h q.symm
    simp [h, this]
theorem m_doesRule {g : Nat → Int32} {Dn R L bm : Nat} {a b : Nat → Nat} {n9 : Int32} (h : hse g 0 Dn a b bm) (hD : Dn ≤ 10) (hL : lok Dn L) (hR : 0 < R) (hR7 : R ≤ 7) (h7 : lt7 b) (hn9 : L < 200 → n9 = nI (L % 10)) : ∃ g', f_X8_doesRule (nI R) g (nI (L / 100)) (nI (ld L)) n9 = some g' ∧ hse g' 0 Dn a (chg R L (b, bm)).1 (chg R L (b, bm)).2 ∧ ∀ k, 30 ≤ k → g' k = g k := by
  obtain ⟨h210, hld, hs⟩ := hL
  have hn : L % 10 < 10 := Nat.mod_lt _ (by decide)
  have e1 : (3 : Int32) * nI (ld L) + 1 = nI (3 * ld L + 1) := by rw [i3]; exact nI_1 _
  have e2 : (3 : Int32) * nI (ld L) + 2 = nI (3 * ld L + 2) := by rw [i3]; exact nI_add _ 2
  have e3 : (3 : Int32) * nI (L % 10) + 1 = nI (3 * (L % 10) + 1) := by rw [i3]; exact nI_1 _
  have q := h (ld L) hld
  unfold f_X8_doesRule chg
  by_cases h1 : L < 100
  · have hs := hs h1
    have q2 := h (L % 10) hs
    simp only [Nat.zero_add] at q q2
    rw [if_pos (show nI (L / 100) = 0 by rw [show L / 100 = 0 by omega]; rfl), if_pos h1, hn9 (by omega), e1, e3]
    rw [gin_k (by omega) (by omega), bnd_s, gin_k (by omega) (by omega), gin_k (by omega) (by omega), bnd_s, gin_k (by omega) (by omega), bnd_s, nI_cl (by omega), nI_cl (by omega), q.2.1, q2.2.1]
    refine ⟨_, rfl, ?_, ?_⟩
    · intro d hd
      have z := h d hd
      simp only [Nat.zero_add] at z ⊢
      refine ⟨?_, ?_, ?_⟩
      · rw [pk_un (by omega), pk_un (by omega)]; exact z.1
      · unfold upd updN
        by_cases c1 : d = L % 10
        · rw [if_pos (by omega), if_pos c1]
        · rw [if_neg (by omega), if_neg c1]
          by_cases c2 : d = ld L
          · rw [if_pos (by omega), if_pos c2]
          · rw [if_neg (by omega), if_neg c2]; exact z.2.1
      · rw [pk_un (by omega), pk_un (by omega)]; exact z.2.2
    · intro k hk
      rw [pk_un (by omega), pk_un (by omega)]
  · rw [if_neg (nI_ne0 (show 0 < L / 100 by omega) (by omega)), if_neg h1]
    simp only [Nat.zero_add] at q
    by_cases h2 : L < 200
    · rw [if_pos (show nI (L / 100) = 1 by rw [show L / 100 = 1 by omega]; rfl), if_pos h2, hn9 h2, e1]
      have hb7 := h7 (ld L)
      rw [gin_k (by omega) (by omega), gnz_k hR (by omega), gin_k (by omega) (by omega), bnd_s, nI_cl (by omega), q.2.1, nI_add, pk_rem (by omega) hR (by omega)]
      refine ⟨_, rfl, ?_, ?_⟩
      · intro d hd
        have z := h d hd
        simp only [Nat.zero_add] at z ⊢
        refine ⟨?_, ?_, ?_⟩
        · rw [pk_un (by omega)]; exact z.1
        · unfold upd updN
          by_cases c2 : d = ld L
          · rw [if_pos (by omega), if_pos c2]
          · rw [if_neg (by omega), if_neg c2]; exact z.2.1
        · rw [pk_un (by omega)]; exact z.2.2
      · intro k hk
        rw [pk_un (by omega)]
    · rw [if_neg (show ¬ nI (L / 100) = (1 : Int32) from fun e => by have := nI_inj (b := 1) (by omega) (by omega) e; omega), if_neg h2, e2]
      rw [gin_k (by omega) (by omega), gin_k (by omega) (by omega), bnd_s, nI_cl (by omega), q.2.2, bz_flip]
      refine ⟨_, rfl, ?_, ?_⟩
      · intro d hd
        have z := h d hd
        simp only [Nat.zero_add] at z ⊢
        refine ⟨?_, ?_, ?_⟩
        · rw [pk_un (by omega)]; exact z.1
        · rw [pk_un (by omega)]; exact z.2.1
        · rw [xor_bit]
          unfold upd
          by_cases c2 : d = ld L
          · rw [if_pos (by omega), if_pos c2, c2]
          · rw [if_neg (by omega), if_neg c2]; exact z.2.2
      · intro k hk
        rw [pk_un (by omega)]
/-- the rules as the reference holds them -/
def lwr (lw : Nat → Int32) (K : Nat) (rl : Nat → Nat) : Prop := ∀ k, k < K → lw (3 * k) = nI (rl k / 100) ∧ lw (3 * k + 1) = nI (ld (rl k)) ∧ (rl k < 200 → lw (3 * k + 2) = nI (rl k % 10))
/-- a loop whose states are known by what holds of them -/
theorem itr_inv {σ τ : Type} {step : σ → Option (σ ⊕ τ)} (P : Nat → σ → Prop) (N : Nat) (Qo : τ → Prop) (hs : ∀ i x, i < N → P i x → ∃ y, step x = some (.inl y) ∧ P (i + 1) y) (he : ∀ x, P N x → ∃ o, step x = some (.inr o) ∧ Qo o) (x0 : σ) (h0 : P 0 x0) (n : Nat) (hn : N < n) : ∃ o, itr step n x0 = some o ∧ Qo o := by
  have key : ∀ (k i n : Nat) (x : σ), i + k = N → k < n → P i x → ∃ o, itr step n x = some o ∧ Qo o := by
    intro k
    induction k with
    | zero =>
      intro i n x hi hn hx
      obtain ⟨n, rfl⟩ : ∃ m, n = m + 1 := ⟨n - 1, by omega⟩
      have : i = N := by omega
      subst this
      obtain ⟨o, e, q⟩ := he x hx
      rw [itr, e]
      exact ⟨o, rfl, q⟩
    | succ k ih =>
      intro i n x hi hn hx
      obtain ⟨n, rfl⟩ : ∃ m, n = m + 1 := ⟨n - 1, by omega⟩
      obtain ⟨y, e, q⟩ := hs i x (by omega) hx
      rw [itr, e]
      exact ih (i + 1) n y (by omega) (by omega) q
  exact key N 0 n x0 (by omega) hn h0
theorem m_dusks {g lw : Nat → Int32} {Dn R K bm : Nat} {a b rl : Nat → Nat} (h : hse g 0 Dn a b bm) (hD : Dn ≤ 10) (hK : K ≤ 6) (hl : lwr lw K rl) (hok : ∀ k, k < K → lok Dn (rl k)) (hR : 0 < R) (hR7 : R ≤ 7) (h7 : lt7 b) : ∃ g', f_X8_dusks (nI R) (nI K) lw g = some g' ∧ hse g' 0 Dn a (rls R rl K (b, bm)).1 (rls R rl K (b, bm)).2 ∧ ∀ k, 30 ≤ k → g' k = g k := by
  unfold f_X8_dusks
  have hh := itr_inv (step := un2 (b_X8_dusks_2 (nI R) (nI K) lw)) (fun i x => x.1 = nI i ∧ hse x.2 0 Dn a (rls R rl i (b, bm)).1 (rls R rl i (b, bm)).2 ∧ ∀ k, 30 ≤ k → x.2 k = g k) K (fun o => hse o.2 0 Dn a (rls R rl K (b, bm)).1 (rls R rl K (b, bm)).2 ∧ ∀ k, 30 ≤ k → o.2 k = g k) ?_ ?_ ((0 : Int32), g) ⟨rfl, h, fun _ _ => rfl⟩ FU (by unfold FU; omega)
  · obtain ⟨o, e, q⟩ := hh
    rw [e]
    exact ⟨o.2, rfl, q⟩
  · rintro i ⟨x1, x2⟩ hi ⟨h1, h2, h3⟩
    simp only at h1 h2 h3
    subst h1
    obtain ⟨z1, z2, z3⟩ := hl i hi
    obtain ⟨g', e, q, q2⟩ := m_doesRule (R := R) (n9 := lw (3 * i + 2)) h2 hD (hok i hi) hR hR7 (lt7_rls hR hR7 h7) z3
    refine ⟨(nI (i + 1), g'), ?_, rfl, q, fun k hk => (q2 k hk).trans (h3 k hk)⟩
    rw [un2_s]
    unfold b_X8_dusks_2
    rw [if_neg (nI_ge hi (by omega)), i3, show nI (3 * i) + 1 = nI (3 * i + 1) from nI_1 _, show nI (3 * i) + 2 = nI (3 * i + 2) from nI_add _ 2]
    rw [gin_k (by omega) (by omega), gin_k (by omega) (by omega), gin_k (by omega) (by omega), nI_cl (by omega), nI_cl (by omega), nI_cl (by omega), z1, z2, e, ob1_s, bnd_s, show nI i + 1 = nI (i + 1) from nI_1 i]
  · rintro ⟨x1, x2⟩ ⟨h1, h2, h3⟩
    simp only at h1 h2 h3
    subst h1
    refine ⟨(nI K, x2), ?_, h2, h3⟩
    rw [un2_s]
    unfold b_X8_dusks_2
    rw [if_pos (nI_le (Nat.le_refl K) (by omega))]
theorem m_worksNow (s0 g : Nat → Int32) : ∃ g', f_X8_worksNow s0 g = some g' ∧ (∀ k, k < 30 → g' k = s0 k) ∧ ∀ k, 30 ≤ k → g' k = g k := by
  unfold f_X8_worksNow
  have hh := itr_inv (step := un2 (b_X8_worksNow_2 s0)) (fun i x => x.1 = nI i ∧ (∀ k, k < i → x.2 k = s0 k) ∧ ∀ k, i ≤ k → x.2 k = g k) 30 (fun o => (∀ k, k < 30 → o.2 k = s0 k) ∧ ∀ k, 30 ≤ k → o.2 k = g k) ?_ ?_ ((0 : Int32), g) ⟨rfl, fun k hk => absurd hk (Nat.not_lt_zero _), fun _ _ => rfl⟩ FU (by unfold FU; omega)
  · obtain ⟨o, e, q⟩ := hh
    rw [e]
    exact ⟨o.2, rfl, q⟩
  · rintro i ⟨x1, x2⟩ hi ⟨h1, h2, h3⟩
    simp only at h1 h2 h3
    subst h1
    refine ⟨(nI (i + 1), upd x2 i (s0 i)), ?_, rfl, ?_, ?_⟩
    · rw [un2_s]
      unfold b_X8_worksNow_2
      rw [if_neg (show ¬ (30 : Int32) ≤ nI i from nI_ge (b := 30) hi (by omega)), gin_k (by omega) (by omega), gin_k (by omega) (by omega), nI_cl (by omega), bnd_s, bnd_s, show nI i + 1 = nI (i + 1) from nI_1 i]
    · intro k hk
      simp only
      by_cases c : k = i
      · rw [c, pk_us]
      · rw [pk_un c]; exact h2 k (by omega)
    · intro k hk
      simp only
      rw [pk_un (by omega)]; exact h3 k (by omega)
  · rintro ⟨x1, x2⟩ ⟨h1, h2, h3⟩
    simp only at h1 h2 h3
    subst h1
    refine ⟨(nI 30, x2), ?_, h2, h3⟩
    rw [un2_s]
    unfold b_X8_worksNow_2
    rw [if_pos (show (30 : Int32) ≤ nI 30 from nI_le (a := 30) (Nat.le_refl 30) (by omega))]
theorem hse_of {s0 g : Nat → Int32} {Dn bm : Nat} {a b : Nat → Nat} (h : hse s0 0 Dn a b bm) (hD : Dn ≤ 10) (hg : ∀ k, k < 30 → g k = s0 k) : hse g 0 Dn a b bm := by
  intro d hd
  have z := h d hd
  rw [hg _ (by omega), hg _ (by omega), hg _ (by omega)]
  exact z
