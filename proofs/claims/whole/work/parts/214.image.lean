/-! ===== pure 14: copies of pages; keep, back; count ===== -/
theorem m_copies {g : Nat → Int32} {p q : Nat} (hp : p + 49 ≤ 196) (hq : q + 49 ≤ 196) (hd : p + 49 ≤ q ∨ q + 49 ≤ p) : ∃ g', f_X8_copies g (nI p) (nI q) = some g' ∧ (∀ k, k < 49 → g' (q + k) = g (p + k)) ∧ ∀ j, (j < q ∨ q + 49 ≤ j) → g' j = g j := by
  unfold f_X8_copies
  have hh := itr_inv (step := un2 (b_X8_copies_2 (nI p) (nI q))) (fun i x => x.1 = nI i ∧ (∀ k, k < i → x.2 (q + k) = g (p + k)) ∧ ∀ j, (j < q ∨ q + i ≤ j) → x.2 j = g j) 49 (fun o => (∀ k, k < 49 → o.2 (q + k) = g (p + k)) ∧ ∀ j, (j < q ∨ q + 49 ≤ j) → o.2 j = g j) ?_ ?_ ((0 : Int32), g) ⟨rfl, fun k hk => absurd hk (Nat.not_lt_zero _), fun _ _ => rfl⟩ FU (by unfold FU; omega)
  · obtain ⟨o, e, q1⟩ := hh
    rw [e]
    exact ⟨o.2, rfl, q1⟩
  · rintro i ⟨x1, x2⟩ hi ⟨h1, h2, h3⟩
    simp only at h1 h2 h3
    subst h1
    refine ⟨(nI (i + 1), upd x2 (q + i) (g (p + i))), ?_, rfl, ?_, ?_⟩
    · rw [un2_s]
      unfold b_X8_copies_2
      rw [if_neg (show ¬ (49 : Int32) ≤ nI i from nI_ge (b := 49) hi (by omega)), nI_add, nI_add, gin_k (by omega) (by omega), gin_k (by omega) (by omega), nI_cl (by omega), nI_cl (by omega), bnd_s, bnd_s, show nI i + 1 = nI (i + 1) from nI_1 i, h3 (p + i) (by omega)]
    · intro k hk
      simp only
      by_cases c : k = i
      · rw [c, pk_us]
      · rw [pk_un (by omega)]; exact h2 k (by omega)
    · intro k hk
      simp only
      rw [pk_un (by omega)]; exact h3 k (by omega)
  · rintro ⟨x1, x2⟩ ⟨h1, h2, h3⟩
    simp only at h1 h2 h3
    subst h1
    refine ⟨(nI 49, x2), ?_, h2, h3⟩
    rw [un2_s]
    unfold b_X8_copies_2
    rw [if_pos (show (49 : Int32) ≤ nI 49 from nI_le (a := 49) (Nat.le_refl 49) (by omega))]
theorem PgM_move {Dn : Nat} {a b : Nat → Nat} {bm per hs : Nat} {be : Option Nat} {hb on : Nat} {sg : Nat → Nat} {st : Nat} {ea : Bool} {g g' : Nat → Int32} {o o' : Nat} (h : PgM Dn a b bm per hs be hb on sg st ea g o) (hD : Dn ≤ 10) (hon : on ≤ 12) (hg : ∀ k, k < 49 → g' (o' + k) = g (o + k)) : PgM Dn a b bm per hs be hb on sg st ea g' o' := by
  obtain ⟨h1, h2, h3, h4, h5, h6, h7, h8, h9⟩ := h
  refine ⟨?_, ?_, ?_, ?_, ?_, ?_, ?_, ?_, ?_⟩
  · intro d hd
    have z := h1 d hd
    have e1 := hg (3 * d) (by omega)
    have e2 := hg (3 * d + 1) (by omega)
    have e3 := hg (3 * d + 2) (by omega)
    refine ⟨e1.trans z.1, ?_, ?_⟩
    · rw [show o' + 3 * d + 1 = o' + (3 * d + 1) by omega, e2, ← show o + 3 * d + 1 = o + (3 * d + 1) by omega]; exact z.2.1
    · rw [show o' + 3 * d + 2 = o' + (3 * d + 2) by omega, e3, ← show o + 3 * d + 2 = o + (3 * d + 2) by omega]; exact z.2.2
  · rw [hg 30 (by omega)]; exact h2
  · rw [hg 31 (by omega)]; exact h3
  · rw [hg 32 (by omega)]; exact h4
  · rw [hg 33 (by omega)]; exact h5
  · intro i hi
    rw [show o' + 34 + i = o' + (34 + i) by omega, hg (34 + i) (by omega), ← show o + 34 + i = o + (34 + i) by omega]
    exact h6 i hi
  · rw [hg 46 (by omega)]; exact h7
  · rw [hg 47 (by omega)]; exact h8
  · rw [hg 48 (by omega)]; exact h9
theorem p_hasImage {c0 c1 : Bool} {k : Nat} (hk : k < 2) : f_X7_hasImage (nI (c0.toNat + 2 * c1.toNat)) (nI k) = some (bz (if k = 0 then c0 else c1)) := by
  rcases (show k = 0 ∨ k = 1 by omega) with rfl | rfl <;> cases c0 <;> cases c1 <;> rfl
theorem kept_or {c0 c1 : Bool} {k : Nat} (hk : k < 2) : nI (c0.toNat + 2 * c1.toNat) ||| ((1 : Int32) <<< (nI k &&& 31)) = nI ((if k = 0 then true else c0).toNat + 2 * (if k = 1 then true else c1).toNat) := by
  rcases (show k = 0 ∨ k = 1 by omega) with rfl | rfl <;> cases c0 <;> cases c1 <;> rfl
theorem m_keep {g isKept : Nat → Int32} {k : Nat} {c : Bool} (hk : k < 2) (h : isKept k = bz c) : ∃ g', f_X8_keep isKept g (nI k) = some (bz c, upd isKept k 1, g') ∧ (∀ j, j < 49 → g' (49 * (k + 1) + j) = g j) ∧ ∀ j, (j < 49 * (k + 1) ∨ 49 * (k + 1) + 49 ≤ j) → g' j = g j := by
  obtain ⟨g', e, q1, q2⟩ := m_copies (g := g) (p := 0) (q := 49 * (k + 1)) (by omega) (by omega) (by omega)
  refine ⟨g', ?_, fun j hj => by have := q1 j hj; rwa [Nat.zero_add] at this, q2⟩
  unfold f_X8_keep
  have e1 : decide ((0 : Int32) ≤ nI k ∧ nI k ≤ 1) = true := dec_le (n := 1) (by omega) (by omega)
  rw [show (0 : Int64) = (0 : Int32).toInt64 from rfl, show (1 : Int64) = (1 : Int32).toInt64 from rfl, m_in, ob1_s, e1, bz_t, if_neg n10, show nI k + 1 = nI (k + 1) from nI_1 k, show (49 : Int32) * nI (k + 1) = nI (49 * (k + 1)) from pk_mul 49 _]
  rw [show f_X8_copies g (0 : Int32) (nI (49 * (k + 1))) = some g' from e, ob1_s, gin_k hk (by omega), jn1_s, nI_cl (by omega), h]
  dsimp only
  rw [gin_k hk (by omega), gin_k hk (by omega), bnd_s, bnd_s, bl_v (Or.inr rfl)]
  cases c with
  | true => rw [bz_t, if_neg n10]
  | false => rw [bz_f, if_pos rfl]
theorem co_keep {R Dn : Nat} {b : Nat → Nat} {bm per hs : Nat} {be : Option Nat} {hb on : Nat} {sg : Nat → Nat} {st : Nat} {ea : Bool} {g isKept : Nat → Int32} {kept x1 x2 x3 x4 x5 x6 x7 x8 y1 y2 y3 y4 y5 y6 y7 y8 : Int32} {se0 str0 se1 str1 : Nat → Int32} (hO : PgO R Dn b bm per hs be hb on sg st) (hK : KpR kept isKept) (hA : ScR se0 str0) (hB : ScR se1 str1) (p1 : Int32) :
    (f_X7_keep kept x1 x2 x3 x4 x5 x6 x7 x8 se0 str0 y1 y2 y3 y4 y5 y6 y7 y8 se1 str1 (nI bm) (nI per) (nI hs) (enc be) (nI hb) (nI on) (nI st) (bz ea) (rI b) (rI sg) p1 = some (-1, kept, x1, x4, x8, x5, x3, x6, x2, x7, se0, str0, y1, y4, y8, y5, y3, y6, y2, y7, se1, str1) ∧ f_X8_keep isKept g p1 = some (-1, isKept, g)) ∨
    (∃ (rr kept' : Int32) (isKept' g' : Nat → Int32), f_X7_keep kept x1 x2 x3 x4 x5 x6 x7 x8 se0 str0 y1 y2 y3 y4 y5 y6 y7 y8 se1 str1 (nI bm) (nI per) (nI hs) (enc be) (nI hb) (nI on) (nI st) (bz ea) (rI b) (rI sg) p1 = some (rr, kept', nI bm, enc be, bz ea, nI hb, nI hs, nI on, nI per, nI st, rI b, rI sg, y1, y4, y8, y5, y3, y6, y2, y7, se1, str1) ∧ f_X8_keep isKept g p1 = some (rr, isKept', g') ∧ KpR kept' isKept' ∧ isKept' 1 = isKept 1 ∧ (∀ j, j < 49 → g' (49 + j) = g j) ∧ ∀ j, (j < 49 ∨ 98 ≤ j) → g' j = g j) ∨
    (∃ (rr kept' : Int32) (isKept' g' : Nat → Int32), f_X7_keep kept x1 x2 x3 x4 x5 x6 x7 x8 se0 str0 y1 y2 y3 y4 y5 y6 y7 y8 se1 str1 (nI bm) (nI per) (nI hs) (enc be) (nI hb) (nI on) (nI st) (bz ea) (rI b) (rI sg) p1 = some (rr, kept', x1, x4, x8, x5, x3, x6, x2, x7, se0, str0, nI bm, enc be, bz ea, nI hb, nI hs, nI on, nI per, nI st, rI b, rI sg) ∧ f_X8_keep isKept g p1 = some (rr, isKept', g') ∧ KpR kept' isKept' ∧ isKept' 0 = isKept 0 ∧ (∀ j, j < 49 → g' (98 + j) = g j) ∧ ∀ j, (j < 98 ∨ 147 ≤ j) → g' j = g j) := by
  obtain ⟨o1, o2, o3, o4, o5, o6, o7, o8, o9, o10, o11, o12, o13, o14⟩ := hO
  obtain ⟨c0, c1, rfl, hk0, hk1⟩ := hK
  obtain ⟨b0, s0, rfl, ha2, ha3, rfl, ha5, ha6⟩ := hA
  obtain ⟨b1, s1, rfl, hb2, hb3, rfl, hb5, hb6⟩ := hB
  rcases i32_in p1 2 (by omega) with ⟨k, hk, rfl⟩ | hout
  · have e1 : decide ((0 : Int32) ≤ nI k ∧ nI k ≤ (2 : Int32) - 1) = true := dec_le (n := 1) (by omega) (by omega)
    rcases (show k = 0 ∨ k = 1 by omega) with rfl | rfl
    · obtain ⟨g', e, q1, q2⟩ := m_keep (g := g) hk hk0
      refine Or.inr (Or.inl ⟨_, _, _, g', ?_, e, ⟨true, c1, rfl, ?_, ?_⟩, ?_, q1, q2⟩)
      · unfold f_X7_keep
        rw [p_within, ob1_s, e1, bz_t, if_neg n10, p_hasImage hk, ob1_s, p_asNumber, ob1_s, gin_k hk (by omega), if_pos (show nI 0 = (0 : Int32) from rfl), p_copyFrom o2 o12 ha3 ha5, ob10_s, bnd_s, kept_or hk]
        rfl
      · rw [pk_us]; rfl
      · rw [pk_un (by decide)]; exact hk1
      · rw [pk_un (by decide)]
    · obtain ⟨g', e, q1, q2⟩ := m_keep (g := g) hk hk1
      refine Or.inr (Or.inr ⟨_, _, _, g', ?_, e, ⟨c0, true, rfl, ?_, ?_⟩, ?_, q1, q2⟩)
      · unfold f_X7_keep
        rw [p_within, ob1_s, e1, bz_t, if_neg n10, p_hasImage hk, ob1_s, p_asNumber, ob1_s, gin_k hk (by omega), if_neg (show ¬ nI 1 = (0 : Int32) by decide), if_pos (show nI 1 = (1 : Int32) from rfl), p_copyFrom o2 o12 hb3 hb5, ob10_s, bnd_s, kept_or hk]
        rfl
      · rw [pk_un (by decide)]; exact hk0
      · rw [pk_us]; rfl
      · rw [pk_un (by decide)]
  · refine Or.inl ⟨?_, ?_⟩
    · unfold f_X7_keep
      rw [p_within, ob1_s, show decide ((0 : Int32) ≤ p1 ∧ p1 ≤ (2 : Int32) - 1) = false from dec_gt (n := 1) (by omega) hout, bz_f, if_pos rfl]
    · unfold f_X8_keep
      rw [show (0 : Int64) = (0 : Int32).toInt64 from rfl, show (1 : Int64) = (1 : Int32).toInt64 from rfl, m_in, ob1_s, show decide ((0 : Int32) ≤ p1 ∧ p1 ≤ (1 : Int32)) = false from dec_gt (n := 1) (by omega) hout, bz_f, if_pos rfl]
theorem m_back {g isKept : Nat → Int32} {k : Nat} (hk : k < 2) (h : isKept k = 1) : ∃ g', f_X8_back isKept g (nI k) = some (g (49 * (k + 1) + 47), g') ∧ (∀ j, j < 49 → g' (0 + j) = g (49 * (k + 1) + j)) ∧ ∀ j, 49 ≤ j → g' j = g j := by
  obtain ⟨g', e, q1, q2⟩ := m_copies (g := g) (p := 49 * (k + 1)) (q := 0) (by omega) (by omega) (by omega)
  refine ⟨g', ?_, q1, fun j hj => q2 j (by omega)⟩
  unfold f_X8_back
  have e1 : decide ((0 : Int32) ≤ nI k ∧ nI k ≤ 1) = true := dec_le (n := 1) (by omega) (by omega)
  rw [show (0 : Int64) = (0 : Int32).toInt64 from rfl, show (1 : Int64) = (1 : Int32).toInt64 from rfl, m_in, ob1_s, e1, bz_t, if_neg n10, show nI k + 1 = nI (k + 1) from nI_1 k, show (49 : Int32) * nI (k + 1) = nI (49 * (k + 1)) from pk_mul 49 _]
  rw [show f_X8_copies g (nI (49 * (k + 1))) (0 : Int32) = some g' from e, ob1_s, gin_k hk (by omega), nI_cl (by omega), h, if_neg n10, g47, k47]
  have := q1 47 (by omega)
  rw [Nat.zero_add] at this
  rw [this]
theorem co_back {R Dn : Nat} {a b : Nat → Nat} {bm per hs : Nat} {be : Option Nat} {hb on : Nat} {sg : Nat → Nat} {st : Nat} {ea : Bool} {g isKept : Nat → Int32} {kept x1 x2 x3 x4 x5 x6 x7 x8 y1 y2 y3 y4 y5 y6 y7 y8 : Int32} {se0 str0 se1 str1 : Nat → Int32} (hD : Dn ≤ 10) (hO : PgO R Dn b bm per hs be hb on sg st) (hM : PgM Dn a b bm per hs be hb on sg st ea g 0) (hK : KpR kept isKept) (hA : ImR 0 R Dn a kept x1 x2 x3 x4 x5 x6 x7 x8 se0 str0 g isKept) (hB : ImR 1 R Dn a kept y1 y2 y3 y4 y5 y6 y7 y8 se1 str1 g isKept) (p1 : Int32) : ∃ (rr : Int32) (b' : Nat → Nat) (bm' per' hs' : Nat) (be' : Option Nat) (hb' on' : Nat) (sg' : Nat → Nat) (st' : Nat) (ea' : Bool) (g' : Nat → Int32), f_X7_back kept x1 x2 x3 x4 x5 x6 x7 x8 se0 str0 y1 y2 y3 y4 y5 y6 y7 y8 se1 str1 (nI bm) (nI per) (nI hs) (enc be) (nI hb) (nI on) (nI st) (bz ea) (rI b) (rI sg) p1 = some (rr, nI bm', enc be', bz ea', nI hb', nI hs', nI on', nI per', nI st', rI b', rI sg') ∧ f_X8_back isKept g p1 = some (rr, g') ∧ PgO R Dn b' bm' per' hs' be' hb' on' sg' st' ∧ PgM Dn a b' bm' per' hs' be' hb' on' sg' st' ea' g' 0 ∧ ∀ j, 49 ≤ j → g' j = g j := by
  have hO' := hO
  obtain ⟨o1, o2, o3, o4, o5, o6, o7, o8, o9, o10, o11, o12, o13, o14⟩ := hO
  obtain ⟨c0, c1, rfl, hk0, hk1⟩ := hK
  rcases i32_in p1 2 (by omega) with ⟨k, hk, rfl⟩ | hout
  · have e1 : decide ((0 : Int32) ≤ nI k ∧ nI k ≤ (2 : Int32) - 1) = true := dec_le (n := 1) (by omega) (by omega)
    have e1' : decide ((0 : Int32) ≤ nI k ∧ nI k ≤ (1 : Int32)) = true := dec_le (n := 1) (by omega) (by omega)
    have hno : ∀ c : Bool, c = false → isKept k = bz c → (if k = 0 then c0 else c1) = c → (f_X7_back (nI (c0.toNat + 2 * c1.toNat)) x1 x2 x3 x4 x5 x6 x7 x8 se0 str0 y1 y2 y3 y4 y5 y6 y7 y8 se1 str1 (nI bm) (nI per) (nI hs) (enc be) (nI hb) (nI on) (nI st) (bz ea) (rI b) (rI sg) (nI k) = some (-2, nI bm, enc be, bz ea, nI hb, nI hs, nI on, nI per, nI st, rI b, rI sg)) ∧ f_X8_back isKept g (nI k) = some (-2, g) := by
      intro c hc h1 h2
      subst hc
      constructor
      · unfold f_X7_back
        rw [p_within, ob1_s, e1, bz_t, if_neg n10, p_hasImage hk, ob1_s, h2, bz_f, if_pos rfl]
      · unfold f_X8_back
        rw [show (0 : Int64) = (0 : Int32).toInt64 from rfl, show (1 : Int64) = (1 : Int32).toInt64 from rfl, m_in, ob1_s, e1', bz_t, if_neg n10, gin_k hk (by omega), nI_cl (by omega), h1, bz_f, if_pos rfl]
    rcases (show k = 0 ∨ k = 1 by omega) with rfl | rfl
    · cases c0 with
      | false =>
        obtain ⟨z1, z2⟩ := hno false rfl hk0 rfl
        exact ⟨_, _, _, _, _, _, _, _, _, _, _, g, z1, z2, hO', hM, fun _ _ => rfl⟩
      | true =>
        obtain ⟨g', e, q1, q2⟩ := m_back (g := g) hk hk0
        obtain ⟨b', bm', per', hs', be', hb', on', sg', st', ea', iO, iC, iM⟩ := hA.2 hk0
        obtain ⟨rfl, rfl, rfl, rfl, rfl, rfl, rfl, rfl, rfl, rfl⟩ := iC
        obtain ⟨i1, i2, i3', i4, i5, i6, i7, i8, i9, i10, i11, i12, i13, i14⟩ := iO
        have e47 : g (49 * (0 + 1) + 47) = nI st' := iM.2.2.2.2.2.2.2.1
        refine ⟨nI st', b', bm', per', hs', be', hb', on', sg', st', ea', g', ?_, by rw [e, e47], ⟨i1, i2, i3', i4, i5, i6, i7, i8, i9, i10, i11, i12, i13, i14⟩, PgM_move iM hD i10 q1, q2⟩
        unfold f_X7_back
        rw [p_within, ob1_s, e1, bz_t, if_neg n10, p_hasImage hk, ob1_s, if_pos rfl, bz_t, if_neg n10, gin_k hk (by omega), if_pos (show nI 0 = (0 : Int32) from rfl), p_copyFrom i2 i12 o2 o12, ob10_s]
    · cases c1 with
      | false =>
        obtain ⟨z1, z2⟩ := hno false rfl hk1 rfl
        exact ⟨_, _, _, _, _, _, _, _, _, _, _, g, z1, z2, hO', hM, fun _ _ => rfl⟩
      | true =>
        obtain ⟨g', e, q1, q2⟩ := m_back (g := g) hk hk1
        obtain ⟨b', bm', per', hs', be', hb', on', sg', st', ea', iO, iC, iM⟩ := hB.2 hk1
        obtain ⟨rfl, rfl, rfl, rfl, rfl, rfl, rfl, rfl, rfl, rfl⟩ := iC
        obtain ⟨i1, i2, i3', i4, i5, i6, i7, i8, i9, i10, i11, i12, i13, i14⟩ := iO
        have e47 : g (49 * (1 + 1) + 47) = nI st' := iM.2.2.2.2.2.2.2.1
        refine ⟨nI st', b', bm', per', hs', be', hb', on', sg', st', ea', g', ?_, by rw [e, e47], ⟨i1, i2, i3', i4, i5, i6, i7, i8, i9, i10, i11, i12, i13, i14⟩, PgM_move iM hD i10 q1, q2⟩
        unfold f_X7_back
        rw [p_within, ob1_s, e1, bz_t, if_neg n10, p_hasImage hk, ob1_s, if_neg (show ¬ (1 : Nat) = 0 by decide), bz_t, if_neg n10, gin_k hk (by omega), if_neg (show ¬ nI 1 = (0 : Int32) by decide), if_pos (show nI 1 = (1 : Int32) from rfl), p_copyFrom i2 i12 o2 o12, ob10_s]
  · refine ⟨-1, b, bm, per, hs, be, hb, on, sg, st, ea, g, ?_, ?_, hO', hM, fun _ _ => rfl⟩
    · unfold f_X7_back
      rw [p_within, ob1_s, show decide ((0 : Int32) ≤ p1 ∧ p1 ≤ (2 : Int32) - 1) = false from dec_gt (n := 1) (by omega) hout, bz_f, if_pos rfl]
    · unfold f_X8_back
      rw [show (0 : Int64) = (0 : Int32).toInt64 from rfl, show (1 : Int64) = (1 : Int32).toInt64 from rfl, m_in, ob1_s, show decide ((0 : Int32) ≤ p1 ∧ p1 ≤ (1 : Int32)) = false from dec_gt (n := 1) (by omega) hout, bz_f, if_pos rfl]
theorem cntl_ge {om n : Nat} (h : om < 2 ^ n) : ∀ k, cntl om (n + k) = cntl om n
  | 0 => rfl
  | k + 1 => by
    rw [← Nat.add_assoc, cntl, cntl_ge h k]
    have e : 2 ^ n ≤ 2 ^ (n + k) := Nat.pow_le_pow_right (by decide) (by omega)
    rw [Nat.testBit_lt_two_pow (by omega)]
    rfl
theorem co_count {R Dn : Nat} {a b : Nat → Nat} {bm per hs : Nat} {be : Option Nat} {hb on : Nat} {sg : Nat → Nat} {st : Nat} {ea : Bool} {g isKept lanes lengths cells mcells : Nat → Int32} {kept seen heard len lane0 size0 : Int32} (hD : Dn ≤ 10) (hO : PgO R Dn b bm per hs be hb on sg st) (hM : PgM Dn a b bm per hs be hb on sg st ea g 0) (hK : KpR kept isKept) (hS : ShR 0 lane0 size0 cells lanes lengths mcells) (p1 : Int32) : ∃ rr : Int32, f_X7_count kept heard (nI bm) (nI on) len seen size0 p1 = some rr ∧ f_X8_count (nI Dn) len seen heard isKept lanes lengths g p1 = some rr := by
  obtain ⟨o1, o2, o3, o4, o5, o6, o7, o8, o9, o10, o11, o12, o13, o14⟩ := hO
  obtain ⟨h1, h2, h3, h4, h5, h6, h7, h8, h9⟩ := hM
  simp only [Nat.zero_add] at h2 h3 h4 h5 h6 h7 h8 h9
  obtain ⟨c0, c1, rfl, hk0, hk1⟩ := hK
  have hbm := p2_lt o4 hD
  have hh := itr_count (step := un2 (b_X8_count_4 (nI Dn) g)) (fun i => (nI (cntl bm i), nI i)) Dn (nI (cntl bm Dn), nI Dn) ?_ ?_ FU (by unfold FU; omega)
  · have ec : cntl bm Dn = cntr bm 10 := by
      rw [← cntl_r bm hbm, ← cntl_ge o4 (10 - Dn), show Dn + (10 - Dn) = 10 by omega]
    unfold f_X7_count f_X8_count
    rw [show ((0 : Int32), (0 : Int32)) = (nI (cntl bm 0), nI 0) from rfl, hh, ob2_s, ec, p_bitCount bm hbm, ob1_s, p_bitCount _ (by cases c0 <;> cases c1 <;> decide), ob1_s]
    by_cases q0 : p1 = 0
    · rw [if_pos q0, if_pos q0, g46, k46, h7]; exact ⟨_, rfl, rfl⟩
    · rw [if_neg q0, if_neg q0]
      by_cases q1 : p1 = 1
      · rw [if_pos q1, if_pos q1]; exact ⟨_, rfl, rfl⟩
      · rw [if_neg q1, if_neg q1]
        by_cases q2 : p1 = 2
        · rw [if_pos q2, if_pos q2]; exact ⟨_, rfl, rfl⟩
        · rw [if_neg q2, if_neg q2]
          by_cases q3 : p1 = 3
          · rw [if_pos q3, if_pos q3, show gin (0 : Int32) 2 _ = _ from gin_k (k := 0) (by decide) (by decide), jn1_s]
            rw [show (0 : Int32).toNatClampNeg = 0 from rfl, show (1 : Int32).toNatClampNeg = 1 from rfl, hk0, hk1]
            cases c0 <;> cases c1 <;> exact ⟨_, rfl, rfl⟩
          · rw [if_neg q3, if_neg q3]
            by_cases q4 : p1 = 4
            · rw [if_pos q4, if_pos q4]; exact ⟨_, rfl, rfl⟩
            · rw [if_neg q4, if_neg q4]
              by_cases q5 : p1 = 5
              · rw [if_pos q5, if_pos q5, show gin (0 : Int32) 4 _ = _ from gin_k (k := 0) (by decide) (by decide), show gin (0 : Int32) 4 _ = _ from gin_k (k := 0) (by decide) (by decide), show gin (0 : Int32) 4 _ = _ from gin_k (k := 0) (by decide) (by decide), show (0 : Int32).toNatClampNeg = 0 from rfl]
                rcases hS with ⟨s1, s2⟩ | ⟨ln, n, s1, s2, s3, s4, s5, s6, s7⟩
                · rw [s2, if_pos rfl, s1]; exact ⟨_, rfl, rfl⟩
                · rw [s4, if_neg (ne4 (by omega)), s5, s6]; exact ⟨_, rfl, rfl⟩
              · rw [if_neg q5, if_neg q5]
                by_cases q6 : p1 = 6
                · rw [if_pos q6]; exact ⟨_, rfl, rfl⟩
                · rw [if_neg q6]; exact ⟨_, rfl, rfl⟩
  · intro i hi
    have z := (h1 i hi).2.2
    rw [Nat.zero_add] at z
    rw [un2_s]
    unfold b_X8_count_4
    rw [if_neg (nI_ge hi (by omega)), i3, show nI (3 * i) + 2 = nI (3 * i + 2) from nI_add _ 2, gin_k (by omega) (by omega), bnd_s, bnd_s, nI_cl (by omega), z, show nI i + 1 = nI (i + 1) from nI_1 i, cntl]
    cases bm.testBit i with
    | true => rw [bz_t, show nI (cntl bm i) + 1 = nI (cntl bm i + 1) from nI_1 _]; rfl
    | false => rw [bz_f, show nI (cntl bm i) + 0 = nI (cntl bm i) by rw [Int32.add_zero]]; rfl
  · rw [un2_s]
    unfold b_X8_count_4
    rw [if_pos (nI_le (Nat.le_refl Dn) (by omega))]
