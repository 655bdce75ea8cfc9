/-! ===== pure 29: what leads on, in the reference ===== -/
def GB (nx : Nat → Nat → St → Option St) (x n : Nat) : Nat → St → Bool
  | 0, s => s.1 == x
  | r + 1, s => (ff (fun d => match nx (n - (r + 1)) d s with | none => false | some s' => GB nx x n r s') 11).isSome
theorem GB_iff {nx : Nat → Nat → St → Option St} {x n r : Nat} (s : St) : GB nx x n (r + 1) s = true ↔ ∃ d, d ≤ 10 ∧ ∃ s', nx (n - (r + 1)) d s = some s' ∧ GB nx x n r s' = true := by
  rw [GB]
  constructor
  · intro h
    cases hf : ff (fun d => match nx (n - (r + 1)) d s with | none => false | some s' => GB nx x n r s') 11 with
    | none => rw [hf] at h; cases h
    | some d =>
      obtain ⟨h1, h2, _⟩ := ff_some hf
      cases hn : nx (n - (r + 1)) d s with
      | none => rw [hn] at h2; cases h2
      | some s' => rw [hn] at h2; exact ⟨d, by omega, s', hn, h2⟩
  · rintro ⟨d, hd, s', h1, h2⟩
    cases hf : ff (fun d => match nx (n - (r + 1)) d s with | none => false | some s' => GB nx x n r s') 11 with
    | some _ => rfl
    | none =>
      have h3 := ff_none hf d (by omega)
      rw [h1] at h3
      rw [show (match some s' with | none => false | some s' => GB nx x n r s') = GB nx x n r s' from rfl, h2] at h3
      cases h3
theorem m_lbRow {nx : Nat → Nat → St → Option St} {Dm : Int32} {g pg lo : Nat → Int32} {k : Nat} {G : St → Bool} (hk : k < 1344) (haf : ∀ d, d ≤ 10 → f_X8_after Dm pg g (nI (k / 56)) (nI (dS (k % 56)).1) (enc (dS (k % 56)).2) (nI d) = some (aft (nx (k / 56) d (dS (k % 56))))) (hv : ∀ d s', nx (k / 56) d (dS (k % 56)) = some s' → vS 7 s') (hlo : ∀ s', vS 7 s' → lo (56 * (k / 56 + 1) + mc s') = bz (G s')) : ∃ z lo', itr (un2 (b_X8_layBack_65 Dm pg g (nI k) (nI (k / 56)))) FU ((0 : Int32), upd lo k 0) = some (z, lo') ∧ lo' k = bz (ff (fun d => match nx (k / 56) d (dS (k % 56)) with | none => false | some s' => G s') 11).isSome ∧ ∀ j, j ≠ k → lo' j = lo j := by
  obtain ⟨q, hq⟩ : ∃ q : Nat → Bool, q = fun d => match nx (k / 56) d (dS (k % 56)) with | none => false | some s' => G s' := ⟨_, rfl⟩
  rw [← hq]
  have h := itr_inv (step := un2 (b_X8_layBack_65 Dm pg g (nI k) (nI (k / 56)))) (fun d x => x.1 = nI d ∧ x.2 k = bz (ff q d).isSome ∧ ∀ j, j ≠ k → x.2 j = lo j) 11 (fun x => x.2 k = bz (ff q 11).isSome ∧ ∀ j, j ≠ k → x.2 j = lo j) ?_ ?_ ((0 : Int32), upd lo k 0) ⟨rfl, by simp only [pk_us]; rfl, fun j hj => by simp only [pk_un hj]⟩ FU (by unfold FU; omega)
  · obtain ⟨⟨o1, o2⟩, e, u⟩ := h
    exact ⟨o1, o2, e, u⟩
  · rintro d ⟨x1, x2⟩ hd ⟨z1, z2, z3⟩
    simp only at z1 z2 z3
    subst z1
    have eb : b_X8_layBack_65 Dm pg g (nI k) (nI (k / 56)) (nI d) x2 = some (.inl (nI (d + 1), if q d then upd x2 k 1 else x2)) := by
      unfold b_X8_layBack_65
      rw [if_neg (show ¬ (10 : Int32) < nI d from nI_nlt (a := 10) (by omega) (by omega)), dS_enc (by omega), dS_his (by omega), haf d (by omega), ob1_s, jn1_s]
      have eqd : q d = match nx (k / 56) d (dS (k % 56)) with | none => false | some s' => G s' := by rw [hq]
      simp only [bnd_s, show nI d + (1 : Int32) = nI (d + 1) from nI_1 d]
      cases hn : nx (k / 56) d (dS (k % 56)) with
      | none =>
        rw [hn] at eqd
        rw [if_pos (show aft none = (-4 : Int32) from rfl), show q d = false from eqd]
        rfl
      | some s' =>
        rw [hn] at eqd
        have hv' := hv d s' hn
        have hm := mc_lt hv'
        rw [if_neg (aft_ne hv'), aft_ix hv', gin_k (by omega) (by omega), nI_cl (by omega), z3 _ (by omega), hlo s' hv']
        rw [show q d = G s' from eqd]
        cases hG : G s' with
        | true => rw [bz_t, if_pos rfl, gin_k (by omega) (by omega), nI_cl (by omega)]; rfl
        | false => rw [bz_f, if_neg (by decide)]; rfl
    refine ⟨(nI (d + 1), if q d then upd x2 k 1 else x2), by rw [un2_s, eb], rfl, ?_, fun j hj => ?_⟩
    · simp only
      rw [ff_succ]
      cases hqd : q d with
      | true => rw [if_pos rfl, pk_us, Bool.or_true]; rfl
      | false => rw [if_neg (by decide), z2, Bool.or_false]
    · simp only
      cases hqd : q d with
      | true => rw [if_pos rfl, pk_un hj]; exact z3 j hj
      | false => rw [if_neg (by decide)]; exact z3 j hj
  · rintro ⟨x1, x2⟩ ⟨z1, z2⟩
    simp only at z1 z2
    subst z1
    refine ⟨(nI 11, x2), ?_, z2⟩
    rw [un2_s]
    unfold b_X8_layBack_65
    rw [if_pos (show (10 : Int32) < nI 11 from by decide)]
theorem m_lbTop {lo : Nat → Int32} {n x : Nat} (hn : n ≤ 24) (hx : x < 7) : ∃ z lo', itr (un2 (b_X8_layBack_2 (nI n) (nI x))) FU ((0 : Int32), lo) = some (z, lo') ∧ ∀ j, j < 56 → lo' (56 * n + j) = bz (j / 8 == x) := by
  have h := itr_inv (step := un2 (b_X8_layBack_2 (nI n) (nI x))) (fun i y => y.1 = nI i ∧ ∀ j, j < i → y.2 (56 * n + j) = bz (j / 8 == x)) 56 (fun y => ∀ j, j < 56 → y.2 (56 * n + j) = bz (j / 8 == x)) ?_ ?_ ((0 : Int32), lo) ⟨rfl, fun j hj => absurd hj (Nat.not_lt_zero _)⟩ FU (by unfold FU; omega)
  · obtain ⟨⟨o1, o2⟩, e, u⟩ := h
    exact ⟨o1, o2, e, u⟩
  · rintro i ⟨y1, y2⟩ hi ⟨z1, z2⟩
    simp only at z1 z2
    subst z1
    refine ⟨(nI (i + 1), upd y2 (56 * n + i) (bz (i / 8 == x))), ?_, rfl, fun j hj => ?_⟩
    · rw [un2_s]
      unfold b_X8_layBack_2
      rw [if_neg (show ¬ (56 : Int32) ≤ nI i from nI_ge (b := 56) hi (by omega)), jn1_s, show nI i / (8 : Int32) = nI (i / 8) from pk_div (d := 8) (by omega) (by omega) (by omega), show (56 : Int32) * nI n = nI (56 * n) from pk_mul 56 n, nI_add]
      simp only [bnd_s, show nI i + (1 : Int32) = nI (i + 1) from nI_1 i]
      rw [gin_k (by omega) (by omega), gin_k (by omega) (by omega), nI_cl (by omega)]
      by_cases c : i / 8 = x
      · rw [if_pos (by rw [c]), show (i / 8 == x) = true from by simpa using c]; rfl
      · rw [if_neg (fun e => c (nI_inj (by omega) (by omega) e)), show (i / 8 == x) = false from by simpa using c]; rfl
    · simp only
      by_cases c : j = i
      · rw [c, pk_us]
      · rw [pk_un (by omega)]; exact z2 j (by omega)
  · rintro ⟨y1, y2⟩ ⟨z1, z2⟩
    simp only at z1 z2
    subst z1
    refine ⟨(nI 56, y2), ?_, z2⟩
    rw [un2_s]
    unfold b_X8_layBack_2
    rw [if_pos (show (56 : Int32) ≤ nI 56 from nI_le (a := 56) (Nat.le_refl _) (by omega))]
theorem m_layBack {nx : Nat → Nat → St → Option St} {Dm : Int32} {g pg lo : Nat → Int32} {n x : Nat} (hn : nxV 7 nx) (hn24 : n ≤ 24) (hx : x < 7) (haf : ∀ t d s, t < 24 → d ≤ 10 → vS 7 s → f_X8_after Dm pg g (nI t) (nI s.1) (enc s.2) (nI d) = some (aft (nx t d s))) : ∃ lo', f_X8_layBack Dm lo pg g (nI n) (nI x) = some lo' ∧ ∀ t s, t ≤ n → vS 7 s → lo' (56 * t + mc s) = bz (GB nx x n (n - t) s) := by
  obtain ⟨z0, lo0, e0, h0⟩ := m_lbTop (lo := lo) hn24 hx
  have h := itr_inv (step := un2 (b_X8_layBack_45 Dm pg g)) (fun i y => y.1 = nI (56 * n - i) - (1 : Int32) ∧ ∀ j, 56 * n - i ≤ j → j < 56 * (n + 1) → y.2 j = bz (GB nx x n (n - j / 56) (dS (j % 56)))) (56 * n) (fun y => ∀ j, j < 56 * (n + 1) → y.2 j = bz (GB nx x n (n - j / 56) (dS (j % 56)))) ?_ ?_ (nI (56 * n) - (1 : Int32), lo0) ⟨rfl, ?_⟩ FU (by unfold FU; omega)
  · obtain ⟨⟨o1, o2⟩, e, u⟩ := h
    refine ⟨o2, ?_, fun t s ht hs => ?_⟩
    · unfold f_X8_layBack
      rw [e0, ob2_s, show (56 : Int32) * nI n = nI (56 * n) from pk_mul 56 n, bnd_s, e, ob2_s]
    · have hm := mc_lt hs
      have := u (56 * t + mc s) (by omega)
      simp only at this
      rw [this, show (56 * t + mc s) / 56 = t by omega, show (56 * t + mc s) % 56 = mc s by omega, dS_mc hs]
  · rintro i ⟨y1, y2⟩ hi ⟨z1, z2⟩
    simp only at z1 z2
    obtain ⟨k, hk⟩ : ∃ k, 56 * n - i = k + 1 := ⟨56 * n - i - 1, by omega⟩
    rw [hk, show nI (k + 1) - (1 : Int32) = nI k from nI_pred k] at z1
    subst z1
    rw [hk] at z2
    have hv := dS_v (k := k % 56) (by omega)
    obtain ⟨r, hr⟩ : ∃ r, n - k / 56 = r + 1 := ⟨n - k / 56 - 1, by omega⟩
    obtain ⟨z, lo', e, v1, v2⟩ := m_lbRow (nx := nx) (Dm := Dm) (g := g) (pg := pg) (lo := y2) (k := k) (G := GB nx x n r) (by omega) (fun d hd => haf _ d _ (by omega) hd hv) (fun d s' h => hn _ d _ s' hv h) (fun s' hs' => by
      have hm := mc_lt hs'
      rw [z2 _ (by omega) (by omega), show (56 * (k / 56 + 1) + mc s') / 56 = k / 56 + 1 by omega, show (56 * (k / 56 + 1) + mc s') % 56 = mc s' by omega, dS_mc hs', show n - (k / 56 + 1) = r by omega])
    refine ⟨(nI k - (1 : Int32), lo'), ?_, by simp only; rw [show 56 * n - (i + 1) = k by omega], fun j hj1 hj2 => ?_⟩
    · rw [un2_s]
      unfold b_X8_layBack_45
      rw [if_neg (nI_pos (by omega)), bnd_s, gin_k (by omega) (by omega), bnd_s, nI_cl (by omega), dS_t (by omega), e, ob2_s, bnd_s, show nI k + (-1 : Int32) = nI k - (1 : Int32) from (Int32.sub_eq_add_neg _ _).symm]
    · simp only
      by_cases c : j = k
      · subst c
        rw [v1, hr, GB, show n - (r + 1) = j / 56 by omega]
      · rw [v2 j c]; exact z2 j (by omega) hj2
  · rintro ⟨y1, y2⟩ ⟨z1, z2⟩
    simp only at z1 z2
    rw [Nat.sub_self] at z1 z2
    subst z1
    refine ⟨(nI 0 - (1 : Int32), y2), ?_, fun j hj => z2 j (Nat.zero_le _) hj⟩
    rw [un2_s]
    unfold b_X8_layBack_45
    rw [if_pos (show nI 0 - (1 : Int32) < 0 from by decide)]
  · intro j hj1 hj2
    simp only
    have := h0 (j - 56 * n) (by omega)
    rw [show 56 * n + (j - 56 * n) = j by omega] at this
    rw [this, show n - j / 56 = 0 by omega, GB, show j % 56 = j - 56 * n by omega]
    rfl
