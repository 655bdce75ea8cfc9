/-! ===== pure 34: words and numbers ===== -/
def skN (i k : Nat) : Nat := ((skB.getD i []).getD k 0).toBitVec.toNat
theorem skN_ok : ∀ i, i < 14 → ∀ k, k < 6 → (k < skL.getD i 0 → skN i k < 128 ∧ (skB.getD i []).getD k 0 = nI (skN i k) ∧ ((skB.getD i []).getD k 0) &&& 255 = nI (skN i k)) := by decide +kernel
theorem skL_le : ∀ i, i < 14 → skL.getD i 0 ≤ 6 ∧ 1 ≤ skL.getD i 0 ∧ skO.getD i 0 + skL.getD i 0 ≤ 66 := by decide +kernel
theorem skN_ne : ∀ i, i < 14 → ∀ j, j < 14 → (i ≠ j → skL.getD i 0 = skL.getD j 0 → (allF (fun k => skN i k == skN j k) 0 (skL.getD i 0)) = false) := by decide +kernel
/-- the letters from q to e are word i -/
def mQ (w : Nat → Nat) (q e i : Nat) : Bool := e - q == skL.getD i 0 && allF (fun k => w (q + k) == skN i k) 0 (skL.getD i 0)
def mW (w : Nat → Nat) (n : Nat) (T : Ps) (i : Nat) : Bool := match T with
  | .inl p => knd w n p == 1 && mQ w (skp w n p) (tke w n p) i
  | .inr _ => false
theorem mQ_one {w : Nat → Nat} {q e i j : Nat} (hi : i < 14) (hj : j < 14) (h1 : mQ w q e i = true) (h2 : mQ w q e j = true) : i = j := by
  by_cases c : i = j
  · exact c
  · unfold mQ at h1 h2
    rw [Bool.and_eq_true] at h1 h2
    have e1 : e - q = skL.getD i 0 := by simpa using h1.1
    have e2 : e - q = skL.getD j 0 := by simpa using h2.1
    have h3 := skN_ne i hi j hj c (by omega)
    have h4 : allF (fun k => skN i k == skN j k) 0 (skL.getD i 0) = true := by
      rw [allF_iff]
      intro k hk0 hk
      have a1 := (allF_iff.mp h1.2) k hk0 hk
      have a2 := (allF_iff.mp h2.2) k hk0 (by omega)
      simp only [beq_iff_eq] at a1 a2 ⊢
      rw [← a1, a2]
    rw [h4] at h3
    cases h3
theorem mW_one {w : Nat → Nat} {n : Nat} {T : Ps} {i j : Nat} (hi : i < 14) (hj : j < 14) (h1 : mW w n T i = true) (h2 : mW w n T j = true) : i = j := by
  cases T with
  | inr x => cases h1
  | inl p =>
    unfold mW at h1 h2
    simp only [Bool.and_eq_true] at h1 h2
    exact mQ_one hi hj h1.2 h2.2
theorem p_isWord {w : Nat → Nat} {n i : Nat} {tp mt : Nat → Int32} {T : Ps} {fault fp kind place start value : Int32} (hT : TP w n tp mt) (hi : i < 14) (h : LT w n T fault fp kind place start value) : f_X3_isWord fault place kind start tp i = some (bz (mW w n T i)) := by
  have hn := hT.1
  obtain ⟨l1, l2, l3⟩ := skL_le i hi
  unfold f_X3_isWord
  cases T with
  | inr x =>
    obtain ⟨h1, h2, h3, h4, _⟩ := h
    rw [if_neg (by rw [h3]; exact nI_ne0 h1 (by omega))]
    rfl
  | inl p =>
    obtain ⟨hp, hb, h3, h4, h5, h6, h7⟩ := h
    obtain ⟨t1, t2, t3⟩ := tke_b (w := w) hp
    have hk4 := knd_le (w := w) (n := n) (p := p)
    subst h3; subst h4; subst h5; subst h6
    unfold mW
    rw [if_pos rfl]
    by_cases c1 : knd w n p = 1
    · obtain ⟨t4, t5⟩ := t3 (by omega)
      rw [if_pos (show nI (knd w n p) = (1 : Int32) from by rw [c1]; rfl), pk_sub t1]
      simp only [c1, beq_self_eq_true, Bool.true_and]
      unfold mQ
      by_cases c2 : tke w n p - skp w n p = skL.getD i 0
      · have hh := itr_first (step := un1 (b_X3_isWord_35 (nI (skp w n p)) tp i)) (fun k => !(w (skp w n p + k) == skN i k)) nI (skL.getD i 0) (fun _ => (0 : Int32)) (nI (skL.getD i 0)) ?_ ?_ ?_ FU (by unfold FU; omega)
        · rw [if_pos (by rw [c2]), show (0 : Int32) = nI 0 from rfl, hh, show (tke w n p - skp w n p == skL.getD i 0) = true from by simpa using c2, Bool.true_and, ← ff_all]
          cases ff (fun k => !(w (skp w n p + k) == skN i k)) (skL.getD i 0) <;> rfl
        · intro k hk hq
          have hq' : w (skp w n p + k) = skN i k := by simpa using hq
          obtain ⟨k1, k2, k3⟩ := skN_ok i hi k (by omega) hk
          rw [un1_s]
          unfold b_X3_isWord_35 skc
          rw [if_neg (nI_ge hk (by omega)), nI_add, gin_k (by omega) (by omega), gin_k (by omega) (by omega), nI_cl (by omega), nI_cl (by omega), if_pos (by rw [k3, (hT.2 _ (by omega)).2.2]; exact (by_eq (hT.2 _ (by omega)).1 k1).mpr hq'), bnd_s, show nI k + (1 : Int32) = nI (k + 1) from nI_1 k]
        · intro k hk hq
          have hq' : ¬ w (skp w n p + k) = skN i k := by simpa using hq
          obtain ⟨k1, k2, k3⟩ := skN_ok i hi k (by omega) hk
          rw [un1_s]
          unfold b_X3_isWord_35 skc
          rw [if_neg (nI_ge hk (by omega)), nI_add, gin_k (by omega) (by omega), gin_k (by omega) (by omega), nI_cl (by omega), nI_cl (by omega), if_neg (by rw [k3, (hT.2 _ (by omega)).2.2]; exact fun e => hq' ((by_eq (hT.2 _ (by omega)).1 k1).mp e))]
        · rw [un1_s]
          unfold b_X3_isWord_35
          rw [if_pos (nI_le (Nat.le_refl _) (by omega))]
      · rw [if_neg (fun e => c2 (nI_inj (by omega) (by omega) e)), show (tke w n p - skp w n p == skL.getD i 0) = false from by simpa using c2]
        rfl
    · rw [if_neg (show ¬ nI (knd w n p) = (1 : Int32) from fun e => c1 (nI_inj (b := 1) (by omega) (by omega) e))]
      simp only [show (knd w n p == 1) = false from by simpa using c1, Bool.false_and]
      rfl
def enN (o : Option Nat) : Int32 := match o with | none => -4 | some i => nI i
theorem m_nameIn {w : Nat → Nat} {n q e i : Nat} {tp mt cuts letters : Nat → Int32} (hT : TP w n tp mt) (hC : CnR cuts letters) (hi : i < 14) (hq : q ≤ e) (he : e ≤ n) (hl : e - q = skL.getD i 0) : ∃ z, itr (un2 (b_X8_nameHere_51 (nI n) (nI e) (nI q) cuts letters mt (nI i))) FU ((1 : Int32), (0 : Int32)) = some (bz (allF (fun k => w (q + k) == skN i k) 0 (skL.getD i 0)), z) := by
  have hn := hT.1
  obtain ⟨l1, l2, l3⟩ := skL_le i hi
  obtain ⟨u1, u2, u3⟩ := hC i hi
  obtain ⟨r, hr⟩ : ∃ r : Nat → Bool, r = fun k => w (q + k) == skN i k := ⟨_, rfl⟩
  rw [← hr]
  obtain ⟨N, hN⟩ : ∃ N, N = match ff (fun k => !r k) (skL.getD i 0) with | some K => K + 1 | none => skL.getD i 0 := ⟨_, rfl⟩
  have hNle : N ≤ skL.getD i 0 ∧ (∀ k, k < N → allF r 0 k = true) ∧ (allF r 0 N = allF r 0 (skL.getD i 0)) ∧ (allF r 0 N = true → N = skL.getD i 0) := by
    cases hf : ff (fun k => !r k) (skL.getD i 0) with
    | none =>
      rw [hf] at hN
      simp only at hN
      have hall : ∀ k, k ≤ skL.getD i 0 → allF r 0 k = true := by
        intro k hk
        rw [allF_iff]
        intro j _ hj
        have := ff_none hf j (by omega)
        simpa using this
      exact ⟨by omega, fun k hk => hall k (by omega), by rw [hN], fun _ => hN⟩
    | some K =>
      rw [hf] at hN
      simp only at hN
      obtain ⟨f1, f2, f3⟩ := ff_some hf
      have hK : r K = false := by simpa using f2
      have hall : ∀ k, k ≤ K → allF r 0 k = true := by
        intro k hk
        rw [allF_iff]
        intro j _ hj
        have := f3 j (by omega)
        simpa using this
      have hfal : ∀ m, K < m → allF r 0 m = false := by
        intro m hm
        cases ha : allF r 0 m with
        | false => rfl
        | true =>
          have := (allF_iff.mp ha) K (by omega) (by omega)
          rw [hK] at this; cases this
      refine ⟨by omega, fun k hk => hall k (by omega), by rw [hfal N (by omega), hfal _ (by omega)], fun h => ?_⟩
      rw [hfal N (by omega)] at h; cases h
  obtain ⟨n1, n2, n3, n4⟩ := hNle
  have h := itr_count (step := un2 (b_X8_nameHere_51 (nI n) (nI e) (nI q) cuts letters mt (nI i))) (fun k => (bz (allF r 0 k), nI k)) N (bz (allF r 0 N), nI N) ?_ ?_ FU (by unfold FU; omega)
  · exact ⟨_, by rw [← n3]; exact h⟩
  · intro k hk
    obtain ⟨k1, k2, k3⟩ := skN_ok i hi k (by omega) (by omega)
    have hw := (hT.2 (q + k) (by omega)).1
    rw [un2_s]
    unfold b_X8_nameHere_51
    rw [n2 k hk, bz_t, if_neg n10, pk_sub hq, if_neg (nI_ge (by omega) (by omega)), nI_add, m_byteAt hT (by omega), ob1_s, if_pos (by omega), gin_k (by omega) (by omega), nI_cl (by omega), u1, nI_add, gin_k (by omega) (by omega), nI_cl (by omega), u3 k (by omega), k2, jn1_s, allF_succ, n2 k hk, Nat.zero_add, Bool.true_and]
    simp only [bnd_s, show nI k + (1 : Int32) = nI (k + 1) from nI_1 k]
    have er : r k = (w (q + k) == skN i k) := by rw [hr]
    by_cases c : w (q + k) = skN i k
    · rw [if_pos (by rw [c]), er, show (w (q + k) == skN i k) = true from by simpa using c]; rfl
    · rw [if_neg (fun e => c (nI_inj (by omega) (by omega) e)), er, show (w (q + k) == skN i k) = false from by simpa using c]; rfl
  · rw [un2_s]
    unfold b_X8_nameHere_51
    cases ha : allF r 0 N with
    | false => rw [bz_f, if_pos rfl]
    | true => rw [bz_t, if_neg n10, pk_sub hq, if_pos (nI_le (by rw [n4 ha]; omega) (by omega))]
theorem m_nameQ {w : Nat → Nat} {n q e : Nat} {tp mt cuts letters : Nat → Int32} (hT : TP w n tp mt) (hC : CnR cuts letters) (hq : q ≤ e) (he : e ≤ n) : f_X8_nameHere (nI n) (nI e) (nI q) (1 : Int32) cuts letters mt = some (enN (ff (mQ w q e) 14)) := by
  have hn := hT.1
  unfold f_X8_nameHere
  have stepd : ∀ i, i < 14 → b_X8_nameHere_2 (nI n) (nI e) (nI q) (1 : Int32) cuts letters mt (nI i) = if mQ w q e i then some (.inr (.inl (nI i))) else some (.inl (nI (i + 1))) := by
    intro i hi
    obtain ⟨l1, l2, l3⟩ := skL_le i hi
    obtain ⟨u1, u2, u3⟩ := hC i hi
    unfold b_X8_nameHere_2
    rw [if_neg (show ¬ (14 : Int32) ≤ nI i from nI_ge (b := 14) hi (by omega)), if_pos rfl, show nI i + (1 : Int32) = nI (i + 1) from nI_1 i, gin_k (by omega) (by omega), gin_k (by omega) (by omega), nI_cl (by omega), nI_cl (by omega), u1, u2, pk_sub hq, pk_sub (by omega), Nat.add_sub_cancel_left, jn1_s]
    simp only [bnd_s]
    by_cases c : e - q = skL.getD i 0
    · obtain ⟨z, ez⟩ := m_nameIn hT hC hi hq he c
      rw [if_pos (by rw [c]), ez, ob2_s]
      unfold mQ
      rw [show (e - q == skL.getD i 0) = true from by simpa using c, Bool.true_and]
      cases allF (fun k => w (q + k) == skN i k) 0 (skL.getD i 0) with
      | true => rw [bz_t, if_neg n10, if_pos rfl]
      | false => rw [bz_f, if_pos rfl, if_neg (by decide)]
    · have ez : itr (un2 (b_X8_nameHere_51 (nI n) (nI e) (nI q) cuts letters mt (nI i))) FU ((0 : Int32), (0 : Int32)) = some ((0 : Int32), (0 : Int32)) := by
        refine itr_count (step := un2 (b_X8_nameHere_51 (nI n) (nI e) (nI q) cuts letters mt (nI i))) (fun _ => ((0 : Int32), (0 : Int32))) 0 ((0 : Int32), (0 : Int32)) (fun i hi => absurd hi (Nat.not_lt_zero _)) ?_ FU (by unfold FU; omega)
        rw [un2_s]
        unfold b_X8_nameHere_51
        rw [if_pos rfl]
      rw [if_neg (fun e => c (nI_inj (by omega) (by omega) e)), ez, ob2_s, if_pos rfl]
      unfold mQ
      rw [show (e - q == skL.getD i 0) = false from by simpa using c, Bool.false_and, if_neg (by decide)]
  have h := itr_first (step := un1 (b_X8_nameHere_2 (nI n) (nI e) (nI q) (1 : Int32) cuts letters mt)) (mQ w q e) nI 14 nI (nI 14) ?_ ?_ ?_ FU (by unfold FU; omega)
  · rw [show (0 : Int32) = nI 0 from rfl, h]
    cases ff (mQ w q e) 14 <;> rfl
  · intro i hi hp
    rw [un1_s, stepd i hi, hp, if_neg (by decide)]
  · intro i hi hp
    rw [un1_s, stepd i hi, hp, if_pos rfl]
  · rw [un1_s]
    unfold b_X8_nameHere_2
    rw [if_pos (show (14 : Int32) ≤ nI 14 from by decide)]
theorem m_nameNo {n : Nat} {e q token : Int32} {mt cuts letters : Nat → Int32} (h1 : token ≠ 1) : f_X8_nameHere (nI n) e q token cuts letters mt = some (-4 : Int32) := by
  unfold f_X8_nameHere
  have h := itr_first (step := un1 (b_X8_nameHere_2 (nI n) e q token cuts letters mt)) (fun _ => true) (fun _ => (0 : Int32)) 0 (fun _ => (0 : Int32)) (0 : Int32) (fun i hi => absurd hi (Nat.not_lt_zero _)) (fun i hi => absurd hi (Nat.not_lt_zero _)) ?_ FU (by unfold FU; omega)
  · rw [h]; rfl
  · rw [un1_s]
    unfold b_X8_nameHere_2
    rw [if_neg (by decide), if_neg h1]
theorem m_name {w : Nat → Nat} {n p : Nat} {tp mt cuts letters : Nat → Int32} {fault fp kind place start value : Int32} (hT : TP w n tp mt) (hC : CnR cuts letters) (h : LT w n (.inl p) fault fp kind place start value) : f_X8_nameHere (nI n) place start kind cuts letters mt = some (enN (ff (mW w n (.inl p)) 14)) := by
  obtain ⟨hp, hb, h3, h4, h5, h6, h7⟩ := h
  obtain ⟨t1, t2, t3⟩ := tke_b (w := w) hp
  have hk4 := knd_le (w := w) (n := n) (p := p)
  subst h4; subst h5; subst h6
  by_cases c : knd w n p = 1
  · rw [c, show nI 1 = (1 : Int32) from rfl, m_nameQ hT hC t1 t2]
    have : mW w n (.inl p) = mQ w (skp w n p) (tke w n p) := by
      funext i
      unfold mW
      simp only [c, beq_self_eq_true, Bool.true_and]
    rw [this]
  · rw [m_nameNo (show nI (knd w n p) ≠ (1 : Int32) from fun e => c (nI_inj (b := 1) (by omega) (by omega) e))]
    rw [ff_no (fun i _ => by unfold mW; simp only [show (knd w n p == 1) = false from by simpa using c, Bool.false_and])]
    rfl
theorem m_nameAny {w : Nat → Nat} {n : Nat} {T : Ps} {tp mt cuts letters : Nat → Int32} {fault fp kind place start value : Int32} (hT : TP w n tp mt) (hC : CnR cuts letters) (h : LT w n T fault fp kind place start value) : ∃ r, f_X8_nameHere (nI n) place start kind cuts letters mt = some r := by
  cases T with
  | inl p => exact ⟨_, m_name hT hC h⟩
  | inr x =>
    obtain ⟨_, _, _, _, q, e, h1, h2, h3, h4⟩ := h
    subst h3; subst h4
    by_cases c : kind = 1
    · rw [c]; exact ⟨_, m_nameQ hT hC h1 h2⟩
    · exact ⟨_, m_nameNo c⟩
