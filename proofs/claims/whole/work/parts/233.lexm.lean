/-! ===== pure 33: the reference's tokens ===== -/
theorem m_byteAt {w : Nat → Nat} {n p : Nat} {tp mt : Nat → Int32} (hT : TP w n tp mt) (hp : p ≤ n) : f_X8_byteAt (nI n) mt (nI p) = some (if p < n then nI (w p) else -4) := by
  obtain ⟨hn, hw⟩ := hT
  unfold f_X8_byteAt
  by_cases c : p < n
  · rw [if_neg (nI_ge c (by omega)), if_pos c, gin_k (by omega) (by omega), nI_cl (by omega), (hw p c).2.1]
  · rw [if_pos (nI_le (by omega) (by omega)), if_neg c]
theorem m_skip {w : Nat → Nat} {n p : Nat} {tp mt : Nat → Int32} (hT : TP w n tp mt) (hp : p ≤ n) : itr (un1 (b_X8_step_8 (nI n) mt)) FU (nI p) = some (nI (skp w n p)) := by
  have hn := hT.1
  refine itr_adv (step := un1 (b_X8_step_8 (nI n) mt)) (blk w n) nI nI n 0 ?_ ?_ ?_ (n - p) p FU (by omega) (by omega) (by unfold FU; omega)
  · intro q _ hq
    unfold blk at hq
    rw [Bool.and_eq_true, decide_eq_true_eq] at hq
    have h32 : w q = 32 := by simpa using hq.2
    rw [un1_s]
    unfold b_X8_step_8
    rw [m_byteAt hT (by omega), ob1_s, if_pos hq.1, if_pos (show nI (w q) = (32 : Int32) from by rw [h32]; rfl), bnd_s, show nI q + (1 : Int32) = nI (q + 1) from nI_1 q]
  · intro q _ hqn hq
    rw [un1_s]
    unfold b_X8_step_8
    rw [m_byteAt hT hqn, ob1_s]
    by_cases c : q < n
    · have h32 : ¬ w q = 32 := by
        intro e
        unfold blk at hq
        rw [decide_eq_true c, e] at hq
        exact absurd hq (by decide)
      have := (hT.2 q c).1
      rw [if_pos c, if_neg (show ¬ nI (w q) = (32 : Int32) from fun e => h32 (nI_inj (b := 32) (by omega) (by omega) e))]
    · rw [if_neg c, if_neg (by decide)]
  · intro q hq
    unfold blk at hq
    rw [Bool.and_eq_true, decide_eq_true_eq] at hq
    exact hq.1
theorem isk_lt {w : Nat → Nat} {m k p : Nat} (hc : isk w m k p = true) : p < m ∧ kd (w p) = k := by
  unfold isk at hc
  rw [Bool.and_eq_true, decide_eq_true_eq] at hc
  exact ⟨hc.1, by simpa using hc.2⟩
theorem isk_no {w : Nat → Nat} {m k p : Nat} (hc : isk w m k p = false) (h : p < m) : ¬ kd (w p) = k := by
  intro e
  unfold isk at hc
  rw [decide_eq_true h, e] at hc
  simp at hc
theorem m_in97 (x : Int32) : f_X8_in (x.toInt64) (97 : Int64) (122 : Int64) = some (bz (decide ((97 : Int32) ≤ x ∧ x ≤ 122))) := m_in x 97 122
theorem m_in48 (x : Int32) : f_X8_in (x.toInt64) (48 : Int64) (57 : Int64) = some (bz (decide ((48 : Int32) ≤ x ∧ x ≤ 57))) := m_in x 48 57
theorem m_names {w : Nat → Nat} {n q : Nat} {tp mt : Nat → Int32} (hT : TP w n tp mt) (hq : q ≤ n) : itr (un1 (b_X8_step_84 (nI n) mt)) FU (nI q) = some (nI (adv (isk w n 1) (n - q) q)) := by
  have hn := hT.1
  refine itr_adv (step := un1 (b_X8_step_84 (nI n) mt)) (isk w n 1) nI nI n 0 ?_ ?_ (fun p hc => (isk_lt hc).1) (n - q) q FU (by omega) (by omega) (by unfold FU; omega)
  · intro p _ hc
    obtain ⟨h1, h2⟩ := isk_lt hc
    rw [un1_s]
    unfold b_X8_step_84
    rw [m_byteAt hT (by omega), ob1_s, if_pos h1, m_in97, m_kd1 _ (hT.2 p h1).1, h2, ob1_s, show bz ((1 : Nat) == 1) = (1 : Int32) from rfl, if_neg n10, bnd_s, show nI p + (1 : Int32) = nI (p + 1) from nI_1 p]
  · intro p _ hpn hc
    rw [un1_s]
    unfold b_X8_step_84
    rw [m_byteAt hT hpn, ob1_s]
    by_cases c : p < n
    · have h2 : (kd (w p) == 1) = false := by simpa using isk_no hc c
      rw [if_pos c, m_in97, m_kd1 _ (hT.2 p c).1, h2, ob1_s, bz_f, if_pos rfl]
    · rw [if_neg c, m_in97, show decide ((97 : Int32) ≤ -4 ∧ (-4 : Int32) ≤ 122) = false from by decide, ob1_s, bz_f, if_pos rfl]
def mvI (mt : Nat → Int32) (q : Nat) : Nat → Int32
  | 0 => 0
  | i + 1 => if i < 2 then (10 : Int32) * mvI mt q i + mt (q + i) - 48 else mvI mt q i
theorem m_nums {w : Nat → Nat} {n q : Nat} {tp mt : Nat → Int32} (hT : TP w n tp mt) (hq : q ≤ n) : itr (un2 (b_X8_step_140 (nI n) mt (nI q))) FU (nI q, (0 : Int32)) = some (nI (adv (isk w n 2) (n - q) q), mvI mt q (adv (isk w n 2) (n - q) q - q)) := by
  have hn := hT.1
  have h := itr_adv (step := un2 (b_X8_step_140 (nI n) mt (nI q))) (isk w n 2) (fun p => (nI p, mvI mt q (p - q))) (fun p => (nI p, mvI mt q (p - q))) n q ?_ ?_ (fun p hc => (isk_lt hc).1) (n - q) q FU (Nat.le_refl q) (by omega) (by unfold FU; omega)
  · rw [show ((nI q, (0 : Int32))) = ((fun p => (nI p, mvI mt q (p - q))) q) from by simp only [Nat.sub_self]; rfl]
    exact h
  · intro p hqp hc
    obtain ⟨h1, h2⟩ := isk_lt hc
    rw [un2_s]
    unfold b_X8_step_140
    rw [m_byteAt hT (by omega), ob1_s, if_pos h1, m_in48, m_kd2 _ (hT.2 p h1).1, h2, ob1_s, show bz ((2 : Nat) == 2) = (1 : Int32) from rfl, if_neg n10, jn1_s, ob1_s, pk_sub hqp, show p + 1 - q = (p - q) + 1 by omega, mvI, show q + (p - q) = p by omega]
    simp only [bnd_s, show nI p + (1 : Int32) = nI (p + 1) from nI_1 p]
    by_cases c : p - q < 2
    · rw [if_neg (show ¬ (2 : Int32) ≤ nI (p - q) from nI_ge (b := 2) c (by omega)), if_pos c, (hT.2 p h1).2.1]
    · rw [if_pos (show (2 : Int32) ≤ nI (p - q) from nI_le (a := 2) (by omega) (by omega)), if_neg c]
  · intro p hqp hpn hc
    rw [un2_s]
    unfold b_X8_step_140
    rw [m_byteAt hT hpn, ob1_s]
    by_cases c : p < n
    · have h2 : (kd (w p) == 2) = false := by simpa using isk_no hc c
      rw [if_pos c, m_in48, m_kd2 _ (hT.2 p c).1, h2, ob1_s, bz_f, if_pos rfl]
    · rw [if_neg c, m_in48, show decide ((48 : Int32) ≤ -4 ∧ (-4 : Int32) ≤ 57) = false from by decide, ob1_s, bz_f, if_pos rfl]
theorem mv_val {w : Nat → Nat} {n p : Nat} {tp mt : Nat → Int32} (hT : TP w n tp mt) (hp : p ≤ n) (hk : knd w n p = 2) (hb : tkb w n p = false) : mvI mt (skp w n p) (tke w n p - skp w n p) = nI (tkv w n p) := by
  obtain ⟨t1, t2, t3⟩ := tke_b (w := w) hp
  obtain ⟨t4, t5⟩ := t3 (by omega)
  have hall : ∀ j, skp w n p ≤ j → j < tke w n p → kd (w j) = 2 := by
    intro j h1 h2
    unfold tke at h2
    rw [hk, if_pos (Or.inr rfl)] at h2
    exact (isk_lt (adv_all _ _ _ j h1 h2)).2
  have hl : tke w n p - skp w n p ≤ 2 := by
    unfold tkb at hb
    rw [hk] at hb
    simp at hb
    omega
  have d0 := tp_dig hT (show skp w n p < n by omega) (hall _ (Nat.le_refl _) t5)
  unfold tkv
  by_cases c : tke w n p - skp w n p = 1
  · rw [if_pos c, c, show (1 : Nat) = 0 + 1 from rfl, mvI, if_pos (by decide), mvI, Nat.add_zero, (hT.2 _ (by omega)).2.1, show (10 : Int32) * 0 = 0 from rfl, Int32.zero_add, sub48 (by omega)]
  · have c2 : tke w n p - skp w n p = 2 := by omega
    have d1 := tp_dig hT (show skp w n p + 1 < n by omega) (hall _ (by omega) (by omega))
    rw [if_neg c, c2, show (2 : Nat) = 0 + 1 + 1 from rfl, mvI, if_pos (by decide), mvI, if_pos (by decide), mvI, Nat.add_zero, (hT.2 _ t4).2.1, (hT.2 (skp w n p + (0 + 1)) (by omega)).2.1, show (10 : Int32) * 0 = 0 from rfl, Int32.zero_add, sub48 (by omega), show (10 : Int32) * nI (w (skp w n p) - 48) = nI (10 * (w (skp w n p) - 48)) from pk_mul 10 _, nI_add, sub48 (by have := d1.2.1; show 48 ≤ 10 * (w (skp w n p) - 48) + w (skp w n p + 1); omega)]
    congr 1
    have := d1.2.1
    show 10 * (w (skp w n p) - 48) + w (skp w n p + 1) - 48 = _
    omega
theorem m_tok {w : Nat → Nat} {n : Nat} {tp mt : Nat → Int32} {S : Ps} {fault fp kind place start value : Int32} (hT : TP w n tp mt) (h : LC n S fault fp place start) : ∃ fault' fp' kind' place' start' value', f_X8_step (nI n) fault fp place start kind value mt = some (fault', fp', start', place', kind', value') ∧ LT w n (lx w n S) fault' fp' kind' place' start' value' := by
  have hn := hT.1
  cases S with
  | inr x =>
    obtain ⟨h1, h2, h3, h4⟩ := h
    refine ⟨fault, fp, kind, place, start, value, ?_, h1, h2, h3, h4⟩
    unfold f_X8_step
    rw [if_neg (by rw [h3]; exact nI_nle h1 (by omega))]
  | inl p =>
    obtain ⟨hp, h3, h4⟩ := h
    subst h3; subst h4
    obtain ⟨s1, s2⟩ := skp_b (w := w) hp
    have key : ∃ val kk, f_X8_step (nI n) (0 : Int32) fp (nI p) start kind value mt = some (if tkb w n p then ((1 : Int32), nI (skp w n p), nI (skp w n p), nI (tke w n p), kk, val) else ((0 : Int32), fp, nI (skp w n p), nI (tke w n p), nI (knd w n p), val)) ∧ (tkb w n p = false → knd w n p = 2 → val = nI (tkv w n p)) := by
      unfold f_X8_step
      rw [if_pos (by decide), m_skip hT hp, ob1_s, m_byteAt hT s2, ob1_s]
      by_cases c : skp w n p < n
      · have ek : knd w n p = kd (w (skp w n p)) := by unfold knd; rw [if_pos c]
        have hkb := kd_b (w (skp w n p))
        have hwb := (hT.2 _ c).1
        rw [if_pos c, if_neg (show ¬ nI (w (skp w n p)) = (-4 : Int32) from ne4 (by omega)), m_in97, m_kd1 _ hwb, ob1_s, m_in48, m_kd2 _ hwb, ob1_s, ← ek]
        by_cases c1 : knd w n p = 1
        · have et : tke w n p = adv (isk w n (knd w n p)) (n - skp w n p) (skp w n p) := by unfold tke; rw [if_pos (Or.inl c1)]
          have eb : tkb w n p = false := by unfold tkb; rw [c1]; rfl
          rw [c1, show bz ((1 : Nat) == 1) = (1 : Int32) from rfl, if_neg n10, m_names hT s2, ob1_s, eb]
          rw [c1] at et
          rw [← et]
          exact ⟨0, 0, rfl, fun _ h => absurd h (by decide)⟩
        · rw [show (knd w n p == 1) = false from by simpa using c1, bz_f, if_pos rfl]
          by_cases c2 : knd w n p = 2
          · have et : tke w n p = adv (isk w n (knd w n p)) (n - skp w n p) (skp w n p) := by unfold tke; rw [if_pos (Or.inr c2)]
            have t1 := (tke_b (w := w) hp).1
            have t2 := (tke_b (w := w) hp).2.1
            rw [show (knd w n p == 2) = true from by simpa using c2, bz_t, if_neg n10, m_nums hT s2, ob2_s]
            have et2 : adv (isk w n 2) (n - skp w n p) (skp w n p) = tke w n p := by rw [et, c2]
            rw [et2, pk_sub t1]
            by_cases cl : 2 < tke w n p - skp w n p
            · have eb : tkb w n p = true := by unfold tkb; rw [c2]; simp [cl]
              rw [if_neg (show ¬ nI (tke w n p - skp w n p) ≤ (2 : Int32) from nI_ge (a := 2) cl (by omega)), show f_X8_fails (0 : Int32) fp (nI (skp w n p)) (1 : Int32) = some ((1 : Int32), nI (skp w n p)) from rfl, ob2_s, eb]
              exact ⟨_, _, rfl, fun h => by cases h⟩
            · have eb : tkb w n p = false := by unfold tkb; rw [c2]; simp [cl]
              rw [if_pos (show nI (tke w n p - skp w n p) ≤ (2 : Int32) from nI_le (b := 2) (by omega) (by omega)), eb, c2]
              exact ⟨_, 0, rfl, fun _ _ => mv_val hT hp c2 eb⟩
          · rw [show (knd w n p == 2) = false from by simpa using c2, bz_f, if_pos rfl, bnd_s]
            have et : tke w n p = skp w n p + 1 := by unfold tke; rw [if_neg (by omega), if_pos c]
            rw [show nI (skp w n p) + (1 : Int32) = nI (tke w n p) from by rw [et]; exact nI_1 _]
            by_cases c3 : knd w n p = 3
            · have eb : tkb w n p = false := by unfold tkb; rw [c3]; rfl
              have e59 : w (skp w n p) = 59 := kd_3.mp (by rw [← ek]; exact c3)
              rw [if_pos (show nI (w (skp w n p)) = (59 : Int32) from by rw [e59]; rfl), eb, c3]
              exact ⟨_, 0, rfl, fun _ h => absurd h (by decide)⟩
            · have c4 : knd w n p = 4 := by omega
              have eb : tkb w n p = true := by unfold tkb; rw [c4]; rfl
              have e59 : ¬ w (skp w n p) = 59 := fun e => c3 (by rw [ek]; exact kd_3.mpr e)
              rw [if_neg (show ¬ nI (w (skp w n p)) = (59 : Int32) from fun e => e59 (nI_inj (b := 59) (by omega) (by omega) e)), show f_X8_fails (0 : Int32) fp (nI (skp w n p)) (1 : Int32) = some ((1 : Int32), nI (skp w n p)) from rfl, ob2_s, eb]
              exact ⟨_, _, rfl, fun h => by cases h⟩
      · have e0 : skp w n p = n := by omega
        have ek : knd w n p = 0 := by unfold knd; rw [if_neg c]
        have et : tke w n p = skp w n p := by unfold tke; rw [if_neg (by omega), if_neg c]
        have eb : tkb w n p = false := by unfold tkb; rw [ek]; rfl
        rw [if_neg c, if_pos rfl, eb, ek, et]
        exact ⟨_, 0, rfl, fun _ h => absurd h (by decide)⟩
    obtain ⟨val, kk, e, hval⟩ := key
    rw [e]
    cases hb : tkb w n p with
    | true =>
      have el : lx w n (.inl p) = .inr (1, skp w n p) := by unfold lx; simp only [hb, if_true]
      rw [el]
      exact ⟨_, _, _, _, _, _, rfl, by show 0 < 1; decide, by show 1 < 8; decide, rfl, rfl, _, _, (tke_b hp).1, (tke_b hp).2.1, rfl, rfl⟩
    | false =>
      have el : lx w n (.inl p) = .inl p := by unfold lx; simp only [hb, Bool.false_eq_true, if_false]
      rw [el]
      exact ⟨_, _, _, _, _, _, rfl, hp, hb, rfl, rfl, rfl, rfl, fun hk => hval hb hk⟩
