/-! ===== pure 32: tokens ===== -/
def TP (w : Nat → Nat) (n : Nat) (tp mt : Nat → Int32) : Prop := n ≤ 320 ∧ ∀ i, i < n → w i < 256 ∧ mt i = nI (w i) ∧ tp i = (nI (w i)).toInt8.toInt32
theorem by_small : ∀ w, w < 128 → (nI w).toInt8.toInt32 = nI w := by decide +kernel
theorem by_neg : ∀ w, w < 256 → 128 ≤ w → (nI w).toInt8.toInt32 < 0 := by decide +kernel
theorem by_eq {w c : Nat} (hw : w < 256) (hc : c < 128) : ((nI w).toInt8.toInt32 = nI c) ↔ w = c := by
  constructor
  · intro h
    by_cases c1 : w < 128
    · rw [by_small w c1] at h; exact nI_inj (by omega) (by omega) h
    · have := by_neg w hw (by omega)
      rw [h] at this
      exact absurd this (nI_pos (by omega))
  · intro h; rw [h]; exact by_small c hc
def kd (w : Nat) : Nat := if 97 ≤ w ∧ w ≤ 122 then 1 else if 48 ≤ w ∧ w ≤ 57 then 2 else if w = 59 then 3 else 4
theorem p_kindOf : ∀ w, w < 256 → f_X3_kindOf ((nI w).toInt8.toInt32) = some (nI (kd w)) := by decide +kernel
theorem kd_b (w : Nat) : 1 ≤ kd w ∧ kd w ≤ 4 := by unfold kd; split <;> (try split) <;> (try split) <;> omega
theorem m_kd1 : ∀ w, w < 256 → decide ((97 : Int32) ≤ nI w ∧ nI w ≤ 122) = (kd w == 1) := by decide +kernel
theorem m_kd2 : ∀ w, w < 256 → decide ((48 : Int32) ≤ nI w ∧ nI w ≤ 57) = (kd w == 2) := by decide +kernel
theorem kd_3 {w : Nat} : kd w = 3 ↔ w = 59 := by
  unfold kd
  by_cases h1 : 97 ≤ w ∧ w ≤ 122
  · rw [if_pos h1]; omega
  · rw [if_neg h1]
    by_cases h2 : 48 ≤ w ∧ w ≤ 57
    · rw [if_pos h2]; omega
    · rw [if_neg h2]
      by_cases h3 : w = 59
      · rw [if_pos h3]; omega
      · rw [if_neg h3]; omega
theorem kd_2 {w : Nat} : kd w = 2 ↔ 48 ≤ w ∧ w ≤ 57 := by
  unfold kd
  by_cases h1 : 97 ≤ w ∧ w ≤ 122
  · rw [if_pos h1]; omega
  · rw [if_neg h1]
    by_cases h2 : 48 ≤ w ∧ w ≤ 57
    · rw [if_pos h2]; omega
    · rw [if_neg h2]
      by_cases h3 : w = 59
      · rw [if_pos h3]; omega
      · rw [if_neg h3]; omega
def adv (c : Nat → Bool) : Nat → Nat → Nat
  | 0, p => p
  | f + 1, p => if c p then adv c f (p + 1) else p
theorem adv_ge (c : Nat → Bool) : ∀ f p, p ≤ adv c f p := by
  intro f
  induction f with
  | zero => intro p; exact Nat.le_refl p
  | succ f ih =>
    intro p
    rw [adv]
    cases c p with
    | true => rw [if_pos rfl]; have := ih (p + 1); omega
    | false => rw [if_neg (by decide)]; exact Nat.le_refl p
theorem adv_le (c : Nat → Bool) : ∀ f p, adv c f p ≤ p + f := by
  intro f
  induction f with
  | zero => intro p; exact Nat.le_refl p
  | succ f ih =>
    intro p
    rw [adv]
    cases c p with
    | true => rw [if_pos rfl]; have := ih (p + 1); omega
    | false => rw [if_neg (by decide)]; omega
theorem adv_all (c : Nat → Bool) : ∀ f p j, p ≤ j → j < adv c f p → c j = true := by
  intro f
  induction f with
  | zero => intro p j h1 h2; rw [adv] at h2; omega
  | succ f ih =>
    intro p j h1 h2
    rw [adv] at h2
    cases hc : c p with
    | true =>
      rw [hc, if_pos rfl] at h2
      by_cases e : j = p
      · rw [e]; exact hc
      · exact ih (p + 1) j (by omega) h2
    | false => rw [hc, if_neg (by decide)] at h2; omega
theorem adv_stop (c : Nat → Bool) : ∀ f p, c (adv c f p) = false ∨ adv c f p = p + f := by
  intro f
  induction f with
  | zero => intro p; exact Or.inr rfl
  | succ f ih =>
    intro p
    rw [adv]
    cases hc : c p with
    | true =>
      rw [if_pos rfl]
      rcases ih (p + 1) with h | h
      · exact Or.inl h
      · exact Or.inr (by omega)
    | false => rw [if_neg (by decide)]; exact Or.inl hc
theorem itr_adv {σ τ : Type} {step : σ → Option (σ ⊕ τ)} (c : Nat → Bool) (s : Nat → σ) (o : Nat → τ) (n p0 : Nat) (h1 : ∀ p, p0 ≤ p → c p = true → step (s p) = some (.inl (s (p + 1)))) (h2 : ∀ p, p0 ≤ p → p ≤ n → c p = false → step (s p) = some (.inr (o p))) (hc : ∀ p, c p = true → p < n) : ∀ f p F, p0 ≤ p → p + f = n → f < F → itr step F (s p) = some (o (adv c f p)) := by
  intro f
  induction f with
  | zero =>
    intro p F hp hn hF
    obtain ⟨F, rfl⟩ : ∃ m, F = m + 1 := ⟨F - 1, by omega⟩
    have hcp : c p = false := by
      cases h : c p with
      | true => have := hc p h; omega
      | false => rfl
    rw [itr, h2 p hp (by omega) hcp]
    rfl
  | succ f ih =>
    intro p F hp hn hF
    obtain ⟨F, rfl⟩ : ∃ m, F = m + 1 := ⟨F - 1, by omega⟩
    rw [adv]
    cases h : c p with
    | true =>
      rw [itr, h1 p hp h, if_pos rfl]
      exact ih (p + 1) F (by omega) (by omega) (by omega)
    | false =>
      rw [itr, h2 p hp (by omega) h, if_neg (by decide)]
def blk (w : Nat → Nat) (n p : Nat) : Bool := decide (p < n) && w p == 32
def isk (w : Nat → Nat) (n k p : Nat) : Bool := decide (p < n) && kd (w p) == k
def skp (w : Nat → Nat) (n p : Nat) : Nat := adv (blk w n) (n - p) p
def knd (w : Nat → Nat) (n p : Nat) : Nat := if skp w n p < n then kd (w (skp w n p)) else 0
def tke (w : Nat → Nat) (n p : Nat) : Nat := if knd w n p = 1 ∨ knd w n p = 2 then adv (isk w n (knd w n p)) (n - skp w n p) (skp w n p) else if skp w n p < n then skp w n p + 1 else skp w n p
def tkv (w : Nat → Nat) (n p : Nat) : Nat := if tke w n p - skp w n p = 1 then w (skp w n p) - 48 else 10 * (w (skp w n p) - 48) + (w (skp w n p + 1) - 48)
def tkb (w : Nat → Nat) (n p : Nat) : Bool := knd w n p == 4 || (knd w n p == 2 && decide (2 < tke w n p - skp w n p))
theorem skp_b {w : Nat → Nat} {n p : Nat} (h : p ≤ n) : p ≤ skp w n p ∧ skp w n p ≤ n := by
  have h1 := adv_ge (blk w n) (n - p) p
  have h2 := adv_le (blk w n) (n - p) p
  unfold skp
  omega
theorem isk_adv {w : Nat → Nat} {n q : Nat} (h : q < n) : q < adv (isk w n (kd (w q))) (n - q) q := by
  obtain ⟨f, hf⟩ : ∃ f, n - q = f + 1 := ⟨n - q - 1, by omega⟩
  rw [hf, adv, if_pos (by unfold isk; simp [h])]
  have := adv_ge (isk w n (kd (w q))) f (q + 1)
  omega
theorem tke_b {w : Nat → Nat} {n p : Nat} (h : p ≤ n) : skp w n p ≤ tke w n p ∧ tke w n p ≤ n ∧ (knd w n p ≠ 0 → skp w n p < n ∧ skp w n p < tke w n p) := by
  obtain ⟨s1, s2⟩ := skp_b (w := w) h
  unfold tke
  by_cases hk : knd w n p = 1 ∨ knd w n p = 2
  · rw [if_pos hk]
    have h1 := adv_ge (isk w n (knd w n p)) (n - skp w n p) (skp w n p)
    have h2 := adv_le (isk w n (knd w n p)) (n - skp w n p) (skp w n p)
    refine ⟨h1, by omega, fun h0 => ?_⟩
    unfold knd at *
    by_cases c : skp w n p < n
    · rw [if_pos c] at *
      exact ⟨c, isk_adv c⟩
    · rw [if_neg c] at hk; omega
  · rw [if_neg hk]
    by_cases c : skp w n p < n
    · rw [if_pos c]; exact ⟨by omega, by omega, fun _ => ⟨c, by omega⟩⟩
    · rw [if_neg c]
      refine ⟨Nat.le_refl _, s2, fun h0 => ?_⟩
      unfold knd at h0
      rw [if_neg c] at h0
      exact absurd rfl h0
theorem knd_le {w : Nat → Nat} {n p : Nat} : knd w n p ≤ 4 := by
  unfold knd
  split
  · exact (kd_b _).2
  · omega
theorem knd_end {w : Nat → Nat} {n p : Nat} (h : p ≤ n) (h0 : knd w n p = 0) : skp w n p = n := by
  obtain ⟨s1, s2⟩ := skp_b (w := w) h
  unfold knd at h0
  by_cases c : skp w n p < n
  · rw [if_pos c] at h0
    have := (kd_b (w (skp w n p))).1
    omega
  · omega
/-! the class's tokens -/
def cvI (tp : Nat → Int32) (q : Nat) : Nat → Int32
  | 0 => 0
  | i + 1 => cvI tp q i * 10 + tp (q + i) - 48
theorem p_skip {w : Nat → Nat} {n p : Nat} {tp mt : Nat → Int32} (hT : TP w n tp mt) (hp : p ≤ n) : itr (un1 (b_X3_nextToken_8 (nI n) tp)) FU (nI p) = some (nI (skp w n p)) := by
  obtain ⟨hn, hw⟩ := hT
  refine itr_adv (step := un1 (b_X3_nextToken_8 (nI n) tp)) (blk w n) nI nI n 0 ?_ ?_ ?_ (n - p) p FU (by omega) (by omega) (by unfold FU; omega)
  · intro q _ hq
    unfold blk at hq
    rw [Bool.and_eq_true, decide_eq_true_eq] at hq
    have h32 : w q = 32 := by simpa using hq.2
    rw [un1_s]
    unfold b_X3_nextToken_8
    rw [if_neg (nI_ge hq.1 (by omega)), gin_k (by omega) (by omega), nI_cl (by omega), if_pos (by rw [(hw q hq.1).2.2, h32]; decide), bnd_s, show nI q + (1 : Int32) = nI (q + 1) from nI_1 q]
  · intro q _ hqn hq
    rw [un1_s]
    unfold b_X3_nextToken_8
    by_cases c : q < n
    · have h32 : ¬ w q = 32 := by
        intro e
        unfold blk at hq
        rw [decide_eq_true c, e] at hq
        exact absurd hq (by decide)
      rw [if_neg (nI_ge c (by omega)), gin_k (by omega) (by omega), nI_cl (by omega), if_neg (fun e => h32 ((by_eq (c := 32) (hw q c).1 (by omega)).mp (by rw [← (hw q c).2.2]; exact e)))]
    · rw [if_pos (nI_le (by omega) (by omega))]
  · intro q hq
    unfold blk at hq
    rw [Bool.and_eq_true, decide_eq_true_eq] at hq
    exact hq.1
theorem p_run {w : Nat → Nat} {n m q k : Nat} {tp mt : Nat → Int32} (hT : TP w n tp mt) (hm : m ≤ n) (hq : q ≤ m) (hk : k ≤ 4) : itr (un2 (b_X3_nextToken_127 tp (nI k) (nI m))) FU (nI q, (0 : Int32)) = some (nI (adv (isk w m k) (m - q) q), cvI tp q (adv (isk w m k) (m - q) q - q)) := by
  obtain ⟨hn, hw⟩ := hT
  have h := itr_adv (step := un2 (b_X3_nextToken_127 tp (nI k) (nI m))) (isk w m k) (fun p => (nI p, cvI tp q (p - q))) (fun p => (nI p, cvI tp q (p - q))) m q ?_ ?_ ?_ (m - q) q FU (Nat.le_refl q) (by omega) (by unfold FU; omega)
  · rw [show ((nI q, (0 : Int32))) = ((fun p => (nI p, cvI tp q (p - q))) q) from by simp only [Nat.sub_self]; rfl]
    exact h
  · intro p hqp hc
    unfold isk at hc
    rw [Bool.and_eq_true, decide_eq_true_eq] at hc
    have hkd : kd (w p) = k := by simpa using hc.2
    have hpn : p < n := by omega
    rw [un2_s]
    unfold b_X3_nextToken_127
    rw [if_neg (nI_ge hc.1 (by omega)), gin_k (by omega) (by omega), nI_cl (by omega), (hw p hpn).2.2, p_kindOf _ (hw p hpn).1, ob1_s, if_pos (by rw [hkd]), gin_k (by omega) (by omega), bnd_s, bnd_s, show nI p + (1 : Int32) = nI (p + 1) from nI_1 p, ← (hw p hpn).2.2, show p + 1 - q = (p - q) + 1 by omega, cvI, show q + (p - q) = p by omega]
  · intro p hqp hpm hc
    rw [un2_s]
    unfold b_X3_nextToken_127
    by_cases c : p < m
    · have hpn : p < n := by omega
      have hkd : ¬ kd (w p) = k := by
        intro e
        unfold isk at hc
        rw [decide_eq_true c, e] at hc
        simp at hc
      have hb := kd_b (w p)
      rw [if_neg (nI_ge c (by omega)), gin_k (by omega) (by omega), nI_cl (by omega), (hw p hpn).2.2, p_kindOf _ (hw p hpn).1, ob1_s, if_neg (fun e => hkd (nI_inj (by omega) (by omega) e))]
    · rw [if_pos (nI_le (by omega) (by omega))]
  · intro p hc
    unfold isk at hc
    rw [Bool.and_eq_true, decide_eq_true_eq] at hc
    exact hc.1
def ntE (fp : Int32) (tp : Nat → Int32) (q s_9 s_11 : Int32) : Option (Int32 × Int32 × Int32 × Int32 × Int32 × Int32) :=
  ob2 (itr (un2 (b_X3_nextToken_127 tp s_9 s_11)) FU (q, (0 : Int32))) (fun pl v =>
    jn0 (ob2 (f_X3_fail (0 : Int32) fp (1 : Int32) q) (fun a b => some (a, b, s_9, pl, q, v))) (fun j =>
      if s_9 = (4 : Int32) then j else if s_9 = (2 : Int32) then (if (pl - q) ≤ (2 : Int32) then some ((0 : Int32), fp, s_9, pl, q, v) else j) else some ((0 : Int32), fp, s_9, pl, q, v)))
theorem nt_s (n fp pl k0 st v : Int32) (tp : Nat → Int32) : f_X3_nextToken n (0 : Int32) fp pl k0 st v tp = ob1 (itr (un1 (b_X3_nextToken_8 n tp)) FU pl) (fun q => jn1 (fun s_9 => if s_9 = (1 : Int32) then ntE fp tp q s_9 n else if s_9 = (2 : Int32) then ntE fp tp q s_9 n else ntE fp tp q s_9 (if n < (q + (1 : Int32)) then n else (q + (1 : Int32)))) (fun j_10 => if n ≤ q then j_10 (0 : Int32) else gin q 320 (ob1 (f_X3_kindOf (tp q.toNatClampNeg)) (fun r_38 => j_10 r_38)))) := by
  unfold f_X3_nextToken
  rw [if_pos rfl]
  rfl
theorem ntE_v {w : Nat → Nat} {n m q k : Nat} {tp mt : Nat → Int32} {fp : Int32} (hT : TP w n tp mt) (hm : m ≤ n) (hq : q ≤ m) (hk : k ≤ 4) : ntE fp tp (nI q) (nI k) (nI m) = some (if (k == 4 || (k == 2 && decide (2 < adv (isk w m k) (m - q) q - q))) then ((1 : Int32), nI q, nI k, nI (adv (isk w m k) (m - q) q), nI q, cvI tp q (adv (isk w m k) (m - q) q - q)) else ((0 : Int32), fp, nI k, nI (adv (isk w m k) (m - q) q), nI q, cvI tp q (adv (isk w m k) (m - q) q - q))) := by
  have hT' := hT
  obtain ⟨hn, hw⟩ := hT
  unfold ntE
  have h1 := adv_ge (isk w m k) (m - q) q
  have h2 := adv_le (isk w m k) (m - q) q
  rw [p_run hT' hm hq hk, ob2_s, jn0_s, show f_X3_fail (0 : Int32) fp (1 : Int32) (nI q) = some ((1 : Int32), nI q) from rfl, ob2_s]
  generalize adv (isk w m k) (m - q) q = E at *
  by_cases c4 : k = 4
  · subst c4
    rw [if_pos (show nI 4 = (4 : Int32) from rfl), if_pos (by rfl)]
  · rw [if_neg (show ¬ nI k = (4 : Int32) from fun e => c4 (nI_inj (b := 4) (by omega) (by omega) e)), show (k == 4) = false from by simpa using c4, Bool.false_or]
    by_cases c2 : k = 2
    · subst c2
      rw [if_pos (show nI 2 = (2 : Int32) from rfl), pk_sub (by omega), show ((2 : Nat) == 2) = true from rfl, Bool.true_and]
      by_cases c : 2 < E - q
      · rw [if_neg (show ¬ nI (E - q) ≤ (2 : Int32) from nI_ge (a := 2) c (by omega)), if_pos (decide_eq_true c)]
      · rw [if_pos (show nI (E - q) ≤ (2 : Int32) from nI_le (b := 2) (by omega) (by omega)), decide_eq_false c, if_neg (by decide)]
    · rw [if_neg (show ¬ nI k = (2 : Int32) from fun e => c2 (nI_inj (b := 2) (by omega) (by omega) e)), show (k == 2) = false from by simpa using c2, Bool.false_and, if_neg (by decide)]
theorem one_adv {w : Nat → Nat} {q : Nat} : adv (isk w (q + 1) (kd (w q))) (q + 1 - q) q = q + 1 := by
  rw [show q + 1 - q = 0 + 1 by omega, adv, if_pos (by unfold isk; simp)]
  rfl
theorem tp_dig {w : Nat → Nat} {n i : Nat} {tp mt : Nat → Int32} (hT : TP w n tp mt) (hi : i < n) (hk : kd (w i) = 2) : tp i = nI (w i) ∧ 48 ≤ w i ∧ w i ≤ 57 := by
  have h := kd_2.mp hk
  exact ⟨by rw [(hT.2 i hi).2.2]; exact by_small _ (by omega), h⟩
theorem sub48 {x : Nat} (h : 48 ≤ x) : nI x - (48 : Int32) = nI (x - 48) := pk_sub (b := 48) h
theorem cv_val {w : Nat → Nat} {n p : Nat} {tp mt : Nat → Int32} (hT : TP w n tp mt) (hp : p ≤ n) (hk : knd w n p = 2) (hb : tkb w n p = false) : cvI tp (skp w n p) (tke w n p - skp w n p) = nI (tkv w n p) ∧ tkv w n p ≤ 99 := by
  obtain ⟨t1, t2, t3⟩ := tke_b (w := w) hp
  obtain ⟨t4, t5⟩ := t3 (by omega)
  have hall : ∀ j, skp w n p ≤ j → j < tke w n p → kd (w j) = 2 := by
    intro j h1 h2
    unfold tke at h2
    rw [hk, if_pos (Or.inr rfl)] at h2
    have := adv_all _ _ _ j h1 h2
    unfold isk at this
    rw [Bool.and_eq_true] at this
    simpa using this.2
  have hl : tke w n p - skp w n p ≤ 2 := by
    unfold tkb at hb
    rw [hk] at hb
    simp at hb
    omega
  have d0 := tp_dig hT (show skp w n p < n by omega) (hall _ (Nat.le_refl _) t5)
  unfold tkv
  by_cases c : tke w n p - skp w n p = 1
  · rw [if_pos c, c, show (1 : Nat) = 0 + 1 from rfl, cvI, cvI, Nat.add_zero, d0.1, show (0 : Int32) * 10 = 0 from rfl, Int32.zero_add, sub48 (by omega)]
    exact ⟨rfl, by omega⟩
  · have c2 : tke w n p - skp w n p = 2 := by omega
    have d1 := tp_dig hT (show skp w n p + 1 < n by omega) (hall _ (by omega) (by omega))
    rw [if_neg c, c2, show (2 : Nat) = 0 + 1 + 1 from rfl, cvI, cvI, cvI, Nat.add_zero, d0.1, d1.1, show (0 : Int32) * 10 = 0 from rfl, Int32.zero_add, sub48 (by omega), show nI (w (skp w n p) - 48) * (10 : Int32) = nI ((w (skp w n p) - 48) * 10) from pk_mul _ 10, nI_add, sub48 (by omega)]
    exact ⟨by congr 1; omega, by omega⟩
/-- where the reading stands: a place, or a fault and its place -/
abbrev Ps := Nat ⊕ (Nat × Nat)
def lx (w : Nat → Nat) (n : Nat) (S : Ps) : Ps := match S with
  | .inl p => if tkb w n p then .inr (1, skp w n p) else .inl p
  | .inr x => .inr x
def cns (w : Nat → Nat) (n : Nat) (T : Ps) : Ps := match T with
  | .inl p => .inl (tke w n p)
  | .inr x => .inr x
def wfP (n : Nat) (S : Ps) : Prop := match S with
  | .inl p => p ≤ n
  | .inr x => 0 < x.1 ∧ x.1 < 8
/-- at a token -/
def LT (w : Nat → Nat) (n : Nat) (T : Ps) (fault fp kind place start value : Int32) : Prop := match T with
  | .inl p => p ≤ n ∧ tkb w n p = false ∧ fault = 0 ∧ kind = nI (knd w n p) ∧ place = nI (tke w n p) ∧ start = nI (skp w n p) ∧ (knd w n p = 2 → value = nI (tkv w n p))
  | .inr x => 0 < x.1 ∧ x.1 < 8 ∧ fault = nI x.1 ∧ fp = nI x.2 ∧ ∃ q e, q ≤ e ∧ e ≤ n ∧ start = nI q ∧ place = nI e
/-- behind one -/
def LC (n : Nat) (S : Ps) (fault fp place start : Int32) : Prop := match S with
  | .inl p => p ≤ n ∧ fault = 0 ∧ place = nI p
  | .inr x => 0 < x.1 ∧ x.1 < 8 ∧ fault = nI x.1 ∧ fp = nI x.2 ∧ ∃ q e, q ≤ e ∧ e ≤ n ∧ start = nI q ∧ place = nI e
theorem LT_LC {w : Nat → Nat} {n : Nat} {T : Ps} {fault fp kind place start value : Int32} (h : LT w n T fault fp kind place start value) : LC n (cns w n T) fault fp place start := by
  cases T with
  | inl p => exact ⟨(tke_b h.1).2.1, h.2.2.1, h.2.2.2.2.1⟩
  | inr x => exact h
theorem p_tok {w : Nat → Nat} {n : Nat} {tp mt : Nat → Int32} {S : Ps} {fault fp kind place start value : Int32} (hT : TP w n tp mt) (h : LC n S fault fp place start) : ∃ fault' fp' kind' place' start' value', f_X3_nextToken (nI n) fault fp place kind start value tp = some (fault', fp', kind', place', start', value') ∧ LT w n (lx w n S) fault' fp' kind' place' start' value' := by
  have hn := hT.1
  cases S with
  | inr x =>
    obtain ⟨h1, h2, h3, h4⟩ := h
    refine ⟨fault, fp, kind, place, start, value, ?_, h1, h2, h3, h4⟩
    unfold f_X3_nextToken
    rw [if_neg (by rw [h3]; exact nI_ne0 h1 (by omega))]
  | inl p =>
    obtain ⟨hp, h3, h4⟩ := h
    subst h3; subst h4
    obtain ⟨s1, s2⟩ := skp_b (w := w) hp
    have key : ∃ val, f_X3_nextToken (nI n) (0 : Int32) fp (nI p) kind start value tp = some (if tkb w n p then ((1 : Int32), nI (skp w n p), nI (knd w n p), nI (tke w n p), nI (skp w n p), val) else ((0 : Int32), fp, nI (knd w n p), nI (tke w n p), nI (skp w n p), val)) ∧ val = cvI tp (skp w n p) (tke w n p - skp w n p) := by
      refine ⟨_, ?_, rfl⟩
      rw [nt_s, p_skip hT hp, ob1_s, jn1_s]
      by_cases c : skp w n p < n
      · have ek : knd w n p = kd (w (skp w n p)) := by unfold knd; rw [if_pos c]
        have hkb := kd_b (w (skp w n p))
        rw [if_neg (nI_ge c (by omega)), gin_k (by omega) (by omega), nI_cl (by omega), (hT.2 _ c).2.2, p_kindOf _ (hT.2 _ c).1, ob1_s, ← ek]
        by_cases c1 : knd w n p = 1
        · have et : tke w n p = adv (isk w n (knd w n p)) (n - skp w n p) (skp w n p) := by unfold tke; rw [if_pos (Or.inl c1)]
          simp only
          rw [if_pos (show nI (knd w n p) = (1 : Int32) from by rw [c1]; rfl), ntE_v hT (Nat.le_refl n) s2 knd_le, ← et]
          rfl
        · by_cases c2 : knd w n p = 2
          · have et : tke w n p = adv (isk w n (knd w n p)) (n - skp w n p) (skp w n p) := by unfold tke; rw [if_pos (Or.inr c2)]
            simp only
            rw [if_neg (show ¬ nI (knd w n p) = (1 : Int32) from by rw [c2]; decide), if_pos (show nI (knd w n p) = (2 : Int32) from by rw [c2]; rfl), ntE_v hT (Nat.le_refl n) s2 knd_le, ← et]
            rfl
          · have et : tke w n p = skp w n p + 1 := by unfold tke; rw [if_neg (by omega), if_pos c]
            have ea : adv (isk w (skp w n p + 1) (knd w n p)) (skp w n p + 1 - skp w n p) (skp w n p) = tke w n p := by rw [ek, one_adv, et]
            simp only
            rw [if_neg (show ¬ nI (knd w n p) = (1 : Int32) from fun e => c1 (nI_inj (b := 1) (by omega) (by omega) e)), if_neg (show ¬ nI (knd w n p) = (2 : Int32) from fun e => c2 (nI_inj (b := 2) (by omega) (by omega) e)), show nI (skp w n p) + (1 : Int32) = nI (skp w n p + 1) from nI_1 _, if_neg (nI_nlt (by omega) (by omega)), ntE_v hT (by omega) (by omega) knd_le, ea]
            rfl
      · have e0 : skp w n p = n := by omega
        have ek : knd w n p = 0 := by unfold knd; rw [if_neg c]
        have et : tke w n p = n := by unfold tke; rw [if_neg (by omega), if_neg c, e0]
        have ea : adv (isk w n 0) (n - n) n = n := by rw [Nat.sub_self]; rfl
        simp only
        have hv := ntE_v (k := 0) (q := n) (m := n) (fp := fp) hT (Nat.le_refl n) (Nat.le_refl n) (by omega)
        rw [ea] at hv
        rw [if_pos (nI_le (by omega) (by omega)), if_neg (by decide), if_neg (by decide), e0, show nI n + (1 : Int32) = nI (n + 1) from nI_1 _, if_pos (nI_lt (by omega) (by omega)), show (0 : Int32) = nI 0 from rfl, hv, ek, et]
        unfold tkb
        rw [ek]
        rfl
    obtain ⟨val, e, hval⟩ := key
    rw [e]
    cases hb : tkb w n p with
    | true =>
      have el : lx w n (.inl p) = .inr (1, skp w n p) := by unfold lx; simp only [hb, if_true]
      rw [el]
      exact ⟨_, _, _, _, _, _, rfl, by show 0 < 1; decide, by show 1 < 8; decide, rfl, rfl, _, _, (tke_b hp).1, (tke_b hp).2.1, rfl, rfl⟩
    | false =>
      have el : lx w n (.inl p) = .inl p := by unfold lx; simp only [hb, Bool.false_eq_true, if_false]
      rw [el]
      exact ⟨_, _, _, _, _, _, rfl, hp, hb, rfl, rfl, rfl, rfl, fun hk => by rw [hval]; exact (cv_val hT hp hk hb).1⟩
