/-! ===== pure 24: the class's search ===== -/
def nx2 (a : Nat → Nat) (w : (Nat → Nat) × Nat) (Dn st hb to : Nat) (be : Option Nat) : Option St := if be = some to then none else if be.map (fun x => prw a w.1 w.2 Dn st hb x to) = some to then none else some (to, be.map (fun x => prw a w.1 w.2 Dn st hb x to))
def gto (a : Nat → Nat) (w : (Nat → Nat) × Nat) (Dn d h : Nat) : Option Nat := if d = 10 then some h else if d < Dn then lead a w.1 w.2 d h else none
def nxg (a : Nat → Nat) (Dn st hb : Nat) (ws : Nat → (Nat → Nat) × Nat) (t d : Nat) (s : St) : Option St := match gto a (ws t) Dn d s.1 with
  | none => none
  | some to => nx2 a (ws t) Dn (st + t) hb to s.2
theorem nx2_v {a : Nat → Nat} {w : (Nat → Nat) × Nat} {R Dn st hb to : Nat} {be : Option Nat} {s : St} (hD : Dn ≤ 10) (ha : ∀ d, d < Dn → a d < R) (hW : Wok R Dn w) (hto : to < R) (hbe : ∀ x, be = some x → x < R) (h : nx2 a w Dn st hb to be = some s) : vS R s := by
  unfold nx2 at h
  by_cases h1 : be = some to
  · rw [if_pos h1] at h; cases h
  · rw [if_neg h1] at h
    by_cases h2 : be.map (fun x => prw a w.1 w.2 Dn st hb x to) = some to
    · rw [if_pos h2] at h; cases h
    · rw [if_neg h2] at h
      cases h
      refine ⟨hto, fun x hx => ?_⟩
      cases be with
      | none => cases hx
      | some y =>
        simp only [Option.map_some, Option.some.injEq] at hx
        rw [← hx]
        exact prw_ltR hD ha hW.2.2.1 (hbe y rfl) hto
theorem nxg_v {a : Nat → Nat} {R Dn st hb : Nat} {ws : Nat → (Nat → Nat) × Nat} (hD : Dn ≤ 10) (ha : ∀ d, d < Dn → a d < R) (hT : ∀ t, Wok R Dn (ws t)) : nxV R (nxg a Dn st hb ws) := by
  intro t d s s' hv h
  unfold nxg at h
  cases hg : gto a (ws t) Dn d s.1 with
  | none => rw [hg] at h; cases h
  | some to =>
    rw [hg] at h
    refine nx2_v hD ha (hT t) ?_ hv.2 h
    unfold gto at hg
    by_cases c : d = 10
    · rw [if_pos c] at hg; cases hg; exact hv.1
    · rw [if_neg c] at hg
      by_cases c2 : d < Dn
      · rw [if_pos c2] at hg; exact lead_ltR ha (hT t).2.2.1 c2 hg
      · rw [if_neg c2] at hg; cases hg
/-- the row of where the beast goes -/
def prO (a : Nat → Nat) (w : (Nat → Nat) × Nat) (R Dn st hb : Nat) (T : Nat) (pr : Nat → Int32) : Prop := ∀ to, to < T → (∀ x, x < R → pr (8 * to + x) = nI (prw a w.1 w.2 Dn st hb x to)) ∧ pr (8 * to + 7) = nI 7
theorem p_foreP {a b : Nat → Nat} {R Dn bm st hb : Nat} {pr : Nat → Int32} (hR : R ≤ 7) (hD : Dn ≤ 10) (hbm : bm < 2147483648) (h7a : lt7 a) (h7 : lt7 b) (hst : st < 100000) (hh : hb < 4) : ∃ pr', f_X4_foreseeProwls (nI bm) (nI hb) (nI st) (nI R) (nI Dn) (rI a) (rI b) pr = some pr' ∧ prO a (b, bm) R Dn st hb R pr' := by
  unfold f_X4_foreseeProwls
  have hh2 := itr_inv (step := un2 (b_X4_foreseeProwls_2 (nI bm) (nI hb) (nI st) (nI R) (nI Dn) (rI a) (rI b))) (fun i x => x.1 = nI i ∧ prO a (b, bm) R Dn st hb i x.2) R (fun x => prO a (b, bm) R Dn st hb R x.2) ?_ ?_ ((0 : Int32), pr) ⟨rfl, fun to hto => absurd hto (Nat.not_lt_zero _)⟩ FU (by unfold FU; omega)
  · obtain ⟨⟨o1, o2⟩, e, q⟩ := hh2
    rw [e, ob2_s]
    exact ⟨o2, rfl, q⟩
  · rintro i ⟨x1, x2⟩ hi ⟨z1, z2⟩
    simp only at z1 z2
    subst z1
    have hin := itr_inv (step := un2 (b_X4_foreseeProwls_15 (nI bm) (nI hb) (nI st) (nI R) (nI Dn) (rI a) (rI b) (nI i))) (fun k x => x.1 = nI k ∧ (∀ y, y < k → x.2 (8 * i + y) = nI (prw a b bm Dn st hb y i)) ∧ ∀ j, j < 8 * i → x.2 j = x2 j) R (fun x => (∀ y, y < R → x.2 (8 * i + y) = nI (prw a b bm Dn st hb y i)) ∧ ∀ j, j < 8 * i → x.2 j = x2 j) ?_ ?_ ((0 : Int32), x2) ⟨rfl, fun y hy => absurd hy (Nat.not_lt_zero _), fun _ _ => rfl⟩ FU (by unfold FU; omega)
    · obtain ⟨⟨o1, o2⟩, e, u1, u2⟩ := hin
      simp only at u1 u2
      refine ⟨(nI (i + 1), upd o2 (8 * i + 7) (nI 7)), ?_, rfl, ?_⟩
      · rw [un2_s]
        unfold b_X4_foreseeProwls_2
        rw [if_neg (nI_ge hi (by omega)), e, ob2_s, show nI i * (8 : Int32) = nI (i * 8) from pk_mul i 8, show nI (i * 8) + 7 = nI (i * 8 + 7) from nI_add _ 7, show i * 8 + 7 = 8 * i + 7 by omega, gin_k (by omega) (by omega), bnd_s, bnd_s, nI_cl (by omega), show nI i + 1 = nI (i + 1) from nI_1 i]
        rfl
      · intro to hto
        simp only
        by_cases c : to = i
        · subst c
          exact ⟨fun y hy => by rw [pk_un (by omega)]; exact u1 y hy, by rw [pk_us]⟩
        · obtain ⟨y1, y2⟩ := z2 to (by omega)
          exact ⟨fun y hy => by rw [pk_un (by omega), u2 _ (by omega)]; exact y1 y hy, by rw [pk_un (by omega), u2 _ (by omega)]; exact y2⟩
    · rintro k ⟨y1, y2⟩ hk ⟨u1, u2, u3⟩
      simp only at u1 u2 u3
      subst u1
      refine ⟨(nI (k + 1), upd y2 (8 * i + k) (nI (prw a b bm Dn st hb k i))), ?_, rfl, ?_, ?_⟩
      · rw [un2_s]
        unfold b_X4_foreseeProwls_15
        rw [if_neg (nI_ge hk (by omega)), p_prowl hbm hD h7a h7 hst (by omega) (by omega) hh, ob1_s, show nI i * (8 : Int32) = nI (i * 8) from pk_mul i 8, nI_add, show i * 8 + k = 8 * i + k by omega, gin_k (by omega) (by omega), bnd_s, bnd_s, nI_cl (by omega), show nI k + 1 = nI (k + 1) from nI_1 k]
      · intro y hy
        simp only
        by_cases c : y = k
        · rw [c, pk_us]
        · rw [pk_un (by omega)]; exact u2 y (by omega)
      · intro j hj
        simp only
        rw [pk_un (by omega)]; exact u3 j hj
    · rintro ⟨y1, y2⟩ ⟨u1, u2, u3⟩
      simp only at u1 u2 u3
      subst u1
      refine ⟨(nI R, y2), ?_, u2, u3⟩
      rw [un2_s]
      unfold b_X4_foreseeProwls_15
      rw [if_pos (nI_le (Nat.le_refl R) (by omega))]
  · rintro ⟨x1, x2⟩ ⟨z1, z2⟩
    simp only at z1 z2
    subst z1
    refine ⟨(nI R, x2), ?_, z2⟩
    rw [un2_s]
    unfold b_X4_foreseeProwls_2
    rw [if_pos (nI_le (Nat.le_refl R) (by omega))]
theorem l_sh : ∀ c, c < 64 → (((nI c).toInt64 &&& 63).toBitVec.smod 64).toNat = c := by decide +kernel
theorem l_bit {m c : Nat} (hc : c < 56) : ((lN m >>> ((nI c).toInt64 &&& 63)) &&& (1 : Int64)) = (if m.testBit c then 1 else 0) := by
  apply Int64.toBitVec_inj.1
  rw [Int64.toBitVec_and, Int64.toBitVec_shiftRight, BitVec.sshiftRight_eq', l_sh c (by omega)]
  show (BitVec.ofNat 64 m).sshiftRight c &&& 1#64 = _
  apply BitVec.eq_of_getLsbD_eq
  intro i hi
  rw [BitVec.getLsbD_and, BitVec.getLsbD_sshiftRight, BitVec.getLsbD_ofNat]
  rcases Nat.eq_zero_or_pos i with h0 | h0
  · subst h0
    have a1 : c + 0 < 64 := by omega
    cases hm : m.testBit c with
    | true => simp [a1, hm]; omega
    | false => simp [a1, hm]; intro h; omega
  · have e1 : (1#64).getLsbD i = false := by
      rw [BitVec.getLsbD_one]; simp; omega
    rw [e1, Bool.and_false]
    cases hm : m.testBit c with
    | true =>
      show false = (1#64).getLsbD i
      rw [e1]
    | false =>
      show false = (0#64).getLsbD i
      rw [BitVec.getLsbD_zero]
theorem l_or {m c : Nat} (hc : c < 56) : lN m ||| ((1 : Int64) <<< ((nI c).toInt64 &&& 63)) = lN (m ||| 2 ^ c) := by
  apply Int64.toBitVec_inj.1
  rw [Int64.toBitVec_or, Int64.toBitVec_shiftLeft]
  have e : ((1 : Int64).toBitVec <<< (((nI c).toInt64 &&& 63).toBitVec.smod 64)) = BitVec.ofNat 64 (2 ^ c) := by
    have key : ∀ c, c < 64 → ((1 : Int64).toBitVec <<< (((nI c).toInt64 &&& 63).toBitVec.smod 64)) = BitVec.ofNat 64 (2 ^ c) := by decide +kernel
    exact key c (by omega)
  rw [e]
  show BitVec.ofNat 64 m ||| BitVec.ofNat 64 (2 ^ c) = BitVec.ofNat 64 (m ||| 2 ^ c)
  apply BitVec.eq_of_getLsbD_eq
  intro i hi
  simp [hi]
theorem l_cmp (b : Bool) : (lg_cmp (if b then (1 : Int64) else 0) (0 : Int64) = (0 : Int32)) ↔ b = false := by cases b <;> decide
/-- a layer in the class's rows -/
def AR (T : Nat) (A : Nat × (Nat → St) × (Nat → Nat) × Nat) (met : Int64) (pairs parents sizes steps : Nat → Int32) : Prop := met = lN A.2.2.2 ∧ sizes T = nI A.1 ∧ ∀ j, j < A.1 → pairs (56 * T + j) = nI (cd (A.2.1 j)) ∧ parents (56 * T + j) = nI (A.2.2.1 j / 11) ∧ steps (56 * T + j) = nI (A.2.2.1 j % 11)
def FRm (T : Nat) (p q : Nat → Int32) : Prop := ∀ j, j < 56 * T → p j = q j
theorem p_reach {f : Nat → Option St} {a : Nat → Nat} {w : (Nat → Nat) × Nat} {R Dn st hb T E i d to : Nat} {be : Option Nat} {met : Int64} {pairs parents pr sizes steps : Nat → Int32} (hv : ∀ e s, f e = some s → vS 7 s) (hR : R ≤ 7) (hT1 : 1 ≤ T) (hT : T ≤ 24) (hA : AR T (acc f E) met pairs parents sizes steps) (hE : f E = nx2 a w Dn st hb to be) (hEe : E = 11 * i + d) (hd : d ≤ 10) (hi : i < 56) (hto : to < R) (hbe : ∀ x, be = some x → x < R) (hpr : prO a w R Dn st hb R pr) : ∃ (met' : Int64) (pairs' parents' sizes' steps' : Nat → Int32), f_X4_reach met pairs parents pr sizes steps (nI T) (nI i) (nI d) (nI (8 * to + be.getD 7)) = some (met', pairs', parents', sizes', steps') ∧ AR T (acc f (E + 1)) met' pairs' parents' sizes' steps' ∧ FRm T pairs' pairs ∧ FRm T parents' parents ∧ FRm T steps' steps ∧ ∀ j, j < T → sizes' j = sizes j := by
  have hbc : be.getD 7 < 8 := by
    cases be with
    | none => decide
    | some x => have := hbe x rfl; simp only [Option.getD_some]; omega
  obtain ⟨pr1, pr2⟩ := hpr to hto
  unfold f_X4_reach
  rw [show nI (8 * to + be.getD 7) / 8 = nI to by
      rw [show (8 : Int32) = nI 8 from rfl, pk_div (by omega) (by omega) (by omega)]; congr 1; omega, bnd_s, show nI (8 * to + be.getD 7) - nI to * 8 = nI (be.getD 7) by
      rw [show nI to * (8 : Int32) = nI (to * 8) from pk_mul to 8, Nat.add_comm, ← nI_add, Nat.mul_comm, Int32.add_sub_cancel]]
  by_cases h1 : be = some to
  · rw [if_pos (by rw [h1]; rfl)]
    refine ⟨met, pairs, parents, sizes, steps, rfl, ?_, fun _ _ => rfl, fun _ _ => rfl, fun _ _ => rfl, fun _ _ => rfl⟩
    have e : f E = none := by rw [hE, nx2, if_pos h1]
    rw [acc, e]; exact hA
  · have hne : be.getD 7 ≠ to := by
      cases be with
      | none => simp only [Option.getD_none]; omega
      | some x => intro e; exact h1 (by rw [← e]; rfl)
    rw [if_neg (fun e => hne (nI_inj (by omega) (by omega) e)), gin_k (by omega) (by omega), gin_k (by omega) (by omega), nI_cl (by omega)]
    -- where the beast goes
    obtain ⟨be', hbe', epr⟩ : ∃ be' : Option Nat, be' = be.map (fun x => prw a w.1 w.2 Dn st hb x to) ∧ pr (8 * to + be.getD 7) = nI (be'.getD 7) := by
      refine ⟨_, rfl, ?_⟩
      cases be with
      | none => exact pr2
      | some x => exact pr1 x (hbe x rfl)
    have hE2 : f E = if be' = some to then none else some (to, be') := by rw [hE, nx2, if_neg h1, ← hbe']
    rw [epr]
    by_cases h2 : be' = some to
    · rw [if_pos (by rw [h2]; rfl)]
      refine ⟨met, pairs, parents, sizes, steps, rfl, ?_, fun _ _ => rfl, fun _ _ => rfl, fun _ _ => rfl, fun _ _ => rfl⟩
      rw [if_pos h2] at hE2
      rw [acc, hE2]; exact hA
    · rw [if_neg h2] at hE2
      have hv2 := hv E _ hE2
      have hcd := cd_lt hv2
      have hbe7 : be'.getD 7 < 8 := by
        cases hb : be' with
        | none => decide
        | some x => have := hv2.2 x hb; simp only [Option.getD_some]; omega
      have hne2 : be'.getD 7 ≠ to := by
        cases hb : be' with
        | none => simp only [Option.getD_none]; omega
        | some x => intro e; rw [hb] at h2; exact h2 (by rw [← e]; rfl)
      have ecd : nI to * (8 : Int32) + nI (be'.getD 7) = nI (cd (to, be')) := by
        rw [show nI to * (8 : Int32) = nI (to * 8) from pk_mul to 8, nI_add, Nat.mul_comm]; rfl
      rw [if_neg (fun e => hne2 (nI_inj (by omega) (by omega) e)), ecd, bnd_s, hA.1, l_bit hcd]
      by_cases hb : (acc f E).2.2.2.testBit (cd (to, be')) = true
      · rw [if_neg (fun q => by rw [l_cmp] at q; rw [q] at hb; cases hb)]
        refine ⟨_, pairs, parents, sizes, steps, rfl, ?_, fun _ _ => rfl, fun _ _ => rfl, fun _ _ => rfl, fun _ _ => rfl⟩
        rw [acc, hE2]
        simp only [hb, if_true]
        exact ⟨rfl, hA.2⟩
      · have hb' : (acc f E).2.2.2.testBit (cd (to, be')) = false := by simpa using hb
        have ea : acc f (E + 1) = ((acc f E).1 + 1, fun j => if j = (acc f E).1 then (to, be') else (acc f E).2.1 j, fun j => if j = (acc f E).1 then E else (acc f E).2.2.1 j, (acc f E).2.2.2 ||| 2 ^ cd (to, be')) := by rw [acc, hE2]; simp only [hb', Bool.false_eq_true, if_false]
        have hm : (acc f E).1 + 1 ≤ 56 := by
          have := acc_le hv (E + 1)
          rw [ea] at this
          exact this
        obtain ⟨hA1, hA2, hA3⟩ := hA
        rw [if_pos (by rw [l_cmp]; exact hb'), l_or hcd, bnd_s, gin_k (by omega) (by omega), nI_cl (by omega), hA2, show nI T * (56 : Int32) = nI (T * 56) from pk_mul T 56, nI_add, bnd_s, show T * 56 + (acc f E).1 = 56 * T + (acc f E).1 by omega, gin_k (by omega) (by omega), bnd_s, gin_k (by omega) (by omega), bnd_s, gin_k (by omega) (by omega), bnd_s, gin_k (by omega) (by omega), gin_k (by omega) (by omega), bnd_s, nI_cl (by omega), show nI (acc f E).1 + 1 = nI ((acc f E).1 + 1) from nI_1 _]
        refine ⟨_, _, _, _, _, rfl, ?_, ?_, ?_, ?_, ?_⟩
        · rw [ea]
          refine ⟨rfl, by rw [pk_us], fun j hj => ?_⟩
          simp only at hj ⊢
          by_cases c : j = (acc f E).1
          · rw [c, pk_us, pk_us, pk_us, if_pos rfl, if_pos rfl, hEe, show (11 * i + d) / 11 = i by omega, show (11 * i + d) % 11 = d by omega]
            exact ⟨rfl, rfl, rfl⟩
          · rw [pk_un (by omega), pk_un (by omega), pk_un (by omega), if_neg c, if_neg c]
            exact hA3 j (by omega)
        · intro j hj; rw [pk_un (by omega)]
        · intro j hj; rw [pk_un (by omega)]
        · intro j hj; rw [pk_un (by omega)]
        · intro j hj; rw [pk_un (by omega)]
