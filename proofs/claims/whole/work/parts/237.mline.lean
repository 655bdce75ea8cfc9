/-! ===== pure 37: the reference's lines, by their names ===== -/
/-- the line's end and what it hands on -/
def mEnd (w : Nat) (hDr rd rk rr rs : Int32) (hRr : Int32) (tl : Int32) (rw_ rp : Nat → Int32) (mt : Nat → Int32) (f g s p k v : Int32) : Option (Int32 × Int32 × Int32 × Int32 × Int32 × Int32 × Int32 × Int32 × Int32 × Int32 × Int32 × Int32 × Int32 × (Nat → Int32) × (Nat → Int32)) :=
  jn2 (fun b ba => ob6 (f_X8_step (nI w) b ba p s k v mt) (fun a b c d e f => some (a, b, c, hDr, hRr, rd, rk, rr, rs, d, e, tl, f, rw_, rp))) (fun j => if f = (0 : Int32) then (if k = (3 : Int32) then j f g else ob2 (f_X8_fails f g s (2 : Int32)) (fun x y => j x y)) else j f g)
theorem m_inA {i : Nat} (hi : i < 9) : f_X8_in ((nI i).toInt64) (0 : Int64) (8 : Int64) = some (1 : Int32) := by
  have h := m_in (nI i) 0 8
  rw [decide_eq_true (show (0 : Int32) ≤ nI i ∧ nI i ≤ 8 from ⟨nI_pos' (by omega), nI_le (b := 8) (by omega) (by omega)⟩)] at h
  exact h
theorem m_inB {i : Nat} (hi : i < 9) : f_X8_in ((nI i).toInt64) (3 : Int64) (5 : Int64) = some (bz (decide (3 ≤ i ∧ i ≤ 5))) := by
  have h := m_in (nI i) 3 5
  have e : decide ((3 : Int32) ≤ nI i ∧ nI i ≤ 5) = decide (3 ≤ i ∧ i ≤ 5) := by
    rw [decide_eq_decide, show ((3 : Int32) ≤ nI i) ↔ 3 ≤ i from nI_leI (a := 3) (by omega) (by omega), show (nI i ≤ (5 : Int32)) ↔ i ≤ 5 from nI_leI (b := 5) (by omega) (by omega)]
  rw [e] at h
  exact h
theorem shl_i {i : Nat} (hi : i < 9) : (1 : Int32) <<< (nI i &&& 31) = nI (2 ^ i) := shl_k i (by omega)
theorem m_lnOnce {n i tm : Nat} {ba spot here token value rr rd rs rk hRr hDr : Int32} {mt cuts letters rl9 rp : Nat → Int32} (hi : i < 9) (h1 : i ≠ 1) (h2 : ¬ (3 ≤ i ∧ i ≤ 5)) (htm : tm < 512) (hname : f_X8_nameHere (nI n) spot here token cuts letters mt = some (nI i)) : f_X8_readLine rr rd rs rk (nI tm) hRr hDr (nI n) (0 : Int32) ba spot here token value cuts letters rl9 rp mt = ob6 (f_X8_step (nI n) (if tm.testBit i then 4 else 0) (if tm.testBit i then here else ba) spot here token value mt) (fun f g s p k v => if f ≤ (0 : Int32) then ob10 (f_X8_readOnce rr rs hRr (nI n) f g p s k v cuts letters rp mt (nI i)) (fun f g s hR' rr' rs' p k v rp' => mEnd n hDr rd rk rr' rs' hR' (nI (tm ||| 2 ^ i)) rl9 rp' mt f g s p k v) else some (f, g, s, hDr, hRr, rd, rk, rr, rs, p, k, nI (tm ||| 2 ^ i), v, rl9, rp)) := by
  unfold f_X8_readLine
  have n1 : ¬ nI i = (1 : Int32) := fun e => h1 (nI_inj (b := 1) (by omega) (by omega) e)
  rw [hname, ob1_s, m_inA hi, ob1_s, if_neg n10, m_inB hi, decide_eq_false h2, ob1_s, jn2_s, jn0_s, jn0_s, if_neg n1, if_pos (show bz false = (0 : Int32) from rfl)]
  dsimp only
  rw [jn2_s, if_neg n1, if_pos (show bz false = (0 : Int32) from rfl), bit_k (by omega) (by omega)]
  dsimp only
  simp only [bnd_s, fa_or, shl_i hi]
  cases hb : tm.testBit i with
  | true =>
    rw [bz_t, if_pos rfl, fails0, ob2_s, if_pos rfl, if_pos rfl]
    congr 1
    funext f g s p k v
    by_cases c : f ≤ 0
    · rw [if_pos c, if_pos c, jn14_s, if_neg n1, if_pos (show bz false = (0 : Int32) from rfl)]
      rfl
    · rw [if_neg c, if_neg c]
  | false =>
    rw [if_neg (show ¬ bz false = (1 : Int32) from by decide), if_neg (by decide), if_neg (by decide)]
    congr 1
    funext f g s p k v
    by_cases c : f ≤ 0
    · rw [if_pos c, if_pos c, jn14_s, if_neg n1, if_pos (show bz false = (0 : Int32) from rfl)]
      rfl
    · rw [if_neg c, if_neg c]
theorem m_lnDoor {n tm Dn : Nat} {ba spot here token value rr rs rk hRr hDr : Int32} {mt cuts letters rl9 rp : Nat → Int32} (htm : tm < 512) (hD : Dn ≤ 10) (hname : f_X8_nameHere (nI n) spot here token cuts letters mt = some (nI 1)) : f_X8_readLine rr (nI Dn) rs rk (nI tm) hRr hDr (nI n) (0 : Int32) ba spot here token value cuts letters rl9 rp mt = ob6 (f_X8_step (nI n) (if Dn = 10 then 5 else 0) (if Dn = 10 then here else ba) spot here token value mt) (fun f g s p k v => if f ≤ (0 : Int32) then ob9 (f_X8_readDoor (nI Dn) hRr (nI n) f g p s k v cuts letters rp mt) (fun f g s hR' rd' p k v rp' => mEnd n hDr rd' rk rr rs hR' (nI (tm ||| 2 ^ 1)) rl9 rp' mt f g s p k v) else some (f, g, s, hDr, hRr, nI Dn, rk, rr, rs, p, k, nI (tm ||| 2 ^ 1), v, rl9, rp)) := by
  unfold f_X8_readLine
  rw [hname, ob1_s, m_inA (by omega), ob1_s, if_neg n10, m_inB (by omega), decide_eq_false (by decide), ob1_s, jn2_s, jn0_s, jn0_s, if_pos (show nI 1 = (1 : Int32) from rfl)]
  dsimp only
  have n1 : nI 1 = (1 : Int32) := rfl
  by_cases c : Dn = 10
  · rw [if_pos (show nI Dn = (10 : Int32) from by rw [c]; rfl), fails0, ob2_s, if_pos c, if_pos c, jn2_s, if_pos n1]
    dsimp only
    rw [bnd_s, shl_i (by omega), fa_or]
    congr 1
  · rw [if_neg (show ¬ nI Dn = (10 : Int32) from fun e => c (nI_inj (b := 10) (by omega) (by omega) e)), if_pos (show bz false = (0 : Int32) from rfl), if_neg c, if_neg c, jn2_s, if_pos n1]
    dsimp only
    rw [bnd_s, shl_i (by omega), fa_or]
    congr 1
theorem m_lnRule {n i tm K : Nat} {ba spot here token value rr rd rs hRr hDr : Int32} {mt cuts letters rl9 rp : Nat → Int32} (htm : tm < 512) (hK : K ≤ 6) (hi : 3 ≤ i ∧ i ≤ 5) (hname : f_X8_nameHere (nI n) spot here token cuts letters mt = some (nI i)) : f_X8_readLine rr rd rs (nI K) (nI tm) hRr hDr (nI n) (0 : Int32) ba spot here token value cuts letters rl9 rp mt = ob6 (f_X8_step (nI n) (if K = 6 then 5 else 0) (if K = 6 then here else ba) spot here token value mt) (fun f g s p k v => if f ≤ (0 : Int32) then ob9 (f_X8_readRule (nI K) hDr (nI n) f g p s k v rl9 mt (nI i)) (fun f g s hD' rk' p k v rl' => mEnd n hD' rd rk' rr rs hRr (nI (tm ||| 2 ^ i)) rl' rp mt f g s p k v) else some (f, g, s, hDr, hRr, rd, nI K, rr, rs, p, k, nI (tm ||| 2 ^ i), v, rl9, rp)) := by
  unfold f_X8_readLine
  have n1 : ¬ nI i = (1 : Int32) := fun e => by have := nI_inj (b := 1) (by omega) (by omega) e; omega
  have nb : ¬ bz true = (0 : Int32) := by decide
  rw [hname, ob1_s, m_inA (by omega), ob1_s, if_neg n10, m_inB (by omega), decide_eq_true hi, ob1_s, jn2_s, jn0_s, jn0_s, if_neg n1, if_neg nb]
  dsimp only
  by_cases c : K = 6
  · rw [if_pos (show nI K = (6 : Int32) from by rw [c]; rfl), fails0, ob2_s, if_pos c, if_pos c, jn2_s, if_neg n1, if_neg nb]
    dsimp only
    rw [bnd_s, shl_i (by omega), fa_or]
    congr 1
    funext f g s p k v
    by_cases c : f ≤ 0
    · rw [if_pos c, if_pos c, jn14_s, if_neg n1, if_neg nb]
      rfl
    · rw [if_neg c, if_neg c]
  · rw [if_neg (show ¬ nI K = (6 : Int32) from fun e => c (nI_inj (b := 6) (by omega) (by omega) e)), if_neg c, if_neg c, jn2_s, if_neg n1, if_neg nb]
    dsimp only
    rw [bnd_s, shl_i (by omega), fa_or]
    congr 1
    funext f g s p k v
    by_cases c : f ≤ 0
    · rw [if_pos c, if_pos c, jn14_s, if_neg n1, if_neg nb]
      rfl
    · rw [if_neg c, if_neg c]
