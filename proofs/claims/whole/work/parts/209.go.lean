/-! ===== pure 9: a step of the reference's; go ===== -/
theorem n01 : ¬ (0 : Int32) = 1 := by decide
theorem ne4 {x : Nat} (h : x < 1000) : ¬ nI x = (-4 : Int32) := fun e => by
  have := (enc_none (some x) (fun n hn => by cases hn; omega)).mp e
  cases this
theorem m_sbd1 {R K Dn : Nat} {a b rl : Nat → Nat} {bm per : Nat} {be : Option Nat} {hb on st to : Nat} {sg : Nat → Nat} {g lw wk : Nat → Int32} (hD : Dn ≤ 10) (hK : K ≤ 6) (hl : lwr lw K rl) (hok : ∀ k, k < K → lok Dn (rl k)) (hR : 0 < R) (hR7 : R ≤ 7) (h7a : lt7 a) (h7 : lt7 b) (hp : 0 < per) (hp6 : per ≤ 6) (hst : st < 99000) (hon : on ≤ 12) (hbe : ∀ x, be = some x → x < 7) (hh : hb < 4) (hto : to < 7) (h1 : hse g 0 Dn a b bm) (h2 : g 30 = nI (per - 1)) (h4 : g 32 = enb be) (h5 : g 33 = nI hb) (h6 : ∀ i, i < on → g (34 + i) = nI (sg i)) (h7' : g 46 = nI on) (h8 : g 47 = nI st) : ∃ g' w', sbd1 (nI R) (nI Dn) (nI K) lw wk (nI to) g = some (nI (to + if prwO a b bm Dn st hb be to = some to then 10 else 0), g', w') ∧ PgM Dn a (tick R K rl per st (b, bm)).1 (tick R K rl per st (b, bm)).2 per to (prwO a b bm Dn st hb be to) hb on sg (st + 1) (prwO a b bm Dn st hb be to == some to) g' 0 ∧ ∀ j, 49 ≤ j → g' j = g j := by
  unfold sbd1
  rw [m_beastNow h4 hbe, ob1_s, jn2_s]
  cases be with
  | none =>
    rw [if_pos (show enc none = (-4 : Int32) from rfl)]
    exact m_sbd2 (bb := none) hD hK hl hok hR hR7 h7 hp hp6 hst hon (fun x hx => by cases hx) hto h1 h2 h4 h5 h6 h7' h8
  | some x =>
    have hx := hbe x rfl
    rw [if_neg (show ¬ enc (some x) = (-4 : Int32) from ne4 (by omega))]
    by_cases hc : x = to
    · subst hc
      rw [if_pos (show enc (some x) = nI x from rfl)]
      have e : prwO a b bm Dn st hb (some x) x = some x := by simp [prwO]
      rw [e]
      exact m_sbd2 (bb := some x) hD hK hl hok hR hR7 h7 hp hp6 hst hon (fun y hy => by cases hy; exact hx) hto h1 h2 h4 h5 h6 h7' h8
    · rw [if_neg (show ¬ enc (some x) = nI to from fun q => hc (nI_inj (by omega) (by omega) q)), g33, g47, k33, k47, h5, h8]
      show ∃ g' w', (ob1 (f_X8_goesTo (nI Dn) 196 g (nI 0) (nI x) (nI to) (nI hb) (nI st)) fun r_44 => _) = _ ∧ _
      rw [m_goesTo h1 hD (by omega) (by omega) h7a h7 hx hto (by omega) hh, ob1_s, g32, bnd_s, k32]
      have e : prwO a b bm Dn st hb (some x) to = some (prw a b bm Dn st hb x to) := by simp [prwO, hc]
      rw [e]
      have hlt := prw_lt (st := st) (hb := hb) (bm := bm) (Dn := Dn) h7a h7 hx hto
      obtain ⟨g', w', q1, q2, q3⟩ := m_sbd2 (R := R) (K := K) (bb := some (prw a b bm Dn st hb x to)) (g := upd g 32 (nI (prw a b bm Dn st hb x to) + 1)) (wk := wk) (rl := rl) (lw := lw) (a := a) (bm := bm) hD hK hl hok hR hR7 h7 hp hp6 hst hon (fun y hy => by cases hy; exact hlt) hto (hse_upd h1 hD (by omega)) (by rw [pk_un (by omega)]; exact h2) (by rw [pk_us]; exact nI_1 _) (by rw [pk_un (by omega)]; exact h5) (fun i hi => by rw [pk_un (by omega)]; exact h6 i hi) (by rw [pk_un (by omega)]; exact h7') (by rw [pk_un (by omega)]; exact h8)
      exact ⟨g', w', q1, q2, fun j hj => by rw [q3 j hj, pk_un (by omega)]⟩
theorem stepsBy_eq (R Dn SL K : Int32) (lw g wk : Nat → Int32) (p1 p2 : Int32) : f_X8_stepsBy R Dn SL K lw g wk p1 p2 = (if p1 = (10 : Int32) then sbd1 R Dn K lw wk p2 g else (gin (46 : Int32) 196 (if SL ≤ (g (46 : Int32).toNatClampNeg) then sbd1 R Dn K lw wk p2 g else (gin (46 : Int32) 196 (gin ((34 : Int32) + (g (46 : Int32).toNatClampNeg)) 196 (bnd (upd g ((34 : Int32) + (g (46 : Int32).toNatClampNeg)).toNatClampNeg p1) (fun t_state_53 => (gin (46 : Int32) 196 (gin (46 : Int32) 196 (bnd (upd t_state_53 (46 : Int32).toNatClampNeg ((t_state_53 (46 : Int32).toNatClampNeg) + (1 : Int32))) (fun t_state_56 => sbd1 R Dn K lw wk p2 t_state_56))))))))))) := rfl
theorem m_stepsBy {R K Dn SL : Nat} {a b rl : Nat → Nat} {bm per hs : Nat} {be : Option Nat} {hb on st to d : Nat} {ea : Bool} {sg : Nat → Nat} {g lw wk : Nat → Int32} (hD : Dn ≤ 10) (hK : K ≤ 6) (hSL : SL ≤ 12) (hl : lwr lw K rl) (hok : ∀ k, k < K → lok Dn (rl k)) (hR : 0 < R) (hR7 : R ≤ 7) (h7a : lt7 a) (h7 : lt7 b) (hp : 0 < per) (hp6 : per ≤ 6) (hst : st < 99000) (hon : on ≤ 12) (hbe : ∀ x, be = some x → x < 7) (hh : hb < 4) (hto : to < 7) (hd : d ≤ 10) (hM : PgM Dn a b bm per hs be hb on sg st ea g 0) : ∃ g' w', f_X8_stepsBy (nI R) (nI Dn) (nI SL) (nI K) lw g wk (nI d) (nI to) = some (nI (to + if prwO a b bm Dn st hb be to = some to then 10 else 0), g', w') ∧ PgM Dn a (tick R K rl per st (b, bm)).1 (tick R K rl per st (b, bm)).2 per to (prwO a b bm Dn st hb be to) hb (if d ≠ 10 ∧ on < SL then on + 1 else on) (if d ≠ 10 ∧ on < SL then updN sg on d else sg) (st + 1) (prwO a b bm Dn st hb be to == some to) g' 0 ∧ ∀ j, 49 ≤ j → g' j = g j := by
  rw [stepsBy_eq]
  obtain ⟨h1, h2, h3, h4, h5, h6, h7', h8, h9⟩ := hM
  simp only [Nat.zero_add] at h2 h3 h4 h5 h6 h7' h8 h9
  have keep := m_sbd1 (R := R) (K := K) (wk := wk) (to := to) (sg := sg) hD hK hl hok hR hR7 h7a h7 hp hp6 hst hon hbe hh hto h1 h2 h4 h5 h6 h7' h8
  by_cases hd10 : d = 10
  · have hno : ¬ (d ≠ 10 ∧ on < SL) := fun q => q.1 hd10
    rw [if_pos (show nI d = (10 : Int32) by rw [hd10]; rfl), if_neg hno, if_neg hno]
    exact keep
  · rw [if_neg (show ¬ nI d = (10 : Int32) from fun e => hd10 (nI_inj (b := 10) (by omega) (by omega) e)), g46, k46, h7']
    by_cases hs : on < SL
    · have hyes : d ≠ 10 ∧ on < SL := ⟨hd10, hs⟩
      rw [if_neg (nI_ge hs (by omega)), g46, show (34 : Int32) + nI on = nI (34 + on) from nI_add 34 on, gin_k (by omega) (by omega), nI_cl (by omega), bnd_s, g46, g46, bnd_s, if_pos hyes, if_pos hyes]
      rw [pk_un (show (46 : Nat) ≠ 34 + on by omega), h7', show nI on + 1 = nI (on + 1) from nI_1 on]
      obtain ⟨g', w', q1, q2, q3⟩ := m_sbd1 (R := R) (K := K) (wk := wk) (to := to) (on := on + 1) (sg := updN sg on d) (g := upd (upd g (34 + on) (nI d)) 46 (nI (on + 1))) hD hK hl hok hR hR7 h7a h7 hp hp6 hst (by omega) hbe hh hto (hse_upd (hse_upd h1 hD (by omega)) hD (by omega)) (by rw [pk_un (by omega), pk_un (by omega)]; exact h2) (by rw [pk_un (by omega), pk_un (by omega)]; exact h4) (by rw [pk_un (by omega), pk_un (by omega)]; exact h5) (fun i hi => by
        rw [pk_un (by omega)]
        unfold updN
        by_cases c : i = on
        · rw [c, pk_us, if_pos rfl]
        · rw [pk_un (by omega), if_neg c]; exact h6 i (by omega)) (by rw [pk_us]) (by rw [pk_un (by omega), pk_un (by omega)]; exact h8)
      exact ⟨g', w', q1, q2, fun j hj => by rw [q3 j hj, pk_un (by omega), pk_un (by omega)]⟩
    · have hno : ¬ (d ≠ 10 ∧ on < SL) := fun q => hs q.2
      rw [if_pos (nI_le (by omega) (by omega)), if_neg hno, if_neg hno]
      exact keep
/-- what go() refuses: 0 none, else its answer's number below 0; and where he comes to -/
theorem p_refusal {Dn bm hs st : Nat} {ea : Bool} {a b : Nat → Nat} (hD : Dn ≤ 10) (hbm : bm < 2147483648) (h7a : lt7 a) (h7 : lt7 b) (hhs : hs < 7) (hst : st < 100000) (p1 : Int32) : (∃ d to : Nat, d ≤ 10 ∧ to < 7 ∧ p1 = nI d ∧ (if d = 10 then to = hs else d < Dn ∧ lead a b bm d hs = some to) ∧ ea = false ∧ st < 999 ∧ f_X7_refusalOf (nI bm) (nI hs) (nI st) (bz ea) (rI b) (nI Dn) (rI a) p1 = some 0) ∨ (∃ rr : Int32, rr < 0 ∧ f_X7_refusalOf (nI bm) (nI hs) (nI st) (bz ea) (rI b) (nI Dn) (rI a) p1 = some rr ∧ ∀ (R SL K : Int32) (lw g wk : Nat → Int32), hse g 0 Dn a b bm → g 31 = nI hs → g 47 = nI st → g 48 = bz ea → st ≤ 999 → f_X8_goes R (nI Dn) SL K lw g wk p1 = some (rr, g, wk)) := by
  unfold f_X7_refusalOf
  rw [jn0_s, jn0_s]
  by_cases h10 : p1 = 10
  · rw [if_pos h10, if_pos h10]
    have e10 : p1 = nI 10 := h10
    have hout : p1.toInt < 0 ∨ ((Dn : Nat) : Int) ≤ p1.toInt := by
      right
      rw [h10]
      have e : (10 : Int32).toInt = 10 := by decide
      omega
    have hdn : f_X8_isDoor (nI Dn) p1 = some 0 := by
      rw [m_isDoor p1 (by omega), dec_out (by omega) hout]
      rfl
    cases ea with
    | true =>
      rw [bz_t, if_neg n10]
      refine Or.inr ⟨-2, by decide, rfl, ?_⟩
      intro R SL K lw g wk _ h31 h47 h48 _
      unfold f_X8_goes
      rw [hdn, ob1_s, jn0_s, if_pos rfl, if_pos h10, g31, bnd_s, jn1_s, if_pos h10]
      dsimp only
      rw [g48, k48, h48, if_pos rfl]
    | false =>
      rw [bz_f, if_pos rfl]
      by_cases hs9 : st < 999
      · rw [if_pos (show nI st < 999 from nI_lt (b := 999) hs9 (by omega))]
        exact Or.inl ⟨10, hs, by omega, by omega, e10, by rw [if_pos rfl], rfl, hs9, rfl⟩
      · rw [if_neg (show ¬ nI st < 999 from nI_nlt (b := 999) (by omega) (by omega))]
        refine Or.inr ⟨-3, by decide, rfl, ?_⟩
        intro R SL K lw g wk _ h31 h47 h48 hle
        unfold f_X8_goes
        rw [hdn, ob1_s, jn0_s, if_pos rfl, if_pos h10, g31, bnd_s, jn1_s, if_pos h10]
        dsimp only
        rw [g48, k48, h48, if_neg n01, k31, h31, if_neg (ne4 (by omega)), g47, k47, h47, if_pos (show nI st = (999 : Int32) by rw [show st = 999 by omega]; rfl)]
  · rw [if_neg h10, if_neg h10, p_hasDoor, ob1_s]
    rcases i32_in p1 Dn (by omega) with ⟨d, hd, rfl⟩ | hout
    · rw [dec_in hd (by omega), bz_t, if_neg n10, p_across hbm hD hd (rI_row a Dn) (rI_row b Dn) (fun d _ => by have := h7a d; omega) (fun d _ => by have := h7 d; omega) (by omega), ob1_s]
      have goe : ∀ (R SL K : Int32) (lw g wk : Nat → Int32), hse g 0 Dn a b bm → g 31 = nI hs → f_X8_goes R (nI Dn) SL K lw g wk (nI d) = (gin (48 : Int32) 196 (if (g (48 : Int32).toNatClampNeg) = (1 : Int32) then (some ((-2 : Int32), g, wk)) else (if enc (lead a b bm d hs) = (-4 : Int32) then (some ((-2 : Int32), g, wk)) else (gin (47 : Int32) 196 (if (g (47 : Int32).toNatClampNeg) = (999 : Int32) then (some ((-3 : Int32), g, wk)) else (ob3 (f_X8_stepsBy R (nI Dn) SL K lw g wk (nI d) (enc (lead a b bm d hs))) (fun r_13 t_state_14 t_work_15 => (some (r_13, t_state_14, t_work_15))))))))) := by
        intro R SL K lw g wk hh h31
        unfold f_X8_goes
        rw [m_isDoor _ (by omega), dec_in hd (by omega), ob1_s, jn0_s, bz_t, if_neg n10, g31, bnd_s, jn1_s, if_neg h10, k31, h31]
        rw [show (0 : Int32) = nI 0 from rfl, m_leadsTo hh hD hd (by omega) (by omega) h7a h7 (by omega), ob1_s]
      cases ea with
      | true =>
        rw [bz_t, if_neg n10]
        refine Or.inr ⟨-2, by decide, rfl, ?_⟩
        intro R SL K lw g wk hh h31 h47 h48 _
        rw [goe R SL K lw g wk hh h31, g48, k48, h48, if_pos rfl]
      | false =>
        rw [bz_f, if_pos rfl]
        cases hlv : lead a b bm d hs with
        | none =>
          rw [if_pos (show enc none = (-4 : Int32) from rfl)]
          refine Or.inr ⟨-2, by decide, rfl, ?_⟩
          intro R SL K lw g wk hh h31 h47 h48 _
          rw [goe R SL K lw g wk hh h31, g48, k48, h48, if_neg n01, hlv, if_pos (show enc none = (-4 : Int32) from rfl)]
        | some to =>
          have hto := lead_lt h7a h7 hlv
          rw [if_neg (show ¬ enc (some to) = (-4 : Int32) from ne4 (by omega))]
          by_cases hs9 : st < 999
          · rw [if_pos (show nI st < 999 from nI_lt (b := 999) hs9 (by omega))]
            refine Or.inl ⟨d, to, by omega, hto, rfl, ?_, rfl, hs9, rfl⟩
            rw [if_neg (show ¬ d = 10 by omega)]
            exact ⟨hd, hlv⟩
          · rw [if_neg (show ¬ nI st < 999 from nI_nlt (b := 999) (by omega) (by omega))]
            refine Or.inr ⟨-3, by decide, rfl, ?_⟩
            intro R SL K lw g wk hh h31 h47 h48 hle
            rw [goe R SL K lw g wk hh h31, g48, k48, h48, if_neg n01, hlv, if_neg (show ¬ enc (some to) = (-4 : Int32) from ne4 (by omega)), g47, k47, h47, if_pos (show nI st = (999 : Int32) by rw [show st = 999 by omega]; rfl)]
    · rw [dec_out (by omega) hout, bz_f, if_pos rfl]
      refine Or.inr ⟨-1, by decide, rfl, ?_⟩
      intro R SL K lw g wk _ h31 h47 h48 _
      unfold f_X8_goes
      rw [m_isDoor p1 (by omega), dec_out (by omega) hout, ob1_s, jn0_s, bz_f, if_pos rfl, if_neg h10]
