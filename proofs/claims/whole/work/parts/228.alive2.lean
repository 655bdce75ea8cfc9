/-! ===== pure 28: alive() the same on both sides ===== -/
def GrP (nx : Nat → Nat → St → Option St) (s0 : St) (ws : Nat → (Nat → Nat) × Nat) (st i : Nat) (bd sp : Int32) (se pairs parents sizes steps : Nat → Int32) : Prop := bd = nI (ws i).2 ∧ sp = nI (st + i) ∧ se = rI (ws i).1 ∧ LOK nx s0 i pairs parents sizes steps
theorem p_aliveLoop {R Dn K SL : Nat} {a rl : Nat → Nat} {per st hb N : Nat} {s0 : St} {w0 : (Nat → Nat) × Nat} {met : Int64} {pairs parents pr sizes steps : Nat → Int32} (hP : PlO R Dn K SL a rl) (hW0 : Wok R Dn w0) (hp : 0 < per) (hp6 : per ≤ 6) (hst : st ≤ 999) (hh : hb < 4) (h0 : vS R s0) (hN : N ≤ 24) (hL : LOK (nxg a Dn st hb (tw R K rl per st w0)) s0 0 pairs parents sizes steps) : ∃ (v bd sp : Int32) (met' : Int64) (pairs' parents' pr' sizes' steps' : Nat → Int32), itr (un10 (b_X7_alive_42 (nI R) (nI Dn) (nI K) (rI a) (rI rl) (nI N) (nI hb) (nI per))) FU ((0 : Int32), nI w0.2, nI st, rI w0.1, met, pairs, parents, pr, sizes, steps) = some (v, bd, sp, rI (tw R K rl per st w0 N).1, met', pairs', parents', pr', sizes', steps') ∧ LOK (nxg a Dn st hb (tw R K rl per st w0)) s0 N pairs' parents' sizes' steps' := by
  have h := itr_inv (step := un10 (b_X7_alive_42 (nI R) (nI Dn) (nI K) (rI a) (rI rl) (nI N) (nI hb) (nI per))) (fun i x => x.1 = nI i ∧ GrP (nxg a Dn st hb (tw R K rl per st w0)) s0 (tw R K rl per st w0) st i x.2.1 x.2.2.1 x.2.2.2.1 x.2.2.2.2.2.1 x.2.2.2.2.2.2.1 x.2.2.2.2.2.2.2.2.1 x.2.2.2.2.2.2.2.2.2) N (fun x => GrP (nxg a Dn st hb (tw R K rl per st w0)) s0 (tw R K rl per st w0) st N x.2.1 x.2.2.1 x.2.2.2.1 x.2.2.2.2.2.1 x.2.2.2.2.2.2.1 x.2.2.2.2.2.2.2.2.1 x.2.2.2.2.2.2.2.2.2) ?_ ?_ ((0 : Int32), nI w0.2, nI st, rI w0.1, met, pairs, parents, pr, sizes, steps) ⟨rfl, rfl, rfl, rfl, hL⟩ FU (by unfold FU; omega)
  · obtain ⟨⟨o1, o2, o3, o4, o5, o6, o7, o8, o9, o10⟩, e, u1, u2, u3, u4⟩ := h
    simp only at u1 u2 u3 u4
    subst u3
    exact ⟨o1, o2, o3, o5, o6, o7, o8, o9, o10, e, u4⟩
  · rintro i ⟨x1, x2, x3, x4, x5, x6, x7, x8, x9, x10⟩ hi ⟨z1, z2, z3, z4, z5⟩
    simp only at z1 z2 z3 z4 z5
    subst z1; subst z2; subst z3; subst z4
    obtain ⟨met', pairs', parents', pr', sizes', steps', e, hL'⟩ := p_grow (met := x5) (pr := x8) hP hW0 hp hp6 hst hh h0 (by omega) z5
    refine ⟨(nI (i + 1), nI (tw R K rl per st w0 (i + 1)).2, nI (st + (i + 1)), rI (tw R K rl per st w0 (i + 1)).1, met', pairs', parents', pr', sizes', steps'), ?_, rfl, rfl, rfl, rfl, hL'⟩
    rw [un10_s]
    unfold b_X7_alive_42
    rw [if_neg (nI_ge hi (by omega)), e, ob9_s, bnd_s, show nI i + (1 : Int32) = nI (i + 1) from nI_1 i]
  · rintro ⟨x1, x2, x3, x4, x5, x6, x7, x8, x9, x10⟩ ⟨z1, z2⟩
    simp only at z1 z2
    subst z1
    refine ⟨(nI N, x2, x3, x4, x5, x6, x7, x8, x9, x10), ?_, z2⟩
    rw [un10_s]
    unfold b_X7_alive_42
    rw [if_pos (nI_le (Nat.le_refl N) (by omega))]
theorem co_alive {R Dn K SL : Nat} {a b rl : Nat → Nat} {bm per hs : Nat} {be : Option Nat} {hb on : Nat} {sg : Nat → Nat} {st : Nat} {ea : Bool} {g lw wk pg ase astr pairs parents pr sizes steps cb : Nat → Int32} (x1 x2 x3 x4 x5 x6 x7 x8 : Int32) (met : Int64) (hP : PlO R Dn K SL a rl) (hl : lwr lw K rl) (hO : PgO R Dn b bm per hs be hb on sg st) (hM : PgM Dn a b bm per hs be hb on sg st ea g 0) (hA : ScR ase astr) (p1 : Int32) : ∃ (rr y1 y2 y3 y4 y5 y6 y7 y8 : Int32) (se' str' : Nat → Int32) (met' : Int64) (pairs' parents' pr' sizes' steps' cb' pg' w' : Nat → Int32), f_X7_alive x1 x2 x3 x4 x5 x6 x7 x8 ase astr (nI bm) (nI per) (nI hs) (enc be) (nI hb) (nI on) (nI st) (bz ea) (rI b) (rI sg) (nI R) (nI Dn) (nI K) (rI a) (rI rl) met pairs parents pr sizes steps p1 = some (rr, y1, y2, y3, y4, y5, y6, y7, y8, se', str', met', pairs', parents', pr', sizes', steps') ∧ f_X8_alive (nI R) (nI Dn) (nI K) cb lw pg g wk p1 = some (rr, cb', pg', w') ∧ ScR se' str' := by
  have hP' := hP
  have hO' := hO
  have hM' := hM
  have hA' := hA
  obtain ⟨q1, q2, q3, q4, q5, q6, q7, q8, q9, q10, q11⟩ := hP
  obtain ⟨o1, o2, o3, o4, o5, o6, o7, o8, o9, o10, o11, o12, o13, o14⟩ := hO
  obtain ⟨h1, h2, h3, h4, h5, h6, h7, h8, h9⟩ := hM
  simp only [Nat.zero_add] at h2 h3 h4 h5 h6 h7 h8 h9
  obtain ⟨b0, s0, rfl, ha2, ha3, rfl, ha5, ha6⟩ := hA
  unfold f_X7_alive f_X8_alive
  rw [show (0 : Int64) = (0 : Int32).toInt64 from rfl, show (24 : Int64) = (24 : Int32).toInt64 from rfl, m_in, p_within, ob1_s, ob1_s, g48, k48, h9]
  rcases i32_in p1 25 (by omega) with ⟨N, hN, rfl⟩ | hout
  · have hc : (0 : Int32) ≤ nI N ∧ nI N ≤ 24 := ⟨nI_pos' (by omega), nI_le (b := 24) (by omega) (by omega)⟩
    rw [decide_eq_true hc, bz_t, if_neg n10, if_neg n10]
    cases ea with
    | true =>
      rw [bz_t, if_neg n10, if_pos rfl]
      exact ⟨_, _, _, _, _, _, _, _, _, _, _, _, _, _, _, _, _, cb, pg, wk, rfl, rfl, hA'⟩
    | false =>
      have h07 : ∀ x, be = some x → x < 7 := fun x hx => by have := o8 x hx; omega
      have hW0 : Wok R Dn (b, bm) := ⟨o1, o2, o3, o4⟩
      have hT := fun t => Wok_tw (per := per) (st := st) (K := K) q3 q11 (by omega) q2 hW0 t
      have hv0 : vS R (hs, be) := ⟨o7, o8⟩
      obtain ⟨v, bd, sp, met', pairs', parents', pr', sizes', steps', el, hL⟩ := p_aliveLoop (s0 := (hs, be)) (hb := hb) (met := met) (pr := pr) hP' hW0 o5 o6 o14 o9 hv0 (show N ≤ 24 by omega) (LOK_0 (pairs := pairs) (parents := parents) (sizes := sizes) (steps := steps))
      obtain ⟨cb', pg', w', em, hpg, hcb⟩ := m_layAlive (cb := cb) (pg := pg) (wk := wk) hP' hl hO' hM'
      have hsc : ScR (rI (tw R K rl per st (b, bm) N).1) (rI sg) := ⟨_, _, rfl, (hT N).1, (hT N).2.1, rfl, o12, o13⟩
      have hn : nxV R (nxg a Dn st hb (tw R K rl per st (b, bm))) := nxg_v q3 q8 hT
      have hn7 : nxV 7 (nxg a Dn st hb (tw R K rl per st (b, bm))) := nxg_v q3 (fun d _ => q6 d) (fun t => Wok_7 (hT t))
      rw [bz_f, if_pos rfl, if_neg (by decide), show (0 : Int32) = bz false from rfl, p_begin (by omega) h07 o2 o12 ha3 ha5, ob12_s]
      simp only at el
      rw [show bz false = (0 : Int32) from rfl, el, ob10_s, p_roomsOf q2 hn hv0 hL (Nat.le_refl N) (by omega), ob1_s, em, ob3_s]
      generalize hnx : nxg a Dn st hb (tw R K rl per st (b, bm)) = nx at *
      obtain ⟨lv1, lv2, lv3⟩ := lay_v q2 hn hv0 N
      -- the reference's rooms
      have hmo := itr_count (step := un2 (b_X8_alive_36 (nI N) cb')) (fun i => (nI (msk (fun x => (ff (fun k => cb' (56 * N + 8 * x + k) == 1) 8).isSome) i), nI i)) 7 (nI (msk (fun x => (ff (fun k => cb' (56 * N + 8 * x + k) == 1) 8).isSome) 7), nI 7) ?_ ?_ FU (by unfold FU; omega)
      · rw [show ((0 : Int32), (0 : Int32)) = (nI (msk (fun x => (ff (fun k => cb' (56 * N + 8 * x + k) == 1) 8).isSome) 0), nI 0) from rfl, hmo, ob2_s]
        have e : msk (fun x => (ff (fun k => cb' (56 * N + 8 * x + k) == 1) 8).isSome) 7 = rmk (lay nx (hs, be) N).2.1 (lay nx (hs, be) N).1 := by
          apply Nat.eq_of_testBit_eq
          intro y
          rw [msk_bit, Bool.eq_iff_iff, rmk_bit, Bool.and_eq_true, decide_eq_true_eq]
          constructor
          · rintro ⟨hy, h⟩
            obtain ⟨s, hs1, hs2⟩ := (there_iff hn7 (vS_7 q2 hv0) hcb (by omega) hy).mp h
            obtain ⟨j, hj, ej⟩ := (lv3 s).mpr hs1
            exact ⟨j, hj, by rw [ej]; exact hs2⟩
          · rintro ⟨j, hj, ej⟩
            have hy : y < 7 := by have := (lv1 j hj).1; omega
            exact ⟨hy, (there_iff hn7 (vS_7 q2 hv0) hcb (by omega) hy).mpr ⟨_, (lv3 _).mp ⟨j, hj, rfl⟩, ej⟩⟩
        rw [e]
        exact ⟨_, _, _, _, _, _, _, _, _, _, _, _, _, _, _, _, _, _, _, _, rfl, rfl, hsc⟩
      · intro i hi
        rw [un2_s]
        unfold b_X8_alive_36
        rw [if_neg (show ¬ (7 : Int32) ≤ nI i from nI_ge (b := 7) hi (by omega)), m_isThere (by omega) hi, ob1_s, jn1_s]
        simp only [bnd_s, show nI i + (1 : Int32) = nI (i + 1) from nI_1 i]
        cases hp : (ff (fun k => cb' (56 * N + 8 * i + k) == 1) 8).isSome with
        | true => rw [bz_t, if_neg n10, shl_k i (by omega), fa_or, msk_or (fun x => (ff (fun k => cb' (56 * N + 8 * x + k) == 1) 8).isSome) i hp]
        | false => rw [bz_f, if_pos rfl, msk_no (fun x => (ff (fun k => cb' (56 * N + 8 * x + k) == 1) 8).isSome) i hp, show (0 : Int32) = nI 0 from rfl, fa_or, Nat.or_zero]
      · rw [un2_s]
        unfold b_X8_alive_36
        rw [if_pos (show (7 : Int32) ≤ nI 7 from nI_le (a := 7) (Nat.le_refl _) (by omega))]
  · have hc : ¬ ((0 : Int32) ≤ p1 ∧ p1 ≤ 24) := by
      rw [fa_le, fa_le, show (0 : Int32).toInt = 0 from rfl, show (24 : Int32).toInt = 24 from rfl]
      omega
    rw [decide_eq_false hc, bz_f, if_pos rfl, if_pos rfl]
    exact ⟨_, _, _, _, _, _, _, _, _, _, _, _, _, _, _, _, _, cb, pg, wk, rfl, rfl, hA'⟩
