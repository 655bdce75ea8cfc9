/-! ===== pure 31: soonest(), the reference's side ===== -/
theorem m_soonFind {nx : Nat → Nat → St → Option St} {Dm : Int32} {g pg lo : Nat → Int32} {t D : Nat} {s s1 : St} {G : St → Bool} (ht : t < 24) (haf : ∀ d, d ≤ 10 → f_X8_after Dm pg g (nI t) (nI s.1) (enc s.2) (nI d) = some (aft (nx t d s))) (hv : ∀ d s', nx t d s = some s' → vS 7 s') (hlo : ∀ s', vS 7 s' → lo (56 * (t + 1) + mc s') = bz (G s')) (hD : D ≤ 10) (h1 : nx t D s = some s1) (h2 : G s1 = true) (h3 : ∀ d, d < D → ∀ s', nx t d s = some s' → G s' = false) : itr (un2 (b_X8_soonest_145 Dm g pg lo (nI s.1) (enc s.2) (nI t))) FU ((0 : Int32), aft (nx t 0 s)) = some (nI D, aft (some s1)) := by
  refine itr_count (step := un2 (b_X8_soonest_145 Dm g pg lo (nI s.1) (enc s.2) (nI t))) (fun i => (nI i, aft (nx t i s))) D (nI D, aft (some s1)) ?_ ?_ FU (by unfold FU; omega)
  · intro i hi
    rw [un2_s]
    unfold b_X8_soonest_145
    rw [jn0_s, bnd_s, show nI i + (1 : Int32) = nI (i + 1) from nI_1 i, haf (i + 1) (by omega), ob1_s]
    cases hn : nx t i s with
    | none => rw [if_pos (show aft none = (-4 : Int32) from rfl)]
    | some s' =>
      have hv' := hv i s' hn
      have hm := mc_lt hv'
      rw [if_neg (aft_ne hv'), aft_ix hv', gin_k (by omega) (by omega), nI_cl (by omega), hlo s' hv', h3 i hi s' hn, bz_f, if_pos rfl]
  · have hv' := hv D s1 h1
    have hm := mc_lt hv'
    simp only [h1]
    rw [un2_s]
    unfold b_X8_soonest_145
    rw [jn0_s, if_neg (aft_ne hv'), aft_ix hv', gin_k (by omega) (by omega), nI_cl (by omega), hlo s1 hv', h2, bz_t, if_neg n10]
theorem mb_enc {β : Type} {be : Option Nat} (h : ∀ x, be = some x → x < 7) (F : Int32 → Option β) : jn1 F (fun j => if nI (mb be) = (0 : Int32) then j (-4 : Int32) else j (nI (mb be) - (1 : Int32))) = F (enc be) := by
  show (if nI (mb be) = (0 : Int32) then F (-4 : Int32) else F (nI (mb be) - (1 : Int32))) = _
  cases be with
  | none => rw [if_pos (show nI (mb none) = (0 : Int32) from rfl)]; rfl
  | some x =>
    have := h x rfl
    rw [if_neg (show ¬ nI (mb (some x)) = (0 : Int32) from nI_ne0 (n := x + 1) (by omega) (by omega)), show nI (mb (some x)) - (1 : Int32) = nI x from nI_pred x]
    rfl
theorem m_soonPath {R : Nat} {nx : Nat → Nat → St → Option St} {s0 : St} {x n e w : Nat} {Dm : Int32} {g pg lo : Nat → Int32} (hR : R ≤ 7) (hn : nxV R nx) (h0 : vS R s0) (hn7 : nxV 7 nx) (he : ff (fun j => ((lay nx s0 n).2.1 j).1 == x) (lay nx s0 n).1 = some e) (hn24 : n ≤ 24) (hw : 10 ≤ w) (hwn : w - 10 < n) (haf : ∀ t d s, t < 24 → d ≤ 10 → vS 7 s → f_X8_after Dm pg g (nI t) (nI s.1) (enc s.2) (nI d) = some (aft (nx t d s))) (hlo : ∀ t s, t ≤ n → vS 7 s → lo (56 * t + mc s) = bz (GB nx x n (n - t) s)) : ∃ z1 z2 z4, itr (un4 (b_X8_soonest_119 Dm g (nI w) pg lo)) FU (nI s0.1, enc s0.2, (0 : Int32), (0 : Int32)) = some (z1, z2, nI (dor nx s0 n e (w - 10)), z4) := by
  obtain ⟨p1, p2⟩ := eps_ok hR hn h0 he
  have hlv := fun t ht => vS_7 hR ((lay_v hR hn h0 t).1 _ (p1 t ht))
  obtain ⟨k, hk⟩ : ∃ k, w - 10 = k := ⟨_, rfl⟩
  have ew : nI w - (10 : Int32) = nI k := by rw [← hk]; exact pk_sub (b := 10) hw
  rw [hk] at hwn ⊢
  have h := itr_count (step := un4 (b_X8_soonest_119 Dm g (nI w) pg lo)) (fun i => (nI ((lay nx s0 i).2.1 (eps nx s0 n e i)).1, enc ((lay nx s0 i).2.1 (eps nx s0 n e i)).2, (match i with | 0 => (0 : Int32) | j + 1 => nI (dor nx s0 n e j)), nI i)) (k + 1) (nI ((lay nx s0 (k + 1)).2.1 (eps nx s0 n e (k + 1))).1, enc ((lay nx s0 (k + 1)).2.1 (eps nx s0 n e (k + 1))).2, nI (dor nx s0 n e k), nI (k + 1)) ?_ ?_ FU (by unfold FU; omega)
  · exact ⟨_, _, _, h⟩
  · intro i hi
    simp only
    obtain ⟨_, b1, b2, b3, b4⟩ := p2 i (by omega)
    have hs := hlv i (by omega)
    have hs1 := hlv (i + 1) (by omega)
    have hf := m_soonFind (nx := nx) (Dm := Dm) (g := g) (pg := pg) (lo := lo) (t := i) (s := (lay nx s0 i).2.1 (eps nx s0 n e i)) (G := GB nx x n (n - (i + 1))) (by omega) (fun d hd => haf i d _ (by omega) hd hs) (fun d s' h => hn7 i d _ s' hs h) (fun s' hs' => hlo (i + 1) s' (by omega) hs') b1 b2 b3 b4
    generalize (lay nx s0 i).2.1 (eps nx s0 n e i) = sa at *
    generalize (lay nx s0 (i + 1)).2.1 (eps nx s0 n e (i + 1)) = sb at *
    rw [un4_s]
    unfold b_X8_soonest_119
    rw [ew, if_neg (nI_nlt (by omega) (by omega)), show (0 : Int32) = nI 0 from rfl, haf i 0 sa (by omega) (by omega) hs, ob1_s, show nI 0 = (0 : Int32) from rfl, hf, ob2_s, aft_rem hs1, aft_div hs1, bnd_s, mb_enc hs1.2, bnd_s, show nI i + (1 : Int32) = nI (i + 1) from nI_1 i]
  · simp only
    rw [un4_s]
    unfold b_X8_soonest_119
    rw [ew, if_pos (nI_lt (by omega) (by omega))]
theorem good_c {β : Type} {w : Nat} (hw : w = 0 ∨ (10 ≤ w ∧ w ≤ 33)) (J B : Option β) : (if nI w = (0 : Int32) then J else ob1 (f_X7_isWithin (nI w) (10 : Int32) (33 : Int32)) (fun r => if r = (0 : Int32) then B else J)) = J := by
  rcases hw with h | ⟨h, h'⟩
  · subst h; rw [if_pos (show nI 0 = (0 : Int32) from rfl)]
  · rw [if_neg (nI_ne0 (by omega) (by omega)), p_within, ob1_s, decide_eq_true (show (10 : Int32) ≤ nI w ∧ nI w ≤ 33 from ⟨nI_le (a := 10) h (by omega), nI_le (b := 33) h' (by omega)⟩), bz_t, if_neg n10]
theorem good_m {β : Type} {w : Nat} (hw : w = 0 ∨ (10 ≤ w ∧ w ≤ 33)) (J B : Option β) : (if nI w = (0 : Int32) then J else ob1 (f_X8_in ((nI w).toInt64) (10 : Int64) (33 : Int64)) (fun r => if r = (0 : Int32) then B else J)) = J := by
  rcases hw with h | ⟨h, h'⟩
  · subst h; rw [if_pos (show nI 0 = (0 : Int32) from rfl)]
  · rw [if_neg (nI_ne0 (by omega) (by omega)), show (10 : Int64) = (10 : Int32).toInt64 from rfl, show (33 : Int64) = (33 : Int32).toInt64 from rfl, m_in, ob1_s, decide_eq_true (show (10 : Int32) ≤ nI w ∧ nI w ≤ 33 from ⟨nI_le (a := 10) h (by omega), nI_le (b := 33) h' (by omega)⟩), bz_t, if_neg n10]
theorem bad_c {β : Type} {p2 : Int32} (h0 : p2 ≠ 0) (hw : ¬ ((10 : Int32) ≤ p2 ∧ p2 ≤ 33)) (J B : Option β) : (if p2 = (0 : Int32) then J else ob1 (f_X7_isWithin p2 (10 : Int32) (33 : Int32)) (fun r => if r = (0 : Int32) then B else J)) = B := by
  rw [if_neg h0, p_within, ob1_s, decide_eq_false hw, bz_f, if_pos rfl]
theorem bad_m {β : Type} {p2 : Int32} (h0 : p2 ≠ 0) (hw : ¬ ((10 : Int32) ≤ p2 ∧ p2 ≤ 33)) (J B : Option β) : (if p2 = (0 : Int32) then J else ob1 (f_X8_in (p2.toInt64) (10 : Int64) (33 : Int64)) (fun r => if r = (0 : Int32) then B else J)) = B := by
  rw [if_neg h0, show (10 : Int64) = (10 : Int32).toInt64 from rfl, show (33 : Int64) = (33 : Int32).toInt64 from rfl, m_in, ob1_s, decide_eq_false hw, bz_f, if_pos rfl]
theorem lyr_iff {R : Nat} {nx : Nat → Nat → St → Option St} {s0 : St} {x t : Nat} (hR : R ≤ 7) (hn : nxV R nx) (h0 : vS R s0) : lyr nx s0 x t = true ↔ ∃ s, RS nx s0 t s ∧ s.1 = x := by
  obtain ⟨lv1, lv2, lv3⟩ := lay_v hR hn h0 t
  unfold lyr
  constructor
  · intro h
    cases hf : ff (fun j => ((lay nx s0 t).2.1 j).1 == x) (lay nx s0 t).1 with
    | none => rw [hf] at h; cases h
    | some k =>
      obtain ⟨h1, h2, _⟩ := ff_some hf
      exact ⟨_, (lv3 _).mp ⟨k, h1, rfl⟩, by simpa using h2⟩
  · rintro ⟨s, h1, h2⟩
    obtain ⟨j, hj, ej⟩ := (lv3 s).mpr h1
    cases hf : ff (fun j => ((lay nx s0 t).2.1 j).1 == x) (lay nx s0 t).1 with
    | some k => rfl
    | none =>
      have h3 := ff_none hf j hj
      rw [ej, h2] at h3
      simp at h3
theorem m_soonN {cb : Nat → Int32} {x : Nat} {p : Nat → Bool} (hx : x < 7) (hth : ∀ t, t ≤ 24 → (ff (fun k => cb (56 * t + 8 * x + k) == 1) 8).isSome = p t) : itr (un1 (b_X8_soonest_48 (nI x) cb)) FU (0 : Int32) = some (nI (fl (ff p 25))) := by
  have hle : fl (ff p 25) ≤ 25 := by
    cases hf : ff p 25 with
    | none => exact Nat.le_refl _
    | some n => obtain ⟨h1, _, _⟩ := ff_some hf; show n ≤ 25; omega
  refine itr_count (step := un1 (b_X8_soonest_48 (nI x) cb)) nI (fl (ff p 25)) (nI (fl (ff p 25))) ?_ ?_ FU (by unfold FU; omega)
  · intro i hi
    obtain ⟨hi25, hpi⟩ := fl_lt hi
    rw [un1_s]
    unfold b_X8_soonest_48
    rw [if_neg (show ¬ (24 : Int32) < nI i from nI_nlt (a := 24) (by omega) (by omega)), m_isThere (by omega) hx, ob1_s, hth i (by omega), hpi, bz_f, if_pos rfl, bnd_s, show nI i + (1 : Int32) = nI (i + 1) from nI_1 i]
  · rw [un1_s]
    unfold b_X8_soonest_48
    cases hf : ff p 25 with
    | none => rw [show fl none = 25 from rfl, if_pos (show (24 : Int32) < nI 25 from by decide)]
    | some n =>
      obtain ⟨h1, h2, _⟩ := ff_some hf
      rw [show fl (some n) = n from rfl, if_neg (show ¬ (24 : Int32) < nI n from nI_nlt (a := 24) (by omega) (by omega)), m_isThere (by omega) hx, ob1_s, hth n (by omega), h2, bz_t, if_neg n10]
theorem co_soonest {R Dn K SL : Nat} {a b rl : Nat → Nat} {bm per hs : Nat} {be : Option Nat} {hb on : Nat} {sg : Nat → Nat} {st : Nat} {ea : Bool} {g lw wk pg ase astr pairs parents pr sizes steps cb lo : Nat → Int32} (x1 x2 x3 x4 x5 x6 x7 x8 : Int32) (met : Int64) (hP : PlO R Dn K SL a rl) (hl : lwr lw K rl) (hO : PgO R Dn b bm per hs be hb on sg st) (hM : PgM Dn a b bm per hs be hb on sg st ea g 0) (hA : ScR ase astr) (p1 p2 : Int32) : ∃ (rr y1 y2 y3 y4 y5 y6 y7 y8 : Int32) (se' str' : Nat → Int32) (met' : Int64) (pairs' parents' pr' sizes' steps' cb' lo' pg' w' : Nat → Int32), f_X7_soonest x1 x2 x3 x4 x5 x6 x7 x8 ase astr (nI bm) (nI per) (nI hs) (enc be) (nI hb) (nI on) (nI st) (bz ea) (rI b) (rI sg) (nI R) (nI Dn) (nI K) (rI a) (rI rl) met pairs parents pr sizes steps p1 p2 = some (rr, y1, y2, y3, y4, y5, y6, y7, y8, se', str', met', pairs', parents', pr', sizes', steps') ∧ f_X8_soonest (nI R) (nI Dn) (nI K) cb lw lo pg g wk p1 p2 = some (rr, cb', lo', pg', w') ∧ ScR se' str' := by
  have hP' := hP
  have hO' := hO
  have hM' := hM
  have hA' := hA
  obtain ⟨q1, q2, q3, q4, q5, q6, q7, q8, q9, q10, q11⟩ := hP
  obtain ⟨o1, o2, o3, o4, o5, o6, o7, o8, o9, o10, o11, o12, o13, o14⟩ := hO
  obtain ⟨h1, h2, h3, h4, h5, h6, h7, h8, h9⟩ := hM
  simp only [Nat.zero_add] at h2 h3 h4 h5 h6 h7 h8 h9
  obtain ⟨b0, s0, rfl, ha2, ha3, rfl, ha5, ha6⟩ := hA
  unfold f_X7_soonest f_X8_soonest
  rw [p_hasRoom, m_isRoom _ (by omega), ob1_s, ob1_s, g48, k48, h9]
  rcases i32_in p1 R (by omega) with ⟨x, hx, rfl⟩ | hout
  · rw [dec_in hx (by omega), bz_t, if_neg n10, if_neg n10, jn0_s, jn0_s]
    by_cases hg : ∃ w, (w = 0 ∨ (10 ≤ w ∧ w ≤ 33)) ∧ p2 = nI w
    · obtain ⟨w, hw, rfl⟩ := hg
      rw [good_c hw, good_m hw]
      cases ea with
      | true =>
        rw [bz_t, if_neg n10, if_pos rfl]
        exact ⟨_, _, _, _, _, _, _, _, _, _, _, _, _, _, _, _, _, cb, lo, pg, wk, rfl, rfl, hA'⟩
      | false =>
        have h07 : ∀ x, be = some x → x < 7 := fun x hx => by have := o8 x hx; omega
        have hW0 : Wok R Dn (b, bm) := ⟨o1, o2, o3, o4⟩
        have hT := fun t => Wok_tw (per := per) (st := st) (K := K) q3 q11 (by omega) q2 hW0 t
        have hv0 : vS R (hs, be) := ⟨o7, o8⟩
        have hx7 : x < 7 := by omega
        obtain ⟨o, el, hq⟩ := p_soonLoop (s0 := (hs, be)) (hb := hb) (met := met) (pr := pr) (strg := rI sg) (x := x) (w := w) (enc be) (bz false) (nI hs) (nI on) hP' hW0 o5 o6 o14 o9 hv0 hx7 hw (LOK_0 (pairs := pairs) (parents := parents) (sizes := sizes) (steps := steps))
        obtain ⟨cb', pg', w', em, hpg, hcb⟩ := m_layAlive (cb := cb) (pg := pg) (wk := wk) hP' hl hO' hM'
        have hn : nxV R (nxg a Dn st hb (tw R K rl per st (b, bm))) := nxg_v q3 q8 hT
        have hn7 : nxV 7 (nxg a Dn st hb (tw R K rl per st (b, bm))) := nxg_v q3 (fun d _ => q6 d) (fun t => Wok_7 (hT t))
        have haf : ∀ t d s, t < 24 → d ≤ 10 → vS 7 s → f_X8_after (nI Dn) pg' g (nI t) (nI s.1) (enc s.2) (nI d) = some (aft (nxg a Dn st hb (tw R K rl per st (b, bm)) t d s)) := fun t d s ht hd hs => m_after q3 q6 (hT t).1 (hpg t (by omega)) ht h5 h8 o14 o9 hs hd
        rw [if_pos (show bz false = (0 : Int32) from rfl), if_neg (show ¬ bz false = (1 : Int32) from by decide), p_begin (by omega) h07 o2 o12 ha3 ha5, ob12_s]
        simp only at el
        rw [el, em, ob3_s]
        generalize hnx : nxg a Dn st hb (tw R K rl per st (b, bm)) = nx at *
        have hth : ∀ t, t ≤ 24 → (ff (fun k => cb' (56 * t + 8 * x + k) == 1) 8).isSome = lyr nx (hs, be) x t := by
          intro t ht
          rw [Bool.eq_iff_iff, there_iff hn7 (vS_7 q2 hv0) hcb ht hx7, lyr_iff q2 hn hv0]
        rw [m_soonN hx7 hth, ob1_s]
        cases hf : ff (lyr nx (hs, be) x) 25 with
        | none =>
          rw [hf] at hq
          obtain ⟨v, bd, sp, b1, met', pairs', parents', pr', sizes', steps', rfl, hb1, hb2⟩ := hq
          rw [obm10_s, show fl none = 25 from rfl, if_pos (show (24 : Int32) < nI 25 from by decide)]
          exact ⟨_, _, _, _, _, _, _, _, _, _, _, _, _, _, _, _, _, _, lo, _, _, rfl, rfl, ⟨b1, sg, rfl, hb1, hb2, rfl, o12, o13⟩⟩
        | some n =>
          rw [hf] at hq
          obtain ⟨bd, sp, b1, met', pairs', parents', pr', sizes', steps', e, he, rfl, hb1, hb2⟩ := hq
          obtain ⟨f1, f2, f3⟩ := ff_some hf
          rw [obm10_r, show fl (some n) = n from rfl, if_neg (show ¬ (24 : Int32) < nI n from nI_nlt (a := 24) (by omega) (by omega))]
          have hsc : ScR (rI b1) (rI sg) := ⟨b1, sg, rfl, hb1, hb2, rfl, o12, o13⟩
          unfold sRes
          rcases hw with h | ⟨h, h'⟩
          · subst h
            rw [if_pos (show nI 0 - (10 : Int32) < nI n from by
              rw [fa_lt, nI_toInt (by omega), show (nI 0 - (10 : Int32)).toInt = -10 from by decide]; omega), if_pos (show nI 0 = (0 : Int32) from rfl), if_pos rfl]
            exact ⟨_, _, _, _, _, _, _, _, _, _, _, _, _, _, _, _, _, _, lo, _, _, rfl, rfl, hsc⟩
          · rw [if_neg (show ¬ w = 0 by omega), show nI w - (10 : Int32) = nI (w - 10) from pk_sub (b := 10) h]
            by_cases hwn : w - 10 < n
            · obtain ⟨lo', eb, hlo⟩ := m_layBack (Dm := nI Dn) (g := g) (pg := pg') (lo := lo) (n := n) (x := x) hn7 (by omega) hx7 haf
              obtain ⟨z1, z2, z4, ep⟩ := m_soonPath (w := w) q2 hn hv0 hn7 he (by omega) h hwn haf hlo
              simp only at ep
              rw [if_pos (nI_lt hwn (by omega)), if_neg (nI_ne0 (by omega) (by omega)), if_pos hwn, eb, ob1_s, g31, bnd_s, k31, h3, m_beastNow h4 h07, ob1_s, ep, ob4_s]
              exact ⟨_, _, _, _, _, _, _, _, _, _, _, _, _, _, _, _, _, _, _, _, _, rfl, rfl, hsc⟩
            · rw [if_neg (nI_nlt (by omega) (by omega)), if_neg hwn]
              exact ⟨_, _, _, _, _, _, _, _, _, _, _, _, _, _, _, _, _, _, lo, _, _, rfl, rfl, hsc⟩
    · have hb0 : p2 ≠ 0 := fun e => hg ⟨0, Or.inl rfl, e⟩
      have hb1 : ¬ ((10 : Int32) ≤ p2 ∧ p2 ≤ 33) := by
        intro hc
        rcases i32_in p2 34 (by omega) with ⟨w, hw, rfl⟩ | hout
        · have h10 : 10 ≤ w := (nI_leI (a := 10) (by omega) (by omega)).mp hc.1
          exact hg ⟨w, Or.inr ⟨h10, by omega⟩, rfl⟩
        · rw [fa_le, fa_le, show (10 : Int32).toInt = 10 from rfl, show (33 : Int32).toInt = 33 from rfl] at hc
          omega
      rw [bad_c hb0 hb1, bad_m hb0 hb1]
      exact ⟨_, _, _, _, _, _, _, _, _, _, _, _, _, _, _, _, _, cb, lo, pg, wk, rfl, rfl, hA'⟩
  · rw [dec_out (by omega) hout, bz_f, if_pos rfl, if_pos rfl]
    exact ⟨_, _, _, _, _, _, _, _, _, _, _, _, _, _, _, _, _, cb, lo, pg, wk, rfl, rfl, hA'⟩
