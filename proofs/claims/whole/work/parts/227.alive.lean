/-! ===== pure 27: where he can be, in the reference ===== -/
theorem dS_enc {β : Type} {k : Nat} (hk : k < 1400) (F : Int32 → Option β) : jn1 F (fun j => if (nI k - nI k / (8 : Int32) * (8 : Int32)) = (0 : Int32) then j (-4 : Int32) else j ((nI k - nI k / (8 : Int32) * (8 : Int32)) - (1 : Int32))) = F (enc (dS (k % 56)).2) := by
  rw [show nI k - nI k / (8 : Int32) * (8 : Int32) = nI (k % 8) from pk_rem (d := 8) (by omega) (by omega) (by omega)]
  have e : (dS (k % 56)).2 = if k % 8 = 0 then none else some (k % 8 - 1) := by
    show (if k % 56 % 8 = 0 then none else some (k % 56 % 8 - 1)) = _
    rw [show k % 56 % 8 = k % 8 by omega]
  rw [e]
  show (if nI (k % 8) = (0 : Int32) then F (-4 : Int32) else F (nI (k % 8) - (1 : Int32))) = _
  by_cases c : k % 8 = 0
  · rw [c, if_pos (show nI 0 = (0 : Int32) from rfl), if_pos rfl]; rfl
  · rw [if_neg (nI_ne0 (by omega) (by omega)), if_neg c]
    have : nI (k % 8) - (1 : Int32) = nI (k % 8 - 1) := by
      rw [show (1 : Int32) = nI 1 from rfl, pk_sub (by omega)]
    rw [this]; rfl
theorem dS_his {k : Nat} (hk : k < 1400) : (nI k - nI k / (56 : Int32) * (56 : Int32)) / (8 : Int32) = nI (dS (k % 56)).1 := by
  rw [show nI k - nI k / (56 : Int32) * (56 : Int32) = nI (k % 56) from pk_rem (d := 56) (by omega) (by omega) (by omega), show nI (k % 56) / (8 : Int32) = nI (k % 56 / 8) from pk_div (d := 8) (by omega) (by omega) (by omega)]
  rfl
theorem dS_t {k : Nat} (hk : k < 1400) : nI k / (56 : Int32) = nI (k / 56) := pk_div (d := 56) (by omega) (by omega) (by omega)
theorem al_body {Dm : Int32} {g pg cb : Nat → Int32} {k : Nat} (hk : k < 1344) : b_X8_layAlive_49 Dm g pg (nI k) cb = ob2 (itr (un2 (b_X8_layAlive_92 Dm g pg (nI k) (nI (k / 56)) (nI (dS (k % 56)).1) (enc (dS (k % 56)).2))) FU ((0 : Int32), cb)) (fun _ c => some (.inl (nI (k + 1), c))) := by
  unfold b_X8_layAlive_49
  rw [if_neg (show ¬ (1344 : Int32) ≤ nI k from nI_ge (b := 1344) hk (by omega)), bnd_s, bnd_s, dS_enc (by omega), dS_his (by omega), dS_t (by omega)]
  simp only [bnd_s, show nI k + (1 : Int32) = nI (k + 1) from nI_1 k]
theorem m_clear (cb : Nat → Int32) : ∃ z cb', itr (un2 b_X8_layAlive_6) FU ((0 : Int32), cb) = some (z, cb') ∧ ∀ j, j < 1400 → cb' j = 0 := by
  have h := itr_inv (step := un2 b_X8_layAlive_6) (fun i x => x.1 = nI i ∧ ∀ j, j < i → x.2 j = 0) 1400 (fun x => ∀ j, j < 1400 → x.2 j = 0) ?_ ?_ ((0 : Int32), cb) ⟨rfl, fun j hj => absurd hj (Nat.not_lt_zero _)⟩ FU (by unfold FU; omega)
  · obtain ⟨⟨o1, o2⟩, e, u⟩ := h
    exact ⟨o1, o2, e, u⟩
  · rintro i ⟨x1, x2⟩ hi ⟨z1, z2⟩
    simp only at z1 z2
    subst z1
    refine ⟨(nI (i + 1), upd x2 i 0), ?_, rfl, fun j hj => ?_⟩
    · rw [un2_s]
      unfold b_X8_layAlive_6
      rw [if_neg (show ¬ (1400 : Int32) ≤ nI i from nI_ge (b := 1400) hi (by omega)), gin_k (by omega) (by omega), bnd_s, bnd_s, nI_cl (by omega), show nI i + (1 : Int32) = nI (i + 1) from nI_1 i]
    · simp only
      by_cases c : j = i
      · rw [c, pk_us]
      · rw [pk_un c]; exact z2 j (by omega)
  · rintro ⟨x1, x2⟩ ⟨z1, z2⟩
    simp only at z1 z2
    subst z1
    refine ⟨(nI 1400, x2), ?_, z2⟩
    rw [un2_s]
    unfold b_X8_layAlive_6
    rw [if_pos (show (1400 : Int32) ≤ nI 1400 from nI_le (a := 1400) (Nat.le_refl _) (by omega))]
theorem m_at0 {hs : Nat} {be : Option Nat} (hbe : ∀ x, be = some x → x < 7) : f_X8_at (0 : Int32) (nI hs) (enc be) = some (nI (mc (hs, be))) := by
  unfold f_X8_at
  rw [show (56 : Int32) * (0 : Int32) = nI 0 from rfl, show (8 : Int32) * nI hs = nI (8 * hs) from pk_mul 8 hs, nI_add, Nat.zero_add]
  cases be with
  | none =>
    rw [if_pos (show enc none = (-4 : Int32) from rfl), Int32.add_zero]
    rfl
  | some x =>
    have := hbe x rfl
    rw [if_neg (show ¬ enc (some x) = (-4 : Int32) from ne4 (by omega)), show enc (some x) + (1 : Int32) = nI (x + 1) from nI_1 x, nI_add]
    rfl
/-- all that can be reached, marked -/
def CBo (nx : Nat → Nat → St → Option St) (s0 : St) (cb : Nat → Int32) : Prop := ∀ t s, t ≤ 24 → vS 7 s → (cb (56 * t + mc s) = 1 ↔ RS nx s0 t s)
theorem RS_v {nx : Nat → Nat → St → Option St} {s0 : St} (hn : nxV 7 nx) (h0 : vS 7 s0) : ∀ t s, RS nx s0 t s → vS 7 s := by
  intro t
  induction t with
  | zero => intro s h; rw [show s = s0 from h]; exact h0
  | succ t ih =>
    rintro s ⟨s1, d, h1, _, h2⟩
    exact hn t d s1 s (ih s1 h1) h2
theorem m_alLoop {nx : Nat → Nat → St → Option St} {s0 : St} {Dm : Int32} {g pg cb : Nat → Int32} (hn : nxV 7 nx) (h0 : vS 7 s0) (haf : ∀ t d s, t < 24 → d ≤ 10 → vS 7 s → f_X8_after Dm pg g (nI t) (nI s.1) (enc s.2) (nI d) = some (aft (nx t d s))) (hc : ∀ j, j < 1400 → cb j = 0) : ∃ z cb', itr (un2 (b_X8_layAlive_49 Dm g pg)) FU ((0 : Int32), upd cb (mc s0) 1) = some (z, cb') ∧ CBo nx s0 cb' := by
  have hm0 := mc_lt h0
  have h := itr_inv (step := un2 (b_X8_layAlive_49 Dm g pg)) (fun k x => x.1 = nI k ∧ (∀ j, j < 1400 → x.2 j = 1 → RS nx s0 (j / 56) (dS (j % 56))) ∧ x.2 (mc s0) = 1 ∧ ∀ k', k' < k → x.2 k' = 1 → ∀ d s', d ≤ 10 → nx (k' / 56) d (dS (k' % 56)) = some s' → x.2 (56 * (k' / 56 + 1) + mc s') = 1) 1344 (fun x => (∀ j, j < 1400 → x.2 j = 1 → RS nx s0 (j / 56) (dS (j % 56))) ∧ x.2 (mc s0) = 1 ∧ ∀ k', k' < 1344 → x.2 k' = 1 → ∀ d s', d ≤ 10 → nx (k' / 56) d (dS (k' % 56)) = some s' → x.2 (56 * (k' / 56 + 1) + mc s') = 1) ?_ ?_ ((0 : Int32), upd cb (mc s0) 1) ⟨rfl, ?_, by simp only [pk_us], fun k' hk => absurd hk (Nat.not_lt_zero _)⟩ FU (by unfold FU; omega)
  · obtain ⟨⟨o1, o2⟩, e, u1, u2, u3⟩ := h
    simp only at u1 u2 u3
    refine ⟨o1, o2, e, fun t s ht hs => ?_⟩
    have hm := mc_lt hs
    constructor
    · intro h1
      have := u1 _ (by omega) h1
      rw [show (56 * t + mc s) / 56 = t by omega, show (56 * t + mc s) % 56 = mc s by omega, dS_mc hs] at this
      exact this
    · have key : ∀ t, t ≤ 24 → ∀ s, RS nx s0 t s → o2 (56 * t + mc s) = 1 := by
        intro t
        induction t with
        | zero => intro _ s h; rw [show s = s0 from h, Nat.mul_zero, Nat.zero_add]; exact u2
        | succ t ih =>
          rintro ht s ⟨s1, d, h1, hd, h2⟩
          have hv1 := RS_v hn h0 t s1 h1
          have hm1 := mc_lt hv1
          have i1 := ih (by omega) s1 h1
          have := u3 (56 * t + mc s1) (by omega) i1 d s hd (by rw [show (56 * t + mc s1) / 56 = t by omega, show (56 * t + mc s1) % 56 = mc s1 by omega, dS_mc hv1]; exact h2)
          rw [show (56 * t + mc s1) / 56 = t by omega] at this
          exact this
      exact key t ht s
  · rintro k ⟨x1, x2⟩ hk ⟨z1, z2, z3, z4⟩
    simp only at z1 z2 z3 z4
    subst z1
    have hv := dS_v (k := k % 56) (by omega)
    obtain ⟨z, cb', e, v1, v2, v3, v4⟩ := m_alRow (nx := nx) (Dm := Dm) (g := g) (pg := pg) (cb := x2) (t := k / 56) (k := k) (s := dS (k % 56)) (by omega) (by omega) (fun d hd => haf _ d _ (by omega) hd hv) (fun d s' h => hn _ d _ s' hv h)
    refine ⟨(nI (k + 1), cb'), by rw [un2_s, al_body hk, e, ob2_s], rfl, fun j hj h1 => ?_, v1 _ z3, fun k' hk' h1 d s' hd h2 => ?_⟩
    · simp only at h1
      rcases v3 j h1 with h | ⟨hk1, d, s', hd, hnx, ej⟩
      · exact z2 j hj h
      · have hs' := hn _ d _ s' hv hnx
        have hm := mc_lt hs'
        rw [ej, show (56 * (k / 56 + 1) + mc s') / 56 = k / 56 + 1 by omega, show (56 * (k / 56 + 1) + mc s') % 56 = mc s' by omega, dS_mc hs']
        exact ⟨_, d, z2 k (by omega) hk1, hd, hnx⟩
    · simp only at h1 ⊢
      by_cases c : k' = k
      · subst c
        rw [v2 k' (by omega)] at h1
        exact v4 h1 d s' hd h2
      · rw [v2 k' (by omega)] at h1
        exact v1 _ (z4 k' (by omega) h1 d s' hd h2)
  · rintro ⟨x1, x2⟩ ⟨z1, z2⟩
    simp only at z1 z2
    subst z1
    refine ⟨(nI 1344, x2), ?_, z2⟩
    rw [un2_s]
    unfold b_X8_layAlive_49
    rw [if_pos (show (1344 : Int32) ≤ nI 1344 from nI_le (a := 1344) (Nat.le_refl _) (by omega))]
  · intro j hj h1
    simp only at h1
    by_cases c : j = mc s0
    · rw [c, show mc s0 / 56 = 0 by omega, show mc s0 % 56 = mc s0 by omega, dS_mc h0]; rfl
    · rw [pk_un c, hc j hj] at h1
      exact absurd h1 (by decide)
theorem Wok_7 {R Dn : Nat} {w : (Nat → Nat) × Nat} (h : Wok R Dn w) : Wok 7 Dn w := ⟨h.1, h.2.1, fun d _ => h.1 d, h.2.2.2⟩
theorem m_layAlive {R K Dn SL : Nat} {a b rl : Nat → Nat} {bm per hs : Nat} {be : Option Nat} {hb on : Nat} {sg : Nat → Nat} {st : Nat} {ea : Bool} {g lw wk pg cb : Nat → Int32} (hP : PlO R Dn K SL a rl) (hl : lwr lw K rl) (hO : PgO R Dn b bm per hs be hb on sg st) (hM : PgM Dn a b bm per hs be hb on sg st ea g 0) : ∃ cb' pg' w', f_X8_layAlive (nI R) (nI Dn) (nI K) cb lw pg g wk = some (cb', pg', w') ∧ (∀ t, t ≤ 24 → hse pg' (30 * t) Dn a (tw R K rl per st (b, bm) t).1 (tw R K rl per st (b, bm) t).2) ∧ CBo (nxg a Dn st hb (tw R K rl per st (b, bm))) (hs, be) cb' := by
  obtain ⟨o1, o2, o3, o4, o5, o6, o7, o8, o9, o10, o11, o12, o13, o14⟩ := hO
  obtain ⟨q1, q2, q3, q4, q5, q6, q7, q8, q9, q10, q11⟩ := hP
  obtain ⟨m1, m2, m3, m4, m5, m6, m7, m8, m9⟩ := hM
  simp only [Nat.zero_add] at m2 m3 m4 m5 m7 m8 m9
  have hW0 : Wok R Dn (b, bm) := ⟨o1, o2, o3, o4⟩
  obtain ⟨pg', w', el, hpg⟩ := m_layPages (pg := pg) (wk := wk) ⟨q1, q2, q3, q4, q5, q6, q7, q8, q9, q10, q11⟩ hl hW0 o5 o6 o14 m1 m2 m8
  have hTw := fun t => Wok_tw (per := per) (st := st) (K := K) q3 q11 (by omega) q2 hW0 t
  generalize hws : tw R K rl per st (b, bm) = ws at *
  have hn : nxV 7 (nxg a Dn st hb ws) := nxg_v q3 (fun d _ => q6 d) (fun t => Wok_7 (hTw t))
  have h0 : vS 7 (hs, be) := ⟨by show hs < 7; omega, fun x hx => by have := o8 x hx; omega⟩
  obtain ⟨z, cb0, e0, hc0⟩ := m_clear cb
  obtain ⟨z2, cb', e1, hcb⟩ := m_alLoop (nx := nxg a Dn st hb ws) (s0 := (hs, be)) (Dm := nI Dn) (g := g) (pg := pg') (cb := cb0) hn h0 (fun t d s ht hd hs => m_after q3 q6 (hTw t).1 (hpg t (by omega)) ht m5 m8 o14 o9 hs hd) hc0
  have hm := mc_lt h0
  refine ⟨cb', pg', w', ?_, hpg, hcb⟩
  unfold f_X8_layAlive
  rw [el, ob2_s, e0, ob2_s, g31, m_beastNow m4 (fun x hx => by have := o8 x hx; omega), ob1_s, k31, m3, m_at0 (be := be) h0.2, ob1_s, gin_k (by omega) (by omega), bnd_s, nI_cl (by omega), e1, ob2_s]
theorem there_iff {nx : Nat → Nat → St → Option St} {s0 : St} {cb : Nat → Int32} {t x : Nat} (hn : nxV 7 nx) (h0 : vS 7 s0) (hcb : CBo nx s0 cb) (ht : t ≤ 24) (hx : x < 7) : (ff (fun k => cb (56 * t + 8 * x + k) == 1) 8).isSome = true ↔ ∃ s, RS nx s0 t s ∧ s.1 = x := by
  constructor
  · intro h
    cases hf : ff (fun k => cb (56 * t + 8 * x + k) == 1) 8 with
    | none => rw [hf] at h; cases h
    | some k =>
      obtain ⟨h1, h2, _⟩ := ff_some hf
      have h2' : cb (56 * t + 8 * x + k) = 1 := by simpa using h2
      have hv := dS_v (k := 8 * x + k) (by omega)
      refine ⟨dS (8 * x + k), (hcb t _ ht hv).mp ?_, ?_⟩
      · rw [mc_dS]; rw [Nat.add_assoc] at h2'; exact h2'
      · show (8 * x + k) / 8 = x; omega
  · rintro ⟨s, h1, h2⟩
    have hv := RS_v hn h0 t s h1
    have h3 := (hcb t s ht hv).mpr h1
    have hb := mb_lt hv.2
    cases hf : ff (fun k => cb (56 * t + 8 * x + k) == 1) 8 with
    | some k => rfl
    | none =>
      have h4 := ff_none hf (mb s.2) hb
      rw [show 56 * t + mc s = 56 * t + 8 * x + mb s.2 by unfold mc; rw [h2]; omega] at h3
      rw [h3] at h4
      exact absurd h4 (by decide)
