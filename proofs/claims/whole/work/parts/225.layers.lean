/-! ===== pure 25: the class's layers ===== -/
theorem lay_f {R : Nat} {nx : Nat → Nat → St → Option St} {s0 : St} (hR : R ≤ 7) (hn : nxV R nx) (h0 : vS R s0) (t : Nat) : ∃ f : Nat → Option St, (∀ e, e < 11 * (lay nx s0 t).1 → f e = nx t (e % 11) ((lay nx s0 t).2.1 (e / 11))) ∧ (∀ e s, f e = some s → vS 7 s) ∧ lay nx s0 (t + 1) = acc f (11 * (lay nx s0 t).1) := by
  obtain ⟨i1, i2, i3⟩ := lay_v hR hn h0 t
  have key : ∀ E, E ≤ 11 * (lay nx s0 t).1 → ∀ f : Nat → Option St, (f = fun e => if e < 11 * (lay nx s0 t).1 then nx t (e % 11) ((lay nx s0 t).2.1 (e / 11)) else none) → acc (fun e => nx t (e % 11) ((lay nx s0 t).2.1 (e / 11))) E = acc f E := by
    intro E
    induction E with
    | zero => intro _ f _; rfl
    | succ E ih =>
      intro hE f hf
      have e1 : f E = nx t (E % 11) ((lay nx s0 t).2.1 (E / 11)) := by rw [hf]; simp only; rw [if_pos (by omega)]
      rw [acc, acc, e1, ih (by omega) f hf]
  obtain ⟨f, hf⟩ : ∃ f : Nat → Option St, f = fun e => if e < 11 * (lay nx s0 t).1 then nx t (e % 11) ((lay nx s0 t).2.1 (e / 11)) else none := ⟨_, rfl⟩
  refine ⟨f, fun e he => by rw [hf]; simp only; rw [if_pos he], ?_, by rw [lay]; exact key _ (Nat.le_refl _) f hf⟩
  intro e s h
  rw [hf] at h
  simp only at h
  by_cases c : e < 11 * (lay nx s0 t).1
  · rw [if_pos c] at h; exact vS_7 hR (hn _ _ _ _ (i1 (e / 11) (by omega)) h)
  · rw [if_neg c] at h; cases h
/-- all layers up to one, in the class's rows -/
def LOK (nx : Nat → Nat → St → Option St) (s0 : St) (T : Nat) (pairs parents sizes steps : Nat → Int32) : Prop := ∀ t, t ≤ T → sizes t = nI (lay nx s0 t).1 ∧ (∀ j, j < (lay nx s0 t).1 → pairs (56 * t + j) = nI (cd ((lay nx s0 t).2.1 j))) ∧ (1 ≤ t → ∀ j, j < (lay nx s0 t).1 → parents (56 * t + j) = nI ((lay nx s0 t).2.2.1 j / 11) ∧ steps (56 * t + j) = nI ((lay nx s0 t).2.2.1 j % 11))
theorem cd_div {s : St} (h : vS 7 s) : nI (cd s) / 8 = nI s.1 := by
  have h1 := cd_lt h
  have h2 := h.1
  have hb : s.2.getD 7 < 8 := by
    cases hs : s.2 with
    | none => decide
    | some x => have := h.2 x hs; simp only [Option.getD_some]; omega
  rw [show (8 : Int32) = nI 8 from rfl, pk_div (by omega) (by omega) (by omega)]
  congr 1
  unfold cd
  omega
theorem cd_rem {s : St} (h : vS 7 s) : nI (cd s) - nI (cd s) / 8 * 8 = nI (s.2.getD 7) := by
  have h1 := cd_lt h
  have hb : s.2.getD 7 < 8 := by
    cases hs : s.2 with
    | none => decide
    | some x => have := h.2 x hs; simp only [Option.getD_some]; omega
  rw [show (8 : Int32) = nI 8 from rfl, pk_rem (by omega) (by omega) (by omega)]
  congr 1
  unfold cd
  omega
theorem p_growRow {f : Nat → Option St} {a : Nat → Nat} {w : (Nat → Nat) × Nat} {R Dn st hb T i : Nat} {s : St} {met : Int64} {pairs parents pr sizes steps : Nat → Int32} (hv : ∀ e s, f e = some s → vS 7 s) (hR : R ≤ 7) (hD : Dn ≤ 10) (h7a : lt7 a) (ha : ∀ d, d < Dn → a d < R) (hW : Wok R Dn w) (hT : T + 1 ≤ 24) (hA : AR (T + 1) (acc f (11 * i)) met pairs parents sizes steps) (hs : vS R s) (hi : i < 56) (hf : ∀ d, d ≤ 10 → f (11 * i + d) = match gto a w Dn d s.1 with | none => none | some to => nx2 a w Dn st hb to s.2) (hpr : prO a w R Dn st hb R pr) : ∃ (x5 : Int32) (met' : Int64) (pairs' parents' sizes' steps' : Nat → Int32), itr (un6 (b_X4_grow_54 (nI w.2) (nI Dn) (rI a) (rI w.1) (nI T) pr (nI i) (nI (cd s)))) FU ((0 : Int32), met, pairs, parents, sizes, steps) = some (x5, met', pairs', parents', sizes', steps') ∧ AR (T + 1) (acc f (11 * i + 10)) met' pairs' parents' sizes' steps' ∧ FRm (T + 1) pairs' pairs ∧ FRm (T + 1) parents' parents ∧ FRm (T + 1) steps' steps ∧ ∀ j, j < T + 1 → sizes' j = sizes j := by
  have hs7 := vS_7 hR hs
  have hbm := p2_lt hW.2.2.2 hD
  have hh := itr_inv (step := un6 (b_X4_grow_54 (nI w.2) (nI Dn) (rI a) (rI w.1) (nI T) pr (nI i) (nI (cd s)))) (fun d x => x.1 = nI d ∧ AR (T + 1) (acc f (11 * i + d)) x.2.1 x.2.2.1 x.2.2.2.1 x.2.2.2.2.1 x.2.2.2.2.2 ∧ FRm (T + 1) x.2.2.1 pairs ∧ FRm (T + 1) x.2.2.2.1 parents ∧ FRm (T + 1) x.2.2.2.2.2 steps ∧ ∀ j, j < T + 1 → x.2.2.2.2.1 j = sizes j) Dn (fun x => AR (T + 1) (acc f (11 * i + Dn)) x.2.1 x.2.2.1 x.2.2.2.1 x.2.2.2.2.1 x.2.2.2.2.2 ∧ FRm (T + 1) x.2.2.1 pairs ∧ FRm (T + 1) x.2.2.2.1 parents ∧ FRm (T + 1) x.2.2.2.2.2 steps ∧ ∀ j, j < T + 1 → x.2.2.2.2.1 j = sizes j) ?_ ?_ ((0 : Int32), met, pairs, parents, sizes, steps) ⟨rfl, hA, fun _ _ => rfl, fun _ _ => rfl, fun _ _ => rfl, fun _ _ => rfl⟩ FU (by unfold FU; omega)
  · obtain ⟨⟨o1, o2, o3, o4, o5, o6⟩, e, u1, u2⟩ := hh
    simp only at u1 u2
    refine ⟨o1, o2, o3, o4, o5, o6, e, ?_, u2⟩
    have hno : ∀ k, Dn + k ≤ 10 → acc f (11 * i + (Dn + k)) = acc f (11 * i + Dn) := by
      intro k
      induction k with
      | zero => intro _; rfl
      | succ k ih =>
        intro hk
        rw [show 11 * i + (Dn + (k + 1)) = (11 * i + (Dn + k)) + 1 by omega, acc, hf (Dn + k) (by omega), gto, if_neg (by omega), if_neg (by omega)]
        exact ih (by omega)
    have := hno (10 - Dn) (by omega)
    rw [show Dn + (10 - Dn) = 10 by omega] at this
    rw [this]
    exact u1
  · rintro d ⟨x1, x2, x3, x4, x5, x6⟩ hd ⟨z1, z2, z3, z4, z5, z6⟩
    simp only at z1 z2 z3 z4 z5 z6
    subst z1
    have hfd := hf d (by omega)
    have eg : gto a w Dn d s.1 = lead a w.1 w.2 d s.1 := by unfold gto; rw [if_neg (by omega), if_pos hd]
    rw [eg] at hfd
    have hs1 := hs.1
    have ebody : b_X4_grow_54 (nI w.2) (nI Dn) (rI a) (rI w.1) (nI T) pr (nI i) (nI (cd s)) (nI d) x2 x3 x4 x5 x6 = (match lead a w.1 w.2 d s.1 with | none => some (.inl (nI (d + 1), x2, x3, x4, x5, x6)) | some to => (ob5 (f_X4_reach x2 x3 x4 pr x5 x6 (nI (T + 1)) (nI i) (nI d) (nI (8 * to + s.2.getD 7))) (fun y1 y2 y3 y4 y5 => some (.inl (nI (d + 1), y1, y2, y3, y4, y5))))) := by
      unfold b_X4_grow_54
      rw [if_neg (nI_ge hd (by omega)), cd_rem hs7, cd_div hs7, p_across (by omega) hD hd (rI_row a Dn) (rI_row w.1 Dn) (fun d _ => by have := h7a d; omega) (fun d _ => by have := hW.1 d; omega) (by omega), ob1_s, jn5_s, show nI T + 1 = nI (T + 1) from nI_1 T, show nI d + 1 = nI (d + 1) from nI_1 d]
      cases hl : lead a w.1 w.2 d s.1 with
      | none => rw [if_pos (show enc none = (-4 : Int32) from rfl)]; rfl
      | some to =>
        have hto := lead_lt h7a hW.1 hl
        rw [if_neg (show ¬ enc (some to) = (-4 : Int32) from ne4 (by omega))]
        show (ob5 (f_X4_reach x2 x3 x4 pr x5 x6 (nI (T + 1)) (nI i) (nI d) (nI to * (8 : Int32) + nI (s.2.getD 7))) _) = _
        rw [show nI to * (8 : Int32) = nI (to * 8) from pk_mul to 8, nI_add, Nat.mul_comm]
        rfl
    cases hl : lead a w.1 w.2 d s.1 with
    | none =>
      rw [hl] at ebody hfd
      refine ⟨(nI (d + 1), x2, x3, x4, x5, x6), by rw [un6_s, ebody], rfl, ?_, z3, z4, z5, z6⟩
      rw [show 11 * i + (d + 1) = (11 * i + d) + 1 by omega, acc, hfd]
      exact z2
    | some to =>
      rw [hl] at ebody hfd
      simp only at ebody hfd
      obtain ⟨m', p', q', s', t', e1, r1, r2, r3, r4, r5⟩ := p_reach (T := T + 1) (E := 11 * i + d) hv hR (by omega) hT z2 hfd rfl (by omega) hi (lead_ltR ha hW.2.2.1 hd hl) hs.2 hpr
      rw [e1, ob5_s] at ebody
      refine ⟨(nI (d + 1), m', p', q', s', t'), by rw [un6_s, ebody], rfl, r1, ?_, ?_, ?_, ?_⟩
      · intro j hj; exact (r2 j hj).trans (z3 j hj)
      · intro j hj; exact (r3 j hj).trans (z4 j hj)
      · intro j hj; exact (r4 j hj).trans (z5 j hj)
      · intro j hj; exact (r5 j hj).trans (z6 j hj)
  · rintro ⟨x1, x2, x3, x4, x5, x6⟩ ⟨z1, z2, z3⟩
    simp only at z1 z2 z3
    subst z1
    refine ⟨(nI Dn, x2, x3, x4, x5, x6), ?_, z2, z3⟩
    rw [un6_s]
    unfold b_X4_grow_54
    rw [if_pos (nI_le (Nat.le_refl Dn) (by omega))]
theorem p_grow {R Dn K SL : Nat} {a rl : Nat → Nat} {per st hb T : Nat} {s0 : St} {w0 : (Nat → Nat) × Nat} {met : Int64} {pairs parents pr sizes steps : Nat → Int32} (hP : PlO R Dn K SL a rl) (hW0 : Wok R Dn w0) (hp : 0 < per) (hp6 : per ≤ 6) (hst : st ≤ 999) (hh : hb < 4) (h0 : vS R s0) (hT : T + 1 ≤ 24) (hL : LOK (nxg a Dn st hb (tw R K rl per st w0)) s0 T pairs parents sizes steps) : ∃ (met' : Int64) (pairs' parents' pr' sizes' steps' : Nat → Int32), f_X4_grow met (nI (tw R K rl per st w0 T).2) (nI per) (nI hb) (nI (st + T)) (nI R) (nI Dn) (nI K) (rI a) (rI rl) (rI (tw R K rl per st w0 T).1) pairs parents pr sizes steps (nI T) = some (nI (tw R K rl per st w0 (T + 1)).2, nI (st + (T + 1)), rI (tw R K rl per st w0 (T + 1)).1, met', pairs', parents', pr', sizes', steps') ∧ LOK (nxg a Dn st hb (tw R K rl per st w0)) s0 (T + 1) pairs' parents' sizes' steps' := by
  obtain ⟨q1, q2, q3, q4, q5, q6, q7, q8, q9, q10, q11⟩ := hP
  have hTw := fun t => Wok_tw (per := per) (st := st) (K := K) q3 q11 (by omega) q2 hW0 t
  have hbm := p2_lt (hTw T).2.2.2 q3
  have et := p_tick (R := R) (K := K) (bm := (tw R K rl per st w0 T).2) (per := per) (st := st + T) (b := (tw R K rl per st w0 T).1) (rl := rl) q4 q9 (by omega) q2 (hTw T).1 hp hp6 (by omega)
  have etw : tick R K rl per (st + T) ((tw R K rl per st w0 T).1, (tw R K rl per st w0 T).2) = tw R K rl per st w0 (T + 1) := rfl
  rw [etw] at et
  generalize hws : tw R K rl per st w0 = ws at *
  have hnx := nxg_v (st := st) (hb := hb) q3 q8 hTw
  generalize hnxe : nxg a Dn st hb ws = nx at *
  obtain ⟨pr', ep, hpr⟩ := p_foreP (a := a) (b := (ws T).1) (bm := (ws T).2) (st := st + T) (hb := hb) (pr := pr) q2 q3 (by omega) q6 (hTw T).1 (by omega) hh
  obtain ⟨f, hf1, hf2, hf3⟩ := lay_f q2 hnx h0 T
  obtain ⟨lv1, lv2, lv3⟩ := lay_v q2 hnx h0 T
  have hLT := hL T (Nat.le_refl T)
  unfold f_X4_grow
  rw [if_pos (show nI T < 24 from nI_lt (b := 24) (by omega) (by omega)), ep, ob1_s, show nI T + 1 = nI (T + 1) from nI_1 T, gin_k (by omega) (by omega), bnd_s, nI_cl (by omega)]
  have hh2 := itr_inv (step := un6 (b_X4_grow_28 (nI (ws T).2) (nI Dn) (rI a) (rI (ws T).1) (nI T) pr')) (fun i x => x.1 = nI i ∧ AR (T + 1) (acc f (11 * i)) x.2.1 x.2.2.1 x.2.2.2.1 x.2.2.2.2.1 x.2.2.2.2.2 ∧ FRm (T + 1) x.2.2.1 pairs ∧ FRm (T + 1) x.2.2.2.1 parents ∧ FRm (T + 1) x.2.2.2.2.2 steps ∧ ∀ j, j < T + 1 → x.2.2.2.2.1 j = sizes j) (lay nx s0 T).1 (fun x => AR (T + 1) (acc f (11 * (lay nx s0 T).1)) x.2.1 x.2.2.1 x.2.2.2.1 x.2.2.2.2.1 x.2.2.2.2.2 ∧ FRm (T + 1) x.2.2.1 pairs ∧ FRm (T + 1) x.2.2.2.1 parents ∧ FRm (T + 1) x.2.2.2.2.2 steps ∧ ∀ j, j < T + 1 → x.2.2.2.2.1 j = sizes j) ?_ ?_ ((0 : Int32), (0 : Int64), pairs, parents, upd sizes (T + 1) 0, steps) ⟨rfl, ⟨rfl, by show upd sizes (T + 1) 0 (T + 1) = _; rw [pk_us]; rfl, fun j hj => absurd hj (Nat.not_lt_zero _)⟩, fun _ _ => rfl, fun _ _ => rfl, fun _ _ => rfl, fun j hj => by show upd sizes (T + 1) 0 j = _; rw [pk_un (by omega)]⟩ FU (by unfold FU; omega)
  · obtain ⟨⟨o1, o2, o3, o4, o5, o6⟩, e, u1, u2, u3, u4, u5⟩ := hh2
    simp only at u1 u2 u3 u4 u5
    rw [e, ob6_s, et, ob3_s]
    refine ⟨o2, o3, o4, pr', o5, o6, rfl, ?_⟩
    intro t ht
    by_cases c : t = T + 1
    · subst c
      rw [hf3]
      exact ⟨u1.2.1, fun j hj => (u1.2.2 j hj).1, fun _ j hj => (u1.2.2 j hj).2⟩
    · obtain ⟨y1, y2, y3⟩ := hL t (by omega)
      obtain ⟨w1, w2, w3⟩ := lay_v q2 hnx h0 t
      refine ⟨(u5 t (by omega)).trans y1, fun j hj => (u2 _ (by omega)).trans (y2 j hj), fun h1 j hj => ?_⟩
      exact ⟨(u3 _ (by omega)).trans (y3 h1 j hj).1, (u4 _ (by omega)).trans (y3 h1 j hj).2⟩
  · rintro i ⟨x1, x2, x3, x4, x5, x6⟩ hi ⟨z1, z2, z3, z4, z5, z6⟩
    simp only at z1 z2 z3 z4 z5 z6
    subst z1
    have hsv := lv1 i hi
    have hfi : ∀ d, d ≤ 10 → f (11 * i + d) = match gto a (ws T) Dn d ((lay nx s0 T).2.1 i).1 with | none => none | some to => nx2 a (ws T) Dn (st + T) hb to ((lay nx s0 T).2.1 i).2 := by
      intro d hd
      rw [hf1 _ (by omega), show (11 * i + d) % 11 = d by omega, show (11 * i + d) / 11 = i by omega, ← hnxe]
      rfl
    obtain ⟨y5, m', p', q', s', t', e1, r1, r2, r3, r4, r5⟩ := p_growRow (s := (lay nx s0 T).2.1 i) (st := st + T) (hb := hb) hf2 q2 q3 q6 q8 (hTw T) hT z2 hsv (by omega) hfi hpr
    have hstay := hfi 10 (by omega)
    have eg : gto a (ws T) Dn 10 ((lay nx s0 T).2.1 i).1 = some ((lay nx s0 T).2.1 i).1 := by unfold gto; rw [if_pos rfl]
    rw [eg] at hstay
    simp only at hstay
    obtain ⟨m2, p2', q2', s2, t2, e2, v1, v2, v3, v4, v5⟩ := p_reach (T := T + 1) (E := 11 * i + 10) (i := i) (d := 10) hf2 q2 (by omega) hT r1 hstay rfl (by omega) (by omega) hsv.1 hsv.2 hpr
    refine ⟨(nI (i + 1), m2, p2', q2', s2, t2), ?_, rfl, ?_, ?_, ?_, ?_, ?_⟩
    · rw [un6_s]
      unfold b_X4_grow_28
      rw [gin_k (by omega) (by omega), nI_cl (by omega), z6 T (by omega), hLT.1, if_neg (nI_ge hi (by omega)), show nI T * (56 : Int32) = nI (T * 56) from pk_mul T 56, nI_add, show T * 56 + i = 56 * T + i by omega, gin_k (by omega) (by omega), bnd_s, nI_cl (by omega), z3 _ (by omega), hLT.2.1 i hi, e1, ob6_s, show nI T + 1 = nI (T + 1) from nI_1 T]
      have e2' : f_X4_reach m' p' q' pr' s' t' (nI (T + 1)) (nI i) (10 : Int32) (nI (cd ((lay nx s0 T).2.1 i))) = some (m2, p2', q2', s2, t2) := e2
      rw [e2', ob5_s, bnd_s, show nI i + 1 = nI (i + 1) from nI_1 i]
    · exact v1
    · intro j hj; exact ((v2 j hj).trans (r2 j hj)).trans (z3 j hj)
    · intro j hj; exact ((v3 j hj).trans (r3 j hj)).trans (z4 j hj)
    · intro j hj; exact ((v4 j hj).trans (r4 j hj)).trans (z5 j hj)
    · intro j hj; exact ((v5 j hj).trans (r5 j hj)).trans (z6 j hj)
  · rintro ⟨x1, x2, x3, x4, x5, x6⟩ ⟨z1, z2, z3, z4, z5, z6⟩
    simp only at z1 z2 z3 z4 z5 z6
    subst z1
    refine ⟨(nI (lay nx s0 T).1, x2, x3, x4, x5, x6), ?_, z2, z3, z4, z5, z6⟩
    rw [un6_s]
    unfold b_X4_grow_28
    rw [gin_k (by omega) (by omega), nI_cl (by omega), z6 T (by omega), hLT.1, if_pos (nI_le (Nat.le_refl _) (by omega))]
theorem p_firstIn {R : Nat} {nx : Nat → Nat → St → Option St} {s0 : St} {T t x : Nat} {pairs parents sizes steps : Nat → Int32} (hR : R ≤ 7) (hn : nxV R nx) (h0 : vS R s0) (hL : LOK nx s0 T pairs parents sizes steps) (ht : t ≤ T) (hT : T ≤ 24) (hx : x < 7) : f_X4_firstIn pairs sizes (nI t) (nI x) = some (match ff (fun j => ((lay nx s0 t).2.1 j).1 == x) (lay nx s0 t).1 with | some k => nI k | none => -4) := by
  obtain ⟨lv1, lv2, lv3⟩ := lay_v hR hn h0 t
  obtain ⟨y1, y2, y3⟩ := hL t ht
  unfold f_X4_firstIn
  have h := itr_first (step := un1 (b_X4_firstIn_2 pairs sizes (nI t) (nI x))) (fun j => ((lay nx s0 t).2.1 j).1 == x) nI (lay nx s0 t).1 nI (nI (lay nx s0 t).1) ?_ ?_ ?_ FU (by unfold FU; omega)
  · rw [show (0 : Int32) = nI 0 from rfl, h]
    cases ff (fun j => ((lay nx s0 t).2.1 j).1 == x) (lay nx s0 t).1 <;> rfl
  · intro i hi hp
    have hv := lv1 i hi
    have hp' : ¬ ((lay nx s0 t).2.1 i).1 = x := by simpa using hp
    have h1 := hv.1
    rw [un1_s]
    unfold b_X4_firstIn_2
    rw [gin_k (by omega) (by omega), nI_cl (by omega), y1, if_neg (nI_ge hi (by omega)), show nI t * (56 : Int32) = nI (t * 56) from pk_mul t 56, nI_add, show t * 56 + i = 56 * t + i by omega, gin_k (by omega) (by omega), nI_cl (by omega), y2 i hi, cd_div (vS_7 hR hv), if_neg (fun e => hp' (nI_inj (by omega) (by omega) e)), bnd_s, show nI i + 1 = nI (i + 1) from nI_1 i]
  · intro i hi hp
    have hv := lv1 i hi
    have hp' : ((lay nx s0 t).2.1 i).1 = x := by simpa using hp
    rw [un1_s]
    unfold b_X4_firstIn_2
    rw [gin_k (by omega) (by omega), nI_cl (by omega), y1, if_neg (nI_ge hi (by omega)), show nI t * (56 : Int32) = nI (t * 56) from pk_mul t 56, nI_add, show t * 56 + i = 56 * t + i by omega, gin_k (by omega) (by omega), nI_cl (by omega), y2 i hi, cd_div (vS_7 hR hv), if_pos (by rw [hp'])]
  · rw [un1_s]
    unfold b_X4_firstIn_2
    rw [gin_k (by omega) (by omega), nI_cl (by omega), y1, if_pos (nI_le (Nat.le_refl _) (by omega))]
/-- rooms of a layer, as bits -/
def rmk (L : Nat → St) : Nat → Nat
  | 0 => 0
  | j + 1 => rmk L j ||| 2 ^ (L j).1
theorem rmk_bit {L : Nat → St} {y : Nat} : ∀ {n : Nat}, (rmk L n).testBit y = true ↔ ∃ j, j < n ∧ (L j).1 = y := by
  intro n
  induction n with
  | zero =>
    rw [rmk, Nat.zero_testBit]
    constructor
    · intro h; cases h
    · rintro ⟨j, hj, _⟩; omega
  | succ n ih =>
    rw [rmk, Nat.testBit_or, Bool.or_eq_true, ih, Nat.testBit_two_pow, decide_eq_true_eq]
    constructor
    · rintro (⟨j, hj, e⟩ | h)
      · exact ⟨j, by omega, e⟩
      · exact ⟨n, by omega, h⟩
    · rintro ⟨j, hj, e⟩
      by_cases c : j = n
      · subst c; exact Or.inr e
      · exact Or.inl ⟨j, by omega, e⟩
theorem p_roomsOf {R : Nat} {nx : Nat → Nat → St → Option St} {s0 : St} {T t : Nat} {pairs parents sizes steps : Nat → Int32} (hR : R ≤ 7) (hn : nxV R nx) (h0 : vS R s0) (hL : LOK nx s0 T pairs parents sizes steps) (ht : t ≤ T) (hT : T ≤ 24) : f_X4_roomsOf pairs sizes (nI t) = some (nI (rmk (lay nx s0 t).2.1 (lay nx s0 t).1)) := by
  obtain ⟨lv1, lv2, lv3⟩ := lay_v hR hn h0 t
  obtain ⟨y1, y2, y3⟩ := hL t ht
  unfold f_X4_roomsOf
  have h := itr_count (step := un2 (b_X4_roomsOf_4 pairs sizes (nI t))) (fun i => (nI (rmk (lay nx s0 t).2.1 i), nI i)) (lay nx s0 t).1 (nI (rmk (lay nx s0 t).2.1 (lay nx s0 t).1), nI (lay nx s0 t).1) ?_ ?_ FU (by unfold FU; omega)
  · rw [show ((0 : Int32), (0 : Int32)) = (nI (rmk (lay nx s0 t).2.1 0), nI 0) from rfl, h, ob2_s]
  · intro i hi
    have hv := lv1 i hi
    have h1 := hv.1
    rw [un2_s]
    unfold b_X4_roomsOf_4
    rw [gin_k (by omega) (by omega), nI_cl (by omega), y1, if_neg (nI_ge hi (by omega)), show nI t * (56 : Int32) = nI (t * 56) from pk_mul t 56, nI_add, show t * 56 + i = 56 * t + i by omega, gin_k (by omega) (by omega), nI_cl (by omega), y2 i hi, cd_div (vS_7 hR hv), shl_k _ (by omega), bnd_s, bnd_s, fa_or, show nI i + 1 = nI (i + 1) from nI_1 i]
    rfl
  · rw [un2_s]
    unfold b_X4_roomsOf_4
    rw [gin_k (by omega) (by omega), nI_cl (by omega), y1, if_pos (nI_le (Nat.le_refl _) (by omega))]
theorem p_begin {bm per hs hb on st : Nat} {be : Option Nat} {ea : Bool} {b sg b0 s0' : Nat → Nat} {pairs sizes : Nat → Int32} (hhs : hs < 7) (hbe : ∀ x, be = some x → x < 7) (h1 : z0 10 b) (h2 : z0 12 sg) (h3 : z0 10 b0) (h4 : z0 12 s0') : f_X4_begin (nI bm) (nI per) (nI hs) (enc be) (nI hb) (nI on) (nI st) (bz ea) (rI b) (rI sg) (rI b0) (rI s0') pairs sizes = some (nI bm, enc be, bz ea, nI hb, nI hs, nI on, nI per, nI st, rI b, rI sg, upd pairs 0 (nI (cd (hs, be))), upd sizes 0 1) := by
  unfold f_X4_begin
  rw [p_copyFrom h1 h2 h3 h4, ob10_s, show gin (0 : Int32) 25 _ = _ from gin_k (k := 0) (by decide) (by decide), bnd_s, jn1_s, show (0 : Int32).toNatClampNeg = 0 from rfl]
  have key : ∀ v : Nat, (gin (0 : Int32) 1400 (bnd (upd pairs 0 (nI hs * (8 : Int32) + nI v)) fun t_pairs_17 => some (nI bm, enc be, bz ea, nI hb, nI hs, nI on, nI per, nI st, rI b, rI sg, t_pairs_17, upd sizes 0 1))) = some (nI bm, enc be, bz ea, nI hb, nI hs, nI on, nI per, nI st, rI b, rI sg, upd pairs 0 (nI (8 * hs + v)), upd sizes 0 1) := by
    intro v
    rw [show gin (0 : Int32) 1400 _ = _ from gin_k (k := 0) (by decide) (by decide), bnd_s, show nI hs * (8 : Int32) = nI (hs * 8) from pk_mul hs 8, nI_add, Nat.mul_comm]
  cases be with
  | none => rw [if_pos (show enc none = (-4 : Int32) from rfl)]; exact key 7
  | some x =>
    have := hbe x rfl
    rw [if_neg (show ¬ enc (some x) = (-4 : Int32) from ne4 (by omega))]
    exact key x
theorem LOK_0 {nx : Nat → Nat → St → Option St} {s0 : St} {pairs parents sizes steps : Nat → Int32} : LOK nx s0 0 (upd pairs 0 (nI (cd s0))) parents (upd sizes 0 1) steps := by
  intro t ht
  have : t = 0 := by omega
  subst this
  refine ⟨by rw [pk_us]; rfl, fun j hj => ?_, fun h => absurd h (by decide)⟩
  have : j = 0 := by
    have : j < 1 := hj
    omega
  subst this
  rw [pk_us]
  rfl
