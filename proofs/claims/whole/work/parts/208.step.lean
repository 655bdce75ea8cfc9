/-! a step of the reference's, in three cuts (texts of f_X8_stepsBy) -/
def sbd2 (t_roomMany t_lawMany : Int32) (t_laws t_work : Nat → Int32) (p2 v3_5 : Int32) (t_state_6 : Nat → Int32) : Option (Int32 × (Nat → Int32) × (Nat → Int32)) :=
  (gin (31 : Int32) 196 (bnd (upd t_state_6 (31 : Int32).toNatClampNeg p2) (fun t_state_9 =>
 (jn1 (fun (s_10 : Int32) => (gin (48 : Int32) 196 (bnd (upd t_state_9 (48 : Int32).toNatClampNeg s_10) (fun t_state_13 =>
 (gin (47 : Int32) 196 (gin (47 : Int32) 196 (bnd (upd t_state_13 (47 : Int32).toNatClampNeg ((t_state_13 (47 : Int32).toNatClampNeg) + (1 : Int32))) (fun t_state_16 =>
 (gin (47 : Int32) 196 (gin (30 : Int32) 196 (gnz ((t_state_16 (30 : Int32).toNatClampNeg) + (1 : Int32)) (jn2 (fun (t_state_20 : Nat → Int32) (t_work_21 : Nat → Int32) => (if v3_5 = p2 then
 (some ((p2 + (10 : Int32)), t_state_20, t_work_21))
 else (some ((p2 + (0 : Int32)), t_state_20, t_work_21)))) (fun j_22 =>
 (if ((t_state_16 (47 : Int32).toNatClampNeg) - (t_state_16 (47 : Int32).toNatClampNeg) / ((t_state_16 (30 : Int32).toNatClampNeg) + (1 : Int32)) * ((t_state_16 (30 : Int32).toNatClampNeg) + (1 : Int32))) = (0 : Int32) then
 (ob1 (f_X8_worksNow t_state_16 t_work) (fun t_work_25 =>
 (ob1 (f_X8_dusks t_roomMany t_lawMany t_laws t_work_25) (fun t_work_27 =>
 (ob2 (itr (un2 (b_X8_stepsBy_166 t_work_27)) FU ((0 : Int32), t_state_16)) (fun x4_37 t_state_38 =>
 (j_22 t_state_38 t_work_27)))))))
 else (j_22 t_state_16 t_work))))))))))))))) (fun j_11 =>
 (if v3_5 = p2 then
 (j_11 (1 : Int32))
 else (j_11 (0 : Int32))))))))
def sbd1 (t_roomMany t_doorMany t_lawMany : Int32) (t_laws t_work : Nat → Int32) (p2 : Int32) (t_state_1 : Nat → Int32) : Option (Int32 × (Nat → Int32) × (Nat → Int32)) :=
  (ob1 (f_X8_beastNow t_state_1) (fun r_3 =>
 (jn2 (fun (v3_5 : Int32) (t_state_6 : Nat → Int32) => sbd2 t_roomMany t_lawMany t_laws t_work p2 v3_5 t_state_6) (fun j_7 =>
 (if r_3 = (-4 : Int32) then
 (j_7 r_3 t_state_1)
 else (if r_3 = p2 then
 (j_7 r_3 t_state_1)
 else (gin (33 : Int32) 196 (gin (47 : Int32) 196 (ob1 (f_X8_goesTo t_doorMany 196 t_state_1 (0 : Int32) r_3 p2 (t_state_1 (33 : Int32).toNatClampNeg) (t_state_1 (47 : Int32).toNatClampNeg)) (fun r_44 =>
 (gin (32 : Int32) 196 (bnd (upd t_state_1 (32 : Int32).toNatClampNeg (r_44 + (1 : Int32))) (fun t_state_47 =>
 (j_7 r_44 t_state_47))))))))))))))
theorem m_copy30 (wk g : Nat → Int32) : ∃ g', itr (un2 (b_X8_stepsBy_166 wk)) FU ((0 : Int32), g) = some (nI 30, g') ∧ (∀ k, k < 30 → g' k = wk k) ∧ ∀ k, 30 ≤ k → g' k = g k := by
  have hh := itr_inv (step := un2 (b_X8_stepsBy_166 wk)) (fun i x => x.1 = nI i ∧ (∀ k, k < i → x.2 k = wk k) ∧ ∀ k, i ≤ k → x.2 k = g k) 30 (fun o => o.1 = nI 30 ∧ (∀ k, k < 30 → o.2 k = wk k) ∧ ∀ k, 30 ≤ k → o.2 k = g k) ?_ ?_ ((0 : Int32), g) ⟨rfl, fun k hk => absurd hk (Nat.not_lt_zero _), fun _ _ => rfl⟩ FU (by unfold FU; omega)
  · obtain ⟨⟨o1, o2⟩, e, q1, q2, q3⟩ := hh
    simp only at q1 q2 q3
    subst q1
    exact ⟨o2, e, q2, q3⟩
  · rintro i ⟨x1, x2⟩ hi ⟨h1, h2, h3⟩
    simp only at h1 h2 h3
    subst h1
    refine ⟨(nI (i + 1), upd x2 i (wk i)), ?_, rfl, ?_, ?_⟩
    · rw [un2_s]
      unfold b_X8_stepsBy_166
      rw [if_neg (show ¬ (30 : Int32) ≤ nI i from nI_ge (b := 30) hi (by omega)), gin_k (by omega) (by omega), gin_k (by omega) (by omega), nI_cl (by omega), bnd_s, bnd_s, show nI i + 1 = nI (i + 1) from nI_1 i]
    · intro k hk
      simp only
      by_cases c : k = i
      · rw [c, pk_us]
      · rw [pk_un c]; exact h2 k (by omega)
    · intro k hk
      simp only
      rw [pk_un (by omega)]; exact h3 k (by omega)
  · rintro ⟨x1, x2⟩ ⟨h1, h2, h3⟩
    simp only at h1 h2 h3
    subst h1
    refine ⟨(nI 30, x2), ?_, rfl, h2, h3⟩
    rw [un2_s]
    unfold b_X8_stepsBy_166
    rw [if_pos (show (30 : Int32) ≤ nI 30 from nI_le (a := 30) (Nat.le_refl 30) (by omega))]
theorem m_sbd2 {R K Dn : Nat} {a b rl : Nat → Nat} {bm per : Nat} {bb : Option Nat} {hb on st to : Nat} {sg : Nat → Nat} {g lw wk : Nat → Int32} (hD : Dn ≤ 10) (hK : K ≤ 6) (hl : lwr lw K rl) (hok : ∀ k, k < K → lok Dn (rl k)) (hR : 0 < R) (hR7 : R ≤ 7) (h7 : lt7 b) (hp : 0 < per) (hp6 : per ≤ 6) (hst : st < 99000) (hon : on ≤ 12) (hbb : ∀ x, bb = some x → x < 7) (hto : to < 7) (h1 : hse g 0 Dn a b bm) (h2 : g 30 = nI (per - 1)) (h4 : g 32 = enb bb) (h5 : g 33 = nI hb) (h6 : ∀ i, i < on → g (34 + i) = nI (sg i)) (h7' : g 46 = nI on) (h8 : g 47 = nI st) : ∃ g' w', sbd2 (nI R) (nI K) lw wk (nI to) (enc bb) g = some (nI (to + if bb = some to then 10 else 0), g', w') ∧ PgM Dn a (tick R K rl per st (b, bm)).1 (tick R K rl per st (b, bm)).2 per to bb hb on sg (st + 1) (bb == some to) g' 0 ∧ ∀ j, 49 ≤ j → g' j = g j := by
  unfold sbd2
  simp only [g31, g48, g47, g30, k31, k48, k47, k30, bnd_s, jn1_s, jn2_s]
  generalize hg5 : (fun s_10 : Int32 => upd (upd (upd g 31 (nI to)) 48 s_10) 47 ((upd (upd g 31 (nI to)) 48 s_10) 47 + 1)) = g5
  have hg : ∀ s_10, upd (upd (upd g 31 (nI to)) 48 s_10) 47 ((upd (upd g 31 (nI to)) 48 s_10) 47 + 1) = g5 s_10 := fun s_10 => by rw [← hg5]
  simp only [hg]
  have main : ∀ (s9 c9 : Int32), s9 = bz (bb == some to) → nI to + c9 = nI (to + if bb = some to then 10 else 0) → ∃ g' w', (gnz (g5 s9 30 + 1) (if g5 s9 47 - g5 s9 47 / (g5 s9 30 + 1) * (g5 s9 30 + 1) = 0 then ob1 (f_X8_worksNow (g5 s9) wk) fun t_work_25 => ob1 (f_X8_dusks (nI R) (nI K) lw t_work_25) fun t_work_27 => ob2 (itr (un2 (b_X8_stepsBy_166 t_work_27)) FU (0, g5 s9)) fun x4_37 t_state_38 => some (nI to + c9, t_state_38, t_work_27) else some (nI to + c9, g5 s9, wk))) = some (nI (to + if bb = some to then 10 else 0), g', w') ∧ PgM Dn a (tick R K rl per st (b, bm)).1 (tick R K rl per st (b, bm)).2 per to bb hb on sg (st + 1) (bb == some to) g' 0 ∧ ∀ j, 49 ≤ j → g' j = g j := by
    intro s9 c9 hs9 hc9
    subst hs9
    rw [hc9]
    have f47 : g5 (bz (bb == some to)) 47 = nI (st + 1) := by
      rw [← hg5]; simp only
      rw [pk_us, pk_un (by omega), pk_un (by omega), h8]
      exact nI_1 st
    have f30 : g5 (bz (bb == some to)) 30 = nI (per - 1) := by
      rw [← hg5]; simp only
      rw [pk_un (by omega), pk_un (by omega), pk_un (by omega), h2]
    have f31 : g5 (bz (bb == some to)) 31 = nI to := by
      rw [← hg5]; simp only
      rw [pk_un (by omega), pk_un (by omega), pk_us]
    have f48 : g5 (bz (bb == some to)) 48 = bz (bb == some to) := by
      rw [← hg5]; simp only
      rw [pk_un (by omega), pk_us]
    have fo : ∀ k, k ≠ 31 → k ≠ 47 → k ≠ 48 → g5 (bz (bb == some to)) k = g k := by
      intro k k1 k2 k3
      rw [← hg5]; simp only
      rw [pk_un k2, pk_un k3, pk_un k1]
    generalize g5 (bz (bb == some to)) = g6 at f47 f30 f31 f48 fo ⊢
    rw [f47, f30, show nI (per - 1) + 1 = nI (per - 1 + 1) from nI_1 _, show per - 1 + 1 = per by omega, gnz_k hp (by omega), pk_rem (by omega) hp (by omega)]
    have hh6 : hse g6 0 Dn a b bm := hse_congr h1 hD (fun k hk => by rw [Nat.zero_add]; exact fo k (by omega) (by omega) (by omega))
    unfold tick
    have hm : (st + 1) % per < per := Nat.mod_lt _ hp
    by_cases hz : (st + 1) % per = 0
    · rw [if_pos (show nI ((st + 1) % per) = 0 by rw [hz]; rfl), if_pos hz]
      obtain ⟨w1, e1, q1, q2⟩ := m_worksNow g6 wk
      obtain ⟨w2, e2, q3, q4⟩ := m_dusks (R := R) (hse_of hh6 hD q1) hD hK hl hok hR hR7 h7
      obtain ⟨g7, e3, q5, q6⟩ := m_copy30 w2 g6
      rw [e1, ob1_s, e2, ob1_s, e3, ob2_s]
      refine ⟨g7, w2, rfl, ⟨hse_of q3 hD q5, ?_, ?_, ?_, ?_, ?_, ?_, ?_, ?_⟩, fun j hj => by rw [q6 j (by omega), fo j (by omega) (by omega) (by omega)]⟩
      all_goals simp only [Nat.zero_add]
      · rw [q6 30 (by omega)]; exact f30
      · rw [q6 31 (by omega)]; exact f31
      · rw [q6 32 (by omega), fo 32 (by omega) (by omega) (by omega)]; exact h4
      · rw [q6 33 (by omega), fo 33 (by omega) (by omega) (by omega)]; exact h5
      · intro i hi; rw [q6 (34 + i) (by omega), fo (34 + i) (by omega) (by omega) (by omega)]; exact h6 i hi
      · rw [q6 46 (by omega), fo 46 (by omega) (by omega) (by omega)]; exact h7'
      · rw [q6 47 (by omega)]; exact f47
      · rw [q6 48 (by omega)]; exact f48
    · rw [if_neg (nI_ne0 (by omega) (by omega)), if_neg hz]
      refine ⟨g6, wk, rfl, ⟨hh6, ?_, ?_, ?_, ?_, ?_, ?_, ?_, ?_⟩, fun j hj => fo j (by omega) (by omega) (by omega)⟩
      all_goals simp only [Nat.zero_add]
      · exact f30
      · exact f31
      · rw [fo 32 (by omega) (by omega) (by omega)]; exact h4
      · rw [fo 33 (by omega) (by omega) (by omega)]; exact h5
      · intro i hi; rw [fo (34 + i) (by omega) (by omega) (by omega)]; exact h6 i hi
      · rw [fo 46 (by omega) (by omega) (by omega)]; exact h7'
      · exact f47
      · exact f48
  by_cases h : bb = some to
  · have hc := (enc_some_ne hbb hto).mpr h
    simp only [if_pos hc]
    exact main 1 10 (by rw [h]; simp [bz]) (by rw [if_pos h]; exact nI_add to 10)
  · have hc : ¬ enc bb = nI to := fun q => h ((enc_some_ne hbb hto).mp q)
    simp only [if_neg hc]
    have e0 : (bb == some to) = false := by simpa using h
    exact main 0 0 (by rw [e0]; rfl) (by rw [if_neg h]; exact nI_add to 0)
