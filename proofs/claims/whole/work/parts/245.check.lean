/-! ===== pure 45: what is checked of the whole text ===== -/
def ck1 (bad : Bool) (len : Int32) (c : Int32 × Int32) : Int32 × Int32 := if bad = true ∧ c.1 = 0 then (6, len) else c
def ckn (bad : Nat → Bool) (len : Int32) (c : Int32 × Int32) : Nat → Int32 × Int32
  | 0 => c
  | i + 1 => ck1 (bad i) len (ckn bad len c i)
theorem ck1_f (len : Int32) (c : Int32 × Int32) : ck1 false len c = c := by
  unfold ck1; rw [if_neg (fun h => by cases h.1)]
theorem ck1_t (len : Int32) (c : Int32 × Int32) (h : c.1 = 0) : ck1 true len c = (6, len) := by
  unfold ck1; rw [if_pos ⟨rfl, h⟩]
theorem ck1_n (b : Bool) (len : Int32) (c : Int32 × Int32) (h : ¬ c.1 = 0) : ck1 b len c = c := by
  unfold ck1; rw [if_neg (fun q => h q.2)]
theorem ckn_n (bad : Nat → Bool) (len : Int32) (c : Int32 × Int32) (h : ¬ c.1 = 0) : ∀ i, ckn bad len c i = c := by
  intro i
  induction i with
  | zero => rfl
  | succ i ih => rw [ckn, ih, ck1_n _ _ _ h]
theorem ckn_ok (bad : Nat → Bool) (len : Int32) (c : Int32 × Int32) : ∀ i, (∀ j, j < i → bad j = false) → ckn bad len c i = c := by
  intro i
  induction i with
  | zero => intro _; rfl
  | succ i ih => intro h; rw [ckn, ih (fun j hj => h j (by omega)), h i (by omega), ck1_f]
theorem ckn_bad (bad : Nat → Bool) (len : Int32) (c : Int32 × Int32) (h0 : c.1 = 0) : ∀ i, ¬ (∀ j, j < i → bad j = false) → ckn bad len c i = (6, len) := by
  intro i
  induction i with
  | zero => intro h; exact absurd (fun j hj => absurd hj (Nat.not_lt_zero _)) h
  | succ i ih =>
    intro h
    rw [ckn]
    by_cases c2 : ∀ j, j < i → bad j = false
    · rw [ckn_ok bad len c i c2]
      cases hb : bad i with
      | true => exact ck1_t _ _ h0
      | false =>
        exfalso
        exact h (fun j hj => by
          by_cases e : j = i
          · rw [e]; exact hb
          · exact c2 j (by omega))
    · rw [ih c2, ck1_n _ _ _ (show ¬ (6 : Int32) = 0 from by decide)]
theorem fail_6 (c : Int32 × Int32) (len : Int32) : f_X3_fail c.1 c.2 (6 : Int32) len = some ((ck1 true len c).1, (ck1 true len c).2) := by
  by_cases h : c.1 = 0
  · rw [ck1_t _ _ h, h, fail0]
  · rw [ck1_n _ _ _ h, failN h]
def rmB (rooms : Int32) (x : Int32) : Bool := decide ((0 : Int32) ≤ x ∧ x < rooms)
theorem p_rmB (rooms x : Int32) : f_X2_hasRoom rooms x = some (bz (rmB rooms x)) := p_hasRoom rooms x
theorem rmB_n {R x : Nat} (hR : R < 1000) (hx : x < 1000) : rmB (nI R) (nI x) = decide (x < R) := by
  unfold rmB
  rw [decide_eq_decide]
  exact ⟨fun h => (by
    have h2 := h.2
    rw [fa_lt, nI_toInt (by omega), nI_toInt (by omega)] at h2
    omega), fun h => ⟨nI_pos' (by omega), nI_lt h (by omega)⟩⟩
theorem p_dOf {Dn L : Nat} (hD : Dn ≤ 10) (hL : L < 210) : f_X2_hasDoorsOf (nI Dn) (nI L) = some (bz (decide (ld L < Dn ∧ (L < 100 → L % 10 < Dn)))) := by
  have hl : ld L < 10 := by unfold ld; split <;> omega
  unfold f_X2_hasDoorsOf
  rw [p_first L hL, ob1_s, show f_X2_hasDoor (nI Dn) (nI (ld L)) = some (bz (rmB (nI Dn) (nI (ld L)))) from p_hasDoor _ _, rmB_n (by omega) (by omega), ob1_s]
  by_cases c : ld L < Dn
  · rw [decide_eq_true c, bz_t, if_neg n10]
    by_cases c2 : 100 ≤ L
    · rw [if_pos (show (100 : Int32) ≤ nI L from nI_le (a := 100) c2 (by omega)), decide_eq_true (show ld L < Dn ∧ (L < 100 → L % 10 < Dn) from ⟨c, fun h => by omega⟩)]
      rfl
    · rw [if_neg (show ¬ (100 : Int32) ≤ nI L from nI_ge (b := 100) (by omega) (by omega)), p_second L hL, ob1_s, show f_X2_hasDoor (nI Dn) (nI (L % 10)) = some (bz (rmB (nI Dn) (nI (L % 10)))) from p_hasDoor _ _, rmB_n (by omega) (by omega), ob1_s]
      by_cases c3 : L % 10 < Dn
      · rw [decide_eq_true c3, bz_t, if_neg n10, decide_eq_true (show ld L < Dn ∧ (L < 100 → L % 10 < Dn) from ⟨c, fun _ => c3⟩)]
        rfl
      · rw [decide_eq_false c3, bz_f, if_pos rfl, decide_eq_false (show ¬ (ld L < Dn ∧ (L < 100 → L % 10 < Dn)) from fun h => c3 (h.2 (by omega)))]
        rfl
  · rw [decide_eq_false c, bz_f, if_pos rfl, decide_eq_false (show ¬ (ld L < Dn ∧ (L < 100 → L % 10 < Dn)) from fun h => c h.1)]
    rfl
def bd2 (rooms : Int32) (fe se : Nat → Int32) (d : Nat) : Bool := !(rmB rooms (fe d) && rmB rooms (se d))
def bd69 (Dn : Nat) (rl : Nat → Nat) (k : Nat) : Bool := !decide (ld (rl k) < Dn ∧ (rl k < 100 → rl k % 10 < Dn))
def bd3 (rooms his beast : Int32) : Bool := !(rmB rooms his && (decide (beast = -4) || rmB rooms beast))
def ck7 (b : Bool) (len : Int32) (c : Int32 × Int32) : Int32 × Int32 := if b = true ∧ c.1 = 0 then (7, len) else c
theorem fail_7 (c : Int32 × Int32) (len : Int32) : f_X3_fail c.1 c.2 (7 : Int32) len = some ((ck7 true len c).1, (ck7 true len c).2) := by
  unfold ck7
  by_cases h : c.1 = 0
  · rw [if_pos ⟨rfl, h⟩, h, fail0]
  · rw [if_neg (fun q => h q.2), failN h]
theorem p_check {n Dn K : Nat} {f g rooms his beast : Int32} {fe se : Nat → Int32} {rl : Nat → Nat} (hD : Dn ≤ 10) (hK : K ≤ 6) (hrl : ∀ k, rl k < 210) : f_X3_checkWhole (nI n) f g rooms (nI Dn) (nI K) fe (rI rl) his beast se = some ((ck7 (decide (beast = his)) (nI n) (ck1 (bd3 rooms his beast) (nI n) (ckn (bd69 Dn rl) (nI n) (ckn (bd2 rooms fe se) (nI n) (f, g) Dn) K))).1, (ck7 (decide (beast = his)) (nI n) (ck1 (bd3 rooms his beast) (nI n) (ckn (bd69 Dn rl) (nI n) (ckn (bd2 rooms fe se) (nI n) (f, g) Dn) K))).2) := by
  have h1 := itr_count (step := un3 (b_X3_checkWhole_2 (nI n) rooms (nI Dn) fe se)) (fun i => (nI i, (ckn (bd2 rooms fe se) (nI n) (f, g) i).1, (ckn (bd2 rooms fe se) (nI n) (f, g) i).2)) Dn (nI Dn, (ckn (bd2 rooms fe se) (nI n) (f, g) Dn).1, (ckn (bd2 rooms fe se) (nI n) (f, g) Dn).2) ?_ ?_ FU (by unfold FU; omega)
  · have h2 := itr_count (step := un3 (b_X3_checkWhole_69 (nI n) (nI Dn) (nI K) (rI rl))) (fun i => (nI i, (ckn (bd69 Dn rl) (nI n) (ckn (bd2 rooms fe se) (nI n) (f, g) Dn) i).1, (ckn (bd69 Dn rl) (nI n) (ckn (bd2 rooms fe se) (nI n) (f, g) Dn) i).2)) K (nI K, (ckn (bd69 Dn rl) (nI n) (ckn (bd2 rooms fe se) (nI n) (f, g) Dn) K).1, (ckn (bd69 Dn rl) (nI n) (ckn (bd2 rooms fe se) (nI n) (f, g) Dn) K).2) ?_ ?_ FU (by unfold FU; omega)
    · unfold f_X3_checkWhole
      rw [show ((0 : Int32), f, g) = ((fun i => (nI i, (ckn (bd2 rooms fe se) (nI n) (f, g) i).1, (ckn (bd2 rooms fe se) (nI n) (f, g) i).2)) 0) from rfl, h1, ob3_s, show ((0 : Int32), (ckn (bd2 rooms fe se) (nI n) (f, g) Dn).1, (ckn (bd2 rooms fe se) (nI n) (f, g) Dn).2) = ((fun i => (nI i, (ckn (bd69 Dn rl) (nI n) (ckn (bd2 rooms fe se) (nI n) (f, g) Dn) i).1, (ckn (bd69 Dn rl) (nI n) (ckn (bd2 rooms fe se) (nI n) (f, g) Dn) i).2)) 0) from rfl, h2, ob3_s]
      generalize ckn (bd69 Dn rl) (nI n) (ckn (bd2 rooms fe se) (nI n) (f, g) Dn) K = c
      rw [p_rmB, ob1_s, jn2_s, jn0_s, p_rmB, ob1_s, fail_6, ob2_s]
      dsimp only
      have fin : ∀ q : Int32 × Int32, (if beast = his then ob2 (f_X3_fail q.1 q.2 (7 : Int32) (nI n)) (fun x y => some (x, y)) else some (q.1, q.2)) = some ((ck7 (decide (beast = his)) (nI n) q).1, (ck7 (decide (beast = his)) (nI n) q).2) := by
        intro q
        by_cases hb : beast = his
        · rw [if_pos hb, fail_7, ob2_s, decide_eq_true hb]
        · rw [if_neg hb, decide_eq_false hb]
          unfold ck7
          rw [if_neg (fun z => by cases z.1)]
      rw [fin, fin]
      unfold bd3
      cases rmB rooms his with
      | false => rw [bz_f, if_pos rfl]; rfl
      | true =>
        rw [bz_t, if_neg n10]
        by_cases hb : beast = -4
        · rw [if_pos hb, decide_eq_true hb]
          rw [show (!(true && (true || rmB rooms beast))) = false from rfl, ck1_f]
        · rw [if_neg hb, decide_eq_false hb]
          cases rmB rooms beast with
          | false => rw [bz_f, if_pos rfl]; rfl
          | true => rw [bz_t, if_neg n10, show (!(true && (false || true))) = false from rfl, ck1_f]
    · intro k hk
      rw [un3_s]
      unfold b_X3_checkWhole_69
      rw [if_neg (nI_ge hk (by omega)), gin_k (by omega) (by omega), nI_cl (by omega), rI_at, p_dOf hD (hrl k), ob1_s, jn2_s, fail_6, ob2_s]
      simp only [bnd_s, show nI k + (1 : Int32) = nI (k + 1) from nI_1 k]
      rw [ckn]
      generalize ckn (bd69 Dn rl) (nI n) (ckn (bd2 rooms fe se) (nI n) (f, g) Dn) k = c
      unfold bd69
      cases decide (ld (rl k) < Dn ∧ (rl k < 100 → rl k % 10 < Dn)) with
      | true => rw [bz_t, if_neg n10, Bool.not_true, ck1_f]
      | false => rw [bz_f, if_pos rfl, Bool.not_false]
    · rw [un3_s]
      unfold b_X3_checkWhole_69
      rw [if_pos (nI_le (Nat.le_refl _) (by omega))]
  · intro d hd
    rw [un3_s]
    unfold b_X3_checkWhole_2
    rw [if_neg (nI_ge hd (by omega)), gin_k (by omega) (by omega), nI_cl (by omega), p_rmB, ob1_s, jn2_s, jn0_s, gin_k (by omega) (by omega), p_rmB, ob1_s, fail_6, ob2_s]
    simp only [bnd_s, show nI d + (1 : Int32) = nI (d + 1) from nI_1 d]
    rw [ckn]
    generalize ckn (bd2 rooms fe se) (nI n) (f, g) d = c
    unfold bd2
    cases rmB rooms (fe d) with
    | false => rw [bz_f, if_pos rfl]; rfl
    | true =>
      rw [bz_t, if_neg n10]
      cases rmB rooms (se d) with
      | false => rw [bz_f, if_pos rfl]; rfl
      | true => rw [bz_t, if_neg n10, show (!(true && true)) = false from rfl, ck1_f]
  · rw [un3_s]
    unfold b_X3_checkWhole_2
    rw [if_pos (nI_le (Nat.le_refl _) (by omega))]
theorem p_checkBad {n Dn K : Nat} {f g rooms his beast : Int32} {fe se : Nat → Int32} {rl : Nat → Nat} (hD : Dn ≤ 10) (hK : K ≤ 6) (hrl : ∀ k, rl k < 210) (hf : ¬ f = 0) : f_X3_checkWhole (nI n) f g rooms (nI Dn) (nI K) fe (rI rl) his beast se = some (f, g) := by
  rw [p_check hD hK hrl, ckn_n (bd2 rooms fe se) (nI n) (f, g) hf, ckn_n (bd69 Dn rl) (nI n) (f, g) hf, ck1_n _ (nI n) (f, g) hf]
  unfold ck7
  rw [if_neg (fun q => hf q.2)]
theorem encH {be : Option Nat} {hs : Nat} (hs7 : hs < 7) (hb : ∀ x, be = some x → x < 7) : (enc be = nI hs) ↔ be = some hs := by
  cases be with
  | none => exact ⟨fun h => absurd h.symm (ne4 (by omega)), fun h => by cases h⟩
  | some x =>
    have := hb x rfl
    exact ⟨fun h => by rw [nI_inj (by omega) (by omega) h], fun h => by cases h; rfl⟩
theorem p_checkOk {n R Dn K hs hR hD : Nat} {be : Option Nat} {g : Int32} {a b rl : Nat → Nat} (hR2 : 2 ≤ R) (hR7 : R ≤ 7) (hDn : Dn ≤ 10) (hK : K ≤ 6) (hrl : ∀ k, rl k < 210) (h7a : lt7 a) (h7b : lt7 b) (hs7 : hs < 7) (hbe : ∀ x, be = some x → x < 7) (hHR : HRp Dn hs be a b hR) (hHD : HDp K rl hD) : f_X3_checkWhole (nI n) (0 : Int32) g (nI R) (nI Dn) (nI K) (rI a) (rI rl) (nI hs) (enc be) (rI b) = some (if hR ≤ R ∧ hD ≤ Dn then (if be = some hs then ((7 : Int32), nI n) else ((0 : Int32), g)) else ((6 : Int32), nI n)) := by
  rw [p_check hDn hK hrl]
  have e2 : ∀ d, bd2 (nI R) (rI a) (rI b) d = false ↔ (a d < R ∧ b d < R) := by
    intro d
    have h1 := h7a d
    have h2 := h7b d
    unfold bd2
    rw [rI_at, rI_at, rmB_n (by omega) (by omega), rmB_n (by omega) (by omega)]
    simp
  have e69 : ∀ k, bd69 Dn rl k = false ↔ (ld (rl k) < Dn ∧ (rl k < 100 → rl k % 10 < Dn)) := by
    intro k
    unfold bd69
    simp
  have e3 : bd3 (nI R) (nI hs) (enc be) = false ↔ (hs < R ∧ ∀ x, be = some x → x < R) := by
    unfold bd3
    rw [rmB_n (by omega) (by omega)]
    cases be with
    | none =>
      rw [show enc none = (-4 : Int32) from rfl]
      simp
    | some x =>
      have hx := hbe x rfl
      rw [show enc (some x) = nI x from rfl, rmB_n (by omega) (by omega), decide_eq_false (ne4 (by omega))]
      simp
  have hR' := hHR R (by omega)
  have hD' := hHD Dn
  have e7 : decide (enc be = nI hs) = decide (be = some hs) := by rw [decide_eq_decide]; exact encH hs7 hbe
  rw [e7]
  by_cases c : hR ≤ R ∧ hD ≤ Dn
  · obtain ⟨q1, q2, q3⟩ := hR'.mp c.1
    rw [ckn_ok (bd2 (nI R) (rI a) (rI b)) _ _ Dn (fun d hd => (e2 d).mpr (q1 d hd)), ckn_ok (bd69 Dn rl) _ _ K (fun k hk => (e69 k).mpr (hD'.mp c.2 k hk)), e3.mpr ⟨q2, q3⟩, ck1_f, if_pos c]
    unfold ck7
    by_cases cb : be = some hs
    · rw [if_pos ⟨decide_eq_true cb, rfl⟩, if_pos cb]
    · rw [if_neg (fun q => cb (of_decide_eq_true q.1)), if_neg cb]
  · rw [if_neg c]
    have key : ck1 (bd3 (nI R) (nI hs) (enc be)) (nI n) (ckn (bd69 Dn rl) (nI n) (ckn (bd2 (nI R) (rI a) (rI b)) (nI n) ((0 : Int32), g) Dn) K) = ((6 : Int32), nI n) := by
      by_cases c1 : ∀ d, d < Dn → bd2 (nI R) (rI a) (rI b) d = false
      · rw [ckn_ok _ _ _ _ c1]
        by_cases c2 : ∀ k, k < K → bd69 Dn rl k = false
        · rw [ckn_ok _ _ _ _ c2]
          cases hb : bd3 (nI R) (nI hs) (enc be) with
          | true => exact ck1_t _ _ rfl
          | false =>
            exfalso
            obtain ⟨q1, q2⟩ := e3.mp hb
            exact c ⟨hR'.mpr ⟨fun d hd => (e2 d).mp (c1 d hd), q1, q2⟩, hD'.mpr (fun k hk => (e69 k).mp (c2 k hk))⟩
        · rw [ckn_bad _ _ _ rfl _ c2, ck1_n _ _ _ (show ¬ (6 : Int32) = 0 from by decide)]
      · rw [ckn_bad _ _ _ rfl _ c1, ckn_n _ _ _ (show ¬ (6 : Int32) = 0 from by decide), ck1_n _ _ _ (show ¬ (6 : Int32) = 0 from by decide)]
    rw [key]
    unfold ck7
    rw [if_neg (fun q => absurd q.2 (show ¬ (6 : Int32) = 0 from by decide))]
/-! the reference's own ends -/
theorem m_begins (rp0 : Nat → Int32) : ∃ rp, f_X8_beginsText rp0 = some ((0 : Int32), (-1 : Int32), (-1 : Int32), (0 : Int32), (0 : Int32), (2 : Int32), (12 : Int32), (0 : Int32), (0 : Int32), rp) ∧ ∀ k, k < 49 → rp k = 0 := by
  have h := itr_count (step := un2 b_X8_beginsText_48) (fun i => (nI i, fun j => if j < i then (0 : Int32) else rp0 j)) 49 (nI 49, fun j => if j < 49 then (0 : Int32) else rp0 j) ?_ ?_ FU (by unfold FU; omega)
  · refine ⟨fun j => if j < 49 then (0 : Int32) else rp0 j, ?_, fun k hk => if_pos hk⟩
    unfold f_X8_beginsText
    rw [show ((0 : Int32), rp0) = ((fun i => (nI i, fun j => if j < i then (0 : Int32) else rp0 j)) 0) from by
      show (nI 0, rp0) = (nI 0, fun j => if j < 0 then (0 : Int32) else rp0 j)
      congr 1, h, ob2_s]
  · intro i hi
    rw [un2_s]
    unfold b_X8_beginsText_48
    rw [if_neg (show ¬ (49 : Int32) ≤ nI i from nI_ge (b := 49) hi (by omega)), gin_k hi (by omega), bnd_s, bnd_s, show nI i + (1 : Int32) = nI (i + 1) from nI_1 i, nI_cl (by omega)]
    congr 4
    funext j
    by_cases e : j = i
    · rw [e, pk_us, if_pos (by omega)]
    · rw [pk_un e]
      by_cases c : j < i
      · rw [if_pos c, if_pos (by omega)]
      · rw [if_neg c, if_neg (by omega)]
  · rw [un2_s]
    unfold b_X8_beginsText_48
    rw [if_pos (by decide)]
theorem m_lays (rw_ rp lw g : Nat → Int32) : itr (un3 (b_X8_text_131 rw_ rp)) FU ((0 : Int32), lw, g) = some (nI 49, (fun j => if j < 49 ∧ j < 18 then rw_ j else lw j), (fun j => if j < 49 then rp j else g j)) := by
  have h := itr_count (step := un3 (b_X8_text_131 rw_ rp)) (fun i => (nI i, (fun j => if j < i ∧ j < 18 then rw_ j else lw j), (fun j => if j < i then rp j else g j))) 49 (nI 49, (fun j => if j < 49 ∧ j < 18 then rw_ j else lw j), (fun j => if j < 49 then rp j else g j)) ?_ ?_ FU (by unfold FU; omega)
  · rw [show ((0 : Int32), lw, g) = ((fun i => (nI i, (fun j => if j < i ∧ j < 18 then rw_ j else lw j), (fun j => if j < i then rp j else g j))) 0) from by
      show (nI 0, lw, g) = (nI 0, (fun j => if j < 0 ∧ j < 18 then rw_ j else lw j), (fun j => if j < 0 then rp j else g j))
      congr 2]
    exact h
  · intro i hi
    rw [un3_s]
    unfold b_X8_text_131
    have er : nI i - nI i / (18 : Int32) * (18 : Int32) = nI (i % 18) := pk_rem (d := 18) (by omega) (by omega) (by omega)
    have hm : i % 18 < 18 := Nat.mod_lt _ (by omega)
    rw [if_neg (show ¬ (49 : Int32) ≤ nI i from nI_ge (b := 49) hi (by omega)), gin_k (by omega) (by omega), gin_k (by omega) (by omega), bnd_s, er, g18 hm, g18 hm, bnd_s, bnd_s, show nI i + (1 : Int32) = nI (i + 1) from nI_1 i, nI_cl (by omega), nI_cl (by omega)]
    congr 4
    · funext j
      by_cases e : j = i % 18
      · rw [e, pk_us, if_pos (by omega)]
      · rw [pk_un e]
        by_cases c : j < i ∧ j < 18
        · rw [if_pos c, if_pos (by omega)]
        · rw [if_neg c, if_neg]
          intro q
          have : j = i := by omega
          exact e (by rw [this, Nat.mod_eq_of_lt (by omega)])
    · funext j
      by_cases e : j = i
      · rw [e, pk_us, if_pos (by omega)]
      · rw [pk_un e]
        by_cases c : j < i
        · rw [if_pos c, if_pos (by omega)]
        · rw [if_neg c, if_neg (by omega)]
  · rw [un3_s]
    unfold b_X8_text_131
    rw [if_pos (by decide)]
