/-! ===== pure 39: what a text tells, on both sides ===== -/
def AW (a rl b : Nat → Nat) : Prop := lt7 a ∧ z0 10 a ∧ lt7 b ∧ z0 10 b ∧ (∀ k, rl k < 210) ∧ z0 6 rl
def HRp (Dn hs : Nat) (be : Option Nat) (a b : Nat → Nat) (hR : Nat) : Prop := ∀ Y, 1 ≤ Y → (hR ≤ Y ↔ ((∀ d, d < Dn → a d < Y ∧ b d < Y) ∧ hs < Y ∧ ∀ x, be = some x → x < Y))
def HDp (K : Nat) (rl : Nat → Nat) (hD : Nat) : Prop := ∀ Y, hD ≤ Y ↔ ∀ k, k < K → ld (rl k) < Y ∧ (rl k < 100 → rl k % 10 < Y)
def RDp (R Dn K SL : Nat) (a rl : Nat → Nat) (bm per hs : Nat) (be : Option Nat) (hb : Nat) (b : Nat → Nat) (to tm hR hD : Nat) : Prop := (2 ≤ R ∧ R ≤ 7 ∧ Dn ≤ 10 ∧ K ≤ 6 ∧ SL ≤ 12) ∧ AW a rl b ∧ (bm < 2 ^ Dn ∧ 1 ≤ per ∧ per ≤ 6 ∧ hs < 7 ∧ (∀ x, be = some x → x < 7) ∧ hb < 4) ∧ (to < 32 ∧ tm < 512 ∧ TR to tm ∧ (to.testBit 2 = false → hs = 0) ∧ (to.testBit 3 = false → be = none)) ∧ (hR ≤ 10 ∧ hD ≤ 10 ∧ HRp Dn hs be a b hR ∧ HDp K rl hD)
def RDm (Dn K : Nat) (a rl : Nat → Nat) (bm per hs : Nat) (be : Option Nat) (hb : Nat) (b : Nat → Nat) (rw_ rp : Nat → Int32) : Prop := hse rp 0 Dn a b bm ∧ rp 30 = nI (per - 1) ∧ rp 31 = nI hs ∧ rp 32 = enb be ∧ rp 33 = nI hb ∧ (∀ k, 34 ≤ k → k < 49 → rp k = 0) ∧ (∀ d, Dn ≤ d → d < 10 → rp (3 * d + 2) = 0) ∧ lwr rw_ K rl
def DRel (t dc rooms rc sl : Int32) (fe rules : Nat → Int32) (bd beast hab his per : Int32) (se : Nat → Int32) (mhD mhR rd rk rr rs tl : Int32) (rw_ rp : Nat → Int32) : Prop := ∃ (R Dn K SL : Nat) (a rl : Nat → Nat) (bm pe hs : Nat) (be : Option Nat) (hb : Nat) (b : Nat → Nat) (to tm hR hD : Nat), RDp R Dn K SL a rl bm pe hs be hb b to tm hR hD ∧ RDm Dn K a rl bm pe hs be hb b rw_ rp ∧ (t = nI to ∧ dc = nI Dn ∧ rooms = nI R ∧ rc = nI K ∧ sl = nI SL ∧ fe = rI a ∧ rules = rI rl ∧ bd = nI bm ∧ beast = enc be ∧ hab = nI hb ∧ his = nI hs ∧ per = nI pe ∧ se = rI b) ∧ (mhD = HI hD ∧ mhR = HI hR ∧ rd = nI Dn ∧ rk = nI K ∧ rr = nI R ∧ rs = nI SL ∧ tl = nI tm)
/-- a line is read on both sides -/
def LnO (w : Nat → Nat) (n p : Nat) (cr : Option (Int32 × Int32 × Int32 × Int32 × Int32 × Int32 × Int32 × Int32 × Int32 × Int32 × Int32 × (Nat → Int32) × (Nat → Int32) × Int32 × Int32 × Int32 × Int32 × Int32 × (Nat → Int32))) (mr : Option (Int32 × Int32 × Int32 × Int32 × Int32 × Int32 × Int32 × Int32 × Int32 × Int32 × Int32 × Int32 × Int32 × (Nat → Int32) × (Nat → Int32))) : Prop := ∃ (S : Ps) (f g k p' s t v dc rooms rc sl : Int32) (fe rules : Nat → Int32) (bd beast hab his per : Int32) (se : Nat → Int32) (mf mg ms mhD mhR rd rk rr rs mp mk tl mv : Int32) (rw_ rp : Nat → Int32), cr = some (f, g, k, p', s, t, v, dc, rooms, rc, sl, fe, rules, bd, beast, hab, his, per, se) ∧ mr = some (mf, mg, ms, mhD, mhR, rd, rk, rr, rs, mp, mk, tl, mv, rw_, rp) ∧ LC n S f g p' s ∧ LT w n (lx w n S) mf mg mk mp ms mv ∧ (∃ a rl b, fe = rI a ∧ rules = rI rl ∧ se = rI b ∧ AW a rl b ∧ ∃ Dn K, dc = nI Dn ∧ rc = nI K ∧ Dn ≤ 10 ∧ K ≤ 6) ∧ (∀ p9, S = .inl p9 → p < p9 ∧ p9 ≤ n ∧ DRel t dc rooms rc sl fe rules bd beast hab his per se mhD mhR rd rk rr rs tl rw_ rp)
/-- not before a place -/
def dn (n q : Nat) (S : Ps) : Prop := ∀ s, S = .inl s → q ≤ s ∧ s ≤ n
theorem dn_inr {n q : Nat} {x : Nat × Nat} : dn n q (.inr x) := fun _ h => by cases h
theorem dn_lx {w : Nat → Nat} {n q : Nat} {S : Ps} (h : dn n q S) : dn n q (lx w n S) := fun s hs => h s (lx_inl hs).1
theorem dn_nmb {w : Nat → Nat} {n q lo hi : Nat} {T : Ps} (h : dn n q T) : dn n q (nmb w n T lo hi).1 := fun s hs => h s (nmb_inl hs).1
theorem dn_cns {w : Nat → Nat} {n q : Nat} {T : Ps} (h : dn n q T) : dn n q (cns w n T) := by
  intro s hs
  cases T with
  | inr x => cases hs
  | inl p =>
    obtain ⟨h1, h2⟩ := h p rfl
    have e : tke w n p = s := Sum.inl.inj hs
    have t := tke_b (w := w) h2
    have k := skp_b (w := w) h2
    omega
theorem dn_cl {w : Nat → Nat} {n q : Nat} {T : Ps} (h : dn n q T) : dn n q (cl w n T) := by
  intro s hs
  cases T with
  | inr x => cases hs
  | inl p =>
    obtain ⟨h1, h2⟩ := h p rfl
    unfold cl at hs
    simp only at hs
    by_cases c : knd w n p = 3
    · rw [if_pos c] at hs
      have e : tke w n p = s := Sum.inl.inj hs
      have t := tke_b (w := w) h2
      have k := skp_b (w := w) h2
      omega
    · rw [if_neg c] at hs; cases hs
theorem nmm_inl {w : Nat → Nat} {n lo hi m q : Nat} {T : Ps} (h : (nmm w n T lo hi m).1 = .inl q) : (nmb w n T lo hi).1 = .inl q ∧ (nmm w n T lo hi m).2 = (nmb w n T lo hi).2 ∧ m.testBit (nmb w n T lo hi).2 = false := by
  unfold nmm at h ⊢
  cases hh : (nmb w n T lo hi).1 with
  | inr x => rw [hh] at h; cases h
  | inl p =>
    rw [hh] at h
    simp only at h ⊢
    cases hb : m.testBit (nmb w n T lo hi).2 with
    | true => rw [hb, if_pos rfl] at h; cases h
    | false => rw [hb, if_neg (by decide)] at h; cases h; exact ⟨rfl, rfl, rfl⟩
theorem dn_nmm {w : Nat → Nat} {n q lo hi m : Nat} {T : Ps} (h : dn n q T) : dn n q (nmm w n T lo hi m).1 := fun s hs => dn_nmb h s (nmm_inl hs).1
theorem dn_go {w : Nat → Nat} {n p : Nat} {S : Ps} (hp : p ≤ n) (hk : knd w n p ≠ 0) (h : dn n (tke w n p) S) : ∀ p9, S = .inl p9 → p < p9 ∧ p9 ≤ n := by
  intro p9 e
  obtain ⟨h1, h2⟩ := h p9 e
  have t := tke_b (w := w) hp
  have k := skp_b (w := w) hp
  have := t.2.2 hk
  omega
theorem dn_0 {w : Nat → Nat} {n p : Nat} (hp : p ≤ n) : dn n (tke w n p) (.inl (tke w n p)) := fun s hs => by
  have e : tke w n p = s := Sum.inl.inj hs
  have t := tke_b (w := w) hp
  omega
theorem LT_bad {w : Nat → Nat} {n : Nat} {x : Nat × Nat} {fault fp kind place start value : Int32} (h : LT w n (.inr x) fault fp kind place start value) : ¬ fault ≤ 0 := by rw [h.2.2.1]; exact nI_nle h.1 (by have := h.2.1; omega)
theorem LT_ok {w : Nat → Nat} {n p : Nat} {fault fp kind place start value : Int32} (h : LT w n (.inl p) fault fp kind place start value) : fault = 0 := h.2.2.1
/-- once told: what the class does up to the line's end -/
theorem c_once {w : Nat → Nat} {n p j lo hi to : Nat} {tp mt : Nat → Int32} {fp kind place start value : Int32} (hT : TP w n tp mt) (h : LT w n (.inl p) (0 : Int32) fp kind place start value) (hto : to < 32) (hj : j < 5) (hlh : lo ≤ hi) (hhi : hi < 1000) : ∃ f1 g1 f g k p' s v, f_X3_tellOnce (0 : Int32) fp start (nI to) (nI (2 ^ j)) = some (f1, g1, nI (to ||| 2 ^ j)) ∧ f_X3_nextWithin (nI n) f1 g1 place kind start value tp (nI lo) (nI hi) = some (nI (if to.testBit j then lo else (nmb w n (lx w n (.inl (tke w n p))) lo hi).2), f, g, k, p', s, v) ∧ LT w n (if to.testBit j then .inr (4, skp w n p) else (nmb w n (lx w n (.inl (tke w n p))) lo hi).1) f g k p' s v := by
  rw [p_told hto hj]
  have hL := h
  obtain ⟨hp, hb, a3, a4, a5, a6, a7⟩ := h
  obtain ⟨t1, t2, t3⟩ := tke_b (w := w) hp
  cases hbit : to.testBit j with
  | true =>
    obtain ⟨f, g, k, p', s, v, e, hl⟩ := p_num (S := .inr (4, skp w n p)) (fault := 4) (fp := start) (kind := kind) (value := value) (place := place) (start := start) hT hlh hhi ⟨by show 0 < 4; decide, by show 4 < 8; decide, rfl, a6, _, _, t1, t2, a6, a5⟩
    exact ⟨4, start, f, g, k, p', s, v, rfl, e, hl⟩
  | false =>
    obtain ⟨f, g, k, p', s, v, e, hl⟩ := p_num (kind := kind) (value := value) hT hlh hhi (LT_LC hL)
    exact ⟨0, fp, f, g, k, p', s, v, rfl, e, hl⟩
/-- and the reference -/
theorem m_first {w : Nat → Nat} {n p : Nat} {tp mt : Nat → Int32} {fp kind place start value : Int32} (c : Nat) (bb : Bool) (hT : TP w n tp mt) (h : LT w n (.inl p) (0 : Int32) fp kind place start value) (hc0 : 0 < c) (hc : c < 8) : ∃ f g k p' s v, f_X8_step (nI n) (if bb then nI c else 0) (if bb then start else fp) place start kind value mt = some (f, g, s, p', k, v) ∧ LT w n (if bb then .inr (c, skp w n p) else lx w n (.inl (tke w n p))) f g k p' s v := by
  have hL := h
  obtain ⟨hp, hb, a3, a4, a5, a6, a7⟩ := h
  obtain ⟨t1, t2, t3⟩ := tke_b (w := w) hp
  cases bb with
  | true => exact m_tok (S := .inr (c, skp w n p)) (kind := kind) (value := value) hT ⟨hc0, hc, rfl, a6, _, _, t1, t2, a6, a5⟩
  | false => exact m_tok (kind := kind) (value := value) hT (LT_LC hL)
