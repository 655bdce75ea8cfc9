/-! ===== pure 6: what the two worlds have in common ===== -/
def z0 (n : Nat) (f : Nat → Nat) : Prop := ∀ k, n ≤ k → f k = 0
theorem cpy_z {n : Nat} {f g : Nat → Nat} (hf : z0 n f) (hg : z0 n g) : cpyN f g n = f := by
  funext k
  unfold cpyN
  by_cases h : k < n
  · rw [if_pos h]
  · rw [if_neg h, hf k (by omega), hg k (by omega)]
/-- the plan: rooms, doors, rules, string, first ends, rules' numbers -/
def PlO (R Dn K SL : Nat) (a rl : Nat → Nat) : Prop := 2 ≤ R ∧ R ≤ 7 ∧ Dn ≤ 10 ∧ K ≤ 6 ∧ SL ≤ 12 ∧ lt7 a ∧ z0 10 a ∧ (∀ d, d < Dn → a d < R) ∧ (∀ k, rl k < 210) ∧ z0 6 rl ∧ ∀ k, k < K → lok Dn (rl k)
def PlC (R Dn K SL : Nat) (a rl : Nat → Nat) (rooms doorCount ruleCount stringLength : Int32) (fe rules : Nat → Int32) : Prop := rooms = nI R ∧ doorCount = nI Dn ∧ ruleCount = nI K ∧ stringLength = nI SL ∧ fe = rI a ∧ rules = rI rl
def PlM (R Dn K SL : Nat) (rl : Nat → Nat) (roomMany doorMany lawMany stringLong : Int32) (laws : Nat → Int32) : Prop := roomMany = nI R ∧ doorMany = nI Dn ∧ lawMany = nI K ∧ stringLong = nI SL ∧ lwr laws K rl
/-- a page: second ends b, bars bm, period, his room, the beast, its habit, doors on the string, steps, eaten -/
def PgO (R Dn : Nat) (b : Nat → Nat) (bm per hs : Nat) (be : Option Nat) (hb on : Nat) (sg : Nat → Nat) (st : Nat) : Prop := lt7 b ∧ z0 10 b ∧ (∀ d, d < Dn → b d < R) ∧ bm < 2 ^ Dn ∧ 0 < per ∧ per ≤ 6 ∧ hs < R ∧ (∀ x, be = some x → x < R) ∧ hb < 4 ∧ on ≤ 12 ∧ (∀ i, i < on → sg i < Dn) ∧ z0 12 sg ∧ (∀ i, sg i < 10) ∧ st ≤ 999
def PgC (b : Nat → Nat) (bm per hs : Nat) (be : Option Nat) (hb on : Nat) (sg : Nat → Nat) (st : Nat) (ea : Bool) (barred period his beast habit onString step eaten : Int32) (se str : Nat → Int32) : Prop := barred = nI bm ∧ period = nI per ∧ his = nI hs ∧ beast = enc be ∧ habit = nI hb ∧ onString = nI on ∧ step = nI st ∧ eaten = bz ea ∧ se = rI b ∧ str = rI sg
def enb (be : Option Nat) : Int32 := match be with | none => 0 | some x => nI (x + 1)
def PgM (Dn : Nat) (a b : Nat → Nat) (bm per hs : Nat) (be : Option Nat) (hb on : Nat) (sg : Nat → Nat) (st : Nat) (ea : Bool) (g : Nat → Int32) (o : Nat) : Prop := hse g o Dn a b bm ∧ g (o + 30) = nI (per - 1) ∧ g (o + 31) = nI hs ∧ g (o + 32) = enb be ∧ g (o + 33) = nI hb ∧ (∀ i, i < on → g (o + 34 + i) = nI (sg i)) ∧ g (o + 46) = nI on ∧ g (o + 47) = nI st ∧ g (o + 48) = bz ea
def PgR (R Dn : Nat) (a : Nat → Nat) (barred period his beast habit onString step eaten : Int32) (se str : Nat → Int32) (g : Nat → Int32) (o : Nat) : Prop := ∃ (b : Nat → Nat) (bm per hs : Nat) (be : Option Nat) (hb on : Nat) (sg : Nat → Nat) (st : Nat) (ea : Bool), PgO R Dn b bm per hs be hb on sg st ∧ PgC b bm per hs be hb on sg st ea barred period his beast habit onString step eaten se str ∧ PgM Dn a b bm per hs be hb on sg st ea g o
/-- a page of scratch: rows of numbers -/
def ScR (se str : Nat → Int32) : Prop := ∃ b s : Nat → Nat, se = rI b ∧ lt7 b ∧ z0 10 b ∧ str = rI s ∧ z0 12 s ∧ ∀ i, s i < 10
def ScP (fe rules : Nat → Int32) : Prop := ∃ a r : Nat → Nat, fe = rI a ∧ lt7 a ∧ z0 10 a ∧ rules = rI r ∧ z0 6 r ∧ ∀ k, r k < 210
def ImR (k R Dn : Nat) (a : Nat → Nat) (kept : Int32) (barred period his beast habit onString step eaten : Int32) (se str : Nat → Int32) (g isKept : Nat → Int32) : Prop := ScR se str ∧ (isKept k = 1 → PgR R Dn a barred period his beast habit onString step eaten se str g (49 * (k + 1)))
def KpR (kept : Int32) (isKept : Nat → Int32) : Prop := ∃ c0 c1 : Bool, kept = nI (c0.toNat + 2 * c1.toNat) ∧ isKept 0 = bz c0 ∧ isKept 1 = bz c1
def TpR (len : Int32) (tape mtape : Nat → Int32) (taped : Int32) : Prop := ∃ n : Nat, n ≤ 320 ∧ len = nI n ∧ taped = nI n ∧ ∀ i, i < n → ∃ w, w < 256 ∧ mtape i = nI w ∧ tape i = (nI w).toInt8.toInt32
def SnR (R Dn : Nat) (size : Int32) (times subjects values seen : Nat → Int32) (many : Int32) : Prop := ∃ (n : Nat) (tm sb vl : Nat → Nat), n ≤ 6 ∧ size = nI n ∧ many = nI n ∧ ∀ i, i < n → times i = nI (tm i) ∧ subjects i = nI (sb i) ∧ values i = nI (vl i) ∧ seen (3 * i) = nI (tm i) ∧ seen (3 * i + 1) = nI (sb i) ∧ seen (3 * i + 2) = nI (vl i) ∧ 1 ≤ tm i ∧ tm i ≤ 6 ∧ sb i < Dn ∧ vl i < R
def HdR (R : Nat) (size : Int32) (times subjects values heard : Nat → Int32) (many : Int32) : Prop := ∃ (n : Nat) (tm sb : Nat → Nat) (vl : Nat → Bool), n ≤ 6 ∧ size = nI n ∧ many = nI n ∧ ∀ i, i < n → times i = nI (tm i) ∧ subjects i = nI (sb i) ∧ values i = bz (vl i) ∧ heard (3 * i) = nI (tm i) ∧ heard (3 * i + 1) = nI (sb i) ∧ heard (3 * i + 2) = bz (vl i) ∧ 1 ≤ tm i ∧ tm i ≤ 12 ∧ sb i < R
def ShR (k : Nat) (lane size : Int32) (cells lanes lengths mcells : Nat → Int32) : Prop := (size = -4 ∧ lanes k = -4) ∨ ∃ ln n : Nat, ln < 3 ∧ n ≤ 40 ∧ lane = nI ln ∧ lanes k = nI ln ∧ size = nI n ∧ lengths k = nI n ∧ ∀ i, i < 40 → mcells (40 * k + i) = cells i
def skO : List Nat := [0, 5, 9, 15, 19, 23, 26, 28, 33, 39, 45, 51, 55, 61]
def CnR (cuts letters : Nat → Int32) : Prop := ∀ n, n < 14 → cuts n = nI (skO.getD n 0) ∧ cuts (n + 1) = nI (skO.getD n 0 + skL.getD n 0) ∧ ∀ j, j < skL.getD n 0 → letters (skO.getD n 0 + j) = (skB.getD n []).getD j 0
theorem hse_congr {g g' : Nat → Int32} {o Dn bm : Nat} {a b : Nat → Nat} (h : hse g o Dn a b bm) (hD : Dn ≤ 10) (hg : ∀ k, k < 30 → g' (o + k) = g (o + k)) : hse g' o Dn a b bm := by
  intro d hd
  have z := h d hd
  have e1 := hg (3 * d) (by omega)
  have e2 := hg (3 * d + 1) (by omega)
  have e3 := hg (3 * d + 2) (by omega)
  rw [show o + 3 * d + 1 = o + (3 * d + 1) by omega, show o + 3 * d + 2 = o + (3 * d + 2) by omega] at *
  rw [e1, e2, e3]
  exact z
theorem PgM_congr {Dn : Nat} {a b : Nat → Nat} {bm per hs : Nat} {be : Option Nat} {hb on : Nat} {sg : Nat → Nat} {st : Nat} {ea : Bool} {g g' : Nat → Int32} {o : Nat} (h : PgM Dn a b bm per hs be hb on sg st ea g o) (hD : Dn ≤ 10) (hon : on ≤ 12) (hg : ∀ k, k < 49 → g' (o + k) = g (o + k)) : PgM Dn a b bm per hs be hb on sg st ea g' o := by
  obtain ⟨h1, h2, h3, h4, h5, h6, h7, h8, h9⟩ := h
  refine ⟨hse_congr h1 hD (fun k hk => hg k (by omega)), ?_, ?_, ?_, ?_, ?_, ?_, ?_, ?_⟩
  · rw [hg 30 (by omega)]; exact h2
  · rw [hg 31 (by omega)]; exact h3
  · rw [hg 32 (by omega)]; exact h4
  · rw [hg 33 (by omega)]; exact h5
  · intro i hi
    rw [show o + 34 + i = o + (34 + i) by omega, hg (34 + i) (by omega), ← show o + 34 + i = o + (34 + i) by omega]
    exact h6 i hi
  · rw [hg 46 (by omega)]; exact h7
  · rw [hg 47 (by omega)]; exact h8
  · rw [hg 48 (by omega)]; exact h9
theorem ImR_congr {k R Dn : Nat} {a : Nat → Nat} {kept barred period his beast habit onString step eaten : Int32} {se str g g' isKept : Nat → Int32} (h : ImR k R Dn a kept barred period his beast habit onString step eaten se str g isKept) (hD : Dn ≤ 10) (hg : ∀ j, 49 ≤ j → j < 147 → g' j = g j) (hk : k < 2) : ImR k R Dn a kept barred period his beast habit onString step eaten se str g' isKept := by
  refine ⟨h.1, fun e => ?_⟩
  obtain ⟨b, bm, per, hs, be, hb, on, sg, st, ea, hO, hC, hM⟩ := h.2 e
  exact ⟨b, bm, per, hs, be, hb, on, sg, st, ea, hO, hC, PgM_congr hM hD hO.2.2.2.2.2.2.2.2.2.1 (fun j hj => hg _ (by omega) (by omega))⟩
theorem g30 {β : Type} {o : Option β} : gin (30 : Int32) 196 o = o := gin_k (k := 30) (by decide) (by decide)
theorem g31 {β : Type} {o : Option β} : gin (31 : Int32) 196 o = o := gin_k (k := 31) (by decide) (by decide)
theorem g32 {β : Type} {o : Option β} : gin (32 : Int32) 196 o = o := gin_k (k := 32) (by decide) (by decide)
theorem g33 {β : Type} {o : Option β} : gin (33 : Int32) 196 o = o := gin_k (k := 33) (by decide) (by decide)
theorem g46 {β : Type} {o : Option β} : gin (46 : Int32) 196 o = o := gin_k (k := 46) (by decide) (by decide)
theorem g47 {β : Type} {o : Option β} : gin (47 : Int32) 196 o = o := gin_k (k := 47) (by decide) (by decide)
theorem g48 {β : Type} {o : Option β} : gin (48 : Int32) 196 o = o := gin_k (k := 48) (by decide) (by decide)
theorem k30 : (30 : Int32).toNatClampNeg = 30 := by decide
theorem k31 : (31 : Int32).toNatClampNeg = 31 := by decide
theorem k32 : (32 : Int32).toNatClampNeg = 32 := by decide
theorem k33 : (33 : Int32).toNatClampNeg = 33 := by decide
theorem k46 : (46 : Int32).toNatClampNeg = 46 := by decide
theorem k47 : (47 : Int32).toNatClampNeg = 47 := by decide
theorem k48 : (48 : Int32).toNatClampNeg = 48 := by decide
theorem m_beastNow {g : Nat → Int32} {be : Option Nat} (h : g 32 = enb be) (hb : ∀ x, be = some x → x < 7) : f_X8_beastNow g = some (enc be) := by
  unfold f_X8_beastNow
  rw [g32, g32, k32, h]
  cases be with
  | none => rfl
  | some x =>
    have := hb x rfl
    show (if nI (x + 1) = 0 then _ else _) = _
    rw [if_neg (nI_ne0 (by omega) (by omega))]
    show some (nI (x + 1) - 1) = _
    rw [show nI (x + 1) - 1 = nI x from nI_pred x]
    rfl
theorem p_copyFrom {bm per hs hb on st : Nat} {be : Option Nat} {ea : Bool} {b sg b0 s0 : Nat → Nat} (h1 : z0 10 b) (h2 : z0 12 sg) (h3 : z0 10 b0) (h4 : z0 12 s0) : f_X6_copyFrom (nI bm) (nI per) (nI hs) (enc be) (nI hb) (nI on) (nI st) (bz ea) (rI b) (rI sg) (rI b0) (rI s0) = some (nI bm, enc be, bz ea, nI hb, nI hs, nI on, nI per, nI st, rI b, rI sg) := by
  unfold f_X6_copyFrom
  rw [bnd_s, bnd_s, gbl_b, rI_cpy, rI_cpy, cpy_z h1 h3, cpy_z h2 h4]
