/-! ===== the law: its loop ===== -/
def R_law : String := "ThreadMovedLaw"
def lw_P (b : Addr) (xs : List Int32) (args : Array Value) (s : State) : Prop := args = #[.ref b] ∧ s.IntsAt b xs ∧ xs.length ≤ 320 ∧ (Jvm.Cond.and given_1 narrow_1).before args s = true
def lw_Q (_ : Array Value) (s : State) (o : Outcome) (t : State) : Prop := o = .returned (some (.int 1)) ∧ Framed s o t [] 600000 7302250
def lw_Z (below : List Frame) (a : Array Value) (s : State) : State → Prop := fun t => ∃ o, t.status = .running ∧ Ended t below o ∧ lw_Q a s o t
/-- the law's own end, with 1 on the stack, nothing written that was there before, its room as the claim has it -/
theorem lw_ret {p : Program} {l : Launch} {e : Env} {s : State} {m : MethodId} {below : List Frame} {meth : Method} {c : Code} {b : Nat} (hx : p.tables.exec = Jvm.exec) (hb : c.code = code) (hr : meth.sig.returnType = ret) (hlocks : meth.locks = false) {pc : Nat} {H : Heap} {ls : Array Slot} (hdg : decode code pc = .ok (.ireturn, 1)) : W p l e room_1 s m #[Value.ref b] below meth c H [] 600000 7302250 (lw_Z below #[Value.ref b] s) (F0 m pc ls [.int 1]) := by
  intro T hT X
  obtain ⟨fs, hret, hrun, hended, hW, hframe⟩ := X.leave (v := some (.int 1)) (hlocks := hlocks) (fun h => by rw [hr] at h; cases h)
  have hmeth' : T.vm.method? m = some meth := X.method'
  refine ⟨T.setFrames fs, ?_, .returned (some (.int 1)), hrun, hended, rfl, ⟨_, rfl⟩, hW, hframe⟩
  jvm_step X.here [X.here.top, hx, hb, hdg, hmeth', hr, ret, narrow_b1]
  (try refine ⟨rfl, ?_⟩); (try refine ⟨rfl, ?_⟩)
  first | (intro acts; rw [hret _ acts rfl rfl rfl]) | rw [hret _ _ rfl rfl rfl]
  exact Steps.refl _
/-- what holds at the law's entry: the machine, the code, the tables' words (any of lw_tbl by 'hts w (by decide +kernel)'), the script of L ints xs at the cell b, what the Statement gives of the start (any of its parts by flat_of_before) -/
def lw_At (p : Program) (s : State) (m : MethodId) (meth : Method) (c : Code) (b L : Nat) (xs : Nat → Int32) : Prop :=
  p.tables.exec = Jvm.exec ∧ c.code = code ∧ meth.sig.returnType = ret ∧ c.maxLocals = 4 ∧ s.vm.findClass R_law = some m.cls ∧ (∀ w ∈ lw_tbl, w.before #[Value.ref b] s = true) ∧ va_X b L xs s s.heap ∧ b < s.heap.size ∧ meth.locks = false ∧ (Jvm.Cond.and given_1 narrow_1).before #[Value.ref b] s = true
theorem sub5 {L : Nat} (hL : L ≤ 320) : (nI L - (5 : Int32)).toInt = (L : Int) - 5 := by
  have h : ∀ n : Fin 321, (nI n.val - (5 : Int32)).toInt = (n.val : Int) - 5 := by decide +kernel
  exact h ⟨L, by omega⟩
set_option maxHeartbeats 4000000 in
set_option maxRecDepth 100000 in
theorem law_loop {p : Program} {l : Launch} {e : Env} {s : State} {m : MethodId} {below : List Frame} {meth : Method} {c : Code} {b L : Nat} {xs : Nat → Int32} {g : Gh} {tq mq : Nat} {ad bd : Nat → Nat} (hL : L ≤ 320) (C : LwC p s m c b L xs g) (hr : meth.sig.returnType = ret) (hlocks : meth.locks = false) (hD : va_D (fun q : Nat => s.heap.size ≤ q) (WZ g tq mq ad bd)) : ∀ (n i : Nat), i ≤ L → L + 1 ≤ i + n → ∀ (H : Heap) (locs : List Loc), LwI g tq mq ad bd H → va_S (fun q : Nat => s.heap.size ≤ q) s.heap H locs → ∀ ls : Array Slot, lv_has ls 4 [(0, .ref b), (1, .ref tq), (2, .ref mq), (3, .int (nI i))] → W p l e room_1 s m #[Value.ref b] below meth c H locs 71 9845 (lw_Z below #[Value.ref b] s) (F0 m 18 ls []) := by
  have C' := C
  obtain ⟨hx, hb, hml, hown, hts, hX, hbl, hK, hz, hk⟩ := C
  have hbA : ¬ (fun q : Nat => s.heap.size ≤ q) b := Nat.not_le.mpr hbl
  intro n
  induction n with
  | zero => intro i h1 h2; exact absurd h2 (by omega)
  | succ n ih =>
    intro i hiL hin H locs hI hS ls hl
    refine lv_iload_n hx hb dL_law_18 rfl (lv_at hl 3 rfl) ?_
    refine lv_aload_n hx hb dL_law_19 rfl (lv_at hl 0 rfl) ?_
    refine va_slen hx hb hX hbl hbA hS dL_law_20 ?_
    refine lv_iconst (v := (5 : Int32)) hx hb dL_law_21 (by decide) ?_
    refine lv_isub hx hb dL_law_22 ?_
    refine lv_icmp_gt (tgt := 1248) hx hb dL_law_23 (by decide) (fun c1 => ?_) (fun c1 => ?_)
    · refine lv_iconst (v := 1) hx hb dL_law_1248 (by decide) ?_
      refine va_forget (fun q hq => hS.2.2 q hq) ?_
      refine W.widen (k := 600000) (n := 7302250) (by omega) (by omega) ?_
      exact lw_ret hx hb hr hlocks dL_law_1249
    · have hi : i + 5 ≤ L := by
        have c1 : ¬ (nI L - (5 : Int32)) < nI i := c1
        rw [fa_lt, sub5 hL, nI_toInt (by omega)] at c1
        omega
      have next : ∀ (H1 : Heap) (locs1 : List Loc), LwI g tq mq ad bd H1 → va_S (fun q : Nat => s.heap.size ≤ q) s.heap H1 locs1 → W p l e room_1 s m #[Value.ref b] below meth c H1 locs1 71 9845 (lw_Z below #[Value.ref b] s) (F0 m 1242 ls []) := by
        intro H1 locs1 hI1 hS1
        refine lv_iinc (v := nI (i + 5)) (lv' := [(3, .int (nI (i + 5))), (0, .ref b), (1, .ref tq), (2, .ref mq)]) hx hb dL_law_1242 hl (k := 3) rfl (nI_add i 5) (by decide) rfl (fun ls hl => ?_)
        refine lv_goto (tgt := 18) hx hb dL_law_1245 (by decide) ?_
        exact ih (i + 5) hi (by omega) H1 locs1 hI1 hS1 ls (lv_sub hl [1, 2, 3, 0] rfl)
      refine lv_aload_n hx hb dL_law_26 rfl (lv_at hl 0 rfl) ?_
      refine lv_iload_n hx hb dL_law_27 rfl (lv_at hl 3 rfl) ?_
      refine va_sld hx hb hX hbl hbA hS (vp_in_nI (show i < L by omega) (by omega)) dL_law_28 ?_
      refine lv_bipush (v := (63 : Int32)) hx hb dL_law_29 (by decide) ?_
      refine lv_iand hx hb dL_law_31 ?_
      generalize xs (nI i).toNatClampNeg &&& 63 = x
      by_cases hin2 : ∃ k, k ≤ 35 ∧ x = nI k
      · obtain ⟨k, hk35, e0⟩ := hin2
        rcases (show k = 0 ∨ k = 1 ∨ k = 2 ∨ k = 3 ∨ k = 4 ∨ k = 5 ∨ k = 6 ∨ k = 7 ∨ k = 8 ∨ k = 9 ∨ k = 10 ∨ k = 11 ∨ k = 12 ∨ k = 13 ∨ k = 14 ∨ k = 15 ∨ k = 16 ∨ k = 17 ∨ k = 18 ∨ k = 19 ∨ k = 20 ∨ k = 21 ∨ k = 22 ∨ k = 23 ∨ k = 24 ∨ k = 25 ∨ k = 26 ∨ k = 27 ∨ k = 28 ∨ k = 29 ∨ k = 30 ∨ k = 31 ∨ k = 32 ∨ k = 33 ∨ k = 34 ∨ k = 35 by omega) with rfl | rfl | rfl | rfl | rfl | rfl | rfl | rfl | rfl | rfl | rfl | rfl | rfl | rfl | rfl | rfl | rfl | rfl | rfl | rfl | rfl | rfl | rfl | rfl | rfl | rfl | rfl | rfl | rfl | rfl | rfl | rfl | rfl | rfl | rfl | rfl
        · refine lv_tableIn (off := 160) (tgt := 192) hx hb dL_law_32 (by rw [e0]; decide) (by rw [e0]; decide) (by rw [e0]; rfl) (by decide) ?_
          exact lk_feed C' hL hi hD hI hS hl next
        · refine lv_tableIn (off := 213) (tgt := 245) hx hb dL_law_32 (by rw [e0]; decide) (by rw [e0]; decide) (by rw [e0]; rfl) (by decide) ?_
          exact lk_end C' hL hi hD hI hS hl next
        · refine lv_tableIn (off := 236) (tgt := 268) hx hb dL_law_32 (by rw [e0]; decide) (by rw [e0]; decide) (by rw [e0]; rfl) (by decide) ?_
          exact lk_text C' hL hi hD hI hS hl next
        · refine lv_tableIn (off := 249) (tgt := 281) hx hb dL_law_32 (by rw [e0]; decide) (by rw [e0]; decide) (by rw [e0]; rfl) (by decide) ?_
          exact lk_fault C' hL hi hD hI hS hl next
        · refine lv_tableIn (off := 262) (tgt := 294) hx hb dL_law_32 (by rw [e0]; decide) (by rw [e0]; decide) (by rw [e0]; rfl) (by decide) ?_
          exact lk_rule C' hL hi hD hI hS hl next
        · refine lv_tableIn (off := 285) (tgt := 317) hx hb dL_law_32 (by rw [e0]; decide) (by rw [e0]; decide) (by rw [e0]; rfl) (by decide) ?_
          exact lk_door C' hL hi hD hI hS hl next
        · refine lv_tableIn (off := 318) (tgt := 350) hx hb dL_law_32 (by rw [e0]; decide) (by rw [e0]; decide) (by rw [e0]; rfl) (by decide) ?_
          exact lk_law C' hL hi hD hI hS hl next
        · refine lv_tableIn (off := 341) (tgt := 373) hx hb dL_law_32 (by rw [e0]; decide) (by rw [e0]; decide) (by rw [e0]; rfl) (by decide) ?_
          exact lk_doors C' hL hi hD hI hS hl next
        · refine lv_tableIn (off := 364) (tgt := 396) hx hb dL_law_32 (by rw [e0]; decide) (by rw [e0]; decide) (by rw [e0]; rfl) (by decide) ?_
          exact lk_bar C' hL hi hD hI hS hl next
        · refine lv_tableIn (off := 413) (tgt := 445) hx hb dL_law_32 (by rw [e0]; decide) (by rw [e0]; decide) (by rw [e0]; rfl) (by decide) ?_
          exact lk_period C' hL hi hD hI hS hl next
        · refine lv_tableIn (off := 436) (tgt := 468) hx hb dL_law_32 (by rw [e0]; decide) (by rw [e0]; decide) (by rw [e0]; rfl) (by decide) ?_
          exact lk_put C' hL hi hD hI hS hl next
        · refine lv_tableIn (off := 459) (tgt := 491) hx hb dL_law_32 (by rw [e0]; decide) (by rw [e0]; decide) (by rw [e0]; rfl) (by decide) ?_
          exact lk_lurk C' hL hi hD hI hS hl next
        · refine lv_tableIn (off := 492) (tgt := 524) hx hb dL_law_32 (by rw [e0]; decide) (by rw [e0]; decide) (by rw [e0]; rfl) (by decide) ?_
          exact lk_bite C' hL hi hD hI hS hl next
        · refine lv_tableIn (off := 515) (tgt := 547) hx hb dL_law_32 (by rw [e0]; decide) (by rw [e0]; decide) (by rw [e0]; rfl) (by decide) ?_
          exact lk_go C' hL hi hD hI hS hl next
        · refine lv_tableIn (off := 538) (tgt := 570) hx hb dL_law_32 (by rw [e0]; decide) (by rw [e0]; decide) (by rw [e0]; rfl) (by decide) ?_
          exact lk_dusk C' hL hi hD hI hS hl next
        · refine lv_tableIn (off := 581) (tgt := 613) hx hb dL_law_32 (by rw [e0]; decide) (by rw [e0]; decide) (by rw [e0]; rfl) (by decide) ?_
          exact lk_again C' hL hi hD hI hS hl next
        · refine lv_tableIn (off := 594) (tgt := 626) hx hb dL_law_32 (by rw [e0]; decide) (by rw [e0]; decide) (by rw [e0]; rfl) (by decide) ?_
          exact lk_thread C' hL hi hD hI hS hl next
        · refine lv_tableIn (off := 617) (tgt := 649) hx hb dL_law_32 (by rw [e0]; decide) (by rw [e0]; decide) (by rw [e0]; rfl) (by decide) ?_
          exact lk_leads C' hL hi hD hI hS hl next
        · refine lv_tableIn (off := 640) (tgt := 672) hx hb dL_law_32 (by rw [e0]; decide) (by rw [e0]; decide) (by rw [e0]; rfl) (by decide) ?_
          exact lk_soonest C' hL hi hD hI hS hl next
        · refine lv_tableIn (off := 673) (tgt := 705) hx hb dL_law_32 (by rw [e0]; decide) (by rw [e0]; decide) (by rw [e0]; rfl) (by decide) ?_
          exact lk_alive C' hL hi hD hI hS hl next
        · refine lv_tableIn (off := 696) (tgt := 728) hx hb dL_law_32 (by rw [e0]; decide) (by rw [e0]; decide) (by rw [e0]; rfl) (by decide) ?_
          exact lk_see C' hL hi hD hI hS hl next
        · refine lv_tableIn (off := 739) (tgt := 771) hx hb dL_law_32 (by rw [e0]; decide) (by rw [e0]; decide) (by rw [e0]; rfl) (by decide) ?_
          exact lk_forget C' hL hi hD hI hS hl next
        · refine lv_tableIn (off := 762) (tgt := 794) hx hb dL_law_32 (by rw [e0]; decide) (by rw [e0]; decide) (by rw [e0]; rfl) (by decide) ?_
          exact lk_laws C' hL hi hD hI hS hl next
        · refine lv_tableIn (off := 785) (tgt := 817) hx hb dL_law_32 (by rw [e0]; decide) (by rw [e0]; decide) (by rw [e0]; rfl) (by decide) ?_
          exact lk_sure C' hL hi hD hI hS hl next
        · refine lv_tableIn (off := 818) (tgt := 850) hx hb dL_law_32 (by rw [e0]; decide) (by rw [e0]; decide) (by rw [e0]; rfl) (by decide) ?_
          exact lk_hear C' hL hi hD hI hS hl next
        · refine lv_tableIn (off := 877) (tgt := 909) hx hb dL_law_32 (by rw [e0]; decide) (by rw [e0]; decide) (by rw [e0]; rfl) (by decide) ?_
          exact lk_hush C' hL hi hD hI hS hl next
        · refine lv_tableIn (off := 900) (tgt := 932) hx hb dL_law_32 (by rw [e0]; decide) (by rw [e0]; decide) (by rw [e0]; rfl) (by decide) ?_
          exact lk_lair C' hL hi hD hI hS hl next
        · refine lv_tableIn (off := 923) (tgt := 955) hx hb dL_law_32 (by rw [e0]; decide) (by rw [e0]; decide) (by rw [e0]; rfl) (by decide) ?_
          exact lk_wall C' hL hi hD hI hS hl next
        · refine lv_tableIn (off := 946) (tgt := 978) hx hb dL_law_32 (by rw [e0]; decide) (by rw [e0]; decide) (by rw [e0]; rfl) (by decide) ?_
          exact lk_walk C' hL hi hD hI hS hl next
        · refine lv_tableIn (off := 989) (tgt := 1021) hx hb dL_law_32 (by rw [e0]; decide) (by rw [e0]; decide) (by rw [e0]; rfl) (by decide) ?_
          exact lk_keep C' hL hi hD hI hS hl next
        · refine lv_tableIn (off := 1012) (tgt := 1044) hx hb dL_law_32 (by rw [e0]; decide) (by rw [e0]; decide) (by rw [e0]; rfl) (by decide) ?_
          exact lk_back C' hL hi hD hI hS hl next
        · refine lv_tableIn (off := 1035) (tgt := 1067) hx hb dL_law_32 (by rw [e0]; decide) (by rw [e0]; decide) (by rw [e0]; rfl) (by decide) ?_
          exact lk_sheet C' hL hi hD hI hS hl next
        · refine lv_tableIn (off := 1078) (tgt := 1110) hx hb dL_law_32 (by rw [e0]; decide) (by rw [e0]; decide) (by rw [e0]; rfl) (by decide) ?_
          exact lk_lay C' hL hi hD hI hS hl next
        · refine lv_tableIn (off := 1121) (tgt := 1153) hx hb dL_law_32 (by rw [e0]; decide) (by rw [e0]; decide) (by rw [e0]; rfl) (by decide) ?_
          exact lk_read C' hL hi hD hI hS hl next
        · refine lv_tableIn (off := 1174) (tgt := 1206) hx hb dL_law_32 (by rw [e0]; decide) (by rw [e0]; decide) (by rw [e0]; rfl) (by decide) ?_
          exact lk_torn C' hL hi hD hI hS hl next
        · refine lv_tableIn (off := 1187) (tgt := 1219) hx hb dL_law_32 (by rw [e0]; decide) (by rw [e0]; decide) (by rw [e0]; rfl) (by decide) ?_
          exact lk_count C' hL hi hD hI hS hl next
      · refine lv_tableOut (tgt := 1242) hx hb dL_law_32 (tsw_out 35 (by decide) rfl (fun k hk e0 => hin2 ⟨k, hk, e0⟩)) (by decide) ?_
        exact next _ _ hI hS
