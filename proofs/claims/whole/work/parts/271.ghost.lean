/-! ===== the law: its ghosts ===== -/
set_option maxRecDepth 20000 in
theorem lw_ghost {s : State} {b : Nat} (hts : ∀ w ∈ lw_tbl, w.before #[Value.ref b] s = true) (hgv : (Jvm.Cond.and given_1 narrow_1).before #[Value.ref b] s = true) : ∃ g : Gh, va_K g.1 vwCl (tyL g) s ∧ nz s ∧ sk g (fun q : Nat => s.heap.size ≤ q) s s.heap := by
  have hs : ∀ c ∈ nwL, c.before #[Value.ref b] s = true := by
    rw [← nwL_e]
    exact flat_of_before _ hgv
  have hA : ∀ a : Nat, a < s.heap.size → ¬ (fun q : Nat => s.heap.size ≤ q) a := fun a h => Nat.not_le.mpr h
  obtain ⟨c0, d0, k0⟩ := u_known (C := RX0) (T := TX0) (N := 4) (n := 4) hts wsL_in_wsX00 (hts (.instantiable RX0 4) (tb_1 (List.mem_of_getElem? (i := 199) rfl)))
  obtain ⟨c1, d1, k1⟩ := u_known (C := RX1) (T := TX1) (N := 2) (n := 2) hts wsL_in_wsX10 (hts (.instantiable RX1 2) (tb_2 (List.mem_of_getElem? (i := 7) rfl)))
  obtain ⟨c2, d2, k2⟩ := u_known (C := RX2) (T := TX2) (N := 6) (n := 6) hts wsL_in_wsX20 (hts (.instantiable RX2 6) (tb_1 (List.mem_of_getElem? (i := 27) rfl)))
  obtain ⟨c3, d3, k3⟩ := u_known (C := RX3) (T := TX3) (N := 12) (n := 12) hts wsL_in_wsX30 (hts (.instantiable RX3 12) (tb_1 (List.mem_of_getElem? (i := 145) rfl)))
  obtain ⟨c4, d4, k4⟩ := u_known (C := RX4) (T := TX4) (N := 6) (n := 6) hts wsL_in_wsX40 (hts (.instantiable RX4 6) (tb_1 (List.mem_of_getElem? (i := 222) rfl)))
  obtain ⟨c5, d5, k5⟩ := u_known (C := RX5) (T := TX5) (N := 3) (n := 3) hts wsL_in_wsX50 (hts (.instantiable RX5 3) (tb_2 (List.mem_of_getElem? (i := 21) rfl)))
  obtain ⟨c6, d6, k6⟩ := u_known (C := RX6) (T := TX6) (N := 11) (n := 11) hts wsL_in_wsX60 (hts (.instantiable RX6 11) (tb_1 (List.mem_of_getElem? (i := 78) rfl)))
  obtain ⟨c7, d7, k7⟩ := u_known (C := RX7) (T := TX7) (N := 13) (n := 13) hts wsL_in_wsX70 (hts (.instantiable RX7 13) (tb_1 (List.mem_of_getElem? (i := 19) rfl)))
  obtain ⟨c8, d8, k8⟩ := u_known (C := RX8) (T := TX8) (N := 39) (n := 39) hts wsL_in_wsX80 (hts (.instantiable RX8 39) (tb_4 (List.mem_of_getElem? (i := 94) rfl)))
  obtain ⟨aI_, i1, i2⟩ := nw_ac (ty := .int) (fun C h => by cases h) (hts (.arrayClass .int) (tb_1 (List.mem_of_getElem? (i := 76) rfl)))
  obtain ⟨aB_, b1, b2⟩ := nw_ac (ty := .byte) (fun C h => by cases h) (hts (.arrayClass .byte) (tb_1 (List.mem_of_getElem? (i := 197) rfl)))
  obtain ⟨aZ_, z1, z2⟩ := nw_ac (ty := .boolean) (fun C h => by cases h) (hts (.arrayClass .boolean) (tb_4 (List.mem_of_getElem? (i := 217) rfl)))
  obtain ⟨aS_, s1, s2⟩ := nw_ao (C := "ThreadMoved$State") (hts (.arrayOver (.object "ThreadMoved$State")) (tb_1 (List.mem_of_getElem? (i := 143) rfl)))
  obtain ⟨aH_, h1, h2⟩ := nw_ao (C := "ThreadMoved$Sheet") (hts (.arrayOver (.object "ThreadMoved$Sheet")) (tb_2 (List.mem_of_getElem? (i := 20) rfl)))
  obtain ⟨adK, adV, hS, hE⟩ := vk_Sof (args := #[Value.ref b]) (s := s) (N := 14) (tm := (fun i : Nat => Term.string RX3 (skI.getD i 0))) (len := skL) (byt := skB) (A := fun q : Nat => s.heap.size ≤ q) (by decide) (nw_ex hs) (nw_co hs) (nw_ar hs) (nw_le hs) (nw_el hs) (fun i j hi hj hne => by
    rcases Nat.lt_or_ge i j with h | h
    · exact nw_n1 hs i j h hj
    · exact (nw_n1 hs j i (by omega) hi).symm) hA
  have hC : va_Z "java/lang/String" "COMPACT_STRINGS" "Z" (.int 1) (fun q : Nat => s.heap.size ≤ q) s s.heap := va_Zof (hts (.laysStatic "java/lang/String" "COMPACT_STRINGS" "Z") (tb_2 (List.mem_of_getElem? (i := 136) rfl))) (hts (.initialized "java/lang/String") (tb_1 (List.mem_of_getElem? (i := 11) rfl))) (va_eqt (hs _ (List.mem_of_getElem? (i := 4) rfl))) hA
  have hF : ∃ o : Option Nat, va_Z "jdk/internal/util/Preconditions" "SIOOBE_FORMATTER" "Ljava/util/function/BiFunction;" (va_rf o) (fun q : Nat => s.heap.size ≤ q) s s.heap := by
    rcases va_Zqof (hts (.laysStatic "jdk/internal/util/Preconditions" "SIOOBE_FORMATTER" "Ljava/util/function/BiFunction;") (tb_2 (List.mem_of_getElem? (i := 152) rfl))) (hts (.initialized "jdk/internal/util/Preconditions") (tb_1 (List.mem_of_getElem? (i := 13) rfl))) (hs _ (List.mem_of_getElem? (i := 5) rfl)) hA with h | ⟨t, h⟩
    · exact ⟨none, h⟩
    · exact ⟨some t, h⟩
  obtain ⟨fo, hF⟩ := hF
  refine ⟨((fun k => [c0, c1, c2, c3, c4, c5, c6, c7, c8].getD k c0, fun k => [d0, d1, d2, d3, d4, d5, d6, d7, d8].getD k d0), (aI_, aB_, aZ_, aS_, aH_), adK, adV, fo), ⟨?_, ?_⟩, nw_nz hts, fun i hi => vk_R.of (nw_st hts i hi) (hE i hi), hS, hC, hF⟩
  · intro k q hq
    match k, hq with
    | 0, hq => cases hq; exact k0
    | 1, hq => cases hq; exact k1
    | 2, hq => cases hq; exact k2
    | 3, hq => cases hq; exact k3
    | 4, hq => cases hq; exact k4
    | 5, hq => cases hq; exact k5
    | 6, hq => cases hq; exact k6
    | 7, hq => cases hq; exact k7
    | 8, hq => cases hq; exact k8
    | k + 9, hq => simp [vwCl] at hq
  · intro k q hq
    match k, hq with
    | 0, hq => cases hq; exact ⟨i1, i2⟩
    | 1, hq => cases hq; exact ⟨b1, b2⟩
    | 2, hq => cases hq; exact ⟨z1, z2⟩
    | 3, hq => cases hq; exact ⟨s1, s2⟩
    | 4, hq => cases hq; exact ⟨h1, h2⟩
    | k + 5, hq => simp at hq
abbrev i_cuts : Nat → Int32 := (upd (upd (upd (upd (upd (upd (upd (upd (upd (upd (upd (upd (upd (upd (upd (fun _ => (0 : Int32)) 0 (0 : Int32)) 1 (5 : Int32)) 2 (9 : Int32)) 3 (15 : Int32)) 4 (19 : Int32)) 5 (23 : Int32)) 6 (26 : Int32)) 7 (28 : Int32)) 8 (33 : Int32)) 9 (39 : Int32)) 10 (45 : Int32)) 11 (51 : Int32)) 12 (55 : Int32)) 13 (61 : Int32)) 14 (66 : Int32))
abbrev i_letters : Nat → Int32 := (upd (upd (upd (upd (upd (upd (upd (upd (upd (upd (upd (upd (upd (upd (upd (upd (upd (upd (upd (upd (upd (upd (upd (upd (upd (upd (upd (upd (upd (upd (upd (upd (upd (upd (upd (upd (upd (upd (upd (upd (upd (upd (upd (upd (upd (upd (upd (upd (upd (upd (upd (upd (upd (upd (upd (upd (upd (upd (upd (upd (upd (upd (upd (upd (upd (upd (fun _ => (0 : Int32)) 0 (114 : Int32)) 1 (111 : Int32)) 2 (111 : Int32)) 3 (109 : Int32)) 4 (115 : Int32)) 5 (100 : Int32)) 6 (111 : Int32)) 7 (111 : Int32)) 8 (114 : Int32)) 9 (112 : Int32)) 10 (101 : Int32)) 11 (114 : Int32)) 12 (105 : Int32)) 13 (111 : Int32)) 14 (100 : Int32)) 15 (115 : Int32)) 16 (119 : Int32)) 17 (97 : Int32)) 18 (112 : Int32)) 19 (116 : Int32)) 20 (117 : Int32)) 21 (114 : Int32)) 22 (110 : Int32)) 23 (98 : Int32)) 24 (97 : Int32)) 25 (114 : Int32)) 26 (105 : Int32)) 27 (110 : Int32)) 28 (98 : Int32)) 29 (101 : Int32)) 30 (97 : Int32)) 31 (115 : Int32)) 32 (116 : Int32)) 33 (115 : Int32)) 34 (116 : Int32)) 35 (114 : Int32)) 36 (105 : Int32)) 37 (110 : Int32)) 38 (103 : Int32)) 39 (98 : Int32)) 40 (97 : Int32)) 41 (114 : Int32)) 42 (114 : Int32)) 43 (101 : Int32)) 44 (100 : Int32)) 45 (115 : Int32)) 46 (108 : Int32)) 47 (101 : Int32)) 48 (101 : Int32)) 49 (112 : Int32)) 50 (115 : Int32)) 51 (108 : Int32)) 52 (101 : Int32)) 53 (102 : Int32)) 54 (116 : Int32)) 55 (104 : Int32)) 56 (117 : Int32)) 57 (110 : Int32)) 58 (103 : Int32)) 59 (114 : Int32)) 60 (121 : Int32)) 61 (116 : Int32)) 62 (117 : Int32)) 63 (114 : Int32)) 64 (110 : Int32)) 65 (115 : Int32))
abbrev i_lanes : Nat → Int32 := (upd (upd (upd (upd (fun _ => (0 : Int32)) 0 (-4 : Int32)) 1 (-4 : Int32)) 2 (-4 : Int32)) 3 (-4 : Int32))
theorem cn_init : CnR i_cuts i_letters := by
  unfold CnR
  decide +kernel
theorem rel_init : Rel (0 : Int32) (0 : Int32) (2 : Int32) (0 : Int32) (0 : Int32) (12 : Int32) (fun _ => (0 : Int32)) (fun _ => (0 : Int32)) (0 : Int32) (1 : Int32) (0 : Int32) (-4 : Int32) (0 : Int32) (0 : Int32) (0 : Int32) (0 : Int32) (fun _ => (0 : Int32)) (fun _ => (0 : Int32)) (0 : Int32) (1 : Int32) (0 : Int32) (-4 : Int32) (0 : Int32) (0 : Int32) (0 : Int32) (0 : Int32) (fun _ => (0 : Int32)) (fun _ => (0 : Int32)) (0 : Int32) (1 : Int32) (0 : Int32) (-4 : Int32) (0 : Int32) (0 : Int32) (0 : Int32) (0 : Int32) (fun _ => (0 : Int32)) (fun _ => (0 : Int32)) (fun _ => (0 : Int32)) (fun _ => (0 : Int32)) (fun _ => (0 : Int32)) (fun _ => (0 : Int32)) (fun _ => (0 : Int32)) (fun _ => (0 : Int32)) (fun _ => (0 : Int32)) (fun _ => (0 : Int32)) (0 : Int32) (0 : Int32) (fun _ => (0 : Int32)) (0 : Int32) (fun _ => (0 : Int32)) (fun _ => (0 : Int32)) (fun _ => (0 : Int32)) (0 : Int32) (fun _ => (0 : Int32)) (fun _ => (0 : Int32)) (fun _ => (0 : Int32)) (0 : Int32) (-4 : Int32) (fun _ => (0 : Int32)) (0 : Int32) (-4 : Int32) (fun _ => (0 : Int32)) (0 : Int32) (-4 : Int32) (fun _ => (0 : Int32)) (0 : Int32) (-4 : Int32) (fun _ => (0 : Int32)) (2 : Int32) (0 : Int32) (0 : Int32) (12 : Int32) (fun _ => (0 : Int32)) (fun _ => (0 : Int32)) (fun _ => (0 : Int32)) (0 : Int32) (0 : Int32) (fun _ => (0 : Int32)) (0 : Int32) (fun _ => (0 : Int32)) (0 : Int32) (fun _ => (0 : Int32)) i_lanes (fun _ => (0 : Int32)) (fun _ => (0 : Int32)) (0 : Int32) i_cuts i_letters := ⟨2, 0, 0, 12, fun _ => 0, fun _ => 0, ⟨rfl, rfl, rfl, rfl, rfl, rfl⟩, ⟨rfl, rfl, rfl, rfl, fun k hk => absurd hk (Nat.not_lt_zero _)⟩, ⟨by decide, by decide, by decide, by decide, by decide, fun _ => Nat.zero_lt_succ _, fun _ _ => rfl, fun d hd => absurd hd (Nat.not_lt_zero _), fun _ => Nat.zero_lt_succ _, fun _ _ => rfl, fun k hk => absurd hk (Nat.not_lt_zero _)⟩, ⟨fun _ => 0, 0, 1, 0, none, 0, 0, fun _ => 0, 0, false, ⟨fun _ => Nat.zero_lt_succ _, fun _ _ => rfl, fun d hd => absurd hd (Nat.not_lt_zero _), by decide, by decide, by decide, by decide, fun x hx => (by cases hx), by decide, by decide, fun i hi => absurd hi (Nat.not_lt_zero _), fun _ _ => rfl, fun _ => Nat.zero_lt_succ _, by decide⟩, ⟨rfl, rfl, rfl, rfl, rfl, rfl, rfl, rfl, rfl, rfl⟩, ⟨fun d hd => absurd hd (Nat.not_lt_zero _), rfl, rfl, rfl, rfl, fun i hi => absurd hi (Nat.not_lt_zero _), rfl, rfl, rfl⟩⟩, ⟨⟨fun _ => 0, fun _ => 0, rfl, fun _ => Nat.zero_lt_succ _, fun _ _ => rfl, rfl, fun _ _ => rfl, fun _ => Nat.zero_lt_succ _⟩, fun h => absurd h (show ¬ (0 : Int32) = 1 from by decide)⟩, ⟨⟨fun _ => 0, fun _ => 0, rfl, fun _ => Nat.zero_lt_succ _, fun _ _ => rfl, rfl, fun _ _ => rfl, fun _ => Nat.zero_lt_succ _⟩, fun h => absurd h (show ¬ (0 : Int32) = 1 from by decide)⟩, ⟨false, false, rfl, rfl, rfl⟩, ⟨fun _ => 0, fun _ => 0, rfl, fun _ => Nat.zero_lt_succ _, fun _ _ => rfl, rfl, fun _ _ => rfl, fun _ => Nat.zero_lt_succ _⟩, ⟨fun _ => 0, fun _ => 0, rfl, fun _ => Nat.zero_lt_succ _, fun _ _ => rfl, rfl, fun _ _ => rfl, fun _ => Nat.zero_lt_succ _⟩, ⟨fun _ => 0, fun _ => 0, rfl, fun _ => Nat.zero_lt_succ _, fun _ _ => rfl, rfl, fun _ _ => rfl, fun _ => Nat.zero_lt_succ _⟩, ⟨fun _ => 0, fun _ => 0, rfl, fun _ => Nat.zero_lt_succ _, fun _ _ => rfl, rfl, fun _ _ => rfl, fun _ => Nat.zero_lt_succ _⟩, ⟨0, by decide, rfl, rfl, fun i hi => absurd hi (Nat.not_lt_zero _)⟩, rfl, ⟨0, fun _ => 0, fun _ => 0, fun _ => 0, by decide, rfl, rfl, fun i hi => absurd hi (Nat.not_lt_zero _)⟩, ⟨0, fun _ => 0, fun _ => 0, fun _ => false, by decide, rfl, rfl, fun i hi => absurd hi (Nat.not_lt_zero _)⟩, Or.inl ⟨rfl, rfl⟩, Or.inl ⟨rfl, rfl⟩, Or.inl ⟨rfl, rfl⟩, Or.inl ⟨rfl, rfl⟩, rfl, cn_init⟩
