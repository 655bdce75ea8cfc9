/-! ===== the 14 texts: length() and charAt(k) ===== -/
/-- the char at k of text i -/
def skc (i : Nat) (k : Int32) : Int32 := ((skB.getD i []).getD k.toNatClampNeg 0) &&& 255
theorem sk_shr : ∀ i : Nat, i < 14 → nI (skL.getD i 0) >>> ((0 : Int32) &&& 31) = nI (skL.getD i 0) := by decide
theorem sk_chr : ∀ i : Nat, i < 14 → ∀ k : Nat, k < skL.getD i 0 → (((((skB.getD i []).getD k 0) &&& 255).toUInt32 % 65536).toInt32 = ((skB.getD i []).getD k 0) &&& 255 ∧ narrow .char (.int (((skB.getD i []).getD k 0) &&& 255)) = .int (((skB.getD i []).getD k 0) &&& 255)) := by decide
abbrev rmJ0_coder : Room := { frames := 0, cells := 0, slots := 0, locals := 0 }
set_option maxHeartbeats 4000000 in
set_option maxRecDepth 100000 in
theorem c_J0_coder (l : Launch) (g : Gh) (sz : Nat) (i : Nat) (hi : i < 14) : CI l yJ0_coder_7d493 wsJ0_coder_7d493 rmJ0_coder [.ref (g.2.2.1 i)] g sz [] [] 0 := by
  refine ent_b (cc := cJ0_coder_7d493) (maxL := 1) (by decide) rfl (Nat.le_of_ble_eq_true rfl) ?_
  intro p e s m args below meth c A Q hx hb hml hown hts hK hz hk hA hD hP hS hret ls hl
  have hown : s.vm.findClass RJ0 = some m.cls := hown
  have hl : lv_has ls 1 [(0, .ref (g.2.2.1 i))] := hl
  refine va_gets hx hb hk.2.2.1 hS hown (hts (.fieldLink RJ0 38 "java/lang/String" "COMPACT_STRINGS" "Z") (by decide +kernel)) (fun _ h9 => h9) dJ0_coder_7d493_0 ?_
  refine lv_if_eq (tgt := 13) hx hb dJ0_coder_7d493_3 (by decide) (fun c_1 => ?_) (fun c_1 => ?_)
  · exact absurd c_1 (by decide)
  · refine lv_aload_n hx hb dJ0_coder_7d493_6 rfl (lv_at hl 0 rfl) ?_
    refine vk_getf hx hb (hk.2.1.1 i hi).2.1 hS hown (hts (.fieldLink RJ0 15 "java/lang/String" "coder" "B") (by decide +kernel)) (fun _ h9 => h9) dJ0_coder_7d493_7 ?_
    refine lv_goto (tgt := 14) hx hb dJ0_coder_7d493_10 (by decide) ?_
    exact hret _ _ _ _ rfl hP hS dJ0_coder_7d493_14
abbrev rmJ0_isLatin1 : Room := { frames := 0, cells := 0, slots := 0, locals := 0 }
set_option maxHeartbeats 4000000 in
set_option maxRecDepth 100000 in
theorem c_J0_isLatin1 (l : Launch) (g : Gh) (sz : Nat) (i : Nat) (hi : i < 14) : CI l yJ0_isLatin1_aae02 wsJ0_isLatin1_aae02 rmJ0_isLatin1 [.ref (g.2.2.1 i)] g sz [] [] 1 := by
  refine ent_z (cc := cJ0_isLatin1_aae02) (maxL := 1) (by decide) rfl (Nat.le_of_ble_eq_true rfl) ?_
  intro p e s m args below meth c A Q hx hb hml hown hts hK hz hk hA hD hP hS hret ls hl
  have hown : s.vm.findClass RJ0 = some m.cls := hown
  have hl : lv_has ls 1 [(0, .ref (g.2.2.1 i))] := hl
  refine va_gets hx hb hk.2.2.1 hS hown (hts (.fieldLink RJ0 38 "java/lang/String" "COMPACT_STRINGS" "Z") (by decide +kernel)) (fun _ h9 => h9) dJ0_isLatin1_aae02_0 ?_
  refine lv_if_eq (tgt := 17) hx hb dJ0_isLatin1_aae02_3 (by decide) (fun c_1 => ?_) (fun c_1 => ?_)
  · exact absurd c_1 (by decide)
  · refine lv_aload_n hx hb dJ0_isLatin1_aae02_6 rfl (lv_at hl 0 rfl) ?_
    refine vk_getf hx hb (hk.2.1.1 i hi).2.1 hS hown (hts (.fieldLink RJ0 15 "java/lang/String" "coder" "B") (by decide +kernel)) (fun _ h9 => h9) dJ0_isLatin1_aae02_7 ?_
    refine lv_if_ne (tgt := 17) hx hb dJ0_isLatin1_aae02_10 (by decide) (fun c_2 => ?_) (fun c_2 => ?_)
    · exact absurd rfl c_2
    · refine lv_iconst (v := (1 : Int32)) hx hb dJ0_isLatin1_aae02_13 (by decide) ?_
      refine lv_goto (tgt := 18) hx hb dJ0_isLatin1_aae02_14 (by decide) ?_
      exact hret _ _ _ _ rfl hP hS dJ0_isLatin1_aae02_18
abbrev rmJ0_length : Room := { frames := 1, cells := 0, slots := 0, locals := 20 }
set_option maxHeartbeats 4000000 in
set_option maxRecDepth 100000 in
theorem c_J0_length (l : Launch) (g : Gh) (sz : Nat) (i : Nat) (hi : i < 14) : CI l yJ0_length_8abf5 wsJ0_length_8abf5 rmJ0_length [.ref (g.2.2.1 i)] g sz [] [] (nI (skL.getD i 0)) := by
  refine ent_i (cc := cJ0_length_8abf5) (maxL := 1) (by decide) rfl (Nat.le_of_ble_eq_true rfl) ?_
  intro p e s m args below meth c A Q hx hb hml hown hts hK hz hk hA hD hP hS hret ls hl
  have hown : s.vm.findClass RJ0 = some m.cls := hown
  have hl : lv_has ls 1 [(0, .ref (g.2.2.1 i))] := hl
  refine lv_aload_n hx hb dJ0_length_8abf5_0 rfl (lv_at hl 0 rfl) ?_
  refine vk_getf hx hb (hk.2.1.1 i hi).2.2.1 hS hown (hts (.fieldLink RJ0 9 "java/lang/String" "value" "[B") (by decide +kernel)) (fun _ h9 => h9) dJ0_length_8abf5_1 ?_
  refine va_tlen (v := nI (skL.getD i 0)) hx hb (hk.2.1.1 i hi).2.2.2 hS rfl dJ0_length_8abf5_4 ?_
  refine lv_aload_n hx hb dJ0_length_8abf5_5 rfl (lv_at hl 0 rfl) ?_
  refine kVs_i (As := []) (rest := [.int (nI (skL.getD i 0))]) (c_J0_coder l g _ i hi) ⟨hx, hb, hml, hown, hts⟩ (cwV 0 hts gJ0_length_8abf5_J0_coder_7d493 rfl rfl rfl (by decide +kernel) ⟨by decide, by decide⟩) hK hz hk hP (hD.re rfl) hS hA hi rfl hl.1 rfl (Nat.le_of_ble_eq_true rfl) dJ0_length_8abf5_6 (fun H locs hP hS => ?_)
  refine lv_ishr hx hb dJ0_length_8abf5_9 ?_
  refine tp_i (sk_shr i hi).symm ?_
  exact hret _ _ _ _ hP hS dJ0_length_8abf5_10
abbrev rmJ3_checkIndex : Room := { frames := 0, cells := 0, slots := 0, locals := 0 }
set_option maxHeartbeats 4000000 in
set_option maxRecDepth 100000 in
theorem c_J3_checkIndex (l : Launch) (g : Gh) (sz : Nat) (k n : Int32) (v : Value) (hv : v = .null ∨ ∃ t, v = .ref t) (h0 : ¬ k < 0) (h1 : k < n) : CI l yJ3_checkIndex_8e157 wsJ3_checkIndex_8e157 rmJ3_checkIndex [.int k, .int n, v] g sz [] [] k := by
  have hlen : (lg_sl [.int k, .int n, v]).length ≤ 3 := by rcases hv with rfl | ⟨t, rfl⟩ <;> exact Nat.le_of_ble_eq_true rfl
  refine ent_i (cc := cJ3_checkIndex_8e157) (maxL := 3) (by decide) rfl hlen ?_
  intro p e s m args below meth c A Q hx hb hml hown hts hK hz hk hA hD hP hS hret ls hl
  have hl : lv_has ls 3 [(0, .int k), (1, .int n), (2, v)] := hl
  refine lv_iload_n hx hb dJ3_checkIndex_8e157_0 rfl (lv_at hl 0 rfl) ?_
  refine lv_if_lt (tgt := 9) hx hb dJ3_checkIndex_8e157_1 (by decide) (fun c_1 => absurd c_1 h0) (fun c_1 => ?_)
  refine lv_iload_n hx hb dJ3_checkIndex_8e157_4 rfl (lv_at hl 0 rfl) ?_
  refine lv_iload_n hx hb dJ3_checkIndex_8e157_5 rfl (lv_at hl 1 rfl) ?_
  refine lv_icmp_lt (tgt := 16) hx hb dJ3_checkIndex_8e157_6 (by decide) (fun c_2 => ?_) (fun c_2 => absurd h1 c_2)
  refine lv_iload_n hx hb dJ3_checkIndex_8e157_16 rfl (lv_at hl 0 rfl) ?_
  exact hret _ _ _ _ hP hS dJ3_checkIndex_8e157_17
theorem va_rf_cat (o : Option Nat) : va_rf o = .null ∨ ∃ t, va_rf o = .ref t := by cases o with
  | none => exact Or.inl rfl
  | some t => exact Or.inr ⟨t, rfl⟩
abbrev rmJ0_checkIndex : Room := { frames := 1, cells := 0, slots := 0, locals := 22 }
set_option maxHeartbeats 4000000 in
set_option maxRecDepth 100000 in
theorem c_J0_checkIndex (l : Launch) (g : Gh) (sz : Nat) (k n : Int32) (h0 : ¬ k < 0) (h1 : k < n) : CV l yJ0_checkIndex_df160 wsJ0_checkIndex_df160 rmJ0_checkIndex [.int k, .int n] g sz [] [] := by
  refine ent_v (cc := cJ0_checkIndex_df160) (maxL := 2) (by decide) rfl (Nat.le_of_ble_eq_true rfl) ?_
  intro p e s m args below meth c A Q hx hb hml hown hts hK hz hk hA hD hP hS hret ls hl
  have hown : s.vm.findClass RJ0 = some m.cls := hown
  have hl : lv_has ls 2 [(0, .int k), (1, .int n)] := hl
  refine lv_iload_n hx hb dJ0_checkIndex_df160_0 rfl (lv_at hl 0 rfl) ?_
  refine lv_iload_n hx hb dJ0_checkIndex_df160_1 rfl (lv_at hl 1 rfl) ?_
  refine va_gets hx hb hk.2.2.2 hS hown (hts (.fieldLink RJ0 1053 "jdk/internal/util/Preconditions" "SIOOBE_FORMATTER" "Ljava/util/function/BiFunction;") (by decide +kernel)) (fun _ h9 => h9) dJ0_checkIndex_df160_2 ?_
  refine kS_i (wn := []) (As := [.int k, .int n, va_rf g.2.2.2.2]) (rest := []) (c_J3_checkIndex l g _ k n _ (va_rf_cat _) h0 h1) ⟨hx, hb, hml, hown, hts⟩ (va_cwS 3 hts gJ0_checkIndex_df160_J3_checkIndex_8e157 rfl rfl rfl (by decide +kernel) ⟨by decide, by decide⟩) hK hz hk hP (hD.re rfl) hS hA [] rfl rfl rfl rfl rfl hl.1 rfl (Nat.le_of_ble_eq_true rfl) dJ0_checkIndex_df160_5 (fun H locs hP hS => ?_)
  refine lv_pop hx hb dJ0_checkIndex_df160_8 rfl ?_
  exact hret _ _ _ _ hP hS dJ0_checkIndex_df160_9
abbrev rmJ1_charAt : Room := { frames := 2, cells := 0, slots := 0, locals := 43 }
set_option maxHeartbeats 4000000 in
set_option maxRecDepth 100000 in
theorem c_J1_charAt (l : Launch) (g : Gh) (sz : Nat) (i : Nat) (hi : i < 14) (k : Int32) (hk9 : vp_in k (skL.getD i 0)) : CI l yJ1_charAt_3b067 wsJ1_charAt_3b067 rmJ1_charAt [.ref (g.2.2.2.1 i), .int k] g sz [] [] (skc i k) := by
  have hL : skL.getD i 0 < 2 ^ 31 := by
    have : ∀ i : Nat, i < 14 → skL.getD i 0 < 2 ^ 31 := by decide
    exact this i hi
  obtain ⟨j, hj, ek⟩ := vp_in_of hk9 hL
  have h0 : ¬ k < 0 := by rw [ek]; exact nI_pos (by omega)
  have h1 : k < nI (skL.getD i 0) := by rw [ek]; exact nI_lt hj hL
  have hcl : k.toNatClampNeg = j := by rw [ek]; exact nI_clamp (by omega)
  refine ent_c (cc := cJ1_charAt_3b067) (maxL := 2) (by decide) rfl (Nat.le_of_ble_eq_true rfl) ?_
  intro p e s m args below meth c A Q hx hb hml hown hts hK hz hk hA hD hP hS hret ls hl
  have hown : s.vm.findClass RJ1 = some m.cls := hown
  have hl : lv_has ls 2 [(0, .ref (g.2.2.2.1 i)), (1, .int k)] := hl
  refine lv_iload_n hx hb dJ1_charAt_3b067_0 rfl (lv_at hl 1 rfl) ?_
  refine lv_aload_n hx hb dJ1_charAt_3b067_1 rfl (lv_at hl 0 rfl) ?_
  refine va_tlen (v := nI (skL.getD i 0)) hx hb (hk.2.1.1 i hi).2.2.2 hS rfl dJ1_charAt_3b067_2 ?_
  refine kS_v (wn := []) (As := [.int k, .int (nI (skL.getD i 0))]) (rest := []) (c_J0_checkIndex l g _ k _ h0 h1) ⟨hx, hb, hml, hown, hts⟩ (va_cwS 2 hts gJ1_charAt_3b067_J0_checkIndex_df160 rfl rfl rfl (by decide +kernel) ⟨by decide, by decide⟩) hK hz hk hP (hD.re rfl) hS hA [] rfl rfl rfl rfl rfl hl.1 rfl (Nat.le_of_ble_eq_true rfl) dJ1_charAt_3b067_3 (fun H locs hP hS => ?_)
  refine lv_aload_n hx hb dJ1_charAt_3b067_6 rfl (lv_at hl 0 rfl) ?_
  refine lv_iload_n hx hb dJ1_charAt_3b067_7 rfl (lv_at hl 1 rfl) ?_
  refine va_tb hx hb (hk.2.1.1 i hi).2.2.2 hS hk9 rfl dJ1_charAt_3b067_8 ?_
  refine lv_sipush (v := (255 : Int32)) hx hb dJ1_charAt_3b067_9 (by decide) ?_
  refine lv_iand hx hb dJ1_charAt_3b067_12 ?_
  refine lv_i2c hx hb dJ1_charAt_3b067_13 rfl ?_
  have hc := sk_chr i hi j hj
  refine tp_i (v := skc i k) (by unfold skc; rw [hcl]; exact hc.1.symm) ?_
  exact hret _ _ _ _ (by unfold skc; rw [hcl]; exact hc.2) hP hS dJ1_charAt_3b067_14
abbrev rmJ0_charAt : Room := { frames := 3, cells := 0, slots := 0, locals := 64 }
set_option maxHeartbeats 4000000 in
set_option maxRecDepth 100000 in
theorem c_J0_charAt (l : Launch) (g : Gh) (sz : Nat) (i : Nat) (hi : i < 14) (k : Int32) (hk9 : vp_in k (skL.getD i 0)) : CI l yJ0_charAt_5068e wsJ0_charAt_5068e rmJ0_charAt [.ref (g.2.2.1 i), .int k] g sz [] [] (skc i k) := by
  have hL : skL.getD i 0 < 2 ^ 31 := by
    have : ∀ i : Nat, i < 14 → skL.getD i 0 < 2 ^ 31 := by decide
    exact this i hi
  obtain ⟨j, hj, ek⟩ := vp_in_of hk9 hL
  have hcl : k.toNatClampNeg = j := by rw [ek]; exact nI_clamp (by omega)
  have hc := sk_chr i hi j hj
  refine ent_c (cc := cJ0_charAt_5068e) (maxL := 2) (by decide) rfl (Nat.le_of_ble_eq_true rfl) ?_
  intro p e s m args below meth c A Q hx hb hml hown hts hK hz hk hA hD hP hS hret ls hl
  have hown : s.vm.findClass RJ0 = some m.cls := hown
  have hl : lv_has ls 2 [(0, .ref (g.2.2.1 i)), (1, .int k)] := hl
  refine lv_aload_n hx hb dJ0_charAt_5068e_0 rfl (lv_at hl 0 rfl) ?_
  refine kVs_i (As := []) (rest := []) (c_J0_isLatin1 l g _ i hi) ⟨hx, hb, hml, hown, hts⟩ (cwV 0 hts gJ0_charAt_5068e_J0_isLatin1_aae02 rfl rfl rfl (by decide +kernel) ⟨by decide, by decide⟩) hK hz hk hP (hD.re rfl) hS hA hi rfl hl.1 rfl (Nat.le_of_ble_eq_true rfl) dJ0_charAt_5068e_1 (fun H locs hP hS => ?_)
  refine lv_if_eq (tgt := 16) hx hb dJ0_charAt_5068e_4 (by decide) (fun c_1 => absurd c_1 (by decide)) (fun c_1 => ?_)
  refine lv_aload_n hx hb dJ0_charAt_5068e_7 rfl (lv_at hl 0 rfl) ?_
  refine vk_getf hx hb (hk.2.1.1 i hi).2.2.1 hS hown (hts (.fieldLink RJ0 9 "java/lang/String" "value" "[B") (by decide +kernel)) (fun _ h9 => h9) dJ0_charAt_5068e_8 ?_
  refine lv_iload_n hx hb dJ0_charAt_5068e_11 rfl (lv_at hl 1 rfl) ?_
  refine kS_i (wn := []) (As := [.ref (g.2.2.2.1 i), .int k]) (rest := []) (c_J1_charAt l g _ i hi k hk9) ⟨hx, hb, hml, hown, hts⟩ (va_cwS 2 hts gJ0_charAt_5068e_J1_charAt_3b067 rfl rfl rfl (by decide +kernel) ⟨by decide, by decide⟩) hK hz hk hP (hD.re rfl) hS hA [] rfl rfl rfl rfl rfl hl.1 rfl (Nat.le_of_ble_eq_true rfl) dJ0_charAt_5068e_12 (fun H locs hP hS => ?_)
  exact hret _ _ _ _ (by unfold skc; rw [hcl]; exact hc.2) hP hS dJ0_charAt_5068e_15
