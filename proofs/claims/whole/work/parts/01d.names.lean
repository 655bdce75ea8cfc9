theorem tb_2 {w : Cond} (h : w ∈ tables_1_2) : w ∈ lw_tbl := List.mem_append_right _ (List.mem_append_right _ (List.mem_append_left _ h))
theorem tb_3 {w : Cond} (h : w ∈ tables_1_3) : w ∈ lw_tbl := List.mem_append_right _ (List.mem_append_right _ (List.mem_append_right _ (List.mem_append_left _ h)))
theorem tb_4 {w : Cond} (h : w ∈ tables_1_4) : w ∈ lw_tbl := List.mem_append_right _ (List.mem_append_right _ (List.mem_append_right _ (List.mem_append_right _ (List.mem_append_left _ h))))
theorem tb_5 {w : Cond} (h : w ∈ tables_1_5) : w ∈ lw_tbl := List.mem_append_right _ (List.mem_append_right _ (List.mem_append_right _ (List.mem_append_right _ (List.mem_append_right _ (List.mem_append_left _ h)))))
theorem tb_6 {w : Cond} (h : w ∈ tables_1_6) : w ∈ lw_tbl := List.mem_append_right _ (List.mem_append_right _ (List.mem_append_right _ (List.mem_append_right _ (List.mem_append_right _ (List.mem_append_right _ (h))))))
theorem fm_c {a : Cond} {l big : List Cond} (h : a ∈ big) (hl : ∀ w ∈ l, w ∈ big) : ∀ w ∈ a :: l, w ∈ big := List.forall_mem_cons.mpr ⟨h, hl⟩
set_option maxRecDepth 20000 in
theorem wsL_in_1 : ∀ w ∈ wsL_law_r1, w ∈ lw_tbl :=
 fm_c (tb_1 (List.mem_of_getElem? (i := 18) rfl))
 (fm_c (tb_1 (List.mem_of_getElem? (i := 19) rfl))
 (fm_c (tb_1 (List.mem_of_getElem? (i := 1) rfl))
 (fm_c (tb_4 (List.mem_of_getElem? (i := 93) rfl))
 (fm_c (tb_4 (List.mem_of_getElem? (i := 94) rfl))
 (fm_c (tb_1 (List.mem_of_getElem? (i := 9) rfl))
 (fm_c (tb_6 (List.mem_of_getElem? (i := 54) rfl))
 (fm_c (tb_1 (List.mem_of_getElem? (i := 20) rfl))
 (fm_c (tb_1 (List.mem_of_getElem? (i := 21) rfl))
 (fm_c (tb_1 (List.mem_of_getElem? (i := 22) rfl))
 (fm_c (tb_1 (List.mem_of_getElem? (i := 23) rfl))
 (fm_c (tb_1 (List.mem_of_getElem? (i := 24) rfl))
 (fm_c (tb_1 (List.mem_of_getElem? (i := 25) rfl))
 (fm_c (tb_1 (List.mem_of_getElem? (i := 26) rfl))
 (fm_c (tb_1 (List.mem_of_getElem? (i := 27) rfl))
 (fm_c (tb_1 (List.mem_of_getElem? (i := 2) rfl))
 (fm_c (tb_2 (List.mem_of_getElem? (i := 39) rfl))
 (fm_c (tb_1 (List.mem_of_getElem? (i := 77) rfl))
 (fm_c (tb_1 (List.mem_of_getElem? (i := 78) rfl))
 (fm_c (tb_1 (List.mem_of_getElem? (i := 3) rfl))
 (fm_c (tb_2 (List.mem_of_getElem? (i := 40) rfl))
 (fm_c (tb_2 (List.mem_of_getElem? (i := 41) rfl))
 (fm_c (tb_2 (List.mem_of_getElem? (i := 42) rfl))
 (fm_c (tb_2 (List.mem_of_getElem? (i := 43) rfl))
 ((fun _ h => absurd h List.not_mem_nil)))))))))))))))))))))))))
set_option maxRecDepth 20000 in
theorem wsL_in_2 : ∀ w ∈ wsL_law_r2, w ∈ lw_tbl :=
 fm_c (tb_2 (List.mem_of_getElem? (i := 44) rfl))
 (fm_c (tb_1 (List.mem_of_getElem? (i := 144) rfl))
 (fm_c (tb_1 (List.mem_of_getElem? (i := 145) rfl))
 (fm_c (tb_1 (List.mem_of_getElem? (i := 4) rfl))
 (fm_c (tb_2 (List.mem_of_getElem? (i := 45) rfl))
 (fm_c (tb_1 (List.mem_of_getElem? (i := 198) rfl))
 (fm_c (tb_1 (List.mem_of_getElem? (i := 199) rfl))
 (fm_c (tb_1 (List.mem_of_getElem? (i := 5) rfl))
 (fm_c (tb_2 (List.mem_of_getElem? (i := 46) rfl))
 (fm_c (tb_2 (List.mem_of_getElem? (i := 47) rfl))
 (fm_c (tb_1 (List.mem_of_getElem? (i := 221) rfl))
 (fm_c (tb_1 (List.mem_of_getElem? (i := 222) rfl))
 (fm_c (tb_1 (List.mem_of_getElem? (i := 6) rfl))
 (fm_c (tb_2 (List.mem_of_getElem? (i := 48) rfl))
 (fm_c (tb_2 (List.mem_of_getElem? (i := 6) rfl))
 (fm_c (tb_2 (List.mem_of_getElem? (i := 7) rfl))
 (fm_c (tb_1 (List.mem_of_getElem? (i := 7) rfl))
 (fm_c (tb_2 (List.mem_of_getElem? (i := 49) rfl))
 (fm_c (tb_2 (List.mem_of_getElem? (i := 19) rfl))
 (fm_c (tb_2 (List.mem_of_getElem? (i := 50) rfl))
 (fm_c (tb_2 (List.mem_of_getElem? (i := 51) rfl))
 (fm_c (tb_2 (List.mem_of_getElem? (i := 21) rfl))
 (fm_c (tb_1 (List.mem_of_getElem? (i := 8) rfl))
 (fm_c (tb_1 (List.mem_of_getElem? (i := 28) rfl))
 ((fun _ h => absurd h List.not_mem_nil)))))))))))))))))))))))))
set_option maxRecDepth 20000 in
theorem wsL_in_3 : ∀ w ∈ wsL_law_r3, w ∈ lw_tbl :=
 fm_c (tb_1 (List.mem_of_getElem? (i := 29) rfl))
 (fm_c (tb_1 (List.mem_of_getElem? (i := 30) rfl))
 (fm_c (tb_1 (List.mem_of_getElem? (i := 31) rfl))
 (fm_c (tb_1 (List.mem_of_getElem? (i := 76) rfl))
 (fm_c (tb_1 (List.mem_of_getElem? (i := 36) rfl))
 (fm_c (tb_1 (List.mem_of_getElem? (i := 40) rfl))
 (fm_c (tb_1 (List.mem_of_getElem? (i := 32) rfl))
 (fm_c (tb_1 (List.mem_of_getElem? (i := 33) rfl))
 (fm_c (tb_1 (List.mem_of_getElem? (i := 34) rfl))
 (fm_c (tb_1 (List.mem_of_getElem? (i := 35) rfl))
 (fm_c (tb_1 (List.mem_of_getElem? (i := 44) rfl))
 (fm_c (tb_1 (List.mem_of_getElem? (i := 50) rfl))
 (fm_c (tb_1 (List.mem_of_getElem? (i := 55) rfl))
 (fm_c (tb_1 (List.mem_of_getElem? (i := 59) rfl))
 (fm_c (tb_1 (List.mem_of_getElem? (i := 79) rfl))
 (fm_c (tb_1 (List.mem_of_getElem? (i := 80) rfl))
 (fm_c (tb_1 (List.mem_of_getElem? (i := 81) rfl))
 (fm_c (tb_1 (List.mem_of_getElem? (i := 82) rfl))
 (fm_c (tb_1 (List.mem_of_getElem? (i := 90) rfl))
 (fm_c (tb_1 (List.mem_of_getElem? (i := 94) rfl))
 (fm_c (tb_1 (List.mem_of_getElem? (i := 87) rfl))
 (fm_c (tb_1 (List.mem_of_getElem? (i := 83) rfl))
 (fm_c (tb_1 (List.mem_of_getElem? (i := 84) rfl))
 (fm_c (tb_1 (List.mem_of_getElem? (i := 85) rfl))
 ((fun _ h => absurd h List.not_mem_nil)))))))))))))))))))))))))
set_option maxRecDepth 20000 in
theorem wsL_in_4 : ∀ w ∈ wsL_law_r4, w ∈ lw_tbl :=
 fm_c (tb_1 (List.mem_of_getElem? (i := 86) rfl))
 (fm_c (tb_1 (List.mem_of_getElem? (i := 96) rfl))
 (fm_c (tb_1 (List.mem_of_getElem? (i := 99) rfl))
 (fm_c (tb_1 (List.mem_of_getElem? (i := 102) rfl))
 (fm_c (tb_1 (List.mem_of_getElem? (i := 106) rfl))
 (fm_c (tb_1 (List.mem_of_getElem? (i := 110) rfl))
 (fm_c (tb_1 (List.mem_of_getElem? (i := 114) rfl))
 (fm_c (tb_1 (List.mem_of_getElem? (i := 116) rfl))
 (fm_c (tb_1 (List.mem_of_getElem? (i := 118) rfl))
 (fm_c (tb_1 (List.mem_of_getElem? (i := 147) rfl))
 (fm_c (tb_1 (List.mem_of_getElem? (i := 148) rfl))
 (fm_c (tb_1 (List.mem_of_getElem? (i := 149) rfl))
 (fm_c (tb_1 (List.mem_of_getElem? (i := 150) rfl))
 (fm_c (tb_1 (List.mem_of_getElem? (i := 154) rfl))
 (fm_c (tb_1 (List.mem_of_getElem? (i := 152) rfl))
 (fm_c (tb_1 (List.mem_of_getElem? (i := 156) rfl))
 (fm_c (tb_1 (List.mem_of_getElem? (i := 158) rfl))
 (fm_c (tb_1 (List.mem_of_getElem? (i := 160) rfl))
 (fm_c (tb_1 (List.mem_of_getElem? (i := 197) rfl))
 (fm_c (tb_1 (List.mem_of_getElem? (i := 166) rfl))
 (fm_c (tb_1 (List.mem_of_getElem? (i := 151) rfl))
 (fm_c (tb_1 (List.mem_of_getElem? (i := 153) rfl))
 (fm_c (tb_1 (List.mem_of_getElem? (i := 201) rfl))
 (fm_c (tb_1 (List.mem_of_getElem? (i := 202) rfl))
 ((fun _ h => absurd h List.not_mem_nil)))))))))))))))))))))))))
set_option maxRecDepth 20000 in
theorem wsL_in_5 : ∀ w ∈ wsL_law_r5, w ∈ lw_tbl :=
 fm_c (tb_1 (List.mem_of_getElem? (i := 203) rfl))
 (fm_c (tb_1 (List.mem_of_getElem? (i := 204) rfl))
 (fm_c (tb_1 (List.mem_of_getElem? (i := 206) rfl))
 (fm_c (tb_1 (List.mem_of_getElem? (i := 208) rfl))
 (fm_c (tb_1 (List.mem_of_getElem? (i := 210) rfl))
 (fm_c (tb_1 (List.mem_of_getElem? (i := 224) rfl))
 (fm_c (tb_1 (List.mem_of_getElem? (i := 225) rfl))
 (fm_c (tb_1 (List.mem_of_getElem? (i := 226) rfl))
 (fm_c (tb_1 (List.mem_of_getElem? (i := 227) rfl))
 (fm_c (tb_1 (List.mem_of_getElem? (i := 228) rfl))
 (fm_c (tb_1 (List.mem_of_getElem? (i := 229) rfl))
 (fm_c (tb_1 (List.mem_of_getElem? (i := 230) rfl))
 (fm_c (tb_1 (List.mem_of_getElem? (i := 231) rfl))
 (fm_c (tb_2 (List.mem_of_getElem? (i := 9) rfl))
 (fm_c (tb_2 (List.mem_of_getElem? (i := 10) rfl))
 (fm_c (tb_2 (List.mem_of_getElem? (i := 11) rfl))
 (fm_c (tb_2 (List.mem_of_getElem? (i := 12) rfl))
 (fm_c (tb_2 (List.mem_of_getElem? (i := 23) rfl))
 (fm_c (tb_2 (List.mem_of_getElem? (i := 24) rfl))
 (fm_c (tb_2 (List.mem_of_getElem? (i := 25) rfl))
 (fm_c (tb_2 (List.mem_of_getElem? (i := 26) rfl))
 (fm_c (tb_2 (List.mem_of_getElem? (i := 28) rfl))
 (fm_c (tb_2 (List.mem_of_getElem? (i := 30) rfl))
 (fm_c (tb_4 (List.mem_of_getElem? (i := 95) rfl))
 ((fun _ h => absurd h List.not_mem_nil)))))))))))))))))))))))))
set_option maxRecDepth 20000 in
theorem wsL_in_6 : ∀ w ∈ wsL_law_r6, w ∈ lw_tbl :=
 fm_c (tb_4 (List.mem_of_getElem? (i := 96) rfl))
 (fm_c (tb_4 (List.mem_of_getElem? (i := 97) rfl))
 (fm_c (tb_4 (List.mem_of_getElem? (i := 98) rfl))
 (fm_c (tb_4 (List.mem_of_getElem? (i := 99) rfl))
 (fm_c (tb_4 (List.mem_of_getElem? (i := 100) rfl))
 (fm_c (tb_4 (List.mem_of_getElem? (i := 102) rfl))
 (fm_c (tb_4 (List.mem_of_getElem? (i := 103) rfl))
 (fm_c (tb_4 (List.mem_of_getElem? (i := 105) rfl))
 (fm_c (tb_4 (List.mem_of_getElem? (i := 106) rfl))
 (fm_c (tb_4 (List.mem_of_getElem? (i := 114) rfl))
 (fm_c (tb_4 (List.mem_of_getElem? (i := 123) rfl))
 (fm_c (tb_4 (List.mem_of_getElem? (i := 124) rfl))
 (fm_c (tb_4 (List.mem_of_getElem? (i := 125) rfl))
 (fm_c (tb_4 (List.mem_of_getElem? (i := 126) rfl))
 (fm_c (tb_4 (List.mem_of_getElem? (i := 127) rfl))
 (fm_c (tb_4 (List.mem_of_getElem? (i := 128) rfl))
 (fm_c (tb_4 (List.mem_of_getElem? (i := 129) rfl))
 (fm_c (tb_4 (List.mem_of_getElem? (i := 131) rfl))
 (fm_c (tb_4 (List.mem_of_getElem? (i := 217) rfl))
 (fm_c (tb_4 (List.mem_of_getElem? (i := 133) rfl))
 (fm_c (tb_4 (List.mem_of_getElem? (i := 134) rfl))
 (fm_c (tb_4 (List.mem_of_getElem? (i := 135) rfl))
 (fm_c (tb_4 (List.mem_of_getElem? (i := 136) rfl))
 (fm_c (tb_2 (List.mem_of_getElem? (i := 79) rfl))
 ((fun _ h => absurd h List.not_mem_nil)))))))))))))))))))))))))
set_option maxRecDepth 20000 in
theorem wsL_in_7 : ∀ w ∈ wsL_law_r7, w ∈ lw_tbl :=
 fm_c (tb_2 (List.mem_of_getElem? (i := 80) rfl))
 (fm_c (tb_2 (List.mem_of_getElem? (i := 81) rfl))
 (fm_c (tb_2 (List.mem_of_getElem? (i := 82) rfl))
 (fm_c (tb_1 (List.mem_of_getElem? (i := 159) rfl))
 (fm_c (tb_2 (List.mem_of_getElem? (i := 83) rfl))
 (fm_c (tb_2 (List.mem_of_getElem? (i := 84) rfl))
 (fm_c (tb_2 (List.mem_of_getElem? (i := 85) rfl))
 (fm_c (tb_2 (List.mem_of_getElem? (i := 86) rfl))
 (fm_c (tb_4 (List.mem_of_getElem? (i := 218) rfl))
 (fm_c (tb_4 (List.mem_of_getElem? (i := 219) rfl))
 (fm_c (tb_4 (List.mem_of_getElem? (i := 220) rfl))
 (fm_c (tb_4 (List.mem_of_getElem? (i := 221) rfl))
 (fm_c (tb_4 (List.mem_of_getElem? (i := 115) rfl))
 (fm_c (tb_2 (List.mem_of_getElem? (i := 87) rfl))
 (fm_c (tb_2 (List.mem_of_getElem? (i := 88) rfl))
 (fm_c (tb_2 (List.mem_of_getElem? (i := 89) rfl))
 (fm_c (tb_2 (List.mem_of_getElem? (i := 90) rfl))
 (fm_c (tb_2 (List.mem_of_getElem? (i := 91) rfl))
 (fm_c (tb_2 (List.mem_of_getElem? (i := 92) rfl))
 (fm_c (tb_2 (List.mem_of_getElem? (i := 93) rfl))
 (fm_c (tb_4 (List.mem_of_getElem? (i := 222) rfl))
 (fm_c (tb_4 (List.mem_of_getElem? (i := 223) rfl))
 (fm_c (tb_4 (List.mem_of_getElem? (i := 224) rfl))
 (fm_c (tb_4 (List.mem_of_getElem? (i := 225) rfl))
 ((fun _ h => absurd h List.not_mem_nil)))))))))))))))))))))))))
set_option maxRecDepth 20000 in
theorem wsL_in_8 : ∀ w ∈ wsL_law_r8, w ∈ lw_tbl :=
 fm_c (tb_4 (List.mem_of_getElem? (i := 226) rfl))
 (fm_c (tb_4 (List.mem_of_getElem? (i := 227) rfl))
 (fm_c (tb_4 (List.mem_of_getElem? (i := 228) rfl))
 (fm_c (tb_2 (List.mem_of_getElem? (i := 94) rfl))
 (fm_c (tb_2 (List.mem_of_getElem? (i := 95) rfl))
 (fm_c (tb_2 (List.mem_of_getElem? (i := 96) rfl))
 (fm_c (tb_2 (List.mem_of_getElem? (i := 97) rfl))
 (fm_c (tb_1 (List.mem_of_getElem? (i := 161) rfl))
 (fm_c (tb_1 (List.mem_of_getElem? (i := 163) rfl))
 (fm_c (tb_1 (List.mem_of_getElem? (i := 155) rfl))
 (fm_c (tb_1 (List.mem_of_getElem? (i := 157) rfl))
 (fm_c (tb_1 (List.mem_of_getElem? (i := 211) rfl))
 (fm_c (tb_1 (List.mem_of_getElem? (i := 165) rfl))
 (fm_c (tb_2 (List.mem_of_getElem? (i := 98) rfl))
 (fm_c (tb_2 (List.mem_of_getElem? (i := 99) rfl))
 (fm_c (tb_2 (List.mem_of_getElem? (i := 100) rfl))
 (fm_c (tb_2 (List.mem_of_getElem? (i := 101) rfl))
 (fm_c (tb_1 (List.mem_of_getElem? (i := 167) rfl))
 (fm_c (tb_1 (List.mem_of_getElem? (i := 171) rfl))
 (fm_c (tb_1 (List.mem_of_getElem? (i := 164) rfl))
 (fm_c (tb_1 (List.mem_of_getElem? (i := 168) rfl))
 (fm_c (tb_2 (List.mem_of_getElem? (i := 102) rfl))
 (fm_c (tb_2 (List.mem_of_getElem? (i := 103) rfl))
 (fm_c (tb_2 (List.mem_of_getElem? (i := 104) rfl))
 ((fun _ h => absurd h List.not_mem_nil)))))))))))))))))))))))))
set_option maxRecDepth 20000 in
theorem wsL_in_9 : ∀ w ∈ wsL_law_r9, w ∈ lw_tbl :=
 fm_c (tb_2 (List.mem_of_getElem? (i := 106) rfl))
 (fm_c (tb_s (List.mem_of_getElem? (i := 0) rfl))
 (fm_c (tb_2 (List.mem_of_getElem? (i := 107) rfl))
 (fm_c (tb_1 (List.mem_of_getElem? (i := 169) rfl))
 (fm_c (tb_1 (List.mem_of_getElem? (i := 170) rfl))
 (fm_c (tb_2 (List.mem_of_getElem? (i := 111) rfl))
 (fm_c (tb_2 (List.mem_of_getElem? (i := 112) rfl))
 (fm_c (tb_1 (List.mem_of_getElem? (i := 10) rfl))
 (fm_c (tb_2 (List.mem_of_getElem? (i := 113) rfl))
 (fm_c (tb_2 (List.mem_of_getElem? (i := 108) rfl))
 (fm_c (tb_2 (List.mem_of_getElem? (i := 109) rfl))
 (fm_c (tb_2 (List.mem_of_getElem? (i := 110) rfl))
 (fm_c (tb_2 (List.mem_of_getElem? (i := 114) rfl))
 (fm_c (tb_2 (List.mem_of_getElem? (i := 116) rfl))
 (fm_c (tb_s (List.mem_of_getElem? (i := 1) rfl))
 (fm_c (tb_2 (List.mem_of_getElem? (i := 117) rfl))
 (fm_c (tb_1 (List.mem_of_getElem? (i := 162) rfl))
 (fm_c (tb_2 (List.mem_of_getElem? (i := 118) rfl))
 (fm_c (tb_2 (List.mem_of_getElem? (i := 120) rfl))
 (fm_c (tb_s (List.mem_of_getElem? (i := 2) rfl))
 (fm_c (tb_2 (List.mem_of_getElem? (i := 121) rfl))
 (fm_c (tb_1 (List.mem_of_getElem? (i := 47) rfl))
 (fm_c (tb_1 (List.mem_of_getElem? (i := 101) rfl))
 (fm_c (tb_1 (List.mem_of_getElem? (i := 105) rfl))
 ((fun _ h => absurd h List.not_mem_nil)))))))))))))))))))))))))
set_option maxRecDepth 20000 in
theorem wsL_in_10 : ∀ w ∈ wsL_law_r10, w ∈ lw_tbl :=
 fm_c (tb_1 (List.mem_of_getElem? (i := 61) rfl))
 (fm_c (tb_2 (List.mem_of_getElem? (i := 123) rfl))
 (fm_c (tb_2 (List.mem_of_getElem? (i := 125) rfl))
 (fm_c (tb_s (List.mem_of_getElem? (i := 3) rfl))
 (fm_c (tb_2 (List.mem_of_getElem? (i := 126) rfl))
 (fm_c (tb_2 (List.mem_of_getElem? (i := 127) rfl))
 (fm_c (tb_2 (List.mem_of_getElem? (i := 128) rfl))
 (fm_c (tb_2 (List.mem_of_getElem? (i := 129) rfl))
 (fm_c (tb_1 (List.mem_of_getElem? (i := 11) rfl))
 (fm_c (tb_2 (List.mem_of_getElem? (i := 130) rfl))
 (fm_c (tb_6 (List.mem_of_getElem? (i := 55) rfl))
 (fm_c (tb_2 (List.mem_of_getElem? (i := 131) rfl))
 (fm_c (tb_2 (List.mem_of_getElem? (i := 132) rfl))
 (fm_c (tb_2 (List.mem_of_getElem? (i := 133) rfl))
 (fm_c (tb_2 (List.mem_of_getElem? (i := 134) rfl))
 (fm_c (tb_2 (List.mem_of_getElem? (i := 135) rfl))
 (fm_c (tb_6 (List.mem_of_getElem? (i := 56) rfl))
 (fm_c (tb_2 (List.mem_of_getElem? (i := 137) rfl))
 (fm_c (tb_2 (List.mem_of_getElem? (i := 138) rfl))
 (fm_c (tb_2 (List.mem_of_getElem? (i := 139) rfl))
 (fm_c (tb_2 (List.mem_of_getElem? (i := 140) rfl))
 (fm_c (tb_2 (List.mem_of_getElem? (i := 141) rfl))
 (fm_c (tb_2 (List.mem_of_getElem? (i := 142) rfl))
 (fm_c (tb_2 (List.mem_of_getElem? (i := 143) rfl))
 ((fun _ h => absurd h List.not_mem_nil)))))))))))))))))))))))))
set_option maxRecDepth 20000 in
theorem wsL_in_11 : ∀ w ∈ wsL_law_r11, w ∈ lw_tbl :=
 fm_c (tb_2 (List.mem_of_getElem? (i := 144) rfl))
 (fm_c (tb_2 (List.mem_of_getElem? (i := 145) rfl))
 (fm_c (tb_2 (List.mem_of_getElem? (i := 146) rfl))
 (fm_c (tb_1 (List.mem_of_getElem? (i := 12) rfl))
 (fm_c (tb_2 (List.mem_of_getElem? (i := 147) rfl))
 (fm_c (tb_2 (List.mem_of_getElem? (i := 148) rfl))
 (fm_c (tb_2 (List.mem_of_getElem? (i := 149) rfl))
 (fm_c (tb_2 (List.mem_of_getElem? (i := 150) rfl))
 (fm_c (tb_2 (List.mem_of_getElem? (i := 151) rfl))
 (fm_c (tb_2 (List.mem_of_getElem? (i := 153) rfl))
 (fm_c (tb_2 (List.mem_of_getElem? (i := 154) rfl))
 (fm_c (tb_1 (List.mem_of_getElem? (i := 13) rfl))
 (fm_c (tb_2 (List.mem_of_getElem? (i := 155) rfl))
 (fm_c (tb_2 (List.mem_of_getElem? (i := 156) rfl))
 (fm_c (tb_2 (List.mem_of_getElem? (i := 157) rfl))
 (fm_c (tb_1 (List.mem_of_getElem? (i := 14) rfl))
 (fm_c (tb_2 (List.mem_of_getElem? (i := 158) rfl))
 (fm_c (tb_2 (List.mem_of_getElem? (i := 159) rfl))
 (fm_c (tb_2 (List.mem_of_getElem? (i := 160) rfl))
 (fm_c (tb_2 (List.mem_of_getElem? (i := 161) rfl))
 (fm_c (tb_2 (List.mem_of_getElem? (i := 162) rfl))
 (fm_c (tb_2 (List.mem_of_getElem? (i := 163) rfl))
 (fm_c (tb_2 (List.mem_of_getElem? (i := 164) rfl))
 (fm_c (tb_2 (List.mem_of_getElem? (i := 165) rfl))
 ((fun _ h => absurd h List.not_mem_nil)))))))))))))))))))))))))
set_option maxRecDepth 20000 in
theorem wsL_in_12 : ∀ w ∈ wsL_law_r12, w ∈ lw_tbl :=
 fm_c (tb_2 (List.mem_of_getElem? (i := 166) rfl))
 (fm_c (tb_2 (List.mem_of_getElem? (i := 167) rfl))
 (fm_c (tb_2 (List.mem_of_getElem? (i := 168) rfl))
 (fm_c (tb_2 (List.mem_of_getElem? (i := 169) rfl))
 (fm_c (tb_2 (List.mem_of_getElem? (i := 171) rfl))
 (fm_c (tb_2 (List.mem_of_getElem? (i := 173) rfl))
 (fm_c (tb_2 (List.mem_of_getElem? (i := 175) rfl))
 (fm_c (tb_2 (List.mem_of_getElem? (i := 177) rfl))
 (fm_c (tb_s (List.mem_of_getElem? (i := 4) rfl))
 (fm_c (tb_2 (List.mem_of_getElem? (i := 178) rfl))
 (fm_c (tb_2 (List.mem_of_getElem? (i := 179) rfl))
 (fm_c (tb_2 (List.mem_of_getElem? (i := 181) rfl))
 (fm_c (tb_s (List.mem_of_getElem? (i := 5) rfl))
 (fm_c (tb_2 (List.mem_of_getElem? (i := 182) rfl))
 (fm_c (tb_2 (List.mem_of_getElem? (i := 185) rfl))
 (fm_c (tb_2 (List.mem_of_getElem? (i := 187) rfl))
 (fm_c (tb_s (List.mem_of_getElem? (i := 6) rfl))
 (fm_c (tb_2 (List.mem_of_getElem? (i := 188) rfl))
 (fm_c (tb_1 (List.mem_of_getElem? (i := 54) rfl))
 (fm_c (tb_1 (List.mem_of_getElem? (i := 39) rfl))
 (fm_c (tb_1 (List.mem_of_getElem? (i := 92) rfl))
 (fm_c (tb_2 (List.mem_of_getElem? (i := 191) rfl))
 (fm_c (tb_2 (List.mem_of_getElem? (i := 193) rfl))
 (fm_c (tb_s (List.mem_of_getElem? (i := 7) rfl))
 ((fun _ h => absurd h List.not_mem_nil)))))))))))))))))))))))))
set_option maxRecDepth 20000 in
theorem wsL_in_13 : ∀ w ∈ wsL_law_r13, w ∈ lw_tbl :=
 fm_c (tb_2 (List.mem_of_getElem? (i := 194) rfl))
 (fm_c (tb_1 (List.mem_of_getElem? (i := 58) rfl))
 (fm_c (tb_1 (List.mem_of_getElem? (i := 43) rfl))
 (fm_c (tb_2 (List.mem_of_getElem? (i := 199) rfl))
 (fm_c (tb_2 (List.mem_of_getElem? (i := 201) rfl))
 (fm_c (tb_s (List.mem_of_getElem? (i := 8) rfl))
 (fm_c (tb_2 (List.mem_of_getElem? (i := 202) rfl))
 (fm_c (tb_1 (List.mem_of_getElem? (i := 109) rfl))
 (fm_c (tb_1 (List.mem_of_getElem? (i := 113) rfl))
 (fm_c (tb_2 (List.mem_of_getElem? (i := 208) rfl))
 (fm_c (tb_2 (List.mem_of_getElem? (i := 210) rfl))
 (fm_c (tb_s (List.mem_of_getElem? (i := 9) rfl))
 (fm_c (tb_2 (List.mem_of_getElem? (i := 211) rfl))
 (fm_c (tb_1 (List.mem_of_getElem? (i := 98) rfl))
 (fm_c (tb_2 (List.mem_of_getElem? (i := 213) rfl))
 (fm_c (tb_2 (List.mem_of_getElem? (i := 215) rfl))
 (fm_c (tb_s (List.mem_of_getElem? (i := 10) rfl))
 (fm_c (tb_2 (List.mem_of_getElem? (i := 216) rfl))
 (fm_c (tb_2 (List.mem_of_getElem? (i := 217) rfl))
 (fm_c (tb_2 (List.mem_of_getElem? (i := 218) rfl))
 (fm_c (tb_2 (List.mem_of_getElem? (i := 219) rfl))
 (fm_c (tb_2 (List.mem_of_getElem? (i := 220) rfl))
 (fm_c (tb_2 (List.mem_of_getElem? (i := 221) rfl))
 (fm_c (tb_2 (List.mem_of_getElem? (i := 222) rfl))
 ((fun _ h => absurd h List.not_mem_nil)))))))))))))))))))))))))
set_option maxRecDepth 20000 in
theorem wsL_in_14 : ∀ w ∈ wsL_law_r14, w ∈ lw_tbl :=
 fm_c (tb_2 (List.mem_of_getElem? (i := 223) rfl))
 (fm_c (tb_2 (List.mem_of_getElem? (i := 224) rfl))
 (fm_c (tb_2 (List.mem_of_getElem? (i := 226) rfl))
 (fm_c (tb_2 (List.mem_of_getElem? (i := 227) rfl))
 (fm_c (tb_2 (List.mem_of_getElem? (i := 228) rfl))
 (fm_c (tb_2 (List.mem_of_getElem? (i := 229) rfl))
 (fm_c (tb_2 (List.mem_of_getElem? (i := 230) rfl))
 (fm_c (tb_2 (List.mem_of_getElem? (i := 231) rfl))
 (fm_c (tb_2 (List.mem_of_getElem? (i := 233) rfl))
 (fm_c (tb_2 (List.mem_of_getElem? (i := 234) rfl))
 (fm_c (tb_2 (List.mem_of_getElem? (i := 235) rfl))
 (fm_c (tb_2 (List.mem_of_getElem? (i := 236) rfl))
 (fm_c (tb_2 (List.mem_of_getElem? (i := 237) rfl))
 (fm_c (tb_2 (List.mem_of_getElem? (i := 238) rfl))
 (fm_c (tb_2 (List.mem_of_getElem? (i := 239) rfl))
 (fm_c (tb_3 (List.mem_of_getElem? (i := 1) rfl))
 (fm_c (tb_3 (List.mem_of_getElem? (i := 0) rfl))
 (fm_c (tb_1 (List.mem_of_getElem? (i := 15) rfl))
 (fm_c (tb_3 (List.mem_of_getElem? (i := 2) rfl))
 (fm_c (tb_3 (List.mem_of_getElem? (i := 3) rfl))
 (fm_c (tb_3 (List.mem_of_getElem? (i := 4) rfl))
 (fm_c (tb_3 (List.mem_of_getElem? (i := 5) rfl))
 (fm_c (tb_3 (List.mem_of_getElem? (i := 6) rfl))
 (fm_c (tb_4 (List.mem_of_getElem? (i := 229) rfl))
 ((fun _ h => absurd h List.not_mem_nil)))))))))))))))))))))))))
set_option maxRecDepth 20000 in
theorem wsL_in_15 : ∀ w ∈ wsL_law_r15, w ∈ lw_tbl :=
 fm_c (tb_4 (List.mem_of_getElem? (i := 230) rfl))
 (fm_c (tb_4 (List.mem_of_getElem? (i := 231) rfl))
 (fm_c (tb_4 (List.mem_of_getElem? (i := 232) rfl))
 (fm_c (tb_4 (List.mem_of_getElem? (i := 117) rfl))
 (fm_c (tb_4 (List.mem_of_getElem? (i := 121) rfl))
 (fm_c (tb_4 (List.mem_of_getElem? (i := 112) rfl))
 (fm_c (tb_4 (List.mem_of_getElem? (i := 107) rfl))
 (fm_c (tb_4 (List.mem_of_getElem? (i := 113) rfl))
 (fm_c (tb_4 (List.mem_of_getElem? (i := 108) rfl))
 (fm_c (tb_4 (List.mem_of_getElem? (i := 116) rfl))
 (fm_c (tb_4 (List.mem_of_getElem? (i := 118) rfl))
 (fm_c (tb_4 (List.mem_of_getElem? (i := 101) rfl))
 (fm_c (tb_4 (List.mem_of_getElem? (i := 109) rfl))
 (fm_c (tb_4 (List.mem_of_getElem? (i := 110) rfl))
 (fm_c (tb_4 (List.mem_of_getElem? (i := 104) rfl))
 (fm_c (tb_4 (List.mem_of_getElem? (i := 130) rfl))
 (fm_c (tb_4 (List.mem_of_getElem? (i := 132) rfl))
 (fm_c (tb_4 (List.mem_of_getElem? (i := 233) rfl))
 (fm_c (tb_4 (List.mem_of_getElem? (i := 235) rfl))
 (fm_c (tb_s (List.mem_of_getElem? (i := 22) rfl))
 (fm_c (tb_4 (List.mem_of_getElem? (i := 236) rfl))
 (fm_c (tb_4 (List.mem_of_getElem? (i := 119) rfl))
 (fm_c (tb_4 (List.mem_of_getElem? (i := 111) rfl))
 (fm_c (tb_4 (List.mem_of_getElem? (i := 237) rfl))
 ((fun _ h => absurd h List.not_mem_nil)))))))))))))))))))))))))
set_option maxRecDepth 20000 in
theorem wsL_in_16 : ∀ w ∈ wsL_law_r16, w ∈ lw_tbl :=
 fm_c (tb_4 (List.mem_of_getElem? (i := 239) rfl))
 (fm_c (tb_s (List.mem_of_getElem? (i := 23) rfl))
 (fm_c (tb_5 (List.mem_of_getElem? (i := 0) rfl))
 (fm_c (tb_4 (List.mem_of_getElem? (i := 120) rfl))
 (fm_c (tb_4 (List.mem_of_getElem? (i := 122) rfl))
 (fm_c (tb_5 (List.mem_of_getElem? (i := 5) rfl))
 (fm_c (tb_5 (List.mem_of_getElem? (i := 6) rfl))
 (fm_c (tb_5 (List.mem_of_getElem? (i := 7) rfl))
 (fm_c (tb_5 (List.mem_of_getElem? (i := 8) rfl))
 (fm_c (tb_5 (List.mem_of_getElem? (i := 1) rfl))
 (fm_c (tb_5 (List.mem_of_getElem? (i := 3) rfl))
 (fm_c (tb_s (List.mem_of_getElem? (i := 24) rfl))
 (fm_c (tb_5 (List.mem_of_getElem? (i := 4) rfl))
 (fm_c (tb_5 (List.mem_of_getElem? (i := 9) rfl))
 (fm_c (tb_5 (List.mem_of_getElem? (i := 11) rfl))
 (fm_c (tb_s (List.mem_of_getElem? (i := 25) rfl))
 (fm_c (tb_5 (List.mem_of_getElem? (i := 12) rfl))
 (fm_c (tb_5 (List.mem_of_getElem? (i := 13) rfl))
 (fm_c (tb_5 (List.mem_of_getElem? (i := 15) rfl))
 (fm_c (tb_s (List.mem_of_getElem? (i := 26) rfl))
 (fm_c (tb_5 (List.mem_of_getElem? (i := 16) rfl))
 (fm_c (tb_5 (List.mem_of_getElem? (i := 21) rfl))
 (fm_c (tb_5 (List.mem_of_getElem? (i := 22) rfl))
 (fm_c (tb_5 (List.mem_of_getElem? (i := 23) rfl))
 ((fun _ h => absurd h List.not_mem_nil)))))))))))))))))))))))))
set_option maxRecDepth 20000 in
theorem wsL_in_17 : ∀ w ∈ wsL_law_r17, w ∈ lw_tbl :=
 fm_c (tb_5 (List.mem_of_getElem? (i := 17) rfl))
 (fm_c (tb_5 (List.mem_of_getElem? (i := 19) rfl))
 (fm_c (tb_s (List.mem_of_getElem? (i := 27) rfl))
 (fm_c (tb_5 (List.mem_of_getElem? (i := 20) rfl))
 (fm_c (tb_5 (List.mem_of_getElem? (i := 24) rfl))
 (fm_c (tb_5 (List.mem_of_getElem? (i := 26) rfl))
 (fm_c (tb_s (List.mem_of_getElem? (i := 28) rfl))
 (fm_c (tb_5 (List.mem_of_getElem? (i := 27) rfl))
 (fm_c (tb_5 (List.mem_of_getElem? (i := 28) rfl))
 (fm_c (tb_5 (List.mem_of_getElem? (i := 30) rfl))
 (fm_c (tb_s (List.mem_of_getElem? (i := 29) rfl))
 (fm_c (tb_5 (List.mem_of_getElem? (i := 31) rfl))
 (fm_c (tb_5 (List.mem_of_getElem? (i := 32) rfl))
 (fm_c (tb_5 (List.mem_of_getElem? (i := 34) rfl))
 (fm_c (tb_s (List.mem_of_getElem? (i := 30) rfl))
 (fm_c (tb_5 (List.mem_of_getElem? (i := 35) rfl))
 (fm_c (tb_5 (List.mem_of_getElem? (i := 36) rfl))
 (fm_c (tb_5 (List.mem_of_getElem? (i := 38) rfl))
 (fm_c (tb_s (List.mem_of_getElem? (i := 31) rfl))
 (fm_c (tb_5 (List.mem_of_getElem? (i := 39) rfl))
 (fm_c (tb_5 (List.mem_of_getElem? (i := 40) rfl))
 (fm_c (tb_5 (List.mem_of_getElem? (i := 42) rfl))
 (fm_c (tb_s (List.mem_of_getElem? (i := 32) rfl))
 (fm_c (tb_5 (List.mem_of_getElem? (i := 43) rfl))
 ((fun _ h => absurd h List.not_mem_nil)))))))))))))))))))))))))
set_option maxRecDepth 20000 in
theorem wsL_in_18 : ∀ w ∈ wsL_law_r18, w ∈ lw_tbl :=
 fm_c (tb_5 (List.mem_of_getElem? (i := 44) rfl))
 (fm_c (tb_5 (List.mem_of_getElem? (i := 46) rfl))
 (fm_c (tb_s (List.mem_of_getElem? (i := 33) rfl))
 (fm_c (tb_5 (List.mem_of_getElem? (i := 47) rfl))
 (fm_c (tb_5 (List.mem_of_getElem? (i := 48) rfl))
 (fm_c (tb_5 (List.mem_of_getElem? (i := 50) rfl))
 (fm_c (tb_s (List.mem_of_getElem? (i := 34) rfl))
 (fm_c (tb_5 (List.mem_of_getElem? (i := 51) rfl))
 (fm_c (tb_3 (List.mem_of_getElem? (i := 7) rfl))
 (fm_c (tb_3 (List.mem_of_getElem? (i := 8) rfl))
 (fm_c (tb_3 (List.mem_of_getElem? (i := 9) rfl))
 (fm_c (tb_3 (List.mem_of_getElem? (i := 10) rfl))
 (fm_c (tb_5 (List.mem_of_getElem? (i := 52) rfl))
 (fm_c (tb_5 (List.mem_of_getElem? (i := 53) rfl))
 (fm_c (tb_5 (List.mem_of_getElem? (i := 54) rfl))
 (fm_c (tb_5 (List.mem_of_getElem? (i := 55) rfl))
 (fm_c (tb_3 (List.mem_of_getElem? (i := 11) rfl))
 (fm_c (tb_3 (List.mem_of_getElem? (i := 12) rfl))
 (fm_c (tb_3 (List.mem_of_getElem? (i := 13) rfl))
 (fm_c (tb_3 (List.mem_of_getElem? (i := 14) rfl))
 (fm_c (tb_1 (List.mem_of_getElem? (i := 46) rfl))
 (fm_c (tb_1 (List.mem_of_getElem? (i := 53) rfl))
 (fm_c (tb_1 (List.mem_of_getElem? (i := 100) rfl))
 (fm_c (tb_1 (List.mem_of_getElem? (i := 56) rfl))
 ((fun _ h => absurd h List.not_mem_nil)))))))))))))))))))))))))
set_option maxRecDepth 20000 in
theorem wsL_in_19 : ∀ w ∈ wsL_law_r19, w ∈ lw_tbl :=
 fm_c (tb_1 (List.mem_of_getElem? (i := 60) rfl))
 (fm_c (tb_1 (List.mem_of_getElem? (i := 117) rfl))
 (fm_c (tb_1 (List.mem_of_getElem? (i := 104) rfl))
 (fm_c (tb_1 (List.mem_of_getElem? (i := 108) rfl))
 (fm_c (tb_1 (List.mem_of_getElem? (i := 112) rfl))
 (fm_c (tb_1 (List.mem_of_getElem? (i := 119) rfl))
 (fm_c (tb_3 (List.mem_of_getElem? (i := 15) rfl))
 (fm_c (tb_3 (List.mem_of_getElem? (i := 16) rfl))
 (fm_c (tb_3 (List.mem_of_getElem? (i := 17) rfl))
 (fm_c (tb_5 (List.mem_of_getElem? (i := 56) rfl))
 (fm_c (tb_5 (List.mem_of_getElem? (i := 57) rfl))
 (fm_c (tb_5 (List.mem_of_getElem? (i := 58) rfl))
 (fm_c (tb_5 (List.mem_of_getElem? (i := 59) rfl))
 (fm_c (tb_5 (List.mem_of_getElem? (i := 60) rfl))
 (fm_c (tb_5 (List.mem_of_getElem? (i := 62) rfl))
 (fm_c (tb_s (List.mem_of_getElem? (i := 35) rfl))
 (fm_c (tb_5 (List.mem_of_getElem? (i := 63) rfl))
 (fm_c (tb_3 (List.mem_of_getElem? (i := 18) rfl))
 (fm_c (tb_3 (List.mem_of_getElem? (i := 19) rfl))
 (fm_c (tb_3 (List.mem_of_getElem? (i := 20) rfl))
 (fm_c (tb_3 (List.mem_of_getElem? (i := 21) rfl))
 (fm_c (tb_3 (List.mem_of_getElem? (i := 22) rfl))
 (fm_c (tb_3 (List.mem_of_getElem? (i := 23) rfl))
 (fm_c (tb_3 (List.mem_of_getElem? (i := 24) rfl))
 ((fun _ h => absurd h List.not_mem_nil)))))))))))))))))))))))))
set_option maxRecDepth 20000 in
theorem wsL_in_20 : ∀ w ∈ wsL_law_r20, w ∈ lw_tbl :=
 fm_c (tb_3 (List.mem_of_getElem? (i := 25) rfl))
 (fm_c (tb_1 (List.mem_of_getElem? (i := 38) rfl))
 (fm_c (tb_3 (List.mem_of_getElem? (i := 26) rfl))
 (fm_c (tb_3 (List.mem_of_getElem? (i := 28) rfl))
 (fm_c (tb_3 (List.mem_of_getElem? (i := 29) rfl))
 (fm_c (tb_3 (List.mem_of_getElem? (i := 30) rfl))
 (fm_c (tb_3 (List.mem_of_getElem? (i := 31) rfl))
 (fm_c (tb_5 (List.mem_of_getElem? (i := 64) rfl))
 (fm_c (tb_5 (List.mem_of_getElem? (i := 65) rfl))
 (fm_c (tb_5 (List.mem_of_getElem? (i := 66) rfl))
 (fm_c (tb_5 (List.mem_of_getElem? (i := 67) rfl))
 (fm_c (tb_5 (List.mem_of_getElem? (i := 72) rfl))
 (fm_c (tb_5 (List.mem_of_getElem? (i := 68) rfl))
 (fm_c (tb_5 (List.mem_of_getElem? (i := 70) rfl))
 (fm_c (tb_s (List.mem_of_getElem? (i := 36) rfl))
 (fm_c (tb_5 (List.mem_of_getElem? (i := 71) rfl))
 (fm_c (tb_3 (List.mem_of_getElem? (i := 33) rfl))
 (fm_c (tb_3 (List.mem_of_getElem? (i := 34) rfl))
 (fm_c (tb_3 (List.mem_of_getElem? (i := 35) rfl))
 (fm_c (tb_3 (List.mem_of_getElem? (i := 36) rfl))
 (fm_c (tb_1 (List.mem_of_getElem? (i := 41) rfl))
 (fm_c (tb_5 (List.mem_of_getElem? (i := 73) rfl))
 (fm_c (tb_5 (List.mem_of_getElem? (i := 74) rfl))
 (fm_c (tb_5 (List.mem_of_getElem? (i := 75) rfl))
 ((fun _ h => absurd h List.not_mem_nil)))))))))))))))))))))))))
set_option maxRecDepth 20000 in
theorem wsL_in_21 : ∀ w ∈ wsL_law_r21, w ∈ lw_tbl :=
 fm_c (tb_5 (List.mem_of_getElem? (i := 76) rfl))
 (fm_c (tb_3 (List.mem_of_getElem? (i := 37) rfl))
 (fm_c (tb_3 (List.mem_of_getElem? (i := 38) rfl))
 (fm_c (tb_3 (List.mem_of_getElem? (i := 39) rfl))
 (fm_c (tb_3 (List.mem_of_getElem? (i := 40) rfl))
 (fm_c (tb_3 (List.mem_of_getElem? (i := 41) rfl))
 (fm_c (tb_3 (List.mem_of_getElem? (i := 42) rfl))
 (fm_c (tb_3 (List.mem_of_getElem? (i := 43) rfl))
 (fm_c (tb_3 (List.mem_of_getElem? (i := 44) rfl))
 (fm_c (tb_3 (List.mem_of_getElem? (i := 45) rfl))
 (fm_c (tb_1 (List.mem_of_getElem? (i := 52) rfl))
 (fm_c (tb_3 (List.mem_of_getElem? (i := 46) rfl))
 (fm_c (tb_3 (List.mem_of_getElem? (i := 47) rfl))
 (fm_c (tb_3 (List.mem_of_getElem? (i := 48) rfl))
 (fm_c (tb_3 (List.mem_of_getElem? (i := 49) rfl))
 (fm_c (tb_5 (List.mem_of_getElem? (i := 77) rfl))
 (fm_c (tb_5 (List.mem_of_getElem? (i := 78) rfl))
 (fm_c (tb_5 (List.mem_of_getElem? (i := 79) rfl))
 (fm_c (tb_5 (List.mem_of_getElem? (i := 80) rfl))
 (fm_c (tb_5 (List.mem_of_getElem? (i := 81) rfl))
 (fm_c (tb_5 (List.mem_of_getElem? (i := 83) rfl))
 (fm_c (tb_s (List.mem_of_getElem? (i := 37) rfl))
 (fm_c (tb_5 (List.mem_of_getElem? (i := 84) rfl))
 (fm_c (tb_5 (List.mem_of_getElem? (i := 85) rfl))
 ((fun _ h => absurd h List.not_mem_nil)))))))))))))))))))))))))
set_option maxRecDepth 20000 in
theorem wsL_in_22 : ∀ w ∈ wsL_law_r22, w ∈ lw_tbl :=
 fm_c (tb_5 (List.mem_of_getElem? (i := 87) rfl))
 (fm_c (tb_s (List.mem_of_getElem? (i := 38) rfl))
 (fm_c (tb_5 (List.mem_of_getElem? (i := 88) rfl))
 (fm_c (tb_5 (List.mem_of_getElem? (i := 89) rfl))
 (fm_c (tb_5 (List.mem_of_getElem? (i := 91) rfl))
 (fm_c (tb_s (List.mem_of_getElem? (i := 39) rfl))
 (fm_c (tb_5 (List.mem_of_getElem? (i := 92) rfl))
 (fm_c (tb_3 (List.mem_of_getElem? (i := 50) rfl))
 (fm_c (tb_3 (List.mem_of_getElem? (i := 51) rfl))
 (fm_c (tb_3 (List.mem_of_getElem? (i := 52) rfl))
 (fm_c (tb_3 (List.mem_of_getElem? (i := 53) rfl))
 (fm_c (tb_1 (List.mem_of_getElem? (i := 97) rfl))
 (fm_c (tb_3 (List.mem_of_getElem? (i := 54) rfl))
 (fm_c (tb_3 (List.mem_of_getElem? (i := 55) rfl))
 (fm_c (tb_5 (List.mem_of_getElem? (i := 93) rfl))
 (fm_c (tb_5 (List.mem_of_getElem? (i := 94) rfl))
 (fm_c (tb_5 (List.mem_of_getElem? (i := 95) rfl))
 (fm_c (tb_5 (List.mem_of_getElem? (i := 96) rfl))
 (fm_c (tb_5 (List.mem_of_getElem? (i := 97) rfl))
 (fm_c (tb_5 (List.mem_of_getElem? (i := 99) rfl))
 (fm_c (tb_s (List.mem_of_getElem? (i := 40) rfl))
 (fm_c (tb_5 (List.mem_of_getElem? (i := 100) rfl))
 (fm_c (tb_3 (List.mem_of_getElem? (i := 56) rfl))
 (fm_c (tb_3 (List.mem_of_getElem? (i := 57) rfl))
 ((fun _ h => absurd h List.not_mem_nil)))))))))))))))))))))))))
set_option maxRecDepth 20000 in
theorem wsL_in_23 : ∀ w ∈ wsL_law_r23, w ∈ lw_tbl :=
 fm_c (tb_3 (List.mem_of_getElem? (i := 58) rfl))
 (fm_c (tb_3 (List.mem_of_getElem? (i := 59) rfl))
 (fm_c (tb_5 (List.mem_of_getElem? (i := 101) rfl))
 (fm_c (tb_5 (List.mem_of_getElem? (i := 102) rfl))
 (fm_c (tb_5 (List.mem_of_getElem? (i := 103) rfl))
 (fm_c (tb_5 (List.mem_of_getElem? (i := 104) rfl))
 (fm_c (tb_5 (List.mem_of_getElem? (i := 105) rfl))
 (fm_c (tb_3 (List.mem_of_getElem? (i := 60) rfl))
 (fm_c (tb_3 (List.mem_of_getElem? (i := 61) rfl))
 (fm_c (tb_3 (List.mem_of_getElem? (i := 62) rfl))
 (fm_c (tb_3 (List.mem_of_getElem? (i := 63) rfl))
 (fm_c (tb_5 (List.mem_of_getElem? (i := 106) rfl))
 (fm_c (tb_5 (List.mem_of_getElem? (i := 107) rfl))
 (fm_c (tb_5 (List.mem_of_getElem? (i := 108) rfl))
 (fm_c (tb_5 (List.mem_of_getElem? (i := 109) rfl))
 (fm_c (tb_3 (List.mem_of_getElem? (i := 64) rfl))
 (fm_c (tb_3 (List.mem_of_getElem? (i := 65) rfl))
 (fm_c (tb_3 (List.mem_of_getElem? (i := 66) rfl))
 (fm_c (tb_3 (List.mem_of_getElem? (i := 67) rfl))
 (fm_c (tb_3 (List.mem_of_getElem? (i := 68) rfl))
 (fm_c (tb_3 (List.mem_of_getElem? (i := 69) rfl))
 (fm_c (tb_3 (List.mem_of_getElem? (i := 70) rfl))
 (fm_c (tb_5 (List.mem_of_getElem? (i := 110) rfl))
 (fm_c (tb_5 (List.mem_of_getElem? (i := 111) rfl))
 ((fun _ h => absurd h List.not_mem_nil)))))))))))))))))))))))))
set_option maxRecDepth 20000 in
theorem wsL_in_24 : ∀ w ∈ wsL_law_r24, w ∈ lw_tbl :=
 fm_c (tb_5 (List.mem_of_getElem? (i := 112) rfl))
 (fm_c (tb_5 (List.mem_of_getElem? (i := 113) rfl))
 (fm_c (tb_3 (List.mem_of_getElem? (i := 71) rfl))
 (fm_c (tb_3 (List.mem_of_getElem? (i := 72) rfl))
 (fm_c (tb_3 (List.mem_of_getElem? (i := 73) rfl))
 (fm_c (tb_3 (List.mem_of_getElem? (i := 74) rfl))
 (fm_c (tb_1 (List.mem_of_getElem? (i := 115) rfl))
 (fm_c (tb_5 (List.mem_of_getElem? (i := 114) rfl))
 (fm_c (tb_5 (List.mem_of_getElem? (i := 115) rfl))
 (fm_c (tb_5 (List.mem_of_getElem? (i := 116) rfl))
 (fm_c (tb_5 (List.mem_of_getElem? (i := 117) rfl))
 (fm_c (tb_3 (List.mem_of_getElem? (i := 75) rfl))
 (fm_c (tb_3 (List.mem_of_getElem? (i := 76) rfl))
 (fm_c (tb_3 (List.mem_of_getElem? (i := 77) rfl))
 (fm_c (tb_3 (List.mem_of_getElem? (i := 78) rfl))
 (fm_c (tb_3 (List.mem_of_getElem? (i := 79) rfl))
 (fm_c (tb_3 (List.mem_of_getElem? (i := 81) rfl))
 (fm_c (tb_s (List.mem_of_getElem? (i := 11) rfl))
 (fm_c (tb_3 (List.mem_of_getElem? (i := 82) rfl))
 (fm_c (tb_3 (List.mem_of_getElem? (i := 83) rfl))
 (fm_c (tb_3 (List.mem_of_getElem? (i := 84) rfl))
 (fm_c (tb_3 (List.mem_of_getElem? (i := 85) rfl))
 (fm_c (tb_3 (List.mem_of_getElem? (i := 86) rfl))
 (fm_c (tb_3 (List.mem_of_getElem? (i := 87) rfl))
 ((fun _ h => absurd h List.not_mem_nil)))))))))))))))))))))))))
set_option maxRecDepth 20000 in
theorem wsL_in_25 : ∀ w ∈ wsL_law_r25, w ∈ lw_tbl :=
 fm_c (tb_1 (List.mem_of_getElem? (i := 62) rfl))
 (fm_c (tb_3 (List.mem_of_getElem? (i := 88) rfl))
 (fm_c (tb_3 (List.mem_of_getElem? (i := 89) rfl))
 (fm_c (tb_3 (List.mem_of_getElem? (i := 90) rfl))
 (fm_c (tb_3 (List.mem_of_getElem? (i := 91) rfl))
 (fm_c (tb_3 (List.mem_of_getElem? (i := 92) rfl))
 (fm_c (tb_3 (List.mem_of_getElem? (i := 93) rfl))
 (fm_c (tb_3 (List.mem_of_getElem? (i := 94) rfl))
 (fm_c (tb_3 (List.mem_of_getElem? (i := 95) rfl))
 (fm_c (tb_3 (List.mem_of_getElem? (i := 96) rfl))
 (fm_c (tb_3 (List.mem_of_getElem? (i := 97) rfl))
 (fm_c (tb_3 (List.mem_of_getElem? (i := 98) rfl))
 (fm_c (tb_1 (List.mem_of_getElem? (i := 16) rfl))
 (fm_c (tb_3 (List.mem_of_getElem? (i := 99) rfl))
 (fm_c (tb_3 (List.mem_of_getElem? (i := 100) rfl))
 (fm_c (tb_3 (List.mem_of_getElem? (i := 101) rfl))
 (fm_c (tb_3 (List.mem_of_getElem? (i := 102) rfl))
 (fm_c (tb_3 (List.mem_of_getElem? (i := 104) rfl))
 (fm_c (tb_3 (List.mem_of_getElem? (i := 105) rfl))
 (fm_c (tb_3 (List.mem_of_getElem? (i := 107) rfl))
 (fm_c (tb_3 (List.mem_of_getElem? (i := 108) rfl))
 (fm_c (tb_3 (List.mem_of_getElem? (i := 109) rfl))
 (fm_c (tb_3 (List.mem_of_getElem? (i := 110) rfl))
 (fm_c (tb_3 (List.mem_of_getElem? (i := 111) rfl))
 ((fun _ h => absurd h List.not_mem_nil)))))))))))))))))))))))))
set_option maxRecDepth 20000 in
theorem wsL_in_26 : ∀ w ∈ wsL_law_r26, w ∈ lw_tbl :=
 fm_c (tb_3 (List.mem_of_getElem? (i := 112) rfl))
 (fm_c (tb_3 (List.mem_of_getElem? (i := 113) rfl))
 (fm_c (tb_3 (List.mem_of_getElem? (i := 114) rfl))
 (fm_c (tb_3 (List.mem_of_getElem? (i := 115) rfl))
 (fm_c (tb_3 (List.mem_of_getElem? (i := 116) rfl))
 (fm_c (tb_1 (List.mem_of_getElem? (i := 57) rfl))
 (fm_c (tb_1 (List.mem_of_getElem? (i := 42) rfl))
 (fm_c (tb_3 (List.mem_of_getElem? (i := 117) rfl))
 (fm_c (tb_3 (List.mem_of_getElem? (i := 118) rfl))
 (fm_c (tb_3 (List.mem_of_getElem? (i := 119) rfl))
 (fm_c (tb_3 (List.mem_of_getElem? (i := 120) rfl))
 (fm_c (tb_1 (List.mem_of_getElem? (i := 48) rfl))
 (fm_c (tb_5 (List.mem_of_getElem? (i := 118) rfl))
 (fm_c (tb_5 (List.mem_of_getElem? (i := 119) rfl))
 (fm_c (tb_5 (List.mem_of_getElem? (i := 120) rfl))
 (fm_c (tb_5 (List.mem_of_getElem? (i := 121) rfl))
 (fm_c (tb_5 (List.mem_of_getElem? (i := 122) rfl))
 (fm_c (tb_5 (List.mem_of_getElem? (i := 124) rfl))
 (fm_c (tb_s (List.mem_of_getElem? (i := 41) rfl))
 (fm_c (tb_5 (List.mem_of_getElem? (i := 125) rfl))
 (fm_c (tb_5 (List.mem_of_getElem? (i := 126) rfl))
 (fm_c (tb_5 (List.mem_of_getElem? (i := 128) rfl))
 (fm_c (tb_s (List.mem_of_getElem? (i := 42) rfl))
 (fm_c (tb_5 (List.mem_of_getElem? (i := 129) rfl))
 ((fun _ h => absurd h List.not_mem_nil)))))))))))))))))))))))))
set_option maxRecDepth 20000 in
theorem wsL_in_27 : ∀ w ∈ wsL_law_r27, w ∈ lw_tbl :=
 fm_c (tb_5 (List.mem_of_getElem? (i := 130) rfl))
 (fm_c (tb_5 (List.mem_of_getElem? (i := 132) rfl))
 (fm_c (tb_s (List.mem_of_getElem? (i := 43) rfl))
 (fm_c (tb_5 (List.mem_of_getElem? (i := 133) rfl))
 (fm_c (tb_5 (List.mem_of_getElem? (i := 134) rfl))
 (fm_c (tb_5 (List.mem_of_getElem? (i := 135) rfl))
 (fm_c (tb_5 (List.mem_of_getElem? (i := 136) rfl))
 (fm_c (tb_5 (List.mem_of_getElem? (i := 137) rfl))
 (fm_c (tb_5 (List.mem_of_getElem? (i := 138) rfl))
 (fm_c (tb_5 (List.mem_of_getElem? (i := 139) rfl))
 (fm_c (tb_5 (List.mem_of_getElem? (i := 140) rfl))
 (fm_c (tb_5 (List.mem_of_getElem? (i := 142) rfl))
 (fm_c (tb_s (List.mem_of_getElem? (i := 44) rfl))
 (fm_c (tb_5 (List.mem_of_getElem? (i := 143) rfl))
 (fm_c (tb_5 (List.mem_of_getElem? (i := 144) rfl))
 (fm_c (tb_5 (List.mem_of_getElem? (i := 146) rfl))
 (fm_c (tb_s (List.mem_of_getElem? (i := 45) rfl))
 (fm_c (tb_5 (List.mem_of_getElem? (i := 147) rfl))
 (fm_c (tb_5 (List.mem_of_getElem? (i := 148) rfl))
 (fm_c (tb_5 (List.mem_of_getElem? (i := 150) rfl))
 (fm_c (tb_s (List.mem_of_getElem? (i := 46) rfl))
 (fm_c (tb_5 (List.mem_of_getElem? (i := 151) rfl))
 (fm_c (tb_3 (List.mem_of_getElem? (i := 123) rfl))
 (fm_c (tb_3 (List.mem_of_getElem? (i := 124) rfl))
 ((fun _ h => absurd h List.not_mem_nil)))))))))))))))))))))))))
set_option maxRecDepth 20000 in
theorem wsL_in_28 : ∀ w ∈ wsL_law_r28, w ∈ lw_tbl :=
 fm_c (tb_3 (List.mem_of_getElem? (i := 125) rfl))
 (fm_c (tb_3 (List.mem_of_getElem? (i := 126) rfl))
 (fm_c (tb_3 (List.mem_of_getElem? (i := 127) rfl))
 (fm_c (tb_5 (List.mem_of_getElem? (i := 152) rfl))
 (fm_c (tb_5 (List.mem_of_getElem? (i := 153) rfl))
 (fm_c (tb_5 (List.mem_of_getElem? (i := 154) rfl))
 (fm_c (tb_5 (List.mem_of_getElem? (i := 155) rfl))
 (fm_c (tb_5 (List.mem_of_getElem? (i := 156) rfl))
 (fm_c (tb_3 (List.mem_of_getElem? (i := 128) rfl))
 (fm_c (tb_3 (List.mem_of_getElem? (i := 129) rfl))
 (fm_c (tb_3 (List.mem_of_getElem? (i := 130) rfl))
 (fm_c (tb_3 (List.mem_of_getElem? (i := 131) rfl))
 (fm_c (tb_3 (List.mem_of_getElem? (i := 132) rfl))
 (fm_c (tb_3 (List.mem_of_getElem? (i := 133) rfl))
 (fm_c (tb_3 (List.mem_of_getElem? (i := 134) rfl))
 (fm_c (tb_3 (List.mem_of_getElem? (i := 135) rfl))
 (fm_c (tb_5 (List.mem_of_getElem? (i := 157) rfl))
 (fm_c (tb_5 (List.mem_of_getElem? (i := 158) rfl))
 (fm_c (tb_5 (List.mem_of_getElem? (i := 159) rfl))
 (fm_c (tb_5 (List.mem_of_getElem? (i := 160) rfl))
 (fm_c (tb_3 (List.mem_of_getElem? (i := 136) rfl))
 (fm_c (tb_3 (List.mem_of_getElem? (i := 137) rfl))
 (fm_c (tb_3 (List.mem_of_getElem? (i := 138) rfl))
 (fm_c (tb_3 (List.mem_of_getElem? (i := 139) rfl))
 ((fun _ h => absurd h List.not_mem_nil)))))))))))))))))))))))))
set_option maxRecDepth 20000 in
theorem wsL_in_29 : ∀ w ∈ wsL_law_r29, w ∈ lw_tbl :=
 fm_c (tb_1 (List.mem_of_getElem? (i := 95) rfl))
 (fm_c (tb_5 (List.mem_of_getElem? (i := 161) rfl))
 (fm_c (tb_5 (List.mem_of_getElem? (i := 162) rfl))
 (fm_c (tb_5 (List.mem_of_getElem? (i := 163) rfl))
 (fm_c (tb_5 (List.mem_of_getElem? (i := 164) rfl))
 (fm_c (tb_3 (List.mem_of_getElem? (i := 140) rfl))
 (fm_c (tb_3 (List.mem_of_getElem? (i := 141) rfl))
 (fm_c (tb_3 (List.mem_of_getElem? (i := 142) rfl))
 (fm_c (tb_3 (List.mem_of_getElem? (i := 143) rfl))
 (fm_c (tb_5 (List.mem_of_getElem? (i := 165) rfl))
 (fm_c (tb_5 (List.mem_of_getElem? (i := 166) rfl))
 (fm_c (tb_5 (List.mem_of_getElem? (i := 167) rfl))
 (fm_c (tb_5 (List.mem_of_getElem? (i := 168) rfl))
 (fm_c (tb_3 (List.mem_of_getElem? (i := 144) rfl))
 (fm_c (tb_3 (List.mem_of_getElem? (i := 145) rfl))
 (fm_c (tb_3 (List.mem_of_getElem? (i := 146) rfl))
 (fm_c (tb_3 (List.mem_of_getElem? (i := 147) rfl))
 (fm_c (tb_3 (List.mem_of_getElem? (i := 148) rfl))
 (fm_c (tb_3 (List.mem_of_getElem? (i := 149) rfl))
 (fm_c (tb_3 (List.mem_of_getElem? (i := 150) rfl))
 (fm_c (tb_3 (List.mem_of_getElem? (i := 151) rfl))
 (fm_c (tb_1 (List.mem_of_getElem? (i := 103) rfl))
 (fm_c (tb_1 (List.mem_of_getElem? (i := 107) rfl))
 (fm_c (tb_3 (List.mem_of_getElem? (i := 152) rfl))
 ((fun _ h => absurd h List.not_mem_nil)))))))))))))))))))))))))
set_option maxRecDepth 20000 in
theorem wsL_in_30 : ∀ w ∈ wsL_law_r30, w ∈ lw_tbl :=
 fm_c (tb_3 (List.mem_of_getElem? (i := 153) rfl))
 (fm_c (tb_3 (List.mem_of_getElem? (i := 154) rfl))
 (fm_c (tb_3 (List.mem_of_getElem? (i := 155) rfl))
 (fm_c (tb_3 (List.mem_of_getElem? (i := 156) rfl))
 (fm_c (tb_3 (List.mem_of_getElem? (i := 157) rfl))
 (fm_c (tb_3 (List.mem_of_getElem? (i := 158) rfl))
 (fm_c (tb_3 (List.mem_of_getElem? (i := 159) rfl))
 (fm_c (tb_3 (List.mem_of_getElem? (i := 160) rfl))
 (fm_c (tb_3 (List.mem_of_getElem? (i := 161) rfl))
 (fm_c (tb_3 (List.mem_of_getElem? (i := 162) rfl))
 (fm_c (tb_3 (List.mem_of_getElem? (i := 163) rfl))
 (fm_c (tb_3 (List.mem_of_getElem? (i := 164) rfl))
 (fm_c (tb_1 (List.mem_of_getElem? (i := 232) rfl))
 (fm_c (tb_1 (List.mem_of_getElem? (i := 89) rfl))
 (fm_c (tb_1 (List.mem_of_getElem? (i := 51) rfl))
 (fm_c (tb_3 (List.mem_of_getElem? (i := 165) rfl))
 (fm_c (tb_3 (List.mem_of_getElem? (i := 167) rfl))
 (fm_c (tb_s (List.mem_of_getElem? (i := 12) rfl))
 (fm_c (tb_3 (List.mem_of_getElem? (i := 168) rfl))
 (fm_c (tb_1 (List.mem_of_getElem? (i := 45) rfl))
 (fm_c (tb_1 (List.mem_of_getElem? (i := 111) rfl))
 (fm_c (tb_3 (List.mem_of_getElem? (i := 169) rfl))
 (fm_c (tb_3 (List.mem_of_getElem? (i := 170) rfl))
 (fm_c (tb_3 (List.mem_of_getElem? (i := 171) rfl))
 ((fun _ h => absurd h List.not_mem_nil)))))))))))))))))))))))))
set_option maxRecDepth 20000 in
theorem wsL_in_31 : ∀ w ∈ wsL_law_r31, w ∈ lw_tbl :=
 fm_c (tb_3 (List.mem_of_getElem? (i := 173) rfl))
 (fm_c (tb_s (List.mem_of_getElem? (i := 13) rfl))
 (fm_c (tb_3 (List.mem_of_getElem? (i := 174) rfl))
 (fm_c (tb_3 (List.mem_of_getElem? (i := 175) rfl))
 (fm_c (tb_5 (List.mem_of_getElem? (i := 169) rfl))
 (fm_c (tb_5 (List.mem_of_getElem? (i := 170) rfl))
 (fm_c (tb_5 (List.mem_of_getElem? (i := 171) rfl))
 (fm_c (tb_5 (List.mem_of_getElem? (i := 172) rfl))
 (fm_c (tb_5 (List.mem_of_getElem? (i := 173) rfl))
 (fm_c (tb_5 (List.mem_of_getElem? (i := 174) rfl))
 (fm_c (tb_5 (List.mem_of_getElem? (i := 175) rfl))
 (fm_c (tb_5 (List.mem_of_getElem? (i := 177) rfl))
 (fm_c (tb_s (List.mem_of_getElem? (i := 47) rfl))
 (fm_c (tb_5 (List.mem_of_getElem? (i := 178) rfl))
 (fm_c (tb_5 (List.mem_of_getElem? (i := 179) rfl))
 (fm_c (tb_5 (List.mem_of_getElem? (i := 181) rfl))
 (fm_c (tb_s (List.mem_of_getElem? (i := 48) rfl))
 (fm_c (tb_5 (List.mem_of_getElem? (i := 182) rfl))
 (fm_c (tb_5 (List.mem_of_getElem? (i := 183) rfl))
 (fm_c (tb_5 (List.mem_of_getElem? (i := 184) rfl))
 (fm_c (tb_5 (List.mem_of_getElem? (i := 185) rfl))
 (fm_c (tb_5 (List.mem_of_getElem? (i := 186) rfl))
 (fm_c (tb_5 (List.mem_of_getElem? (i := 188) rfl))
 (fm_c (tb_s (List.mem_of_getElem? (i := 49) rfl))
 ((fun _ h => absurd h List.not_mem_nil)))))))))))))))))))))))))
set_option maxRecDepth 20000 in
theorem wsL_in_32 : ∀ w ∈ wsL_law_r32, w ∈ lw_tbl :=
 fm_c (tb_5 (List.mem_of_getElem? (i := 189) rfl))
 (fm_c (tb_5 (List.mem_of_getElem? (i := 190) rfl))
 (fm_c (tb_5 (List.mem_of_getElem? (i := 192) rfl))
 (fm_c (tb_s (List.mem_of_getElem? (i := 50) rfl))
 (fm_c (tb_5 (List.mem_of_getElem? (i := 193) rfl))
 (fm_c (tb_5 (List.mem_of_getElem? (i := 194) rfl))
 (fm_c (tb_5 (List.mem_of_getElem? (i := 196) rfl))
 (fm_c (tb_s (List.mem_of_getElem? (i := 51) rfl))
 (fm_c (tb_5 (List.mem_of_getElem? (i := 197) rfl))
 (fm_c (tb_3 (List.mem_of_getElem? (i := 176) rfl))
 (fm_c (tb_3 (List.mem_of_getElem? (i := 177) rfl))
 (fm_c (tb_3 (List.mem_of_getElem? (i := 178) rfl))
 (fm_c (tb_3 (List.mem_of_getElem? (i := 179) rfl))
 (fm_c (tb_3 (List.mem_of_getElem? (i := 180) rfl))
 (fm_c (tb_3 (List.mem_of_getElem? (i := 181) rfl))
 (fm_c (tb_3 (List.mem_of_getElem? (i := 182) rfl))
 (fm_c (tb_3 (List.mem_of_getElem? (i := 183) rfl))
 (fm_c (tb_5 (List.mem_of_getElem? (i := 198) rfl))
 (fm_c (tb_5 (List.mem_of_getElem? (i := 199) rfl))
 (fm_c (tb_5 (List.mem_of_getElem? (i := 200) rfl))
 (fm_c (tb_5 (List.mem_of_getElem? (i := 201) rfl))
 (fm_c (tb_5 (List.mem_of_getElem? (i := 202) rfl))
 (fm_c (tb_3 (List.mem_of_getElem? (i := 184) rfl))
 (fm_c (tb_3 (List.mem_of_getElem? (i := 185) rfl))
 ((fun _ h => absurd h List.not_mem_nil)))))))))))))))))))))))))
set_option maxRecDepth 20000 in
theorem wsL_in_33 : ∀ w ∈ wsL_law_r33, w ∈ lw_tbl :=
 fm_c (tb_3 (List.mem_of_getElem? (i := 186) rfl))
 (fm_c (tb_3 (List.mem_of_getElem? (i := 187) rfl))
 (fm_c (tb_3 (List.mem_of_getElem? (i := 188) rfl))
 (fm_c (tb_3 (List.mem_of_getElem? (i := 189) rfl))
 (fm_c (tb_3 (List.mem_of_getElem? (i := 190) rfl))
 (fm_c (tb_3 (List.mem_of_getElem? (i := 191) rfl))
 (fm_c (tb_5 (List.mem_of_getElem? (i := 203) rfl))
 (fm_c (tb_5 (List.mem_of_getElem? (i := 204) rfl))
 (fm_c (tb_5 (List.mem_of_getElem? (i := 205) rfl))
 (fm_c (tb_5 (List.mem_of_getElem? (i := 206) rfl))
 (fm_c (tb_3 (List.mem_of_getElem? (i := 192) rfl))
 (fm_c (tb_3 (List.mem_of_getElem? (i := 193) rfl))
 (fm_c (tb_3 (List.mem_of_getElem? (i := 194) rfl))
 (fm_c (tb_3 (List.mem_of_getElem? (i := 195) rfl))
 (fm_c (tb_3 (List.mem_of_getElem? (i := 196) rfl))
 (fm_c (tb_3 (List.mem_of_getElem? (i := 197) rfl))
 (fm_c (tb_3 (List.mem_of_getElem? (i := 198) rfl))
 (fm_c (tb_3 (List.mem_of_getElem? (i := 199) rfl))
 (fm_c (tb_5 (List.mem_of_getElem? (i := 207) rfl))
 (fm_c (tb_5 (List.mem_of_getElem? (i := 208) rfl))
 (fm_c (tb_5 (List.mem_of_getElem? (i := 209) rfl))
 (fm_c (tb_5 (List.mem_of_getElem? (i := 210) rfl))
 (fm_c (tb_3 (List.mem_of_getElem? (i := 201) rfl))
 (fm_c (tb_3 (List.mem_of_getElem? (i := 202) rfl))
 ((fun _ h => absurd h List.not_mem_nil)))))))))))))))))))))))))
set_option maxRecDepth 20000 in
theorem wsL_in_34 : ∀ w ∈ wsL_law_r34, w ∈ lw_tbl :=
 fm_c (tb_3 (List.mem_of_getElem? (i := 203) rfl))
 (fm_c (tb_3 (List.mem_of_getElem? (i := 204) rfl))
 (fm_c (tb_3 (List.mem_of_getElem? (i := 205) rfl))
 (fm_c (tb_3 (List.mem_of_getElem? (i := 207) rfl))
 (fm_c (tb_s (List.mem_of_getElem? (i := 14) rfl))
 (fm_c (tb_3 (List.mem_of_getElem? (i := 208) rfl))
 (fm_c (tb_3 (List.mem_of_getElem? (i := 209) rfl))
 (fm_c (tb_3 (List.mem_of_getElem? (i := 210) rfl))
 (fm_c (tb_3 (List.mem_of_getElem? (i := 211) rfl))
 (fm_c (tb_3 (List.mem_of_getElem? (i := 212) rfl))
 (fm_c (tb_3 (List.mem_of_getElem? (i := 213) rfl))
 (fm_c (tb_3 (List.mem_of_getElem? (i := 215) rfl))
 (fm_c (tb_3 (List.mem_of_getElem? (i := 216) rfl))
 (fm_c (tb_3 (List.mem_of_getElem? (i := 218) rfl))
 (fm_c (tb_s (List.mem_of_getElem? (i := 15) rfl))
 (fm_c (tb_3 (List.mem_of_getElem? (i := 219) rfl))
 (fm_c (tb_1 (List.mem_of_getElem? (i := 205) rfl))
 (fm_c (tb_1 (List.mem_of_getElem? (i := 93) rfl))
 (fm_c (tb_1 (List.mem_of_getElem? (i := 207) rfl))
 (fm_c (tb_1 (List.mem_of_getElem? (i := 209) rfl))
 (fm_c (tb_5 (List.mem_of_getElem? (i := 211) rfl))
 (fm_c (tb_5 (List.mem_of_getElem? (i := 212) rfl))
 (fm_c (tb_5 (List.mem_of_getElem? (i := 213) rfl))
 (fm_c (tb_5 (List.mem_of_getElem? (i := 214) rfl))
 ((fun _ h => absurd h List.not_mem_nil)))))))))))))))))))))))))
set_option maxRecDepth 20000 in
theorem wsL_in_35 : ∀ w ∈ wsL_law_r35, w ∈ lw_tbl :=
 fm_c (tb_5 (List.mem_of_getElem? (i := 215) rfl))
 (fm_c (tb_5 (List.mem_of_getElem? (i := 217) rfl))
 (fm_c (tb_s (List.mem_of_getElem? (i := 52) rfl))
 (fm_c (tb_5 (List.mem_of_getElem? (i := 218) rfl))
 (fm_c (tb_5 (List.mem_of_getElem? (i := 219) rfl))
 (fm_c (tb_5 (List.mem_of_getElem? (i := 221) rfl))
 (fm_c (tb_s (List.mem_of_getElem? (i := 53) rfl))
 (fm_c (tb_5 (List.mem_of_getElem? (i := 222) rfl))
 (fm_c (tb_5 (List.mem_of_getElem? (i := 223) rfl))
 (fm_c (tb_5 (List.mem_of_getElem? (i := 225) rfl))
 (fm_c (tb_s (List.mem_of_getElem? (i := 54) rfl))
 (fm_c (tb_5 (List.mem_of_getElem? (i := 226) rfl))
 (fm_c (tb_3 (List.mem_of_getElem? (i := 220) rfl))
 (fm_c (tb_3 (List.mem_of_getElem? (i := 221) rfl))
 (fm_c (tb_3 (List.mem_of_getElem? (i := 222) rfl))
 (fm_c (tb_3 (List.mem_of_getElem? (i := 223) rfl))
 (fm_c (tb_3 (List.mem_of_getElem? (i := 224) rfl))
 (fm_c (tb_3 (List.mem_of_getElem? (i := 226) rfl))
 (fm_c (tb_s (List.mem_of_getElem? (i := 16) rfl))
 (fm_c (tb_3 (List.mem_of_getElem? (i := 227) rfl))
 (fm_c (tb_5 (List.mem_of_getElem? (i := 227) rfl))
 (fm_c (tb_5 (List.mem_of_getElem? (i := 228) rfl))
 (fm_c (tb_5 (List.mem_of_getElem? (i := 229) rfl))
 (fm_c (tb_5 (List.mem_of_getElem? (i := 230) rfl))
 ((fun _ h => absurd h List.not_mem_nil)))))))))))))))))))))))))
set_option maxRecDepth 20000 in
theorem wsL_in_36 : ∀ w ∈ wsL_law_r36, w ∈ lw_tbl :=
 fm_c (tb_3 (List.mem_of_getElem? (i := 228) rfl))
 (fm_c (tb_3 (List.mem_of_getElem? (i := 229) rfl))
 (fm_c (tb_3 (List.mem_of_getElem? (i := 230) rfl))
 (fm_c (tb_3 (List.mem_of_getElem? (i := 231) rfl))
 (fm_c (tb_5 (List.mem_of_getElem? (i := 231) rfl))
 (fm_c (tb_5 (List.mem_of_getElem? (i := 232) rfl))
 (fm_c (tb_5 (List.mem_of_getElem? (i := 233) rfl))
 (fm_c (tb_5 (List.mem_of_getElem? (i := 234) rfl))
 (fm_c (tb_5 (List.mem_of_getElem? (i := 235) rfl))
 (fm_c (tb_3 (List.mem_of_getElem? (i := 232) rfl))
 (fm_c (tb_3 (List.mem_of_getElem? (i := 233) rfl))
 (fm_c (tb_3 (List.mem_of_getElem? (i := 234) rfl))
 (fm_c (tb_3 (List.mem_of_getElem? (i := 235) rfl))
 (fm_c (tb_5 (List.mem_of_getElem? (i := 236) rfl))
 (fm_c (tb_5 (List.mem_of_getElem? (i := 237) rfl))
 (fm_c (tb_5 (List.mem_of_getElem? (i := 238) rfl))
 (fm_c (tb_5 (List.mem_of_getElem? (i := 239) rfl))
 (fm_c (tb_3 (List.mem_of_getElem? (i := 236) rfl))
 (fm_c (tb_3 (List.mem_of_getElem? (i := 237) rfl))
 (fm_c (tb_3 (List.mem_of_getElem? (i := 238) rfl))
 (fm_c (tb_3 (List.mem_of_getElem? (i := 239) rfl))
 (fm_c (tb_4 (List.mem_of_getElem? (i := 0) rfl))
 (fm_c (tb_4 (List.mem_of_getElem? (i := 2) rfl))
 (fm_c (tb_s (List.mem_of_getElem? (i := 17) rfl))
 ((fun _ h => absurd h List.not_mem_nil)))))))))))))))))))))))))
set_option maxRecDepth 20000 in
theorem wsL_in_37 : ∀ w ∈ wsL_law_r37, w ∈ lw_tbl :=
 fm_c (tb_4 (List.mem_of_getElem? (i := 3) rfl))
 (fm_c (tb_4 (List.mem_of_getElem? (i := 4) rfl))
 (fm_c (tb_4 (List.mem_of_getElem? (i := 5) rfl))
 (fm_c (tb_4 (List.mem_of_getElem? (i := 6) rfl))
 (fm_c (tb_4 (List.mem_of_getElem? (i := 8) rfl))
 (fm_c (tb_s (List.mem_of_getElem? (i := 18) rfl))
 (fm_c (tb_4 (List.mem_of_getElem? (i := 9) rfl))
 (fm_c (tb_6 (List.mem_of_getElem? (i := 0) rfl))
 (fm_c (tb_6 (List.mem_of_getElem? (i := 1) rfl))
 (fm_c (tb_6 (List.mem_of_getElem? (i := 2) rfl))
 (fm_c (tb_6 (List.mem_of_getElem? (i := 3) rfl))
 (fm_c (tb_6 (List.mem_of_getElem? (i := 4) rfl))
 (fm_c (tb_6 (List.mem_of_getElem? (i := 6) rfl))
 (fm_c (tb_s (List.mem_of_getElem? (i := 55) rfl))
 (fm_c (tb_6 (List.mem_of_getElem? (i := 7) rfl))
 (fm_c (tb_4 (List.mem_of_getElem? (i := 10) rfl))
 (fm_c (tb_4 (List.mem_of_getElem? (i := 11) rfl))
 (fm_c (tb_4 (List.mem_of_getElem? (i := 12) rfl))
 (fm_c (tb_4 (List.mem_of_getElem? (i := 13) rfl))
 (fm_c (tb_4 (List.mem_of_getElem? (i := 14) rfl))
 (fm_c (tb_4 (List.mem_of_getElem? (i := 15) rfl))
 (fm_c (tb_4 (List.mem_of_getElem? (i := 16) rfl))
 (fm_c (tb_4 (List.mem_of_getElem? (i := 17) rfl))
 (fm_c (tb_1 (List.mem_of_getElem? (i := 88) rfl))
 ((fun _ h => absurd h List.not_mem_nil)))))))))))))))))))))))))
set_option maxRecDepth 20000 in
theorem wsL_in_38 : ∀ w ∈ wsL_law_r38, w ∈ lw_tbl :=
 fm_c (tb_1 (List.mem_of_getElem? (i := 49) rfl))
 (fm_c (tb_2 (List.mem_of_getElem? (i := 13) rfl))
 (fm_c (tb_1 (List.mem_of_getElem? (i := 37) rfl))
 (fm_c (tb_1 (List.mem_of_getElem? (i := 91) rfl))
 (fm_c (tb_4 (List.mem_of_getElem? (i := 18) rfl))
 (fm_c (tb_4 (List.mem_of_getElem? (i := 19) rfl))
 (fm_c (tb_4 (List.mem_of_getElem? (i := 20) rfl))
 (fm_c (tb_4 (List.mem_of_getElem? (i := 21) rfl))
 (fm_c (tb_4 (List.mem_of_getElem? (i := 22) rfl))
 (fm_c (tb_4 (List.mem_of_getElem? (i := 23) rfl))
 (fm_c (tb_4 (List.mem_of_getElem? (i := 24) rfl))
 (fm_c (tb_4 (List.mem_of_getElem? (i := 25) rfl))
 (fm_c (tb_4 (List.mem_of_getElem? (i := 27) rfl))
 (fm_c (tb_s (List.mem_of_getElem? (i := 19) rfl))
 (fm_c (tb_4 (List.mem_of_getElem? (i := 28) rfl))
 (fm_c (tb_6 (List.mem_of_getElem? (i := 8) rfl))
 (fm_c (tb_6 (List.mem_of_getElem? (i := 9) rfl))
 (fm_c (tb_6 (List.mem_of_getElem? (i := 10) rfl))
 (fm_c (tb_6 (List.mem_of_getElem? (i := 11) rfl))
 (fm_c (tb_6 (List.mem_of_getElem? (i := 12) rfl))
 (fm_c (tb_6 (List.mem_of_getElem? (i := 14) rfl))
 (fm_c (tb_s (List.mem_of_getElem? (i := 56) rfl))
 (fm_c (tb_6 (List.mem_of_getElem? (i := 15) rfl))
 (fm_c (tb_4 (List.mem_of_getElem? (i := 29) rfl))
 ((fun _ h => absurd h List.not_mem_nil)))))))))))))))))))))))))
set_option maxRecDepth 20000 in
theorem wsL_in_39 : ∀ w ∈ wsL_law_r39, w ∈ lw_tbl :=
 fm_c (tb_4 (List.mem_of_getElem? (i := 30) rfl))
 (fm_c (tb_4 (List.mem_of_getElem? (i := 31) rfl))
 (fm_c (tb_4 (List.mem_of_getElem? (i := 32) rfl))
 (fm_c (tb_4 (List.mem_of_getElem? (i := 33) rfl))
 (fm_c (tb_4 (List.mem_of_getElem? (i := 34) rfl))
 (fm_c (tb_4 (List.mem_of_getElem? (i := 35) rfl))
 (fm_c (tb_4 (List.mem_of_getElem? (i := 36) rfl))
 (fm_c (tb_4 (List.mem_of_getElem? (i := 37) rfl))
 (fm_c (tb_6 (List.mem_of_getElem? (i := 16) rfl))
 (fm_c (tb_6 (List.mem_of_getElem? (i := 17) rfl))
 (fm_c (tb_6 (List.mem_of_getElem? (i := 18) rfl))
 (fm_c (tb_6 (List.mem_of_getElem? (i := 19) rfl))
 (fm_c (tb_6 (List.mem_of_getElem? (i := 24) rfl))
 (fm_c (tb_6 (List.mem_of_getElem? (i := 20) rfl))
 (fm_c (tb_6 (List.mem_of_getElem? (i := 22) rfl))
 (fm_c (tb_s (List.mem_of_getElem? (i := 57) rfl))
 (fm_c (tb_6 (List.mem_of_getElem? (i := 23) rfl))
 (fm_c (tb_4 (List.mem_of_getElem? (i := 38) rfl))
 (fm_c (tb_4 (List.mem_of_getElem? (i := 39) rfl))
 (fm_c (tb_4 (List.mem_of_getElem? (i := 40) rfl))
 (fm_c (tb_4 (List.mem_of_getElem? (i := 41) rfl))
 (fm_c (tb_4 (List.mem_of_getElem? (i := 42) rfl))
 (fm_c (tb_4 (List.mem_of_getElem? (i := 44) rfl))
 (fm_c (tb_s (List.mem_of_getElem? (i := 20) rfl))
 ((fun _ h => absurd h List.not_mem_nil)))))))))))))))))))))))))
set_option maxRecDepth 20000 in
theorem wsL_in_40 : ∀ w ∈ wsL_law_r40, w ∈ lw_tbl :=
 fm_c (tb_4 (List.mem_of_getElem? (i := 45) rfl))
 (fm_c (tb_6 (List.mem_of_getElem? (i := 25) rfl))
 (fm_c (tb_6 (List.mem_of_getElem? (i := 26) rfl))
 (fm_c (tb_6 (List.mem_of_getElem? (i := 27) rfl))
 (fm_c (tb_6 (List.mem_of_getElem? (i := 28) rfl))
 (fm_c (tb_4 (List.mem_of_getElem? (i := 46) rfl))
 (fm_c (tb_4 (List.mem_of_getElem? (i := 47) rfl))
 (fm_c (tb_4 (List.mem_of_getElem? (i := 48) rfl))
 (fm_c (tb_4 (List.mem_of_getElem? (i := 49) rfl))
 (fm_c (tb_6 (List.mem_of_getElem? (i := 29) rfl))
 (fm_c (tb_6 (List.mem_of_getElem? (i := 30) rfl))
 (fm_c (tb_6 (List.mem_of_getElem? (i := 31) rfl))
 (fm_c (tb_6 (List.mem_of_getElem? (i := 32) rfl))
 (fm_c (tb_4 (List.mem_of_getElem? (i := 50) rfl))
 (fm_c (tb_4 (List.mem_of_getElem? (i := 51) rfl))
 (fm_c (tb_4 (List.mem_of_getElem? (i := 52) rfl))
 (fm_c (tb_4 (List.mem_of_getElem? (i := 53) rfl))
 (fm_c (tb_4 (List.mem_of_getElem? (i := 54) rfl))
 (fm_c (tb_4 (List.mem_of_getElem? (i := 56) rfl))
 (fm_c (tb_s (List.mem_of_getElem? (i := 21) rfl))
 (fm_c (tb_4 (List.mem_of_getElem? (i := 57) rfl))
 (fm_c (tb_4 (List.mem_of_getElem? (i := 58) rfl))
 (fm_c (tb_4 (List.mem_of_getElem? (i := 59) rfl))
 (fm_c (tb_4 (List.mem_of_getElem? (i := 60) rfl))
 ((fun _ h => absurd h List.not_mem_nil)))))))))))))))))))))))))
set_option maxRecDepth 20000 in
theorem wsL_in_41 : ∀ w ∈ wsL_law_r41, w ∈ lw_tbl :=
 fm_c (tb_4 (List.mem_of_getElem? (i := 61) rfl))
 (fm_c (tb_4 (List.mem_of_getElem? (i := 62) rfl))
 (fm_c (tb_4 (List.mem_of_getElem? (i := 63) rfl))
 (fm_c (tb_4 (List.mem_of_getElem? (i := 64) rfl))
 (fm_c (tb_4 (List.mem_of_getElem? (i := 65) rfl))
 (fm_c (tb_4 (List.mem_of_getElem? (i := 66) rfl))
 (fm_c (tb_1 (List.mem_of_getElem? (i := 17) rfl))
 (fm_c (tb_4 (List.mem_of_getElem? (i := 67) rfl))
 (fm_c (tb_6 (List.mem_of_getElem? (i := 33) rfl))
 (fm_c (tb_6 (List.mem_of_getElem? (i := 34) rfl))
 (fm_c (tb_6 (List.mem_of_getElem? (i := 35) rfl))
 (fm_c (tb_6 (List.mem_of_getElem? (i := 36) rfl))
 (fm_c (tb_4 (List.mem_of_getElem? (i := 68) rfl))
 (fm_c (tb_4 (List.mem_of_getElem? (i := 69) rfl))
 (fm_c (tb_4 (List.mem_of_getElem? (i := 70) rfl))
 (fm_c (tb_4 (List.mem_of_getElem? (i := 71) rfl))
 (fm_c (tb_2 (List.mem_of_getElem? (i := 29) rfl))
 (fm_c (tb_4 (List.mem_of_getElem? (i := 72) rfl))
 (fm_c (tb_4 (List.mem_of_getElem? (i := 73) rfl))
 (fm_c (tb_4 (List.mem_of_getElem? (i := 74) rfl))
 (fm_c (tb_4 (List.mem_of_getElem? (i := 75) rfl))
 (fm_c (tb_4 (List.mem_of_getElem? (i := 77) rfl))
 (fm_c (tb_4 (List.mem_of_getElem? (i := 78) rfl))
 (fm_c (tb_4 (List.mem_of_getElem? (i := 79) rfl))
 ((fun _ h => absurd h List.not_mem_nil)))))))))))))))))))))))))
set_option maxRecDepth 20000 in
theorem wsL_in_42 : ∀ w ∈ wsL_law_r42, w ∈ lw_tbl :=
 fm_c (tb_4 (List.mem_of_getElem? (i := 80) rfl))
 (fm_c (tb_6 (List.mem_of_getElem? (i := 37) rfl))
 (fm_c (tb_6 (List.mem_of_getElem? (i := 38) rfl))
 (fm_c (tb_6 (List.mem_of_getElem? (i := 39) rfl))
 (fm_c (tb_6 (List.mem_of_getElem? (i := 40) rfl))
 (fm_c (tb_4 (List.mem_of_getElem? (i := 81) rfl))
 (fm_c (tb_4 (List.mem_of_getElem? (i := 82) rfl))
 (fm_c (tb_4 (List.mem_of_getElem? (i := 83) rfl))
 (fm_c (tb_4 (List.mem_of_getElem? (i := 84) rfl))
 (fm_c (tb_2 (List.mem_of_getElem? (i := 27) rfl))
 (fm_c (tb_6 (List.mem_of_getElem? (i := 41) rfl))
 (fm_c (tb_6 (List.mem_of_getElem? (i := 42) rfl))
 (fm_c (tb_6 (List.mem_of_getElem? (i := 43) rfl))
 (fm_c (tb_6 (List.mem_of_getElem? (i := 44) rfl))
 (fm_c (tb_6 (List.mem_of_getElem? (i := 45) rfl))
 (fm_c (tb_4 (List.mem_of_getElem? (i := 137) rfl))
 (fm_c (tb_4 (List.mem_of_getElem? (i := 85) rfl))
 (fm_c (tb_4 (List.mem_of_getElem? (i := 86) rfl))
 (fm_c (tb_4 (List.mem_of_getElem? (i := 87) rfl))
 (fm_c (tb_4 (List.mem_of_getElem? (i := 88) rfl))
 (fm_c (tb_6 (List.mem_of_getElem? (i := 46) rfl))
 (fm_c (tb_6 (List.mem_of_getElem? (i := 47) rfl))
 (fm_c (tb_6 (List.mem_of_getElem? (i := 48) rfl))
 (fm_c (tb_6 (List.mem_of_getElem? (i := 49) rfl))
 ((fun _ h => absurd h List.not_mem_nil)))))))))))))))))))))))))
set_option maxRecDepth 20000 in
theorem wsL_in_43 : ∀ w ∈ wsL_law_r43, w ∈ lw_tbl :=
 fm_c (tb_4 (List.mem_of_getElem? (i := 89) rfl))
 (fm_c (tb_4 (List.mem_of_getElem? (i := 90) rfl))
 (fm_c (tb_4 (List.mem_of_getElem? (i := 91) rfl))
 (fm_c (tb_4 (List.mem_of_getElem? (i := 92) rfl))
 (fm_c (tb_2 (List.mem_of_getElem? (i := 31) rfl))
 (fm_c (tb_6 (List.mem_of_getElem? (i := 50) rfl))
 (fm_c (tb_6 (List.mem_of_getElem? (i := 51) rfl))
 (fm_c (tb_6 (List.mem_of_getElem? (i := 52) rfl))
 (fm_c (tb_6 (List.mem_of_getElem? (i := 53) rfl))
 ((fun _ h => absurd h List.not_mem_nil))))))))))
theorem al_in {a b c : List Cond} (ha : ∀ w ∈ a, w ∈ c) (hb : ∀ w ∈ b, w ∈ c) : ∀ w ∈ a ++ b, w ∈ c := fun w h => (List.mem_append.mp h).elim (ha w) (hb w)
set_option maxRecDepth 20000 in
theorem wsL_in_wsX70 : ∀ w ∈ wsX70, w ∈ lw_tbl := by decide +kernel
set_option maxRecDepth 20000 in
theorem wsL_in_wsX80 : ∀ w ∈ wsX80, w ∈ lw_tbl := by decide +kernel
set_option maxRecDepth 20000 in
theorem wsL_in_wsX20 : ∀ w ∈ wsX20, w ∈ lw_tbl := by decide +kernel
set_option maxRecDepth 20000 in
theorem wsL_in_wsX60 : ∀ w ∈ wsX60, w ∈ lw_tbl := by decide +kernel
set_option maxRecDepth 20000 in
theorem wsL_in_wsX30 : ∀ w ∈ wsX30, w ∈ lw_tbl := by decide +kernel
set_option maxRecDepth 20000 in
theorem wsL_in_wsX00 : ∀ w ∈ wsX00, w ∈ lw_tbl := by decide +kernel
set_option maxRecDepth 20000 in
theorem wsL_in_wsX40 : ∀ w ∈ wsX40, w ∈ lw_tbl := by decide +kernel
set_option maxRecDepth 20000 in
theorem wsL_in_wsX10 : ∀ w ∈ wsX10, w ∈ lw_tbl := by decide +kernel
set_option maxRecDepth 20000 in
theorem wsL_in_wsX50 : ∀ w ∈ wsX50, w ∈ lw_tbl := by decide +kernel
theorem wsL_law_in : ∀ w ∈ wsL_law, w ∈ lw_tbl := (al_in (al_in (al_in (al_in (al_in (al_in (al_in (al_in (al_in (al_in (al_in wsL_in_1 (al_in wsL_in_2 (al_in wsL_in_3 (al_in wsL_in_4 (al_in wsL_in_5 (al_in wsL_in_6 (al_in wsL_in_7 (al_in wsL_in_8 (al_in wsL_in_9 (al_in wsL_in_10 (al_in wsL_in_11 (al_in wsL_in_12 (al_in wsL_in_13 (al_in wsL_in_14 (al_in wsL_in_15 (al_in wsL_in_16 (al_in wsL_in_17 (al_in wsL_in_18 (al_in wsL_in_19 (al_in wsL_in_20 (al_in wsL_in_21 (al_in wsL_in_22 (al_in wsL_in_23 (al_in wsL_in_24 (al_in wsL_in_25 (al_in wsL_in_26 (al_in wsL_in_27 (al_in wsL_in_28 (al_in wsL_in_29 (al_in wsL_in_30 (al_in wsL_in_31 (al_in wsL_in_32 (al_in wsL_in_33 (al_in wsL_in_34 (al_in wsL_in_35 (al_in wsL_in_36 (al_in wsL_in_37 (al_in wsL_in_38 (al_in wsL_in_39 (al_in wsL_in_40 (al_in wsL_in_41 (al_in wsL_in_42 wsL_in_43)))))))))))))))))))))))))))))))))))))))))) wsL_in_wsX70) wsL_in_wsX80) wsL_in_wsX20) wsL_in_wsX60) wsL_in_wsX30) wsL_in_wsX00) wsL_in_wsX40) wsL_in_wsX10) wsL_in_wsX50) (fun w h => absurd h List.not_mem_nil))
theorem inlX0 : ∀ w ∈ wsX00, w ∈ wsL_law := fun _ h => List.mem_append_left _ (List.mem_append_left _ (List.mem_append_left _ (List.mem_append_left _ (List.mem_append_right _ h))))
theorem inX0 : ∀ w ∈ wsX00, w ∈ lw_tbl := fun w h => wsL_law_in w (inlX0 w h)
theorem inlX1 : ∀ w ∈ wsX10, w ∈ wsL_law := fun _ h => List.mem_append_left _ (List.mem_append_left _ (List.mem_append_right _ h))
theorem inX1 : ∀ w ∈ wsX10, w ∈ lw_tbl := fun w h => wsL_law_in w (inlX1 w h)
theorem inlX2 : ∀ w ∈ wsX20, w ∈ wsL_law := fun _ h => List.mem_append_left _ (List.mem_append_left _ (List.mem_append_left _ (List.mem_append_left _ (List.mem_append_left _ (List.mem_append_left _ (List.mem_append_left _ (List.mem_append_right _ h)))))))
theorem inX2 : ∀ w ∈ wsX20, w ∈ lw_tbl := fun w h => wsL_law_in w (inlX2 w h)
theorem inlX3 : ∀ w ∈ wsX30, w ∈ wsL_law := fun _ h => List.mem_append_left _ (List.mem_append_left _ (List.mem_append_left _ (List.mem_append_left _ (List.mem_append_left _ (List.mem_append_right _ h)))))
theorem inX3 : ∀ w ∈ wsX30, w ∈ lw_tbl := fun w h => wsL_law_in w (inlX3 w h)
theorem inlX4 : ∀ w ∈ wsX40, w ∈ wsL_law := fun _ h => List.mem_append_left _ (List.mem_append_left _ (List.mem_append_left _ (List.mem_append_right _ h)))
theorem inX4 : ∀ w ∈ wsX40, w ∈ lw_tbl := fun w h => wsL_law_in w (inlX4 w h)
theorem inlX5 : ∀ w ∈ wsX50, w ∈ wsL_law := fun _ h => List.mem_append_left _ (List.mem_append_right _ h)
theorem inX5 : ∀ w ∈ wsX50, w ∈ lw_tbl := fun w h => wsL_law_in w (inlX5 w h)
theorem inlX6 : ∀ w ∈ wsX60, w ∈ wsL_law := fun _ h => List.mem_append_left _ (List.mem_append_left _ (List.mem_append_left _ (List.mem_append_left _ (List.mem_append_left _ (List.mem_append_left _ (List.mem_append_right _ h))))))
theorem inX6 : ∀ w ∈ wsX60, w ∈ lw_tbl := fun w h => wsL_law_in w (inlX6 w h)
theorem inlX7 : ∀ w ∈ wsX70, w ∈ wsL_law := fun _ h => List.mem_append_left _ (List.mem_append_left _ (List.mem_append_left _ (List.mem_append_left _ (List.mem_append_left _ (List.mem_append_left _ (List.mem_append_left _ (List.mem_append_left _ (List.mem_append_left _ (List.mem_append_right _ h)))))))))
theorem inX7 : ∀ w ∈ wsX70, w ∈ lw_tbl := fun w h => wsL_law_in w (inlX7 w h)
theorem inlX8 : ∀ w ∈ wsX80, w ∈ wsL_law := fun _ h => List.mem_append_left _ (List.mem_append_left _ (List.mem_append_left _ (List.mem_append_left _ (List.mem_append_left _ (List.mem_append_left _ (List.mem_append_left _ (List.mem_append_left _ (List.mem_append_right _ h))))))))
theorem inX8 : ∀ w ∈ wsX80, w ∈ lw_tbl := fun w h => wsL_law_in w (inlX8 w h)
theorem inJx145de : ∀ w ∈ wsJx145de0, w ∈ lw_tbl := by decide +kernel
theorem inJx9f9b0 : ∀ w ∈ wsJx9f9b00, w ∈ lw_tbl := by decide +kernel
theorem inJxb160c : ∀ w ∈ wsJxb160c0, w ∈ lw_tbl := by decide +kernel
theorem inJ6 : ∀ w ∈ wsJ60, w ∈ lw_tbl := by decide +kernel
theorem inJ9 : ∀ w ∈ wsJ90, w ∈ lw_tbl := by decide +kernel
theorem inJ0 : ∀ w ∈ wsJ00, w ∈ lw_tbl := by decide +kernel
theorem inJ1 : ∀ w ∈ wsJ10, w ∈ lw_tbl := by decide +kernel
theorem inJ2 : ∀ w ∈ wsJ20, w ∈ lw_tbl := by decide +kernel
theorem inJ10 : ∀ w ∈ wsJ100, w ∈ lw_tbl := by decide +kernel
theorem inJxfd54e : ∀ w ∈ wsJxfd54e0, w ∈ lw_tbl := by decide +kernel
theorem inJx3cf43 : ∀ w ∈ wsJx3cf430, w ∈ lw_tbl := by decide +kernel
theorem inJ7 : ∀ w ∈ wsJ70, w ∈ lw_tbl := by decide +kernel
theorem inJ3 : ∀ w ∈ wsJ30, w ∈ lw_tbl := by decide +kernel
theorem dX0_init_0 : decode cX0_init 0 = .ok (.aload_n 0, 1) := by decide +kernel
theorem dX0_init_1 : decode cX0_init 1 = .ok (.invokespecial 3, 3) := by decide +kernel
theorem dX0_init_4 : decode cX0_init 4 = .ok (.aload_n 0, 1) := by decide +kernel
theorem dX0_init_5 : decode cX0_init 5 = .ok (.bipush 6, 2) := by decide +kernel
theorem dX0_init_7 : decode cX0_init 7 = .ok (.newarray .int, 2) := by decide +kernel
theorem dX0_init_9 : decode cX0_init 9 = .ok (.putfield 9, 3) := by decide +kernel
theorem dX0_init_12 : decode cX0_init 12 = .ok (.aload_n 0, 1) := by decide +kernel
theorem dX0_init_13 : decode cX0_init 13 = .ok (.bipush 6, 2) := by decide +kernel
theorem dX0_init_15 : decode cX0_init 15 = .ok (.newarray .int, 2) := by decide +kernel
theorem dX0_init_17 : decode cX0_init 17 = .ok (.putfield 15, 3) := by decide +kernel
theorem dX0_init_20 : decode cX0_init 20 = .ok (.aload_n 0, 1) := by decide +kernel
theorem dX0_init_21 : decode cX0_init 21 = .ok (.bipush 6, 2) := by decide +kernel
theorem dX0_init_23 : decode cX0_init 23 = .ok (.newarray .int, 2) := by decide +kernel
theorem dX0_init_25 : decode cX0_init 25 = .ok (.putfield 18, 3) := by decide +kernel
theorem dX0_init_28 : decode cX0_init 28 = .ok (.aload_n 0, 1) := by decide +kernel
theorem dX0_init_29 : decode cX0_init 29 = .ok (.iconst 0, 1) := by decide +kernel
theorem dX0_init_30 : decode cX0_init 30 = .ok (.putfield 21, 3) := by decide +kernel
theorem dX0_init_33 : decode cX0_init 33 = .ok (.return_, 1) := by decide +kernel
theorem dX0_add_0 : decode cX0_add 0 = .ok (.aload_n 0, 1) := by decide +kernel
theorem dX0_add_1 : decode cX0_add 1 = .ok (.getfield 21, 3) := by decide +kernel
theorem dX0_add_4 : decode cX0_add 4 = .ok (.bipush 6, 2) := by decide +kernel
theorem dX0_add_6 : decode cX0_add 6 = .ok (.if_icmp .lt 5, 3) := by decide +kernel
theorem dX0_add_9 : decode cX0_add 9 = .ok (.iconst 0, 1) := by decide +kernel
theorem dX0_add_10 : decode cX0_add 10 = .ok (.ireturn, 1) := by decide +kernel
theorem dX0_add_11 : decode cX0_add 11 = .ok (.aload_n 0, 1) := by decide +kernel
theorem dX0_add_12 : decode cX0_add 12 = .ok (.getfield 9, 3) := by decide +kernel
theorem dX0_add_15 : decode cX0_add 15 = .ok (.aload_n 0, 1) := by decide +kernel
theorem dX0_add_16 : decode cX0_add 16 = .ok (.getfield 21, 3) := by decide +kernel
theorem dX0_add_19 : decode cX0_add 19 = .ok (.iload_n 1, 1) := by decide +kernel
theorem dX0_add_20 : decode cX0_add 20 = .ok (.iastore, 1) := by decide +kernel
theorem dX0_add_21 : decode cX0_add 21 = .ok (.aload_n 0, 1) := by decide +kernel
theorem dX0_add_22 : decode cX0_add 22 = .ok (.getfield 15, 3) := by decide +kernel
theorem dX0_add_25 : decode cX0_add 25 = .ok (.aload_n 0, 1) := by decide +kernel
theorem dX0_add_26 : decode cX0_add 26 = .ok (.getfield 21, 3) := by decide +kernel
theorem dX0_add_29 : decode cX0_add 29 = .ok (.iload_n 2, 1) := by decide +kernel
theorem dX0_add_30 : decode cX0_add 30 = .ok (.iastore, 1) := by decide +kernel
theorem dX0_add_31 : decode cX0_add 31 = .ok (.aload_n 0, 1) := by decide +kernel
theorem dX0_add_32 : decode cX0_add 32 = .ok (.getfield 18, 3) := by decide +kernel
theorem dX0_add_35 : decode cX0_add 35 = .ok (.aload_n 0, 1) := by decide +kernel
theorem dX0_add_36 : decode cX0_add 36 = .ok (.getfield 21, 3) := by decide +kernel
theorem dX0_add_39 : decode cX0_add 39 = .ok (.iload_n 3, 1) := by decide +kernel
theorem dX0_add_40 : decode cX0_add 40 = .ok (.iastore, 1) := by decide +kernel
theorem dX0_add_41 : decode cX0_add 41 = .ok (.aload_n 0, 1) := by decide +kernel
theorem dX0_add_42 : decode cX0_add 42 = .ok (.dup, 1) := by decide +kernel
theorem dX0_add_43 : decode cX0_add 43 = .ok (.getfield 21, 3) := by decide +kernel
theorem dX0_add_46 : decode cX0_add 46 = .ok (.iconst 1, 1) := by decide +kernel
theorem dX0_add_47 : decode cX0_add 47 = .ok (.iadd, 1) := by decide +kernel
theorem dX0_add_48 : decode cX0_add 48 = .ok (.putfield 21, 3) := by decide +kernel
theorem dX0_add_51 : decode cX0_add 51 = .ok (.iconst 1, 1) := by decide +kernel
theorem dX0_add_52 : decode cX0_add 52 = .ok (.ireturn, 1) := by decide +kernel
set_option maxRecDepth 20000 in
theorem ggX0_keepFirst_X7_isWithin : GoodIn wsX0_keepFirst wsX7_isWithin := goodIn_r _ [4] (by decide +kernel) (by decide +kernel)
set_option maxRecDepth 20000 in
theorem gX0_keepFirst_X7_isWithin_n25 : GoodIn wsX0_keepFirst (wsX7_isWithin) := ggX0_keepFirst_X7_isWithin
theorem dX0_keepFirst_0 : decode cX0_keepFirst 0 = .ok (.iload_n 1, 1) := by decide +kernel
theorem dX0_keepFirst_1 : decode cX0_keepFirst 1 = .ok (.iconst 0, 1) := by decide +kernel
theorem dX0_keepFirst_2 : decode cX0_keepFirst 2 = .ok (.aload_n 0, 1) := by decide +kernel
theorem dX0_keepFirst_3 : decode cX0_keepFirst 3 = .ok (.getfield 21, 3) := by decide +kernel
theorem dX0_keepFirst_6 : decode cX0_keepFirst 6 = .ok (.invokestatic 25, 3) := by decide +kernel
theorem dX0_keepFirst_9 : decode cX0_keepFirst 9 = .ok (.ifCond .ne 5, 3) := by decide +kernel
theorem dX0_keepFirst_12 : decode cX0_keepFirst 12 = .ok (.iconst (-1), 1) := by decide +kernel
theorem dX0_keepFirst_13 : decode cX0_keepFirst 13 = .ok (.ireturn, 1) := by decide +kernel
theorem dX0_keepFirst_14 : decode cX0_keepFirst 14 = .ok (.aload_n 0, 1) := by decide +kernel
theorem dX0_keepFirst_15 : decode cX0_keepFirst 15 = .ok (.getfield 21, 3) := by decide +kernel
theorem dX0_keepFirst_18 : decode cX0_keepFirst 18 = .ok (.istore_n 2, 1) := by decide +kernel
theorem dX0_keepFirst_19 : decode cX0_keepFirst 19 = .ok (.aload_n 0, 1) := by decide +kernel
theorem dX0_keepFirst_20 : decode cX0_keepFirst 20 = .ok (.iload_n 1, 1) := by decide +kernel
theorem dX0_keepFirst_21 : decode cX0_keepFirst 21 = .ok (.putfield 21, 3) := by decide +kernel
theorem dX0_keepFirst_24 : decode cX0_keepFirst 24 = .ok (.iload_n 2, 1) := by decide +kernel
theorem dX0_keepFirst_25 : decode cX0_keepFirst 25 = .ok (.ireturn, 1) := by decide +kernel
theorem dX1_init_0 : decode cX1_init 0 = .ok (.aload_n 0, 1) := by decide +kernel
theorem dX1_init_1 : decode cX1_init 1 = .ok (.invokespecial 3, 3) := by decide +kernel
theorem dX1_init_4 : decode cX1_init 4 = .ok (.aload_n 0, 1) := by decide +kernel
theorem dX1_init_5 : decode cX1_init 5 = .ok (.sipush 240, 3) := by decide +kernel
theorem dX1_init_8 : decode cX1_init 8 = .ok (.newarray .int, 2) := by decide +kernel
theorem dX1_init_10 : decode cX1_init 10 = .ok (.putfield 9, 3) := by decide +kernel
theorem dX1_init_13 : decode cX1_init 13 = .ok (.return_, 1) := by decide +kernel
set_option maxRecDepth 20000 in
theorem ggX1_foresee_X6_isBarred : GoodIn wsX1_foresee wsX6_isBarred := goodIn_r _ [11, 12, 39, 40, 41, 42, 43, 44, 45, 46, 47, 48, 49] (by decide +kernel) (by decide +kernel)
set_option maxRecDepth 20000 in
theorem gX1_foresee_X6_isBarred : GoodIn wsX1_foresee (wsV RX1 34 RX6 yX6_isBarred wsX6_isBarred) := goodIn_app (goodIn_of _ (by decide +kernel)) ggX1_foresee_X6_isBarred
set_option maxRecDepth 20000 in
theorem ggX1_foresee_X6_passTime : GoodIn wsX1_foresee wsX6_passTime := goodIn_r _ [16, 17, 18, 19, 20, 21, 22, 23, 24, 10, 25, 26, 27, 28, 29, 30, 31, 32, 12, 33, 34, 35, 36, 37, 38, 39, 40, 41, 42, 43, 44, 45, 46, 47, 48, 49, 50, 51, 52, 53, 54, 55] (by decide +kernel) (by decide +kernel)
set_option maxRecDepth 20000 in
theorem gX1_foresee_X6_passTime : GoodIn wsX1_foresee (wsV RX1 38 RX6 yX6_passTime wsX6_passTime) := goodIn_app (goodIn_of _ (by decide +kernel)) ggX1_foresee_X6_passTime
theorem dX1_foresee_0 : decode cX1_foresee 0 = .ok (.aload_n 0, 1) := by decide +kernel
theorem dX1_foresee_1 : decode cX1_foresee 1 = .ok (.aload_n 1, 1) := by decide +kernel
theorem dX1_foresee_2 : decode cX1_foresee 2 = .ok (.getfield 15, 3) := by decide +kernel
theorem dX1_foresee_5 : decode cX1_foresee 5 = .ok (.getfield 21, 3) := by decide +kernel
theorem dX1_foresee_8 : decode cX1_foresee 8 = .ok (.putfield 27, 3) := by decide +kernel
theorem dX1_foresee_11 : decode cX1_foresee 11 = .ok (.iconst 0, 1) := by decide +kernel
theorem dX1_foresee_12 : decode cX1_foresee 12 = .ok (.istore_n 2, 1) := by decide +kernel
theorem dX1_foresee_13 : decode cX1_foresee 13 = .ok (.iload_n 2, 1) := by decide +kernel
theorem dX1_foresee_14 : decode cX1_foresee 14 = .ok (.bipush 24, 2) := by decide +kernel
theorem dX1_foresee_16 : decode cX1_foresee 16 = .ok (.if_icmp .ge 76, 3) := by decide +kernel
theorem dX1_foresee_19 : decode cX1_foresee 19 = .ok (.iconst 0, 1) := by decide +kernel
theorem dX1_foresee_20 : decode cX1_foresee 20 = .ok (.istore_n 3, 1) := by decide +kernel
theorem dX1_foresee_21 : decode cX1_foresee 21 = .ok (.iload_n 3, 1) := by decide +kernel
theorem dX1_foresee_22 : decode cX1_foresee 22 = .ok (.aload_n 0, 1) := by decide +kernel
theorem dX1_foresee_23 : decode cX1_foresee 23 = .ok (.getfield 27, 3) := by decide +kernel
theorem dX1_foresee_26 : decode cX1_foresee 26 = .ok (.if_icmp .ge 56, 3) := by decide +kernel
theorem dX1_foresee_29 : decode cX1_foresee 29 = .ok (.iconst 1, 1) := by decide +kernel
theorem dX1_foresee_30 : decode cX1_foresee 30 = .ok (.aload_n 1, 1) := by decide +kernel
theorem dX1_foresee_31 : decode cX1_foresee 31 = .ok (.getfield 15, 3) := by decide +kernel
theorem dX1_foresee_34 : decode cX1_foresee 34 = .ok (.getfield 28, 3) := by decide +kernel
theorem dX1_foresee_37 : decode cX1_foresee 37 = .ok (.iload_n 3, 1) := by decide +kernel
theorem dX1_foresee_38 : decode cX1_foresee 38 = .ok (.iaload, 1) := by decide +kernel
theorem dX1_foresee_39 : decode cX1_foresee 39 = .ok (.ishl, 1) := by decide +kernel
theorem dX1_foresee_40 : decode cX1_foresee 40 = .ok (.iconst 1, 1) := by decide +kernel
theorem dX1_foresee_41 : decode cX1_foresee 41 = .ok (.aload_n 1, 1) := by decide +kernel
theorem dX1_foresee_42 : decode cX1_foresee 42 = .ok (.getfield 31, 3) := by decide +kernel
theorem dX1_foresee_45 : decode cX1_foresee 45 = .ok (.iload_n 3, 1) := by decide +kernel
theorem dX1_foresee_46 : decode cX1_foresee 46 = .ok (.iaload, 1) := by decide +kernel
theorem dX1_foresee_47 : decode cX1_foresee 47 = .ok (.ishl, 1) := by decide +kernel
theorem dX1_foresee_48 : decode cX1_foresee 48 = .ok (.ior, 1) := by decide +kernel
theorem dX1_foresee_49 : decode cX1_foresee 49 = .ok (.istore 4, 2) := by decide +kernel
theorem dX1_foresee_51 : decode cX1_foresee 51 = .ok (.aload_n 0, 1) := by decide +kernel
theorem dX1_foresee_52 : decode cX1_foresee 52 = .ok (.getfield 9, 3) := by decide +kernel
theorem dX1_foresee_55 : decode cX1_foresee 55 = .ok (.iload_n 2, 1) := by decide +kernel
theorem dX1_foresee_56 : decode cX1_foresee 56 = .ok (.bipush 10, 2) := by decide +kernel
theorem dX1_foresee_58 : decode cX1_foresee 58 = .ok (.imul, 1) := by decide +kernel
theorem dX1_foresee_59 : decode cX1_foresee 59 = .ok (.iload_n 3, 1) := by decide +kernel
theorem dX1_foresee_60 : decode cX1_foresee 60 = .ok (.iadd, 1) := by decide +kernel
theorem dX1_foresee_61 : decode cX1_foresee 61 = .ok (.aload_n 1, 1) := by decide +kernel
theorem dX1_foresee_62 : decode cX1_foresee 62 = .ok (.iload_n 3, 1) := by decide +kernel
theorem dX1_foresee_63 : decode cX1_foresee 63 = .ok (.invokevirtual 34, 3) := by decide +kernel
theorem dX1_foresee_66 : decode cX1_foresee 66 = .ok (.ifCond .eq 7, 3) := by decide +kernel
theorem dX1_foresee_69 : decode cX1_foresee 69 = .ok (.iconst 0, 1) := by decide +kernel
theorem dX1_foresee_70 : decode cX1_foresee 70 = .ok (.goto 5, 3) := by decide +kernel
theorem dX1_foresee_73 : decode cX1_foresee 73 = .ok (.iload 4, 2) := by decide +kernel
theorem dX1_foresee_75 : decode cX1_foresee 75 = .ok (.iastore, 1) := by decide +kernel
theorem dX1_foresee_76 : decode cX1_foresee 76 = .ok (.iinc 3 1, 3) := by decide +kernel
theorem dX1_foresee_79 : decode cX1_foresee 79 = .ok (.goto (-58), 3) := by decide +kernel
theorem dX1_foresee_82 : decode cX1_foresee 82 = .ok (.aload_n 1, 1) := by decide +kernel
theorem dX1_foresee_83 : decode cX1_foresee 83 = .ok (.invokevirtual 38, 3) := by decide +kernel
theorem dX1_foresee_86 : decode cX1_foresee 86 = .ok (.iinc 2 1, 3) := by decide +kernel
theorem dX1_foresee_89 : decode cX1_foresee 89 = .ok (.goto (-76), 3) := by decide +kernel
theorem dX1_foresee_92 : decode cX1_foresee 92 = .ok (.return_, 1) := by decide +kernel
set_option maxRecDepth 20000 in
theorem ggX1_keepOut_X1_newlyReached : GoodIn wsX1_keepOut wsX1_newlyReached := goodIn_r _ [5, 6, 7, 8, 9] (by decide +kernel) (by decide +kernel)
set_option maxRecDepth 20000 in
theorem gX1_keepOut_X1_newlyReached : GoodIn wsX1_keepOut (wsV RX1 41 RX1 yX1_newlyReached wsX1_newlyReached) := goodIn_app (goodIn_of _ (by decide +kernel)) ggX1_keepOut_X1_newlyReached
theorem dX1_keepOut_0 : decode cX1_keepOut 0 = .ok (.iconst 1, 1) := by decide +kernel
theorem dX1_keepOut_1 : decode cX1_keepOut 1 = .ok (.iload_n 1, 1) := by decide +kernel
theorem dX1_keepOut_2 : decode cX1_keepOut 2 = .ok (.ishl, 1) := by decide +kernel
theorem dX1_keepOut_3 : decode cX1_keepOut 3 = .ok (.istore_n 3, 1) := by decide +kernel
theorem dX1_keepOut_4 : decode cX1_keepOut 4 = .ok (.iconst 0, 1) := by decide +kernel
theorem dX1_keepOut_5 : decode cX1_keepOut 5 = .ok (.istore 4, 2) := by decide +kernel
theorem dX1_keepOut_7 : decode cX1_keepOut 7 = .ok (.iload 4, 2) := by decide +kernel
theorem dX1_keepOut_9 : decode cX1_keepOut 9 = .ok (.bipush 24, 2) := by decide +kernel
theorem dX1_keepOut_11 : decode cX1_keepOut 11 = .ok (.if_icmp .ge 26, 3) := by decide +kernel
theorem dX1_keepOut_14 : decode cX1_keepOut 14 = .ok (.iload_n 3, 1) := by decide +kernel
theorem dX1_keepOut_15 : decode cX1_keepOut 15 = .ok (.iconst 1, 1) := by decide +kernel
theorem dX1_keepOut_16 : decode cX1_keepOut 16 = .ok (.iand, 1) := by decide +kernel
theorem dX1_keepOut_17 : decode cX1_keepOut 17 = .ok (.ifCond .ne 20, 3) := by decide +kernel
theorem dX1_keepOut_20 : decode cX1_keepOut 20 = .ok (.iload_n 3, 1) := by decide +kernel
theorem dX1_keepOut_21 : decode cX1_keepOut 21 = .ok (.aload_n 0, 1) := by decide +kernel
theorem dX1_keepOut_22 : decode cX1_keepOut 22 = .ok (.iload_n 3, 1) := by decide +kernel
theorem dX1_keepOut_23 : decode cX1_keepOut 23 = .ok (.iload 4, 2) := by decide +kernel
theorem dX1_keepOut_25 : decode cX1_keepOut 25 = .ok (.iload_n 2, 1) := by decide +kernel
theorem dX1_keepOut_26 : decode cX1_keepOut 26 = .ok (.invokevirtual 41, 3) := by decide +kernel
theorem dX1_keepOut_29 : decode cX1_keepOut 29 = .ok (.ior, 1) := by decide +kernel
theorem dX1_keepOut_30 : decode cX1_keepOut 30 = .ok (.istore_n 3, 1) := by decide +kernel
theorem dX1_keepOut_31 : decode cX1_keepOut 31 = .ok (.iinc 4 1, 3) := by decide +kernel
theorem dX1_keepOut_34 : decode cX1_keepOut 34 = .ok (.goto (-27), 3) := by decide +kernel
theorem dX1_keepOut_37 : decode cX1_keepOut 37 = .ok (.iload_n 3, 1) := by decide +kernel
theorem dX1_keepOut_38 : decode cX1_keepOut 38 = .ok (.iconst 1, 1) := by decide +kernel
theorem dX1_keepOut_39 : decode cX1_keepOut 39 = .ok (.iand, 1) := by decide +kernel
theorem dX1_keepOut_40 : decode cX1_keepOut 40 = .ok (.ifCond .ne 7, 3) := by decide +kernel
theorem dX1_keepOut_43 : decode cX1_keepOut 43 = .ok (.iconst 1, 1) := by decide +kernel
theorem dX1_keepOut_44 : decode cX1_keepOut 44 = .ok (.goto 4, 3) := by decide +kernel
theorem dX1_keepOut_47 : decode cX1_keepOut 47 = .ok (.iconst 0, 1) := by decide +kernel
theorem dX1_keepOut_48 : decode cX1_keepOut 48 = .ok (.ireturn, 1) := by decide +kernel
theorem dX1_newlyReached_0 : decode cX1_newlyReached 0 = .ok (.iconst 0, 1) := by decide +kernel
theorem dX1_newlyReached_1 : decode cX1_newlyReached 1 = .ok (.istore 4, 2) := by decide +kernel
theorem dX1_newlyReached_3 : decode cX1_newlyReached 3 = .ok (.iconst 0, 1) := by decide +kernel
theorem dX1_newlyReached_4 : decode cX1_newlyReached 4 = .ok (.istore 5, 2) := by decide +kernel
theorem dX1_newlyReached_6 : decode cX1_newlyReached 6 = .ok (.iload 5, 2) := by decide +kernel
theorem dX1_newlyReached_8 : decode cX1_newlyReached 8 = .ok (.aload_n 0, 1) := by decide +kernel
theorem dX1_newlyReached_9 : decode cX1_newlyReached 9 = .ok (.getfield 27, 3) := by decide +kernel
theorem dX1_newlyReached_12 : decode cX1_newlyReached 12 = .ok (.if_icmp .ge 46, 3) := by decide +kernel
theorem dX1_newlyReached_15 : decode cX1_newlyReached 15 = .ok (.aload_n 0, 1) := by decide +kernel
theorem dX1_newlyReached_16 : decode cX1_newlyReached 16 = .ok (.getfield 9, 3) := by decide +kernel
theorem dX1_newlyReached_19 : decode cX1_newlyReached 19 = .ok (.iload_n 2, 1) := by decide +kernel
theorem dX1_newlyReached_20 : decode cX1_newlyReached 20 = .ok (.bipush 10, 2) := by decide +kernel
theorem dX1_newlyReached_22 : decode cX1_newlyReached 22 = .ok (.imul, 1) := by decide +kernel
theorem dX1_newlyReached_23 : decode cX1_newlyReached 23 = .ok (.iload 5, 2) := by decide +kernel
theorem dX1_newlyReached_25 : decode cX1_newlyReached 25 = .ok (.iadd, 1) := by decide +kernel
theorem dX1_newlyReached_26 : decode cX1_newlyReached 26 = .ok (.iaload, 1) := by decide +kernel
theorem dX1_newlyReached_27 : decode cX1_newlyReached 27 = .ok (.istore 6, 2) := by decide +kernel
theorem dX1_newlyReached_29 : decode cX1_newlyReached 29 = .ok (.iload_n 3, 1) := by decide +kernel
theorem dX1_newlyReached_30 : decode cX1_newlyReached 30 = .ok (.iload 5, 2) := by decide +kernel
theorem dX1_newlyReached_32 : decode cX1_newlyReached 32 = .ok (.ishr, 1) := by decide +kernel
theorem dX1_newlyReached_33 : decode cX1_newlyReached 33 = .ok (.iconst 1, 1) := by decide +kernel
theorem dX1_newlyReached_34 : decode cX1_newlyReached 34 = .ok (.iand, 1) := by decide +kernel
theorem dX1_newlyReached_35 : decode cX1_newlyReached 35 = .ok (.ifCond .ne 17, 3) := by decide +kernel
theorem dX1_newlyReached_38 : decode cX1_newlyReached 38 = .ok (.iload 6, 2) := by decide +kernel
theorem dX1_newlyReached_40 : decode cX1_newlyReached 40 = .ok (.iload_n 1, 1) := by decide +kernel
theorem dX1_newlyReached_41 : decode cX1_newlyReached 41 = .ok (.iand, 1) := by decide +kernel
theorem dX1_newlyReached_42 : decode cX1_newlyReached 42 = .ok (.ifCond .eq 10, 3) := by decide +kernel
theorem dX1_newlyReached_45 : decode cX1_newlyReached 45 = .ok (.iload 4, 2) := by decide +kernel
theorem dX1_newlyReached_47 : decode cX1_newlyReached 47 = .ok (.iload 6, 2) := by decide +kernel
theorem dX1_newlyReached_49 : decode cX1_newlyReached 49 = .ok (.ior, 1) := by decide +kernel
theorem dX1_newlyReached_50 : decode cX1_newlyReached 50 = .ok (.istore 4, 2) := by decide +kernel
theorem dX1_newlyReached_52 : decode cX1_newlyReached 52 = .ok (.iinc 5 1, 3) := by decide +kernel
theorem dX1_newlyReached_55 : decode cX1_newlyReached 55 = .ok (.goto (-49), 3) := by decide +kernel
theorem dX1_newlyReached_58 : decode cX1_newlyReached 58 = .ok (.iload 4, 2) := by decide +kernel
theorem dX1_newlyReached_60 : decode cX1_newlyReached 60 = .ok (.ireturn, 1) := by decide +kernel
set_option maxRecDepth 20000 in
theorem ggX2_init_X2_reset : GoodIn wsX2_init wsX2_reset := goodIn_r _ [11, 12, 13, 14, 15, 16, 17, 18, 19, 20, 21] (by decide +kernel) (by decide +kernel)
set_option maxRecDepth 20000 in
theorem gX2_init_X2_reset : GoodIn wsX2_init (wsV RX2 18 RX2 yX2_reset wsX2_reset) := goodIn_app (goodIn_of _ (by decide +kernel)) ggX2_init_X2_reset
theorem dX2_init_0 : decode cX2_init 0 = .ok (.aload_n 0, 1) := by decide +kernel
theorem dX2_init_1 : decode cX2_init 1 = .ok (.invokespecial 3, 3) := by decide +kernel
theorem dX2_init_4 : decode cX2_init 4 = .ok (.aload_n 0, 1) := by decide +kernel
theorem dX2_init_5 : decode cX2_init 5 = .ok (.bipush 10, 2) := by decide +kernel
theorem dX2_init_7 : decode cX2_init 7 = .ok (.newarray .int, 2) := by decide +kernel
theorem dX2_init_9 : decode cX2_init 9 = .ok (.putfield 9, 3) := by decide +kernel
theorem dX2_init_12 : decode cX2_init 12 = .ok (.aload_n 0, 1) := by decide +kernel
theorem dX2_init_13 : decode cX2_init 13 = .ok (.bipush 6, 2) := by decide +kernel
theorem dX2_init_15 : decode cX2_init 15 = .ok (.newarray .int, 2) := by decide +kernel
theorem dX2_init_17 : decode cX2_init 17 = .ok (.putfield 15, 3) := by decide +kernel
theorem dX2_init_20 : decode cX2_init 20 = .ok (.aload_n 0, 1) := by decide +kernel
theorem dX2_init_21 : decode cX2_init 21 = .ok (.invokevirtual 18, 3) := by decide +kernel
theorem dX2_init_24 : decode cX2_init 24 = .ok (.return_, 1) := by decide +kernel
theorem dX2_reset_0 : decode cX2_reset 0 = .ok (.aload_n 0, 1) := by decide +kernel
theorem dX2_reset_1 : decode cX2_reset 1 = .ok (.iconst 2, 1) := by decide +kernel
theorem dX2_reset_2 : decode cX2_reset 2 = .ok (.putfield 21, 3) := by decide +kernel
theorem dX2_reset_5 : decode cX2_reset 5 = .ok (.aload_n 0, 1) := by decide +kernel
theorem dX2_reset_6 : decode cX2_reset 6 = .ok (.iconst 0, 1) := by decide +kernel
theorem dX2_reset_7 : decode cX2_reset 7 = .ok (.putfield 25, 3) := by decide +kernel
theorem dX2_reset_10 : decode cX2_reset 10 = .ok (.aload_n 0, 1) := by decide +kernel
theorem dX2_reset_11 : decode cX2_reset 11 = .ok (.iconst 0, 1) := by decide +kernel
theorem dX2_reset_12 : decode cX2_reset 12 = .ok (.putfield 28, 3) := by decide +kernel
theorem dX2_reset_15 : decode cX2_reset 15 = .ok (.aload_n 0, 1) := by decide +kernel
theorem dX2_reset_16 : decode cX2_reset 16 = .ok (.bipush 12, 2) := by decide +kernel
theorem dX2_reset_18 : decode cX2_reset 18 = .ok (.putfield 31, 3) := by decide +kernel
theorem dX2_reset_21 : decode cX2_reset 21 = .ok (.return_, 1) := by decide +kernel
theorem dX2_copyFrom_0 : decode cX2_copyFrom 0 = .ok (.aload_n 1, 1) := by decide +kernel
theorem dX2_copyFrom_1 : decode cX2_copyFrom 1 = .ok (.getfield 9, 3) := by decide +kernel
theorem dX2_copyFrom_4 : decode cX2_copyFrom 4 = .ok (.iconst 0, 1) := by decide +kernel
theorem dX2_copyFrom_5 : decode cX2_copyFrom 5 = .ok (.aload_n 0, 1) := by decide +kernel
theorem dX2_copyFrom_6 : decode cX2_copyFrom 6 = .ok (.getfield 9, 3) := by decide +kernel
theorem dX2_copyFrom_9 : decode cX2_copyFrom 9 = .ok (.iconst 0, 1) := by decide +kernel
theorem dX2_copyFrom_10 : decode cX2_copyFrom 10 = .ok (.bipush 10, 2) := by decide +kernel
theorem dX2_copyFrom_12 : decode cX2_copyFrom 12 = .ok (.invokestatic 34, 3) := by decide +kernel
theorem dX2_copyFrom_15 : decode cX2_copyFrom 15 = .ok (.aload_n 1, 1) := by decide +kernel
theorem dX2_copyFrom_16 : decode cX2_copyFrom 16 = .ok (.getfield 15, 3) := by decide +kernel
theorem dX2_copyFrom_19 : decode cX2_copyFrom 19 = .ok (.iconst 0, 1) := by decide +kernel
theorem dX2_copyFrom_20 : decode cX2_copyFrom 20 = .ok (.aload_n 0, 1) := by decide +kernel
theorem dX2_copyFrom_21 : decode cX2_copyFrom 21 = .ok (.getfield 15, 3) := by decide +kernel
theorem dX2_copyFrom_24 : decode cX2_copyFrom 24 = .ok (.iconst 0, 1) := by decide +kernel
theorem dX2_copyFrom_25 : decode cX2_copyFrom 25 = .ok (.bipush 6, 2) := by decide +kernel
theorem dX2_copyFrom_27 : decode cX2_copyFrom 27 = .ok (.invokestatic 34, 3) := by decide +kernel
theorem dX2_copyFrom_30 : decode cX2_copyFrom 30 = .ok (.aload_n 0, 1) := by decide +kernel
theorem dX2_copyFrom_31 : decode cX2_copyFrom 31 = .ok (.aload_n 1, 1) := by decide +kernel
theorem dX2_copyFrom_32 : decode cX2_copyFrom 32 = .ok (.getfield 21, 3) := by decide +kernel
theorem dX2_copyFrom_35 : decode cX2_copyFrom 35 = .ok (.putfield 21, 3) := by decide +kernel
theorem dX2_copyFrom_38 : decode cX2_copyFrom 38 = .ok (.aload_n 0, 1) := by decide +kernel
theorem dX2_copyFrom_39 : decode cX2_copyFrom 39 = .ok (.aload_n 1, 1) := by decide +kernel
theorem dX2_copyFrom_40 : decode cX2_copyFrom 40 = .ok (.getfield 25, 3) := by decide +kernel
theorem dX2_copyFrom_43 : decode cX2_copyFrom 43 = .ok (.putfield 25, 3) := by decide +kernel
theorem dX2_copyFrom_46 : decode cX2_copyFrom 46 = .ok (.aload_n 0, 1) := by decide +kernel
theorem dX2_copyFrom_47 : decode cX2_copyFrom 47 = .ok (.aload_n 1, 1) := by decide +kernel
theorem dX2_copyFrom_48 : decode cX2_copyFrom 48 = .ok (.getfield 28, 3) := by decide +kernel
theorem dX2_copyFrom_51 : decode cX2_copyFrom 51 = .ok (.putfield 28, 3) := by decide +kernel
theorem dX2_copyFrom_54 : decode cX2_copyFrom 54 = .ok (.aload_n 0, 1) := by decide +kernel
theorem dX2_copyFrom_55 : decode cX2_copyFrom 55 = .ok (.aload_n 1, 1) := by decide +kernel
theorem dX2_copyFrom_56 : decode cX2_copyFrom 56 = .ok (.getfield 31, 3) := by decide +kernel
theorem dX2_copyFrom_59 : decode cX2_copyFrom 59 = .ok (.putfield 31, 3) := by decide +kernel
theorem dX2_copyFrom_62 : decode cX2_copyFrom 62 = .ok (.return_, 1) := by decide +kernel
theorem dX2_hasRoom_0 : decode cX2_hasRoom 0 = .ok (.iload_n 1, 1) := by decide +kernel
theorem dX2_hasRoom_1 : decode cX2_hasRoom 1 = .ok (.ifCond .lt 15, 3) := by decide +kernel
theorem dX2_hasRoom_4 : decode cX2_hasRoom 4 = .ok (.iload_n 1, 1) := by decide +kernel
theorem dX2_hasRoom_5 : decode cX2_hasRoom 5 = .ok (.aload_n 0, 1) := by decide +kernel
theorem dX2_hasRoom_6 : decode cX2_hasRoom 6 = .ok (.getfield 21, 3) := by decide +kernel
theorem dX2_hasRoom_9 : decode cX2_hasRoom 9 = .ok (.if_icmp .ge 7, 3) := by decide +kernel
theorem dX2_hasRoom_12 : decode cX2_hasRoom 12 = .ok (.iconst 1, 1) := by decide +kernel
theorem dX2_hasRoom_13 : decode cX2_hasRoom 13 = .ok (.goto 4, 3) := by decide +kernel
theorem dX2_hasRoom_16 : decode cX2_hasRoom 16 = .ok (.iconst 0, 1) := by decide +kernel
theorem dX2_hasRoom_17 : decode cX2_hasRoom 17 = .ok (.ireturn, 1) := by decide +kernel
theorem dX2_hasDoor_0 : decode cX2_hasDoor 0 = .ok (.iload_n 1, 1) := by decide +kernel
theorem dX2_hasDoor_1 : decode cX2_hasDoor 1 = .ok (.ifCond .lt 15, 3) := by decide +kernel
theorem dX2_hasDoor_4 : decode cX2_hasDoor 4 = .ok (.iload_n 1, 1) := by decide +kernel
theorem dX2_hasDoor_5 : decode cX2_hasDoor 5 = .ok (.aload_n 0, 1) := by decide +kernel
theorem dX2_hasDoor_6 : decode cX2_hasDoor 6 = .ok (.getfield 25, 3) := by decide +kernel
theorem dX2_hasDoor_9 : decode cX2_hasDoor 9 = .ok (.if_icmp .ge 7, 3) := by decide +kernel
theorem dX2_hasDoor_12 : decode cX2_hasDoor 12 = .ok (.iconst 1, 1) := by decide +kernel
theorem dX2_hasDoor_13 : decode cX2_hasDoor 13 = .ok (.goto 4, 3) := by decide +kernel
theorem dX2_hasDoor_16 : decode cX2_hasDoor 16 = .ok (.iconst 0, 1) := by decide +kernel
theorem dX2_hasDoor_17 : decode cX2_hasDoor 17 = .ok (.ireturn, 1) := by decide +kernel
set_option maxRecDepth 20000 in
theorem ggX2_hasDoorsOf_X7_firstDoorOf : GoodIn wsX2_hasDoorsOf wsX7_firstDoorOf := goodIn_r _ [3] (by decide +kernel) (by decide +kernel)
set_option maxRecDepth 20000 in
theorem gX2_hasDoorsOf_X7_firstDoorOf_n40 : GoodIn wsX2_hasDoorsOf (wsX7_firstDoorOf) := ggX2_hasDoorsOf_X7_firstDoorOf
set_option maxRecDepth 20000 in
theorem ggX2_hasDoorsOf_X2_hasDoor : GoodIn wsX2_hasDoorsOf wsX2_hasDoor := goodIn_r _ [8, 9, 12, 13, 14, 15, 16, 17] (by decide +kernel) (by decide +kernel)
set_option maxRecDepth 20000 in
theorem gX2_hasDoorsOf_X2_hasDoor : GoodIn wsX2_hasDoorsOf (wsV RX2 44 RX2 yX2_hasDoor wsX2_hasDoor) := goodIn_app (goodIn_of _ (by decide +kernel)) ggX2_hasDoorsOf_X2_hasDoor
set_option maxRecDepth 20000 in
theorem ggX2_hasDoorsOf_X7_secondPartOf : GoodIn wsX2_hasDoorsOf wsX7_secondPartOf := goodIn_r _ [11] (by decide +kernel) (by decide +kernel)
set_option maxRecDepth 20000 in
theorem gX2_hasDoorsOf_X7_secondPartOf_n48 : GoodIn wsX2_hasDoorsOf (wsX7_secondPartOf) := ggX2_hasDoorsOf_X7_secondPartOf
theorem dX2_hasDoorsOf_0 : decode cX2_hasDoorsOf 0 = .ok (.aload_n 0, 1) := by decide +kernel
theorem dX2_hasDoorsOf_1 : decode cX2_hasDoorsOf 1 = .ok (.iload_n 1, 1) := by decide +kernel
theorem dX2_hasDoorsOf_2 : decode cX2_hasDoorsOf 2 = .ok (.invokestatic 40, 3) := by decide +kernel
theorem dX2_hasDoorsOf_5 : decode cX2_hasDoorsOf 5 = .ok (.invokevirtual 44, 3) := by decide +kernel
theorem dX2_hasDoorsOf_8 : decode cX2_hasDoorsOf 8 = .ok (.ifCond .eq 24, 3) := by decide +kernel
theorem dX2_hasDoorsOf_11 : decode cX2_hasDoorsOf 11 = .ok (.iload_n 1, 1) := by decide +kernel
theorem dX2_hasDoorsOf_12 : decode cX2_hasDoorsOf 12 = .ok (.bipush 100, 2) := by decide +kernel
theorem dX2_hasDoorsOf_14 : decode cX2_hasDoorsOf 14 = .ok (.if_icmp .ge 14, 3) := by decide +kernel
theorem dX2_hasDoorsOf_17 : decode cX2_hasDoorsOf 17 = .ok (.aload_n 0, 1) := by decide +kernel
theorem dX2_hasDoorsOf_18 : decode cX2_hasDoorsOf 18 = .ok (.iload_n 1, 1) := by decide +kernel
theorem dX2_hasDoorsOf_19 : decode cX2_hasDoorsOf 19 = .ok (.invokestatic 48, 3) := by decide +kernel
theorem dX2_hasDoorsOf_22 : decode cX2_hasDoorsOf 22 = .ok (.invokevirtual 44, 3) := by decide +kernel
theorem dX2_hasDoorsOf_25 : decode cX2_hasDoorsOf 25 = .ok (.ifCond .eq 7, 3) := by decide +kernel
theorem dX2_hasDoorsOf_28 : decode cX2_hasDoorsOf 28 = .ok (.iconst 1, 1) := by decide +kernel
theorem dX2_hasDoorsOf_29 : decode cX2_hasDoorsOf 29 = .ok (.goto 4, 3) := by decide +kernel
theorem dX2_hasDoorsOf_32 : decode cX2_hasDoorsOf 32 = .ok (.iconst 0, 1) := by decide +kernel
theorem dX2_hasDoorsOf_33 : decode cX2_hasDoorsOf 33 = .ok (.ireturn, 1) := by decide +kernel
set_option maxRecDepth 20000 in
theorem ggX2_isLaw_X2_hasDoorsOf : GoodIn wsX2_isLaw wsX2_hasDoorsOf := goodIn_r _ [6, 7, 8, 9, 10, 11, 12, 5, 13, 14, 15, 16, 19, 20, 21, 22, 23, 24] (by decide +kernel) (by decide +kernel)
set_option maxRecDepth 20000 in
theorem gX2_isLaw_X2_hasDoorsOf : GoodIn wsX2_isLaw (wsV RX2 51 RX2 yX2_hasDoorsOf wsX2_hasDoorsOf) := goodIn_app (goodIn_of _ (by decide +kernel)) ggX2_isLaw_X2_hasDoorsOf
set_option maxRecDepth 20000 in
theorem ggX2_isLaw_X7_secondPartOf : GoodIn wsX2_isLaw wsX7_secondPartOf := goodIn_r _ [16] (by decide +kernel) (by decide +kernel)
set_option maxRecDepth 20000 in
theorem gX2_isLaw_X7_secondPartOf_n48 : GoodIn wsX2_isLaw (wsX7_secondPartOf) := ggX2_isLaw_X7_secondPartOf
set_option maxRecDepth 20000 in
theorem ggX2_isLaw_X7_isWithin : GoodIn wsX2_isLaw wsX7_isWithin := goodIn_r _ [18] (by decide +kernel) (by decide +kernel)
set_option maxRecDepth 20000 in
theorem gX2_isLaw_X7_isWithin_n54 : GoodIn wsX2_isLaw (wsX7_isWithin) := ggX2_isLaw_X7_isWithin
set_option maxRecDepth 20000 in
theorem ggX2_isLaw_X7_firstDoorOf : GoodIn wsX2_isLaw wsX7_firstDoorOf := goodIn_r _ [9] (by decide +kernel) (by decide +kernel)
set_option maxRecDepth 20000 in
theorem gX2_isLaw_X7_firstDoorOf_n40 : GoodIn wsX2_isLaw (wsX7_firstDoorOf) := ggX2_isLaw_X7_firstDoorOf
theorem dX2_isLaw_0 : decode cX2_isLaw 0 = .ok (.aload_n 0, 1) := by decide +kernel
theorem dX2_isLaw_1 : decode cX2_isLaw 1 = .ok (.iload_n 1, 1) := by decide +kernel
theorem dX2_isLaw_2 : decode cX2_isLaw 2 = .ok (.invokevirtual 51, 3) := by decide +kernel
theorem dX2_isLaw_5 : decode cX2_isLaw 5 = .ok (.ifCond .ne 5, 3) := by decide +kernel
theorem dX2_isLaw_8 : decode cX2_isLaw 8 = .ok (.iconst 0, 1) := by decide +kernel
theorem dX2_isLaw_9 : decode cX2_isLaw 9 = .ok (.ireturn, 1) := by decide +kernel
theorem dX2_isLaw_10 : decode cX2_isLaw 10 = .ok (.iload_n 1, 1) := by decide +kernel
theorem dX2_isLaw_11 : decode cX2_isLaw 11 = .ok (.sipush 200, 3) := by decide +kernel
theorem dX2_isLaw_14 : decode cX2_isLaw 14 = .ok (.if_icmp .lt 5, 3) := by decide +kernel
theorem dX2_isLaw_17 : decode cX2_isLaw 17 = .ok (.iconst 1, 1) := by decide +kernel
theorem dX2_isLaw_18 : decode cX2_isLaw 18 = .ok (.ireturn, 1) := by decide +kernel
theorem dX2_isLaw_19 : decode cX2_isLaw 19 = .ok (.iload_n 1, 1) := by decide +kernel
theorem dX2_isLaw_20 : decode cX2_isLaw 20 = .ok (.bipush 100, 2) := by decide +kernel
theorem dX2_isLaw_22 : decode cX2_isLaw 22 = .ok (.if_icmp .lt 18, 3) := by decide +kernel
theorem dX2_isLaw_25 : decode cX2_isLaw 25 = .ok (.iload_n 1, 1) := by decide +kernel
theorem dX2_isLaw_26 : decode cX2_isLaw 26 = .ok (.invokestatic 48, 3) := by decide +kernel
theorem dX2_isLaw_29 : decode cX2_isLaw 29 = .ok (.iconst 1, 1) := by decide +kernel
theorem dX2_isLaw_30 : decode cX2_isLaw 30 = .ok (.aload_n 0, 1) := by decide +kernel
theorem dX2_isLaw_31 : decode cX2_isLaw 31 = .ok (.getfield 21, 3) := by decide +kernel
theorem dX2_isLaw_34 : decode cX2_isLaw 34 = .ok (.iconst 1, 1) := by decide +kernel
theorem dX2_isLaw_35 : decode cX2_isLaw 35 = .ok (.isub, 1) := by decide +kernel
theorem dX2_isLaw_36 : decode cX2_isLaw 36 = .ok (.invokestatic 54, 3) := by decide +kernel
theorem dX2_isLaw_39 : decode cX2_isLaw 39 = .ok (.ireturn, 1) := by decide +kernel
theorem dX2_isLaw_40 : decode cX2_isLaw 40 = .ok (.iload_n 1, 1) := by decide +kernel
theorem dX2_isLaw_41 : decode cX2_isLaw 41 = .ok (.invokestatic 40, 3) := by decide +kernel
theorem dX2_isLaw_44 : decode cX2_isLaw 44 = .ok (.iload_n 1, 1) := by decide +kernel
theorem dX2_isLaw_45 : decode cX2_isLaw 45 = .ok (.invokestatic 48, 3) := by decide +kernel
theorem dX2_isLaw_48 : decode cX2_isLaw 48 = .ok (.if_icmp .ge 7, 3) := by decide +kernel
theorem dX2_isLaw_51 : decode cX2_isLaw 51 = .ok (.iconst 1, 1) := by decide +kernel
theorem dX2_isLaw_52 : decode cX2_isLaw 52 = .ok (.goto 4, 3) := by decide +kernel
theorem dX2_isLaw_55 : decode cX2_isLaw 55 = .ok (.iconst 0, 1) := by decide +kernel
theorem dX2_isLaw_56 : decode cX2_isLaw 56 = .ok (.ireturn, 1) := by decide +kernel
set_option maxRecDepth 20000 in
theorem ggX3_init_X2_init : GoodIn wsX3_init wsX2_init := goodIn_r _ [18, 19, 2, 3, 20, 21, 22, 23, 24, 25, 6, 26, 27, 28, 29, 30, 50, 51, 52, 53, 54, 55] (by decide +kernel) (by decide +kernel)
set_option maxRecDepth 20000 in
theorem gX3_init_X2_init : GoodIn wsX3_init (wsX2_init) := ggX3_init_X2_init
set_option maxRecDepth 20000 in
theorem ggX3_init_X6_init : GoodIn wsX3_init wsX6_init := goodIn_r _ [33, 34, 2, 3, 20, 35, 36, 37, 38, 39, 40, 10, 41, 42, 43, 44, 45, 46, 47, 48, 49, 68, 69, 70, 71, 72, 73, 74, 75, 76, 77, 78] (by decide +kernel) (by decide +kernel)
set_option maxRecDepth 20000 in
theorem gX3_init_X6_init : GoodIn wsX3_init (wsX6_init) := ggX3_init_X6_init
theorem dX3_init_0 : decode cX3_init 0 = .ok (.aload_n 0, 1) := by decide +kernel
theorem dX3_init_1 : decode cX3_init 1 = .ok (.invokespecial 3, 3) := by decide +kernel
theorem dX3_init_4 : decode cX3_init 4 = .ok (.aload_n 0, 1) := by decide +kernel
theorem dX3_init_5 : decode cX3_init 5 = .ok (.new 9, 3) := by decide +kernel
theorem dX3_init_8 : decode cX3_init 8 = .ok (.dup, 1) := by decide +kernel
theorem dX3_init_9 : decode cX3_init 9 = .ok (.invokespecial 11, 3) := by decide +kernel
theorem dX3_init_12 : decode cX3_init 12 = .ok (.putfield 12, 3) := by decide +kernel
theorem dX3_init_15 : decode cX3_init 15 = .ok (.aload_n 0, 1) := by decide +kernel
theorem dX3_init_16 : decode cX3_init 16 = .ok (.new 18, 3) := by decide +kernel
theorem dX3_init_19 : decode cX3_init 19 = .ok (.dup, 1) := by decide +kernel
theorem dX3_init_20 : decode cX3_init 20 = .ok (.aload_n 0, 1) := by decide +kernel
theorem dX3_init_21 : decode cX3_init 21 = .ok (.getfield 12, 3) := by decide +kernel
theorem dX3_init_24 : decode cX3_init 24 = .ok (.invokespecial 20, 3) := by decide +kernel
theorem dX3_init_27 : decode cX3_init 27 = .ok (.putfield 23, 3) := by decide +kernel
theorem dX3_init_30 : decode cX3_init 30 = .ok (.aload_n 0, 1) := by decide +kernel
theorem dX3_init_31 : decode cX3_init 31 = .ok (.iconst 0, 1) := by decide +kernel
theorem dX3_init_32 : decode cX3_init 32 = .ok (.putfield 27, 3) := by decide +kernel
theorem dX3_init_35 : decode cX3_init 35 = .ok (.aload_n 0, 1) := by decide +kernel
theorem dX3_init_36 : decode cX3_init 36 = .ok (.iconst 0, 1) := by decide +kernel
theorem dX3_init_37 : decode cX3_init 37 = .ok (.putfield 31, 3) := by decide +kernel
theorem dX3_init_40 : decode cX3_init 40 = .ok (.aload_n 0, 1) := by decide +kernel
theorem dX3_init_41 : decode cX3_init 41 = .ok (.sipush 320, 3) := by decide +kernel
theorem dX3_init_44 : decode cX3_init 44 = .ok (.newarray .byte, 2) := by decide +kernel
theorem dX3_init_46 : decode cX3_init 46 = .ok (.putfield 34, 3) := by decide +kernel
theorem dX3_init_49 : decode cX3_init 49 = .ok (.return_, 1) := by decide +kernel
theorem dX3_append_0 : decode cX3_append 0 = .ok (.aload_n 0, 1) := by decide +kernel
theorem dX3_append_1 : decode cX3_append 1 = .ok (.getfield 27, 3) := by decide +kernel
theorem dX3_append_4 : decode cX3_append 4 = .ok (.bipush 8, 2) := by decide +kernel
theorem dX3_append_6 : decode cX3_append 6 = .ok (.iadd, 1) := by decide +kernel
theorem dX3_append_7 : decode cX3_append 7 = .ok (.sipush 320, 3) := by decide +kernel
theorem dX3_append_10 : decode cX3_append 10 = .ok (.if_icmp .le 5, 3) := by decide +kernel
theorem dX3_append_13 : decode cX3_append 13 = .ok (.iconst 0, 1) := by decide +kernel
theorem dX3_append_14 : decode cX3_append 14 = .ok (.ireturn, 1) := by decide +kernel
theorem dX3_append_15 : decode cX3_append 15 = .ok (.bipush 56, 2) := by decide +kernel
theorem dX3_append_17 : decode cX3_append 17 = .ok (.istore_n 3, 1) := by decide +kernel
theorem dX3_append_18 : decode cX3_append 18 = .ok (.iload_n 3, 1) := by decide +kernel
theorem dX3_append_19 : decode cX3_append 19 = .ok (.ifCond .lt 33, 3) := by decide +kernel
theorem dX3_append_22 : decode cX3_append 22 = .ok (.aload_n 0, 1) := by decide +kernel
theorem dX3_append_23 : decode cX3_append 23 = .ok (.getfield 34, 3) := by decide +kernel
theorem dX3_append_26 : decode cX3_append 26 = .ok (.aload_n 0, 1) := by decide +kernel
theorem dX3_append_27 : decode cX3_append 27 = .ok (.getfield 27, 3) := by decide +kernel
theorem dX3_append_30 : decode cX3_append 30 = .ok (.lload_n 1, 1) := by decide +kernel
theorem dX3_append_31 : decode cX3_append 31 = .ok (.iload_n 3, 1) := by decide +kernel
theorem dX3_append_32 : decode cX3_append 32 = .ok (.lushr, 1) := by decide +kernel
theorem dX3_append_33 : decode cX3_append 33 = .ok (.l2i, 1) := by decide +kernel
theorem dX3_append_34 : decode cX3_append 34 = .ok (.i2b, 1) := by decide +kernel
theorem dX3_append_35 : decode cX3_append 35 = .ok (.bastore, 1) := by decide +kernel
theorem dX3_append_36 : decode cX3_append 36 = .ok (.aload_n 0, 1) := by decide +kernel
theorem dX3_append_37 : decode cX3_append 37 = .ok (.dup, 1) := by decide +kernel
theorem dX3_append_38 : decode cX3_append 38 = .ok (.getfield 27, 3) := by decide +kernel
theorem dX3_append_41 : decode cX3_append 41 = .ok (.iconst 1, 1) := by decide +kernel
theorem dX3_append_42 : decode cX3_append 42 = .ok (.iadd, 1) := by decide +kernel
theorem dX3_append_43 : decode cX3_append 43 = .ok (.putfield 27, 3) := by decide +kernel
theorem dX3_append_46 : decode cX3_append 46 = .ok (.iinc 3 (-8), 3) := by decide +kernel
theorem dX3_append_49 : decode cX3_append 49 = .ok (.goto (-31), 3) := by decide +kernel
theorem dX3_append_52 : decode cX3_append 52 = .ok (.iconst 1, 1) := by decide +kernel
theorem dX3_append_53 : decode cX3_append 53 = .ok (.ireturn, 1) := by decide +kernel
set_option maxRecDepth 20000 in
theorem ggX3_readTape_X2_reset : GoodIn wsX3_readTape wsX2_reset := goodIn_r _ [13, 14, 15, 16, 17, 179, 180, 181, 182, 183, 184] (by decide +kernel) (by decide +kernel)
set_option maxRecDepth 20000 in
theorem gX3_readTape_X2_reset : GoodIn wsX3_readTape (wsV RX3 38 RX2 yX2_reset wsX2_reset) := goodIn_app (goodIn_of _ (by decide +kernel)) ggX3_readTape_X2_reset
set_option maxRecDepth 20000 in
theorem ggX3_readTape_X6_reset : GoodIn wsX3_readTape wsX6_reset := goodIn_r _ [22, 23, 24, 25, 26, 27, 28, 29, 30, 185, 186, 187, 188, 189, 190, 191, 192, 193, 194, 195] (by decide +kernel) (by decide +kernel)
set_option maxRecDepth 20000 in
theorem gX3_readTape_X6_reset : GoodIn wsX3_readTape (wsV RX3 41 RX6 yX6_reset wsX6_reset) := goodIn_app (goodIn_of _ (by decide +kernel)) ggX3_readTape_X6_reset
set_option maxRecDepth 20000 in
theorem ggX3_readTape_X3_nextToken : GoodIn wsX3_readTape wsX3_nextToken := goodIn_r _ [35, 3, 4, 8, 36, 37, 7, 38, 39, 40, 41, 42, 43, 44, 34, 45, 46, 47, 48, 49, 50, 167, 168, 169, 170, 171, 172, 173, 174, 175, 176, 177, 178] (by decide +kernel) (by decide +kernel)
set_option maxRecDepth 20000 in
theorem gX3_readTape_X3_nextToken : GoodIn wsX3_readTape (wsV RX3 51 RX3 yX3_nextToken wsX3_nextToken) := goodIn_app (goodIn_of _ (by decide +kernel)) ggX3_readTape_X3_nextToken
set_option maxRecDepth 20000 in
theorem ggX3_readTape_X3_readLine : GoodIn wsX3_readTape wsX3_readLine := goodIn_r _ [54, 1, 55, 2, 56, 57, 58, 37, 59, 60, 61, 34, 62, 3, 7, 4, 36, 63, 64, 65, 66, 67, 68, 69, 70, 71, 72, 73, 74, 75, 76, 77, 78, 79, 80, 81, 82, 83, 84, 85, 86, 87, 88, 89, 90, 91, 92, 93, 94, 95, 96, 97, 98, 99, 100, 101, 102, 103, 104, 105, 106, 107, 108, 109, 110, 111, 112, 113, 114, 115, 5, 46, 47, 48, 49, 50, 116, 117, 118, 119, 38, 31, 32, 33, 35, 8, 39, 40, 41, 42, 43, 44, 45, 120, 121, 122, 123, 124, 125, 126, 127, 128, 129, 130, 131, 132, 133, 134, 135, 136, 137, 138, 139, 140, 141, 142, 143, 144, 145, 146, 167, 168, 169, 170, 171, 172, 173, 174, 175, 176, 177, 178, 179, 180, 181, 182, 183, 184, 185, 186, 187, 188, 189, 190, 191, 192, 193, 194, 195] (by decide +kernel) (by decide +kernel)
set_option maxRecDepth 20000 in
theorem gX3_readTape_X3_readLine : GoodIn wsX3_readTape (wsV RX3 57 RX3 yX3_readLine wsX3_readLine) := goodIn_app (goodIn_of _ (by decide +kernel)) ggX3_readTape_X3_readLine
set_option maxRecDepth 20000 in
theorem ggX3_readTape_X3_checkWhole : GoodIn wsX3_readTape wsX3_checkWhole := goodIn_r _ [150, 1, 127, 128, 2, 129, 8, 134, 135, 57, 140, 151, 152, 153, 12, 154, 14, 46, 47, 48, 34, 49, 3, 50, 155, 156, 157, 158, 159, 121, 160, 161, 162, 163, 164, 15, 165, 166, 167, 168, 169, 170, 171, 172, 173, 174, 175, 176, 177, 178, 179, 180, 181, 182, 183, 184, 185, 186, 187, 188, 189, 190, 191, 192, 193, 194, 195] (by decide +kernel) (by decide +kernel)
set_option maxRecDepth 20000 in
theorem gX3_readTape_X3_checkWhole : GoodIn wsX3_readTape (wsV RX3 60 RX3 yX3_checkWhole wsX3_checkWhole) := goodIn_app (goodIn_of _ (by decide +kernel)) ggX3_readTape_X3_checkWhole
theorem dX3_readTape_0 : decode cX3_readTape 0 = .ok (.aload_n 0, 1) := by decide +kernel
theorem dX3_readTape_1 : decode cX3_readTape 1 = .ok (.getfield 12, 3) := by decide +kernel
theorem dX3_readTape_4 : decode cX3_readTape 4 = .ok (.invokevirtual 38, 3) := by decide +kernel
theorem dX3_readTape_7 : decode cX3_readTape 7 = .ok (.aload_n 0, 1) := by decide +kernel
theorem dX3_readTape_8 : decode cX3_readTape 8 = .ok (.getfield 23, 3) := by decide +kernel
theorem dX3_readTape_11 : decode cX3_readTape 11 = .ok (.invokevirtual 41, 3) := by decide +kernel
theorem dX3_readTape_14 : decode cX3_readTape 14 = .ok (.aload_n 0, 1) := by decide +kernel
theorem dX3_readTape_15 : decode cX3_readTape 15 = .ok (.iconst 0, 1) := by decide +kernel
theorem dX3_readTape_16 : decode cX3_readTape 16 = .ok (.putfield 31, 3) := by decide +kernel
theorem dX3_readTape_19 : decode cX3_readTape 19 = .ok (.aload_n 0, 1) := by decide +kernel
theorem dX3_readTape_20 : decode cX3_readTape 20 = .ok (.iconst 0, 1) := by decide +kernel
theorem dX3_readTape_21 : decode cX3_readTape 21 = .ok (.putfield 42, 3) := by decide +kernel
theorem dX3_readTape_24 : decode cX3_readTape 24 = .ok (.aload_n 0, 1) := by decide +kernel
theorem dX3_readTape_25 : decode cX3_readTape 25 = .ok (.iconst 0, 1) := by decide +kernel
theorem dX3_readTape_26 : decode cX3_readTape 26 = .ok (.putfield 45, 3) := by decide +kernel
theorem dX3_readTape_29 : decode cX3_readTape 29 = .ok (.aload_n 0, 1) := by decide +kernel
theorem dX3_readTape_30 : decode cX3_readTape 30 = .ok (.iconst 0, 1) := by decide +kernel
theorem dX3_readTape_31 : decode cX3_readTape 31 = .ok (.putfield 48, 3) := by decide +kernel
theorem dX3_readTape_34 : decode cX3_readTape 34 = .ok (.aload_n 0, 1) := by decide +kernel
theorem dX3_readTape_35 : decode cX3_readTape 35 = .ok (.invokevirtual 51, 3) := by decide +kernel
theorem dX3_readTape_38 : decode cX3_readTape 38 = .ok (.aload_n 0, 1) := by decide +kernel
theorem dX3_readTape_39 : decode cX3_readTape 39 = .ok (.getfield 31, 3) := by decide +kernel
theorem dX3_readTape_42 : decode cX3_readTape 42 = .ok (.ifCond .ne 41, 3) := by decide +kernel
theorem dX3_readTape_45 : decode cX3_readTape 45 = .ok (.aload_n 0, 1) := by decide +kernel
theorem dX3_readTape_46 : decode cX3_readTape 46 = .ok (.getfield 54, 3) := by decide +kernel
theorem dX3_readTape_49 : decode cX3_readTape 49 = .ok (.ifCond .eq 34, 3) := by decide +kernel
theorem dX3_readTape_52 : decode cX3_readTape 52 = .ok (.aload_n 0, 1) := by decide +kernel
theorem dX3_readTape_53 : decode cX3_readTape 53 = .ok (.getfield 48, 3) := by decide +kernel
theorem dX3_readTape_56 : decode cX3_readTape 56 = .ok (.sipush 320, 3) := by decide +kernel
theorem dX3_readTape_59 : decode cX3_readTape 59 = .ok (.if_icmp .ge 24, 3) := by decide +kernel
theorem dX3_readTape_62 : decode cX3_readTape 62 = .ok (.aload_n 0, 1) := by decide +kernel
theorem dX3_readTape_63 : decode cX3_readTape 63 = .ok (.invokevirtual 57, 3) := by decide +kernel
theorem dX3_readTape_66 : decode cX3_readTape 66 = .ok (.aload_n 0, 1) := by decide +kernel
