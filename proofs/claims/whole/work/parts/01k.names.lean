theorem dX8_laws_47 : decode cX8_laws 47 = .ok (.iload 5, 2) := by decide +kernel
theorem dX8_laws_49 : decode cX8_laws 49 = .ok (.goto 4, 3) := by decide +kernel
theorem dX8_laws_52 : decode cX8_laws 52 = .ok (.iload_n 3, 1) := by decide +kernel
theorem dX8_laws_53 : decode cX8_laws 53 = .ok (.istore_n 3, 1) := by decide +kernel
theorem dX8_laws_54 : decode cX8_laws 54 = .ok (.iload 5, 2) := by decide +kernel
theorem dX8_laws_56 : decode cX8_laws 56 = .ok (.istore 4, 2) := by decide +kernel
theorem dX8_laws_58 : decode cX8_laws 58 = .ok (.iinc 2 1, 3) := by decide +kernel
theorem dX8_laws_61 : decode cX8_laws 61 = .ok (.iinc 5 1, 3) := by decide +kernel
theorem dX8_laws_64 : decode cX8_laws 64 = .ok (.goto (-38), 3) := by decide +kernel
theorem dX8_laws_67 : decode cX8_laws 67 = .ok (.iload_n 1, 1) := by decide +kernel
theorem dX8_laws_68 : decode cX8_laws 68 = .ok (.ifCond .ne 7, 3) := by decide +kernel
theorem dX8_laws_71 : decode cX8_laws 71 = .ok (.iload_n 2, 1) := by decide +kernel
theorem dX8_laws_72 : decode cX8_laws 72 = .ok (.goto 14, 3) := by decide +kernel
theorem dX8_laws_75 : decode cX8_laws 75 = .ok (.iload_n 1, 1) := by decide +kernel
theorem dX8_laws_76 : decode cX8_laws 76 = .ok (.iconst 1, 1) := by decide +kernel
theorem dX8_laws_77 : decode cX8_laws 77 = .ok (.if_icmp .ne 7, 3) := by decide +kernel
theorem dX8_laws_80 : decode cX8_laws 80 = .ok (.iload_n 3, 1) := by decide +kernel
theorem dX8_laws_81 : decode cX8_laws 81 = .ok (.goto 5, 3) := by decide +kernel
theorem dX8_laws_84 : decode cX8_laws 84 = .ok (.iload 4, 2) := by decide +kernel
theorem dX8_laws_86 : decode cX8_laws 86 = .ok (.ireturn, 1) := by decide +kernel
set_option maxRecDepth 20000 in
theorem ggX8_sure_X8_in : GoodIn wsX8_sure wsX8_in := goodIn_r _ [6] (by decide +kernel) (by decide +kernel)
set_option maxRecDepth 20000 in
theorem gX8_sure_X8_in : GoodIn wsX8_sure (va_wsS RX8 72 yX8_in wsX8_in) := goodIn_app (goodIn_of _ (by decide +kernel)) ggX8_sure_X8_in
set_option maxRecDepth 20000 in
theorem ggX8_sure_X8_isDoor : GoodIn wsX8_sure wsX8_isDoor := goodIn_r _ [10, 11, 3, 4, 5, 6, 42, 43, 44, 45, 46, 47, 48, 49, 50, 51, 52, 53, 54, 55, 56, 57, 58, 59, 60, 61, 62, 63, 64, 65, 66, 67, 68, 69, 70, 71, 72, 73, 74, 75, 76, 77, 78, 79, 80] (by decide +kernel) (by decide +kernel)
set_option maxRecDepth 20000 in
theorem gX8_sure_X8_isDoor : GoodIn wsX8_sure (wsV RX8 190 RX8 yX8_isDoor wsX8_isDoor) := goodIn_app (goodIn_of _ (by decide +kernel)) ggX8_sure_X8_isDoor
set_option maxRecDepth 20000 in
theorem ggX8_sure_X8_isLawSo : GoodIn wsX8_sure wsX8_isLawSo := goodIn_r _ [15, 16, 17, 2, 18, 19, 20, 5, 21, 22, 7, 8, 9, 10, 11, 3, 4, 6, 23, 24, 25, 26, 27, 28, 29, 30, 31, 32, 33, 34, 35, 42, 43, 44, 45, 46, 47, 48, 49, 50, 51, 52, 53, 54, 55, 56, 57, 58, 59, 60, 61, 62, 63, 64, 65, 66, 67, 68, 69, 70, 71, 72, 73, 74, 75, 76, 77, 78, 79, 80] (by decide +kernel) (by decide +kernel)
set_option maxRecDepth 20000 in
theorem gX8_sure_X8_isLawSo : GoodIn wsX8_sure (wsV RX8 275 RX8 yX8_isLawSo wsX8_isLawSo) := goodIn_app (goodIn_of _ (by decide +kernel)) ggX8_sure_X8_isLawSo
set_option maxRecDepth 20000 in
theorem ggX8_sure_X8_dusksBy : GoodIn wsX8_sure wsX8_dusksBy := goodIn_r _ [26, 27, 28, 29, 5, 30, 2, 31, 32, 33, 34, 35, 22, 42, 43, 44, 45, 46, 47, 48, 49, 50, 51, 52, 53, 54, 55, 56, 57, 58, 59, 60, 61, 62, 63, 64, 65, 66, 67, 68, 69, 70, 71, 72, 73, 74, 75, 76, 77, 78, 79, 80] (by decide +kernel) (by decide +kernel)
set_option maxRecDepth 20000 in
theorem gX8_sure_X8_dusksBy : GoodIn wsX8_sure (wsV RX8 272 RX8 yX8_dusksBy wsX8_dusksBy) := goodIn_app (goodIn_of _ (by decide +kernel)) ggX8_sure_X8_dusksBy
set_option maxRecDepth 20000 in
theorem ggX8_sure_X8_bitsOf : GoodIn wsX8_sure wsX8_bitsOf := goodIn_r _ [38] (by decide +kernel) (by decide +kernel)
set_option maxRecDepth 20000 in
theorem gX8_sure_X8_bitsOf : GoodIn wsX8_sure (va_wsS RX8 208 yX8_bitsOf wsX8_bitsOf) := goodIn_app (goodIn_of _ (by decide +kernel)) ggX8_sure_X8_bitsOf
set_option maxRecDepth 20000 in
theorem ggX8_sure_X8_placeOf : GoodIn wsX8_sure wsX8_placeOf := goodIn_r _ [41] (by decide +kernel) (by decide +kernel)
set_option maxRecDepth 20000 in
theorem gX8_sure_X8_placeOf : GoodIn wsX8_sure (va_wsS RX8 211 yX8_placeOf wsX8_placeOf) := goodIn_app (goodIn_of _ (by decide +kernel)) ggX8_sure_X8_placeOf
theorem dX8_sure_0 : decode cX8_sure 0 = .ok (.iload_n 1, 1) := by decide +kernel
theorem dX8_sure_1 : decode cX8_sure 1 = .ok (.i2l, 1) := by decide +kernel
theorem dX8_sure_2 : decode cX8_sure 2 = .ok (.lconst 1, 1) := by decide +kernel
theorem dX8_sure_3 : decode cX8_sure 3 = .ok (.ldc2_w 222, 3) := by decide +kernel
theorem dX8_sure_6 : decode cX8_sure 6 = .ok (.invokestatic 72, 3) := by decide +kernel
theorem dX8_sure_9 : decode cX8_sure 9 = .ok (.ifCond .eq 11, 3) := by decide +kernel
theorem dX8_sure_12 : decode cX8_sure 12 = .ok (.aload_n 0, 1) := by decide +kernel
theorem dX8_sure_13 : decode cX8_sure 13 = .ok (.iload_n 2, 1) := by decide +kernel
theorem dX8_sure_14 : decode cX8_sure 14 = .ok (.invokevirtual 190, 3) := by decide +kernel
theorem dX8_sure_17 : decode cX8_sure 17 = .ok (.ifCond .ne 5, 3) := by decide +kernel
theorem dX8_sure_20 : decode cX8_sure 20 = .ok (.iconst (-1), 1) := by decide +kernel
theorem dX8_sure_21 : decode cX8_sure 21 = .ok (.ireturn, 1) := by decide +kernel
theorem dX8_sure_22 : decode cX8_sure 22 = .ok (.iconst 0, 1) := by decide +kernel
theorem dX8_sure_23 : decode cX8_sure 23 = .ok (.istore_n 3, 1) := by decide +kernel
theorem dX8_sure_24 : decode cX8_sure 24 = .ok (.iconst 0, 1) := by decide +kernel
theorem dX8_sure_25 : decode cX8_sure 25 = .ok (.istore 4, 2) := by decide +kernel
theorem dX8_sure_27 : decode cX8_sure 27 = .ok (.iload 4, 2) := by decide +kernel
theorem dX8_sure_29 : decode cX8_sure 29 = .ok (.sipush 210, 3) := by decide +kernel
theorem dX8_sure_32 : decode cX8_sure 32 = .ok (.if_icmp .ge 40, 3) := by decide +kernel
theorem dX8_sure_35 : decode cX8_sure 35 = .ok (.aload_n 0, 1) := by decide +kernel
theorem dX8_sure_36 : decode cX8_sure 36 = .ok (.iload 4, 2) := by decide +kernel
theorem dX8_sure_38 : decode cX8_sure 38 = .ok (.invokevirtual 275, 3) := by decide +kernel
theorem dX8_sure_41 : decode cX8_sure 41 = .ok (.ifCond .eq 25, 3) := by decide +kernel
theorem dX8_sure_44 : decode cX8_sure 44 = .ok (.aload_n 0, 1) := by decide +kernel
theorem dX8_sure_45 : decode cX8_sure 45 = .ok (.iload 4, 2) := by decide +kernel
theorem dX8_sure_47 : decode cX8_sure 47 = .ok (.iload_n 1, 1) := by decide +kernel
theorem dX8_sure_48 : decode cX8_sure 48 = .ok (.invokevirtual 272, 3) := by decide +kernel
theorem dX8_sure_51 : decode cX8_sure 51 = .ok (.iload_n 3, 1) := by decide +kernel
theorem dX8_sure_52 : decode cX8_sure 52 = .ok (.iconst 1, 1) := by decide +kernel
theorem dX8_sure_53 : decode cX8_sure 53 = .ok (.aload_n 0, 1) := by decide +kernel
theorem dX8_sure_54 : decode cX8_sure 54 = .ok (.getfield 38, 3) := by decide +kernel
theorem dX8_sure_57 : decode cX8_sure 57 = .ok (.iconst 3, 1) := by decide +kernel
theorem dX8_sure_58 : decode cX8_sure 58 = .ok (.iload_n 2, 1) := by decide +kernel
theorem dX8_sure_59 : decode cX8_sure 59 = .ok (.imul, 1) := by decide +kernel
theorem dX8_sure_60 : decode cX8_sure 60 = .ok (.iconst 1, 1) := by decide +kernel
theorem dX8_sure_61 : decode cX8_sure 61 = .ok (.iadd, 1) := by decide +kernel
theorem dX8_sure_62 : decode cX8_sure 62 = .ok (.iaload, 1) := by decide +kernel
theorem dX8_sure_63 : decode cX8_sure 63 = .ok (.ishl, 1) := by decide +kernel
theorem dX8_sure_64 : decode cX8_sure 64 = .ok (.ior, 1) := by decide +kernel
theorem dX8_sure_65 : decode cX8_sure 65 = .ok (.istore_n 3, 1) := by decide +kernel
theorem dX8_sure_66 : decode cX8_sure 66 = .ok (.iinc 4 1, 3) := by decide +kernel
theorem dX8_sure_69 : decode cX8_sure 69 = .ok (.goto (-42), 3) := by decide +kernel
theorem dX8_sure_72 : decode cX8_sure 72 = .ok (.iload_n 3, 1) := by decide +kernel
theorem dX8_sure_73 : decode cX8_sure 73 = .ok (.invokestatic 208, 3) := by decide +kernel
theorem dX8_sure_76 : decode cX8_sure 76 = .ok (.iconst 1, 1) := by decide +kernel
theorem dX8_sure_77 : decode cX8_sure 77 = .ok (.if_icmp .ne 11, 3) := by decide +kernel
theorem dX8_sure_80 : decode cX8_sure 80 = .ok (.iload_n 3, 1) := by decide +kernel
theorem dX8_sure_81 : decode cX8_sure 81 = .ok (.iconst 0, 1) := by decide +kernel
theorem dX8_sure_82 : decode cX8_sure 82 = .ok (.invokestatic 211, 3) := by decide +kernel
theorem dX8_sure_85 : decode cX8_sure 85 = .ok (.goto 5, 3) := by decide +kernel
theorem dX8_sure_88 : decode cX8_sure 88 = .ok (.bipush (-4), 2) := by decide +kernel
theorem dX8_sure_90 : decode cX8_sure 90 = .ok (.ireturn, 1) := by decide +kernel
set_option maxRecDepth 20000 in
theorem ggX8_hear_X8_in : GoodIn wsX8_hear wsX8_in := goodIn_r _ [7] (by decide +kernel) (by decide +kernel)
set_option maxRecDepth 20000 in
theorem gX8_hear_X8_in : GoodIn wsX8_hear (va_wsS RX8 72 yX8_in wsX8_in) := goodIn_app (goodIn_of _ (by decide +kernel)) ggX8_hear_X8_in
set_option maxRecDepth 20000 in
theorem ggX8_hear_X8_isRoom : GoodIn wsX8_hear wsX8_isRoom := goodIn_r _ [11, 12, 4, 5, 6, 7, 13, 14, 15, 16, 17, 18, 19, 20, 21, 22, 23, 24, 25, 26, 27, 28, 29, 30, 31, 32, 33, 34, 35, 36, 37, 38, 39, 40, 41, 42, 43, 44, 45, 46, 47, 48, 49, 50, 51] (by decide +kernel) (by decide +kernel)
set_option maxRecDepth 20000 in
theorem gX8_hear_X8_isRoom : GoodIn wsX8_hear (wsV RX8 215 RX8 yX8_isRoom wsX8_isRoom) := goodIn_app (goodIn_of _ (by decide +kernel)) ggX8_hear_X8_isRoom
theorem dX8_hear_0 : decode cX8_hear 0 = .ok (.iload_n 1, 1) := by decide +kernel
theorem dX8_hear_1 : decode cX8_hear 1 = .ok (.i2l, 1) := by decide +kernel
theorem dX8_hear_2 : decode cX8_hear 2 = .ok (.lconst 1, 1) := by decide +kernel
theorem dX8_hear_3 : decode cX8_hear 3 = .ok (.ldc2_w 278, 3) := by decide +kernel
theorem dX8_hear_6 : decode cX8_hear 6 = .ok (.invokestatic 72, 3) := by decide +kernel
theorem dX8_hear_9 : decode cX8_hear 9 = .ok (.ifCond .eq 11, 3) := by decide +kernel
theorem dX8_hear_12 : decode cX8_hear 12 = .ok (.aload_n 0, 1) := by decide +kernel
theorem dX8_hear_13 : decode cX8_hear 13 = .ok (.iload_n 2, 1) := by decide +kernel
theorem dX8_hear_14 : decode cX8_hear 14 = .ok (.invokevirtual 215, 3) := by decide +kernel
theorem dX8_hear_17 : decode cX8_hear 17 = .ok (.ifCond .ne 5, 3) := by decide +kernel
theorem dX8_hear_20 : decode cX8_hear 20 = .ok (.iconst (-1), 1) := by decide +kernel
theorem dX8_hear_21 : decode cX8_hear 21 = .ok (.ireturn, 1) := by decide +kernel
theorem dX8_hear_22 : decode cX8_hear 22 = .ok (.aload_n 0, 1) := by decide +kernel
theorem dX8_hear_23 : decode cX8_hear 23 = .ok (.getfield 184, 3) := by decide +kernel
theorem dX8_hear_26 : decode cX8_hear 26 = .ok (.bipush 6, 2) := by decide +kernel
theorem dX8_hear_28 : decode cX8_hear 28 = .ok (.if_icmp .ne 6, 3) := by decide +kernel
theorem dX8_hear_31 : decode cX8_hear 31 = .ok (.bipush (-3), 2) := by decide +kernel
theorem dX8_hear_33 : decode cX8_hear 33 = .ok (.ireturn, 1) := by decide +kernel
theorem dX8_hear_34 : decode cX8_hear 34 = .ok (.aload_n 0, 1) := by decide +kernel
theorem dX8_hear_35 : decode cX8_hear 35 = .ok (.getfield 53, 3) := by decide +kernel
theorem dX8_hear_38 : decode cX8_hear 38 = .ok (.iconst 3, 1) := by decide +kernel
theorem dX8_hear_39 : decode cX8_hear 39 = .ok (.aload_n 0, 1) := by decide +kernel
theorem dX8_hear_40 : decode cX8_hear 40 = .ok (.getfield 184, 3) := by decide +kernel
theorem dX8_hear_43 : decode cX8_hear 43 = .ok (.imul, 1) := by decide +kernel
theorem dX8_hear_44 : decode cX8_hear 44 = .ok (.iload_n 1, 1) := by decide +kernel
theorem dX8_hear_45 : decode cX8_hear 45 = .ok (.iastore, 1) := by decide +kernel
theorem dX8_hear_46 : decode cX8_hear 46 = .ok (.aload_n 0, 1) := by decide +kernel
theorem dX8_hear_47 : decode cX8_hear 47 = .ok (.getfield 53, 3) := by decide +kernel
theorem dX8_hear_50 : decode cX8_hear 50 = .ok (.iconst 3, 1) := by decide +kernel
theorem dX8_hear_51 : decode cX8_hear 51 = .ok (.aload_n 0, 1) := by decide +kernel
theorem dX8_hear_52 : decode cX8_hear 52 = .ok (.getfield 184, 3) := by decide +kernel
theorem dX8_hear_55 : decode cX8_hear 55 = .ok (.imul, 1) := by decide +kernel
theorem dX8_hear_56 : decode cX8_hear 56 = .ok (.iconst 1, 1) := by decide +kernel
theorem dX8_hear_57 : decode cX8_hear 57 = .ok (.iadd, 1) := by decide +kernel
theorem dX8_hear_58 : decode cX8_hear 58 = .ok (.iload_n 2, 1) := by decide +kernel
theorem dX8_hear_59 : decode cX8_hear 59 = .ok (.iastore, 1) := by decide +kernel
theorem dX8_hear_60 : decode cX8_hear 60 = .ok (.aload_n 0, 1) := by decide +kernel
theorem dX8_hear_61 : decode cX8_hear 61 = .ok (.getfield 53, 3) := by decide +kernel
theorem dX8_hear_64 : decode cX8_hear 64 = .ok (.iconst 3, 1) := by decide +kernel
theorem dX8_hear_65 : decode cX8_hear 65 = .ok (.aload_n 0, 1) := by decide +kernel
theorem dX8_hear_66 : decode cX8_hear 66 = .ok (.getfield 184, 3) := by decide +kernel
theorem dX8_hear_69 : decode cX8_hear 69 = .ok (.imul, 1) := by decide +kernel
theorem dX8_hear_70 : decode cX8_hear 70 = .ok (.iconst 2, 1) := by decide +kernel
theorem dX8_hear_71 : decode cX8_hear 71 = .ok (.iadd, 1) := by decide +kernel
theorem dX8_hear_72 : decode cX8_hear 72 = .ok (.iload_n 3, 1) := by decide +kernel
theorem dX8_hear_73 : decode cX8_hear 73 = .ok (.ifCond .eq 7, 3) := by decide +kernel
theorem dX8_hear_76 : decode cX8_hear 76 = .ok (.iconst 1, 1) := by decide +kernel
theorem dX8_hear_77 : decode cX8_hear 77 = .ok (.goto 4, 3) := by decide +kernel
theorem dX8_hear_80 : decode cX8_hear 80 = .ok (.iconst 0, 1) := by decide +kernel
theorem dX8_hear_81 : decode cX8_hear 81 = .ok (.iastore, 1) := by decide +kernel
theorem dX8_hear_82 : decode cX8_hear 82 = .ok (.aload_n 0, 1) := by decide +kernel
theorem dX8_hear_83 : decode cX8_hear 83 = .ok (.dup, 1) := by decide +kernel
theorem dX8_hear_84 : decode cX8_hear 84 = .ok (.getfield 184, 3) := by decide +kernel
theorem dX8_hear_87 : decode cX8_hear 87 = .ok (.iconst 1, 1) := by decide +kernel
theorem dX8_hear_88 : decode cX8_hear 88 = .ok (.iadd, 1) := by decide +kernel
theorem dX8_hear_89 : decode cX8_hear 89 = .ok (.putfield 184, 3) := by decide +kernel
theorem dX8_hear_92 : decode cX8_hear 92 = .ok (.aload_n 0, 1) := by decide +kernel
theorem dX8_hear_93 : decode cX8_hear 93 = .ok (.getfield 184, 3) := by decide +kernel
theorem dX8_hear_96 : decode cX8_hear 96 = .ok (.ireturn, 1) := by decide +kernel
set_option maxRecDepth 20000 in
theorem ggX8_hush_X8_in : GoodIn wsX8_hush wsX8_in := goodIn_r _ [5] (by decide +kernel) (by decide +kernel)
set_option maxRecDepth 20000 in
theorem gX8_hush_X8_in : GoodIn wsX8_hush (va_wsS RX8 72 yX8_in wsX8_in) := goodIn_app (goodIn_of _ (by decide +kernel)) ggX8_hush_X8_in
theorem dX8_hush_0 : decode cX8_hush 0 = .ok (.iload_n 1, 1) := by decide +kernel
theorem dX8_hush_1 : decode cX8_hush 1 = .ok (.i2l, 1) := by decide +kernel
theorem dX8_hush_2 : decode cX8_hush 2 = .ok (.lconst 0, 1) := by decide +kernel
theorem dX8_hush_3 : decode cX8_hush 3 = .ok (.aload_n 0, 1) := by decide +kernel
theorem dX8_hush_4 : decode cX8_hush 4 = .ok (.getfield 184, 3) := by decide +kernel
theorem dX8_hush_7 : decode cX8_hush 7 = .ok (.i2l, 1) := by decide +kernel
theorem dX8_hush_8 : decode cX8_hush 8 = .ok (.invokestatic 72, 3) := by decide +kernel
theorem dX8_hush_11 : decode cX8_hush 11 = .ok (.ifCond .ne 5, 3) := by decide +kernel
theorem dX8_hush_14 : decode cX8_hush 14 = .ok (.iconst (-1), 1) := by decide +kernel
theorem dX8_hush_15 : decode cX8_hush 15 = .ok (.ireturn, 1) := by decide +kernel
theorem dX8_hush_16 : decode cX8_hush 16 = .ok (.aload_n 0, 1) := by decide +kernel
theorem dX8_hush_17 : decode cX8_hush 17 = .ok (.getfield 184, 3) := by decide +kernel
theorem dX8_hush_20 : decode cX8_hush 20 = .ok (.istore_n 2, 1) := by decide +kernel
theorem dX8_hush_21 : decode cX8_hush 21 = .ok (.aload_n 0, 1) := by decide +kernel
theorem dX8_hush_22 : decode cX8_hush 22 = .ok (.iload_n 1, 1) := by decide +kernel
theorem dX8_hush_23 : decode cX8_hush 23 = .ok (.putfield 184, 3) := by decide +kernel
theorem dX8_hush_26 : decode cX8_hush 26 = .ok (.iload_n 2, 1) := by decide +kernel
theorem dX8_hush_27 : decode cX8_hush 27 = .ok (.ireturn, 1) := by decide +kernel
set_option maxRecDepth 20000 in
theorem ggX8_mayLurk_X8_goesTo : GoodIn wsX8_mayLurk wsX8_goesTo := goodIn_r _ [9, 10, 11, 12, 13, 8, 14, 15, 16, 17, 18, 19, 20, 21, 22, 23, 24, 25, 26, 27, 28, 29, 30, 31, 32, 33, 34, 35, 36, 37, 38, 39, 40, 41, 42, 43, 44, 45, 46, 47, 48, 49, 50, 51, 52, 53, 54, 55, 56, 57, 58, 59, 60, 61, 62, 63] (by decide +kernel) (by decide +kernel)
set_option maxRecDepth 20000 in
theorem gX8_mayLurk_X8_goesTo : GoodIn wsX8_mayLurk (wsV RX8 227 RX8 yX8_goesTo wsX8_goesTo) := goodIn_app (goodIn_of _ (by decide +kernel)) ggX8_mayLurk_X8_goesTo
theorem dX8_mayLurk_0 : decode cX8_mayLurk 0 = .ok (.aload_n 0, 1) := by decide +kernel
theorem dX8_mayLurk_1 : decode cX8_mayLurk 1 = .ok (.getfield 7, 3) := by decide +kernel
theorem dX8_mayLurk_4 : decode cX8_mayLurk 4 = .ok (.bipush 31, 2) := by decide +kernel
theorem dX8_mayLurk_6 : decode cX8_mayLurk 6 = .ok (.iaload, 1) := by decide +kernel
theorem dX8_mayLurk_7 : decode cX8_mayLurk 7 = .ok (.istore_n 3, 1) := by decide +kernel
theorem dX8_mayLurk_8 : decode cX8_mayLurk 8 = .ok (.iload_n 1, 1) := by decide +kernel
theorem dX8_mayLurk_9 : decode cX8_mayLurk 9 = .ok (.istore 4, 2) := by decide +kernel
theorem dX8_mayLurk_11 : decode cX8_mayLurk 11 = .ok (.iload_n 1, 1) := by decide +kernel
theorem dX8_mayLurk_12 : decode cX8_mayLurk 12 = .ok (.iload_n 3, 1) := by decide +kernel
theorem dX8_mayLurk_13 : decode cX8_mayLurk 13 = .ok (.if_icmp .eq 7, 3) := by decide +kernel
theorem dX8_mayLurk_16 : decode cX8_mayLurk 16 = .ok (.iconst 1, 1) := by decide +kernel
theorem dX8_mayLurk_17 : decode cX8_mayLurk 17 = .ok (.goto 4, 3) := by decide +kernel
theorem dX8_mayLurk_20 : decode cX8_mayLurk 20 = .ok (.iconst 0, 1) := by decide +kernel
theorem dX8_mayLurk_21 : decode cX8_mayLurk 21 = .ok (.istore 5, 2) := by decide +kernel
theorem dX8_mayLurk_23 : decode cX8_mayLurk 23 = .ok (.iconst 0, 1) := by decide +kernel
theorem dX8_mayLurk_24 : decode cX8_mayLurk 24 = .ok (.istore 6, 2) := by decide +kernel
theorem dX8_mayLurk_26 : decode cX8_mayLurk 26 = .ok (.iload 6, 2) := by decide +kernel
theorem dX8_mayLurk_28 : decode cX8_mayLurk 28 = .ok (.bipush 12, 2) := by decide +kernel
theorem dX8_mayLurk_30 : decode cX8_mayLurk 30 = .ok (.if_icmp .ge 132, 3) := by decide +kernel
theorem dX8_mayLurk_33 : decode cX8_mayLurk 33 = .ok (.aload_n 0, 1) := by decide +kernel
theorem dX8_mayLurk_34 : decode cX8_mayLurk 34 = .ok (.aload_n 0, 1) := by decide +kernel
theorem dX8_mayLurk_35 : decode cX8_mayLurk 35 = .ok (.getfield 41, 3) := by decide +kernel
theorem dX8_mayLurk_38 : decode cX8_mayLurk 38 = .ok (.bipush 30, 2) := by decide +kernel
theorem dX8_mayLurk_40 : decode cX8_mayLurk 40 = .ok (.iload 6, 2) := by decide +kernel
theorem dX8_mayLurk_42 : decode cX8_mayLurk 42 = .ok (.imul, 1) := by decide +kernel
theorem dX8_mayLurk_43 : decode cX8_mayLurk 43 = .ok (.iload 4, 2) := by decide +kernel
theorem dX8_mayLurk_45 : decode cX8_mayLurk 45 = .ok (.iload_n 3, 1) := by decide +kernel
theorem dX8_mayLurk_46 : decode cX8_mayLurk 46 = .ok (.iload_n 2, 1) := by decide +kernel
theorem dX8_mayLurk_47 : decode cX8_mayLurk 47 = .ok (.aload_n 0, 1) := by decide +kernel
theorem dX8_mayLurk_48 : decode cX8_mayLurk 48 = .ok (.getfield 7, 3) := by decide +kernel
theorem dX8_mayLurk_51 : decode cX8_mayLurk 51 = .ok (.bipush 47, 2) := by decide +kernel
theorem dX8_mayLurk_53 : decode cX8_mayLurk 53 = .ok (.iaload, 1) := by decide +kernel
theorem dX8_mayLurk_54 : decode cX8_mayLurk 54 = .ok (.iload 6, 2) := by decide +kernel
theorem dX8_mayLurk_56 : decode cX8_mayLurk 56 = .ok (.iadd, 1) := by decide +kernel
theorem dX8_mayLurk_57 : decode cX8_mayLurk 57 = .ok (.invokevirtual 227, 3) := by decide +kernel
theorem dX8_mayLurk_60 : decode cX8_mayLurk 60 = .ok (.istore 4, 2) := by decide +kernel
theorem dX8_mayLurk_62 : decode cX8_mayLurk 62 = .ok (.iconst 0, 1) := by decide +kernel
theorem dX8_mayLurk_63 : decode cX8_mayLurk 63 = .ok (.istore 7, 2) := by decide +kernel
theorem dX8_mayLurk_65 : decode cX8_mayLurk 65 = .ok (.iload 7, 2) := by decide +kernel
theorem dX8_mayLurk_67 : decode cX8_mayLurk 67 = .ok (.aload_n 0, 1) := by decide +kernel
theorem dX8_mayLurk_68 : decode cX8_mayLurk 68 = .ok (.getfield 184, 3) := by decide +kernel
theorem dX8_mayLurk_71 : decode cX8_mayLurk 71 = .ok (.if_icmp .ge 85, 3) := by decide +kernel
theorem dX8_mayLurk_74 : decode cX8_mayLurk 74 = .ok (.iload 4, 2) := by decide +kernel
theorem dX8_mayLurk_76 : decode cX8_mayLurk 76 = .ok (.aload_n 0, 1) := by decide +kernel
theorem dX8_mayLurk_77 : decode cX8_mayLurk 77 = .ok (.getfield 53, 3) := by decide +kernel
theorem dX8_mayLurk_80 : decode cX8_mayLurk 80 = .ok (.iconst 3, 1) := by decide +kernel
theorem dX8_mayLurk_81 : decode cX8_mayLurk 81 = .ok (.iload 7, 2) := by decide +kernel
theorem dX8_mayLurk_83 : decode cX8_mayLurk 83 = .ok (.imul, 1) := by decide +kernel
theorem dX8_mayLurk_84 : decode cX8_mayLurk 84 = .ok (.iconst 1, 1) := by decide +kernel
theorem dX8_mayLurk_85 : decode cX8_mayLurk 85 = .ok (.iadd, 1) := by decide +kernel
theorem dX8_mayLurk_86 : decode cX8_mayLurk 86 = .ok (.iaload, 1) := by decide +kernel
theorem dX8_mayLurk_87 : decode cX8_mayLurk 87 = .ok (.if_icmp .ne 7, 3) := by decide +kernel
theorem dX8_mayLurk_90 : decode cX8_mayLurk 90 = .ok (.iconst 1, 1) := by decide +kernel
theorem dX8_mayLurk_91 : decode cX8_mayLurk 91 = .ok (.goto 4, 3) := by decide +kernel
theorem dX8_mayLurk_94 : decode cX8_mayLurk 94 = .ok (.iconst 0, 1) := by decide +kernel
theorem dX8_mayLurk_95 : decode cX8_mayLurk 95 = .ok (.istore 8, 2) := by decide +kernel
theorem dX8_mayLurk_97 : decode cX8_mayLurk 97 = .ok (.iload 5, 2) := by decide +kernel
theorem dX8_mayLurk_99 : decode cX8_mayLurk 99 = .ok (.ifCond .eq 48, 3) := by decide +kernel
theorem dX8_mayLurk_102 : decode cX8_mayLurk 102 = .ok (.aload_n 0, 1) := by decide +kernel
theorem dX8_mayLurk_103 : decode cX8_mayLurk 103 = .ok (.getfield 53, 3) := by decide +kernel
theorem dX8_mayLurk_106 : decode cX8_mayLurk 106 = .ok (.iconst 3, 1) := by decide +kernel
theorem dX8_mayLurk_107 : decode cX8_mayLurk 107 = .ok (.iload 7, 2) := by decide +kernel
theorem dX8_mayLurk_109 : decode cX8_mayLurk 109 = .ok (.imul, 1) := by decide +kernel
theorem dX8_mayLurk_110 : decode cX8_mayLurk 110 = .ok (.iaload, 1) := by decide +kernel
theorem dX8_mayLurk_111 : decode cX8_mayLurk 111 = .ok (.iload 6, 2) := by decide +kernel
theorem dX8_mayLurk_113 : decode cX8_mayLurk 113 = .ok (.iconst 1, 1) := by decide +kernel
theorem dX8_mayLurk_114 : decode cX8_mayLurk 114 = .ok (.iadd, 1) := by decide +kernel
theorem dX8_mayLurk_115 : decode cX8_mayLurk 115 = .ok (.if_icmp .ne 28, 3) := by decide +kernel
theorem dX8_mayLurk_118 : decode cX8_mayLurk 118 = .ok (.iload 8, 2) := by decide +kernel
theorem dX8_mayLurk_120 : decode cX8_mayLurk 120 = .ok (.aload_n 0, 1) := by decide +kernel
theorem dX8_mayLurk_121 : decode cX8_mayLurk 121 = .ok (.getfield 53, 3) := by decide +kernel
theorem dX8_mayLurk_124 : decode cX8_mayLurk 124 = .ok (.iconst 3, 1) := by decide +kernel
theorem dX8_mayLurk_125 : decode cX8_mayLurk 125 = .ok (.iload 7, 2) := by decide +kernel
theorem dX8_mayLurk_127 : decode cX8_mayLurk 127 = .ok (.imul, 1) := by decide +kernel
theorem dX8_mayLurk_128 : decode cX8_mayLurk 128 = .ok (.iconst 2, 1) := by decide +kernel
theorem dX8_mayLurk_129 : decode cX8_mayLurk 129 = .ok (.iadd, 1) := by decide +kernel
theorem dX8_mayLurk_130 : decode cX8_mayLurk 130 = .ok (.iaload, 1) := by decide +kernel
theorem dX8_mayLurk_131 : decode cX8_mayLurk 131 = .ok (.iconst 1, 1) := by decide +kernel
theorem dX8_mayLurk_132 : decode cX8_mayLurk 132 = .ok (.if_icmp .ne 7, 3) := by decide +kernel
theorem dX8_mayLurk_135 : decode cX8_mayLurk 135 = .ok (.iconst 1, 1) := by decide +kernel
theorem dX8_mayLurk_136 : decode cX8_mayLurk 136 = .ok (.goto 4, 3) := by decide +kernel
theorem dX8_mayLurk_139 : decode cX8_mayLurk 139 = .ok (.iconst 0, 1) := by decide +kernel
theorem dX8_mayLurk_140 : decode cX8_mayLurk 140 = .ok (.if_icmp .ne 7, 3) := by decide +kernel
theorem dX8_mayLurk_143 : decode cX8_mayLurk 143 = .ok (.iconst 1, 1) := by decide +kernel
theorem dX8_mayLurk_144 : decode cX8_mayLurk 144 = .ok (.goto 4, 3) := by decide +kernel
theorem dX8_mayLurk_147 : decode cX8_mayLurk 147 = .ok (.iconst 0, 1) := by decide +kernel
theorem dX8_mayLurk_148 : decode cX8_mayLurk 148 = .ok (.istore 5, 2) := by decide +kernel
theorem dX8_mayLurk_150 : decode cX8_mayLurk 150 = .ok (.iinc 7 1, 3) := by decide +kernel
theorem dX8_mayLurk_153 : decode cX8_mayLurk 153 = .ok (.goto (-88), 3) := by decide +kernel
theorem dX8_mayLurk_156 : decode cX8_mayLurk 156 = .ok (.iinc 6 1, 3) := by decide +kernel
theorem dX8_mayLurk_159 : decode cX8_mayLurk 159 = .ok (.goto (-133), 3) := by decide +kernel
theorem dX8_mayLurk_162 : decode cX8_mayLurk 162 = .ok (.iload 5, 2) := by decide +kernel
theorem dX8_mayLurk_164 : decode cX8_mayLurk 164 = .ok (.ireturn, 1) := by decide +kernel
set_option maxRecDepth 20000 in
theorem ggX8_lair_X8_in : GoodIn wsX8_lair wsX8_in := goodIn_r _ [6] (by decide +kernel) (by decide +kernel)
set_option maxRecDepth 20000 in
theorem gX8_lair_X8_in : GoodIn wsX8_lair (va_wsS RX8 72 yX8_in wsX8_in) := goodIn_app (goodIn_of _ (by decide +kernel)) ggX8_lair_X8_in
set_option maxRecDepth 20000 in
theorem ggX8_lair_X8_layPages : GoodIn wsX8_lair wsX8_layPages := goodIn_r _ [10, 11, 12, 13, 14, 15, 16, 5, 17, 18, 19, 20, 21, 22, 23, 24, 25, 26, 27, 2, 53, 54, 55, 56, 57, 58, 59, 60, 61, 62, 63, 64, 65, 66, 67, 68, 69, 70, 71, 72, 73, 74, 75, 76, 77, 78, 79, 80, 81, 82, 83, 84, 85, 86, 87, 88, 89, 90, 91] (by decide +kernel) (by decide +kernel)
set_option maxRecDepth 20000 in
theorem gX8_lair_X8_layPages : GoodIn wsX8_lair (wsV RX8 242 RX8 yX8_layPages wsX8_layPages) := goodIn_app (goodIn_of _ (by decide +kernel)) ggX8_lair_X8_layPages
set_option maxRecDepth 20000 in
theorem ggX8_lair_X8_mayLurk : GoodIn wsX8_lair wsX8_mayLurk := goodIn_r _ [31, 13, 11, 32, 33, 34, 35, 36, 5, 37, 38, 39, 40, 41, 42, 43, 44, 45, 46, 47, 48, 49, 50, 51, 52, 53, 54, 55, 56, 57, 58, 59, 60, 61, 62, 63, 64, 65, 66, 67, 68, 69, 70, 71, 72, 73, 74, 75, 76, 77, 78, 79, 80, 81, 82, 83, 84, 85, 86, 87, 88, 89, 90, 91] (by decide +kernel) (by decide +kernel)
set_option maxRecDepth 20000 in
theorem gX8_lair_X8_mayLurk : GoodIn wsX8_lair (wsV RX8 280 RX8 yX8_mayLurk wsX8_mayLurk) := goodIn_app (goodIn_of _ (by decide +kernel)) ggX8_lair_X8_mayLurk
theorem dX8_lair_0 : decode cX8_lair 0 = .ok (.iload_n 1, 1) := by decide +kernel
theorem dX8_lair_1 : decode cX8_lair 1 = .ok (.i2l, 1) := by decide +kernel
theorem dX8_lair_2 : decode cX8_lair 2 = .ok (.lconst 0, 1) := by decide +kernel
theorem dX8_lair_3 : decode cX8_lair 3 = .ok (.ldc2_w 150, 3) := by decide +kernel
theorem dX8_lair_6 : decode cX8_lair 6 = .ok (.invokestatic 72, 3) := by decide +kernel
theorem dX8_lair_9 : decode cX8_lair 9 = .ok (.ifCond .ne 5, 3) := by decide +kernel
theorem dX8_lair_12 : decode cX8_lair 12 = .ok (.iconst (-1), 1) := by decide +kernel
theorem dX8_lair_13 : decode cX8_lair 13 = .ok (.ireturn, 1) := by decide +kernel
theorem dX8_lair_14 : decode cX8_lair 14 = .ok (.aload_n 0, 1) := by decide +kernel
theorem dX8_lair_15 : decode cX8_lair 15 = .ok (.invokevirtual 242, 3) := by decide +kernel
theorem dX8_lair_18 : decode cX8_lair 18 = .ok (.iconst 0, 1) := by decide +kernel
theorem dX8_lair_19 : decode cX8_lair 19 = .ok (.istore_n 2, 1) := by decide +kernel
theorem dX8_lair_20 : decode cX8_lair 20 = .ok (.iconst 0, 1) := by decide +kernel
theorem dX8_lair_21 : decode cX8_lair 21 = .ok (.istore_n 3, 1) := by decide +kernel
theorem dX8_lair_22 : decode cX8_lair 22 = .ok (.iload_n 3, 1) := by decide +kernel
theorem dX8_lair_23 : decode cX8_lair 23 = .ok (.aload_n 0, 1) := by decide +kernel
theorem dX8_lair_24 : decode cX8_lair 24 = .ok (.getfield 13, 3) := by decide +kernel
theorem dX8_lair_27 : decode cX8_lair 27 = .ok (.if_icmp .ge 28, 3) := by decide +kernel
theorem dX8_lair_30 : decode cX8_lair 30 = .ok (.iload_n 2, 1) := by decide +kernel
theorem dX8_lair_31 : decode cX8_lair 31 = .ok (.aload_n 0, 1) := by decide +kernel
theorem dX8_lair_32 : decode cX8_lair 32 = .ok (.iload_n 3, 1) := by decide +kernel
theorem dX8_lair_33 : decode cX8_lair 33 = .ok (.iload_n 1, 1) := by decide +kernel
theorem dX8_lair_34 : decode cX8_lair 34 = .ok (.invokevirtual 280, 3) := by decide +kernel
theorem dX8_lair_37 : decode cX8_lair 37 = .ok (.ifCond .eq 9, 3) := by decide +kernel
theorem dX8_lair_40 : decode cX8_lair 40 = .ok (.iconst 1, 1) := by decide +kernel
theorem dX8_lair_41 : decode cX8_lair 41 = .ok (.iload_n 3, 1) := by decide +kernel
theorem dX8_lair_42 : decode cX8_lair 42 = .ok (.ishl, 1) := by decide +kernel
theorem dX8_lair_43 : decode cX8_lair 43 = .ok (.goto 4, 3) := by decide +kernel
theorem dX8_lair_46 : decode cX8_lair 46 = .ok (.iconst 0, 1) := by decide +kernel
theorem dX8_lair_47 : decode cX8_lair 47 = .ok (.ior, 1) := by decide +kernel
theorem dX8_lair_48 : decode cX8_lair 48 = .ok (.istore_n 2, 1) := by decide +kernel
theorem dX8_lair_49 : decode cX8_lair 49 = .ok (.iinc 3 1, 3) := by decide +kernel
theorem dX8_lair_52 : decode cX8_lair 52 = .ok (.goto (-30), 3) := by decide +kernel
theorem dX8_lair_55 : decode cX8_lair 55 = .ok (.iload_n 2, 1) := by decide +kernel
theorem dX8_lair_56 : decode cX8_lair 56 = .ok (.ireturn, 1) := by decide +kernel
set_option maxRecDepth 20000 in
theorem ggX8_isFree_X8_beastNow : GoodIn wsX8_isFree wsX8_beastNow := goodIn_r _ [8, 9, 14, 15, 16, 17, 18, 19, 20, 21, 22, 23, 24, 25, 26, 27, 28, 29, 30, 31, 32, 33, 34, 35, 36, 37, 38, 39, 40, 41, 42, 43, 44, 45, 46, 47, 48, 49, 50, 51, 52] (by decide +kernel) (by decide +kernel)
set_option maxRecDepth 20000 in
theorem gX8_isFree_X8_beastNow : GoodIn wsX8_isFree (wsV RX8 187 RX8 yX8_beastNow wsX8_beastNow) := goodIn_app (goodIn_of _ (by decide +kernel)) ggX8_isFree_X8_beastNow
set_option maxRecDepth 20000 in
theorem ggX8_isFree_X8_leadsTo : GoodIn wsX8_isFree wsX8_leadsTo := goodIn_r _ [13] (by decide +kernel) (by decide +kernel)
set_option maxRecDepth 20000 in
theorem gX8_isFree_X8_leadsTo : GoodIn wsX8_isFree (wsV RX8 200 RX8 yX8_leadsTo wsX8_leadsTo) := goodIn_app (goodIn_of _ (by decide +kernel)) ggX8_isFree_X8_leadsTo
theorem dX8_isFree_0 : decode cX8_isFree 0 = .ok (.iconst 1, 1) := by decide +kernel
theorem dX8_isFree_1 : decode cX8_isFree 1 = .ok (.aload_n 0, 1) := by decide +kernel
theorem dX8_isFree_2 : decode cX8_isFree 2 = .ok (.invokevirtual 187, 3) := by decide +kernel
theorem dX8_isFree_5 : decode cX8_isFree 5 = .ok (.ishl, 1) := by decide +kernel
theorem dX8_isFree_6 : decode cX8_isFree 6 = .ok (.istore_n 2, 1) := by decide +kernel
theorem dX8_isFree_7 : decode cX8_isFree 7 = .ok (.iconst 0, 1) := by decide +kernel
theorem dX8_isFree_8 : decode cX8_isFree 8 = .ok (.istore_n 3, 1) := by decide +kernel
theorem dX8_isFree_9 : decode cX8_isFree 9 = .ok (.iload_n 3, 1) := by decide +kernel
theorem dX8_isFree_10 : decode cX8_isFree 10 = .ok (.bipush 24, 2) := by decide +kernel
theorem dX8_isFree_12 : decode cX8_isFree 12 = .ok (.if_icmp .ge 114, 3) := by decide +kernel
theorem dX8_isFree_15 : decode cX8_isFree 15 = .ok (.iload_n 2, 1) := by decide +kernel
theorem dX8_isFree_16 : decode cX8_isFree 16 = .ok (.istore 4, 2) := by decide +kernel
theorem dX8_isFree_18 : decode cX8_isFree 18 = .ok (.iconst 0, 1) := by decide +kernel
theorem dX8_isFree_19 : decode cX8_isFree 19 = .ok (.istore 5, 2) := by decide +kernel
theorem dX8_isFree_21 : decode cX8_isFree 21 = .ok (.iload 5, 2) := by decide +kernel
theorem dX8_isFree_23 : decode cX8_isFree 23 = .ok (.aload_n 0, 1) := by decide +kernel
theorem dX8_isFree_24 : decode cX8_isFree 24 = .ok (.getfield 13, 3) := by decide +kernel
theorem dX8_isFree_27 : decode cX8_isFree 27 = .ok (.if_icmp .ge 90, 3) := by decide +kernel
theorem dX8_isFree_30 : decode cX8_isFree 30 = .ok (.iconst 0, 1) := by decide +kernel
theorem dX8_isFree_31 : decode cX8_isFree 31 = .ok (.istore 6, 2) := by decide +kernel
theorem dX8_isFree_33 : decode cX8_isFree 33 = .ok (.iload 6, 2) := by decide +kernel
theorem dX8_isFree_35 : decode cX8_isFree 35 = .ok (.aload_n 0, 1) := by decide +kernel
theorem dX8_isFree_36 : decode cX8_isFree 36 = .ok (.getfield 175, 3) := by decide +kernel
theorem dX8_isFree_39 : decode cX8_isFree 39 = .ok (.if_icmp .ge 72, 3) := by decide +kernel
theorem dX8_isFree_42 : decode cX8_isFree 42 = .ok (.iload_n 2, 1) := by decide +kernel
theorem dX8_isFree_43 : decode cX8_isFree 43 = .ok (.iload 5, 2) := by decide +kernel
theorem dX8_isFree_45 : decode cX8_isFree 45 = .ok (.ishr, 1) := by decide +kernel
theorem dX8_isFree_46 : decode cX8_isFree 46 = .ok (.iconst 1, 1) := by decide +kernel
theorem dX8_isFree_47 : decode cX8_isFree 47 = .ok (.iand, 1) := by decide +kernel
theorem dX8_isFree_48 : decode cX8_isFree 48 = .ok (.iconst 1, 1) := by decide +kernel
theorem dX8_isFree_49 : decode cX8_isFree 49 = .ok (.if_icmp .ne 62, 3) := by decide +kernel
theorem dX8_isFree_52 : decode cX8_isFree 52 = .ok (.iload_n 1, 1) := by decide +kernel
theorem dX8_isFree_53 : decode cX8_isFree 53 = .ok (.iload 6, 2) := by decide +kernel
theorem dX8_isFree_55 : decode cX8_isFree 55 = .ok (.ishr, 1) := by decide +kernel
theorem dX8_isFree_56 : decode cX8_isFree 56 = .ok (.iconst 1, 1) := by decide +kernel
theorem dX8_isFree_57 : decode cX8_isFree 57 = .ok (.iand, 1) := by decide +kernel
theorem dX8_isFree_58 : decode cX8_isFree 58 = .ok (.iconst 1, 1) := by decide +kernel
theorem dX8_isFree_59 : decode cX8_isFree 59 = .ok (.if_icmp .ne 8, 3) := by decide +kernel
theorem dX8_isFree_62 : decode cX8_isFree 62 = .ok (.bipush (-4), 2) := by decide +kernel
theorem dX8_isFree_64 : decode cX8_isFree 64 = .ok (.goto 19, 3) := by decide +kernel
theorem dX8_isFree_67 : decode cX8_isFree 67 = .ok (.aload_n 0, 1) := by decide +kernel
theorem dX8_isFree_68 : decode cX8_isFree 68 = .ok (.aload_n 0, 1) := by decide +kernel
theorem dX8_isFree_69 : decode cX8_isFree 69 = .ok (.getfield 41, 3) := by decide +kernel
theorem dX8_isFree_72 : decode cX8_isFree 72 = .ok (.bipush 30, 2) := by decide +kernel
theorem dX8_isFree_74 : decode cX8_isFree 74 = .ok (.iload_n 3, 1) := by decide +kernel
theorem dX8_isFree_75 : decode cX8_isFree 75 = .ok (.imul, 1) := by decide +kernel
theorem dX8_isFree_76 : decode cX8_isFree 76 = .ok (.iload 6, 2) := by decide +kernel
theorem dX8_isFree_78 : decode cX8_isFree 78 = .ok (.iload 5, 2) := by decide +kernel
theorem dX8_isFree_80 : decode cX8_isFree 80 = .ok (.invokevirtual 200, 3) := by decide +kernel
theorem dX8_isFree_83 : decode cX8_isFree 83 = .ok (.istore 7, 2) := by decide +kernel
theorem dX8_isFree_85 : decode cX8_isFree 85 = .ok (.iload 4, 2) := by decide +kernel
theorem dX8_isFree_87 : decode cX8_isFree 87 = .ok (.iload 7, 2) := by decide +kernel
theorem dX8_isFree_89 : decode cX8_isFree 89 = .ok (.bipush (-4), 2) := by decide +kernel
theorem dX8_isFree_91 : decode cX8_isFree 91 = .ok (.if_icmp .ne 7, 3) := by decide +kernel
theorem dX8_isFree_94 : decode cX8_isFree 94 = .ok (.iconst 0, 1) := by decide +kernel
theorem dX8_isFree_95 : decode cX8_isFree 95 = .ok (.goto 7, 3) := by decide +kernel
theorem dX8_isFree_98 : decode cX8_isFree 98 = .ok (.iconst 1, 1) := by decide +kernel
theorem dX8_isFree_99 : decode cX8_isFree 99 = .ok (.iload 7, 2) := by decide +kernel
theorem dX8_isFree_101 : decode cX8_isFree 101 = .ok (.ishl, 1) := by decide +kernel
theorem dX8_isFree_102 : decode cX8_isFree 102 = .ok (.ior, 1) := by decide +kernel
theorem dX8_isFree_103 : decode cX8_isFree 103 = .ok (.istore 4, 2) := by decide +kernel
theorem dX8_isFree_105 : decode cX8_isFree 105 = .ok (.iinc 6 1, 3) := by decide +kernel
theorem dX8_isFree_108 : decode cX8_isFree 108 = .ok (.goto (-75), 3) := by decide +kernel
theorem dX8_isFree_111 : decode cX8_isFree 111 = .ok (.iinc 5 1, 3) := by decide +kernel
theorem dX8_isFree_114 : decode cX8_isFree 114 = .ok (.goto (-93), 3) := by decide +kernel
theorem dX8_isFree_117 : decode cX8_isFree 117 = .ok (.iload 4, 2) := by decide +kernel
theorem dX8_isFree_119 : decode cX8_isFree 119 = .ok (.istore_n 2, 1) := by decide +kernel
theorem dX8_isFree_120 : decode cX8_isFree 120 = .ok (.iinc 3 1, 3) := by decide +kernel
theorem dX8_isFree_123 : decode cX8_isFree 123 = .ok (.goto (-114), 3) := by decide +kernel
theorem dX8_isFree_126 : decode cX8_isFree 126 = .ok (.iload_n 2, 1) := by decide +kernel
theorem dX8_isFree_127 : decode cX8_isFree 127 = .ok (.iconst 1, 1) := by decide +kernel
theorem dX8_isFree_128 : decode cX8_isFree 128 = .ok (.iand, 1) := by decide +kernel
theorem dX8_isFree_129 : decode cX8_isFree 129 = .ok (.ifCond .ne 7, 3) := by decide +kernel
theorem dX8_isFree_132 : decode cX8_isFree 132 = .ok (.iconst 1, 1) := by decide +kernel
theorem dX8_isFree_133 : decode cX8_isFree 133 = .ok (.goto 4, 3) := by decide +kernel
theorem dX8_isFree_136 : decode cX8_isFree 136 = .ok (.iconst 0, 1) := by decide +kernel
theorem dX8_isFree_137 : decode cX8_isFree 137 = .ok (.ireturn, 1) := by decide +kernel
set_option maxRecDepth 20000 in
theorem ggX8_wall_X8_in : GoodIn wsX8_wall wsX8_in := goodIn_r _ [5] (by decide +kernel) (by decide +kernel)
set_option maxRecDepth 20000 in
theorem gX8_wall_X8_in : GoodIn wsX8_wall (va_wsS RX8 72 yX8_in wsX8_in) := goodIn_app (goodIn_of _ (by decide +kernel)) ggX8_wall_X8_in
set_option maxRecDepth 20000 in
theorem ggX8_wall_X8_beastNow : GoodIn wsX8_wall wsX8_beastNow := goodIn_r _ [9, 10, 43, 44, 45, 46, 47, 48, 49, 50, 51, 52, 53, 54, 55, 56, 57, 58, 59, 60, 61, 62, 63, 64, 65, 66, 67, 68, 69, 70, 71, 72, 73, 74, 75, 76, 77, 78, 79, 80, 81] (by decide +kernel) (by decide +kernel)
set_option maxRecDepth 20000 in
theorem gX8_wall_X8_beastNow : GoodIn wsX8_wall (wsV RX8 187 RX8 yX8_beastNow wsX8_beastNow) := goodIn_app (goodIn_of _ (by decide +kernel)) ggX8_wall_X8_beastNow
set_option maxRecDepth 20000 in
theorem ggX8_wall_X8_layPages : GoodIn wsX8_wall wsX8_layPages := goodIn_r _ [14, 15, 16, 10, 17, 18, 19, 4, 20, 21, 22, 23, 24, 25, 26, 27, 28, 29, 30, 31, 43, 44, 45, 46, 47, 48, 49, 50, 51, 52, 53, 54, 55, 56, 57, 58, 59, 60, 61, 62, 63, 64, 65, 66, 67, 68, 69, 70, 71, 72, 73, 74, 75, 76, 77, 78, 79, 80, 81] (by decide +kernel) (by decide +kernel)
set_option maxRecDepth 20000 in
theorem gX8_wall_X8_layPages : GoodIn wsX8_wall (wsV RX8 242 RX8 yX8_layPages wsX8_layPages) := goodIn_app (goodIn_of _ (by decide +kernel)) ggX8_wall_X8_layPages
set_option maxRecDepth 20000 in
theorem ggX8_wall_X8_bitsOf : GoodIn wsX8_wall wsX8_bitsOf := goodIn_r _ [34] (by decide +kernel) (by decide +kernel)
set_option maxRecDepth 20000 in
theorem gX8_wall_X8_bitsOf : GoodIn wsX8_wall (va_wsS RX8 208 yX8_bitsOf wsX8_bitsOf) := goodIn_app (goodIn_of _ (by decide +kernel)) ggX8_wall_X8_bitsOf
set_option maxRecDepth 20000 in
theorem ggX8_wall_X8_isFree : GoodIn wsX8_wall wsX8_isFree := goodIn_r _ [38, 31, 1, 15, 6, 7, 8, 4, 9, 10, 39, 40, 41, 42, 43, 44, 45, 46, 47, 48, 49, 50, 51, 52, 53, 54, 55, 56, 57, 58, 59, 60, 61, 62, 63, 64, 65, 66, 67, 68, 69, 70, 71, 72, 73, 74, 75, 76, 77, 78, 79, 80, 81] (by decide +kernel) (by decide +kernel)
set_option maxRecDepth 20000 in
theorem gX8_wall_X8_isFree : GoodIn wsX8_wall (wsV RX8 283 RX8 yX8_isFree wsX8_isFree) := goodIn_app (goodIn_of _ (by decide +kernel)) ggX8_wall_X8_isFree
theorem dX8_wall_0 : decode cX8_wall 0 = .ok (.iload_n 1, 1) := by decide +kernel
theorem dX8_wall_1 : decode cX8_wall 1 = .ok (.i2l, 1) := by decide +kernel
theorem dX8_wall_2 : decode cX8_wall 2 = .ok (.lconst 0, 1) := by decide +kernel
theorem dX8_wall_3 : decode cX8_wall 3 = .ok (.lconst 1, 1) := by decide +kernel
theorem dX8_wall_4 : decode cX8_wall 4 = .ok (.invokestatic 72, 3) := by decide +kernel
theorem dX8_wall_7 : decode cX8_wall 7 = .ok (.ifCond .ne 5, 3) := by decide +kernel
theorem dX8_wall_10 : decode cX8_wall 10 = .ok (.iconst (-1), 1) := by decide +kernel
theorem dX8_wall_11 : decode cX8_wall 11 = .ok (.ireturn, 1) := by decide +kernel
theorem dX8_wall_12 : decode cX8_wall 12 = .ok (.aload_n 0, 1) := by decide +kernel
theorem dX8_wall_13 : decode cX8_wall 13 = .ok (.invokevirtual 187, 3) := by decide +kernel
theorem dX8_wall_16 : decode cX8_wall 16 = .ok (.bipush (-4), 2) := by decide +kernel
theorem dX8_wall_18 : decode cX8_wall 18 = .ok (.if_icmp .ne 6, 3) := by decide +kernel
theorem dX8_wall_21 : decode cX8_wall 21 = .ok (.bipush (-2), 2) := by decide +kernel
theorem dX8_wall_23 : decode cX8_wall 23 = .ok (.ireturn, 1) := by decide +kernel
theorem dX8_wall_24 : decode cX8_wall 24 = .ok (.aload_n 0, 1) := by decide +kernel
theorem dX8_wall_25 : decode cX8_wall 25 = .ok (.invokevirtual 242, 3) := by decide +kernel
theorem dX8_wall_28 : decode cX8_wall 28 = .ok (.bipush (-4), 2) := by decide +kernel
theorem dX8_wall_30 : decode cX8_wall 30 = .ok (.istore_n 2, 1) := by decide +kernel
theorem dX8_wall_31 : decode cX8_wall 31 = .ok (.bipush (-4), 2) := by decide +kernel
theorem dX8_wall_33 : decode cX8_wall 33 = .ok (.istore_n 3, 1) := by decide +kernel
theorem dX8_wall_34 : decode cX8_wall 34 = .ok (.iconst 0, 1) := by decide +kernel
theorem dX8_wall_35 : decode cX8_wall 35 = .ok (.istore 4, 2) := by decide +kernel
theorem dX8_wall_37 : decode cX8_wall 37 = .ok (.iload 4, 2) := by decide +kernel
theorem dX8_wall_39 : decode cX8_wall 39 = .ok (.iconst 1, 1) := by decide +kernel
theorem dX8_wall_40 : decode cX8_wall 40 = .ok (.aload_n 0, 1) := by decide +kernel
theorem dX8_wall_41 : decode cX8_wall 41 = .ok (.getfield 175, 3) := by decide +kernel
theorem dX8_wall_44 : decode cX8_wall 44 = .ok (.ishl, 1) := by decide +kernel
theorem dX8_wall_45 : decode cX8_wall 45 = .ok (.if_icmp .ge 49, 3) := by decide +kernel
theorem dX8_wall_48 : decode cX8_wall 48 = .ok (.iload 4, 2) := by decide +kernel
theorem dX8_wall_50 : decode cX8_wall 50 = .ok (.invokestatic 208, 3) := by decide +kernel
theorem dX8_wall_53 : decode cX8_wall 53 = .ok (.istore 5, 2) := by decide +kernel
theorem dX8_wall_55 : decode cX8_wall 55 = .ok (.iload 5, 2) := by decide +kernel
theorem dX8_wall_57 : decode cX8_wall 57 = .ok (.iconst 3, 1) := by decide +kernel
theorem dX8_wall_58 : decode cX8_wall 58 = .ok (.if_icmp .gt 30, 3) := by decide +kernel
theorem dX8_wall_61 : decode cX8_wall 61 = .ok (.iload_n 2, 1) := by decide +kernel
theorem dX8_wall_62 : decode cX8_wall 62 = .ok (.bipush (-4), 2) := by decide +kernel
theorem dX8_wall_64 : decode cX8_wall 64 = .ok (.if_icmp .eq 9, 3) := by decide +kernel
theorem dX8_wall_67 : decode cX8_wall 67 = .ok (.iload 5, 2) := by decide +kernel
theorem dX8_wall_69 : decode cX8_wall 69 = .ok (.iload_n 2, 1) := by decide +kernel
theorem dX8_wall_70 : decode cX8_wall 70 = .ok (.if_icmp .ge 18, 3) := by decide +kernel
theorem dX8_wall_73 : decode cX8_wall 73 = .ok (.aload_n 0, 1) := by decide +kernel
theorem dX8_wall_74 : decode cX8_wall 74 = .ok (.iload 4, 2) := by decide +kernel
theorem dX8_wall_76 : decode cX8_wall 76 = .ok (.invokevirtual 283, 3) := by decide +kernel
theorem dX8_wall_79 : decode cX8_wall 79 = .ok (.ifCond .eq 9, 3) := by decide +kernel
theorem dX8_wall_82 : decode cX8_wall 82 = .ok (.iload 5, 2) := by decide +kernel
theorem dX8_wall_84 : decode cX8_wall 84 = .ok (.istore_n 2, 1) := by decide +kernel
theorem dX8_wall_85 : decode cX8_wall 85 = .ok (.iload 4, 2) := by decide +kernel
theorem dX8_wall_87 : decode cX8_wall 87 = .ok (.istore_n 3, 1) := by decide +kernel
theorem dX8_wall_88 : decode cX8_wall 88 = .ok (.iinc 4 1, 3) := by decide +kernel
theorem dX8_wall_91 : decode cX8_wall 91 = .ok (.goto (-54), 3) := by decide +kernel
theorem dX8_wall_94 : decode cX8_wall 94 = .ok (.iload_n 1, 1) := by decide +kernel
theorem dX8_wall_95 : decode cX8_wall 95 = .ok (.ifCond .ne 7, 3) := by decide +kernel
theorem dX8_wall_98 : decode cX8_wall 98 = .ok (.iload_n 2, 1) := by decide +kernel
theorem dX8_wall_99 : decode cX8_wall 99 = .ok (.goto 4, 3) := by decide +kernel
theorem dX8_wall_102 : decode cX8_wall 102 = .ok (.iload_n 3, 1) := by decide +kernel
theorem dX8_wall_103 : decode cX8_wall 103 = .ok (.ireturn, 1) := by decide +kernel
theorem dX8_copies_0 : decode cX8_copies 0 = .ok (.iconst 0, 1) := by decide +kernel
theorem dX8_copies_1 : decode cX8_copies 1 = .ok (.istore_n 3, 1) := by decide +kernel
theorem dX8_copies_2 : decode cX8_copies 2 = .ok (.iload_n 3, 1) := by decide +kernel
theorem dX8_copies_3 : decode cX8_copies 3 = .ok (.bipush 49, 2) := by decide +kernel
theorem dX8_copies_5 : decode cX8_copies 5 = .ok (.if_icmp .ge 25, 3) := by decide +kernel
theorem dX8_copies_8 : decode cX8_copies 8 = .ok (.aload_n 0, 1) := by decide +kernel
theorem dX8_copies_9 : decode cX8_copies 9 = .ok (.getfield 7, 3) := by decide +kernel
theorem dX8_copies_12 : decode cX8_copies 12 = .ok (.iload_n 2, 1) := by decide +kernel
theorem dX8_copies_13 : decode cX8_copies 13 = .ok (.iload_n 3, 1) := by decide +kernel
theorem dX8_copies_14 : decode cX8_copies 14 = .ok (.iadd, 1) := by decide +kernel
theorem dX8_copies_15 : decode cX8_copies 15 = .ok (.aload_n 0, 1) := by decide +kernel
theorem dX8_copies_16 : decode cX8_copies 16 = .ok (.getfield 7, 3) := by decide +kernel
theorem dX8_copies_19 : decode cX8_copies 19 = .ok (.iload_n 1, 1) := by decide +kernel
theorem dX8_copies_20 : decode cX8_copies 20 = .ok (.iload_n 3, 1) := by decide +kernel
theorem dX8_copies_21 : decode cX8_copies 21 = .ok (.iadd, 1) := by decide +kernel
theorem dX8_copies_22 : decode cX8_copies 22 = .ok (.iaload, 1) := by decide +kernel
theorem dX8_copies_23 : decode cX8_copies 23 = .ok (.iastore, 1) := by decide +kernel
theorem dX8_copies_24 : decode cX8_copies 24 = .ok (.iinc 3 1, 3) := by decide +kernel
theorem dX8_copies_27 : decode cX8_copies 27 = .ok (.goto (-25), 3) := by decide +kernel
theorem dX8_copies_30 : decode cX8_copies 30 = .ok (.return_, 1) := by decide +kernel
set_option maxRecDepth 20000 in
theorem ggX8_walk_X8_in : GoodIn wsX8_walk wsX8_in := goodIn_r _ [7] (by decide +kernel) (by decide +kernel)
set_option maxRecDepth 20000 in
theorem gX8_walk_X8_in : GoodIn wsX8_walk (va_wsS RX8 72 yX8_in wsX8_in) := goodIn_app (goodIn_of _ (by decide +kernel)) ggX8_walk_X8_in
set_option maxRecDepth 20000 in
theorem ggX8_walk_X8_copies : GoodIn wsX8_walk wsX8_copies := goodIn_r _ [11, 2, 56, 57, 58, 59, 60, 61, 62, 63, 64, 65, 66, 67, 68, 69, 70, 71, 72, 73, 74, 75, 76, 77, 78, 79, 80, 81, 82, 83, 84, 85, 86, 87, 88, 89, 90, 91, 92, 93, 94] (by decide +kernel) (by decide +kernel)
set_option maxRecDepth 20000 in
theorem gX8_walk_X8_copies : GoodIn wsX8_walk (wsV RX8 286 RX8 yX8_copies wsX8_copies) := goodIn_app (goodIn_of _ (by decide +kernel)) ggX8_walk_X8_copies
set_option maxRecDepth 20000 in
theorem ggX8_walk_X8_leading : GoodIn wsX8_walk wsX8_leading := goodIn_r _ [15, 16, 17, 18, 19, 6, 20, 56, 57, 58, 59, 60, 61, 62, 63, 64, 65, 66, 67, 68, 69, 70, 71, 72, 73, 74, 75, 76, 77, 78, 79, 80, 81, 82, 83, 84, 85, 86, 87, 88, 89, 90, 91, 92, 93, 94] (by decide +kernel) (by decide +kernel)
set_option maxRecDepth 20000 in
theorem gX8_walk_X8_leading : GoodIn wsX8_walk (wsV RX8 204 RX8 yX8_leading wsX8_leading) := goodIn_app (goodIn_of _ (by decide +kernel)) ggX8_walk_X8_leading
set_option maxRecDepth 20000 in
theorem ggX8_walk_X8_bitsOf : GoodIn wsX8_walk wsX8_bitsOf := goodIn_r _ [23] (by decide +kernel) (by decide +kernel)
set_option maxRecDepth 20000 in
theorem gX8_walk_X8_bitsOf : GoodIn wsX8_walk (va_wsS RX8 208 yX8_bitsOf wsX8_bitsOf) := goodIn_app (goodIn_of _ (by decide +kernel)) ggX8_walk_X8_bitsOf
set_option maxRecDepth 20000 in
theorem ggX8_walk_X8_placeOf : GoodIn wsX8_walk wsX8_placeOf := goodIn_r _ [26] (by decide +kernel) (by decide +kernel)
set_option maxRecDepth 20000 in
theorem gX8_walk_X8_placeOf : GoodIn wsX8_walk (va_wsS RX8 211 yX8_placeOf wsX8_placeOf) := goodIn_app (goodIn_of _ (by decide +kernel)) ggX8_walk_X8_placeOf
set_option maxRecDepth 20000 in
theorem ggX8_walk_X8_leadsTo : GoodIn wsX8_walk wsX8_leadsTo := goodIn_r _ [20] (by decide +kernel) (by decide +kernel)
set_option maxRecDepth 20000 in
theorem gX8_walk_X8_leadsTo : GoodIn wsX8_walk (wsV RX8 200 RX8 yX8_leadsTo wsX8_leadsTo) := goodIn_app (goodIn_of _ (by decide +kernel)) ggX8_walk_X8_leadsTo
set_option maxRecDepth 20000 in
theorem ggX8_walk_X8_stepsBy : GoodIn wsX8_walk wsX8_stepsBy := goodIn_r _ [30, 2, 31, 32, 33, 34, 35, 6, 36, 37, 38, 39, 40, 16, 12, 13, 14, 15, 17, 18, 19, 20, 21, 22, 23, 24, 25, 26, 41, 42, 43, 44, 45, 46, 47, 48, 49, 50, 51, 52, 53, 54, 55, 56, 57, 58, 59, 60, 61, 62, 63, 64, 65, 66, 67, 68, 69, 70, 71, 72, 73, 74, 75, 76, 77, 78, 79, 80, 81, 82, 83, 84, 85, 86, 87, 88, 89, 90, 91, 92, 93, 94] (by decide +kernel) (by decide +kernel)
set_option maxRecDepth 20000 in
theorem gX8_walk_X8_stepsBy : GoodIn wsX8_walk (wsV RX8 224 RX8 yX8_stepsBy wsX8_stepsBy) := goodIn_app (goodIn_of _ (by decide +kernel)) ggX8_walk_X8_stepsBy
theorem dX8_walk_0 : decode cX8_walk 0 = .ok (.iload_n 2, 1) := by decide +kernel
theorem dX8_walk_1 : decode cX8_walk 1 = .ok (.i2l, 1) := by decide +kernel
theorem dX8_walk_2 : decode cX8_walk 2 = .ok (.lconst 1, 1) := by decide +kernel
theorem dX8_walk_3 : decode cX8_walk 3 = .ok (.ldc2_w 240, 3) := by decide +kernel
theorem dX8_walk_6 : decode cX8_walk 6 = .ok (.invokestatic 72, 3) := by decide +kernel
theorem dX8_walk_9 : decode cX8_walk 9 = .ok (.ifCond .eq 13, 3) := by decide +kernel
theorem dX8_walk_12 : decode cX8_walk 12 = .ok (.iload_n 3, 1) := by decide +kernel
theorem dX8_walk_13 : decode cX8_walk 13 = .ok (.i2l, 1) := by decide +kernel
theorem dX8_walk_14 : decode cX8_walk 14 = .ok (.lconst 0, 1) := by decide +kernel
theorem dX8_walk_15 : decode cX8_walk 15 = .ok (.lconst 1, 1) := by decide +kernel
theorem dX8_walk_16 : decode cX8_walk 16 = .ok (.invokestatic 72, 3) := by decide +kernel
theorem dX8_walk_19 : decode cX8_walk 19 = .ok (.ifCond .ne 5, 3) := by decide +kernel
theorem dX8_walk_22 : decode cX8_walk 22 = .ok (.iconst (-1), 1) := by decide +kernel
theorem dX8_walk_23 : decode cX8_walk 23 = .ok (.ireturn, 1) := by decide +kernel
theorem dX8_walk_24 : decode cX8_walk 24 = .ok (.aload_n 0, 1) := by decide +kernel
theorem dX8_walk_25 : decode cX8_walk 25 = .ok (.getfield 7, 3) := by decide +kernel
theorem dX8_walk_28 : decode cX8_walk 28 = .ok (.bipush 48, 2) := by decide +kernel
theorem dX8_walk_30 : decode cX8_walk 30 = .ok (.iaload, 1) := by decide +kernel
theorem dX8_walk_31 : decode cX8_walk 31 = .ok (.iconst 1, 1) := by decide +kernel
theorem dX8_walk_32 : decode cX8_walk 32 = .ok (.if_icmp .ne 6, 3) := by decide +kernel
theorem dX8_walk_35 : decode cX8_walk 35 = .ok (.bipush (-2), 2) := by decide +kernel
theorem dX8_walk_37 : decode cX8_walk 37 = .ok (.ireturn, 1) := by decide +kernel
theorem dX8_walk_38 : decode cX8_walk 38 = .ok (.aload_n 0, 1) := by decide +kernel
theorem dX8_walk_39 : decode cX8_walk 39 = .ok (.iconst 0, 1) := by decide +kernel
theorem dX8_walk_40 : decode cX8_walk 40 = .ok (.sipush 147, 3) := by decide +kernel
theorem dX8_walk_43 : decode cX8_walk 43 = .ok (.invokevirtual 286, 3) := by decide +kernel
theorem dX8_walk_46 : decode cX8_walk 46 = .ok (.iload_n 1, 1) := by decide +kernel
theorem dX8_walk_47 : decode cX8_walk 47 = .ok (.istore 4, 2) := by decide +kernel
theorem dX8_walk_49 : decode cX8_walk 49 = .ok (.iconst 0, 1) := by decide +kernel
theorem dX8_walk_50 : decode cX8_walk 50 = .ok (.istore 5, 2) := by decide +kernel
theorem dX8_walk_52 : decode cX8_walk 52 = .ok (.iconst 0, 1) := by decide +kernel
theorem dX8_walk_53 : decode cX8_walk 53 = .ok (.istore 6, 2) := by decide +kernel
theorem dX8_walk_55 : decode cX8_walk 55 = .ok (.iload 6, 2) := by decide +kernel
theorem dX8_walk_57 : decode cX8_walk 57 = .ok (.iload_n 2, 1) := by decide +kernel
theorem dX8_walk_58 : decode cX8_walk 58 = .ok (.if_icmp .ge 154, 3) := by decide +kernel
theorem dX8_walk_61 : decode cX8_walk 61 = .ok (.aload_n 0, 1) := by decide +kernel
theorem dX8_walk_62 : decode cX8_walk 62 = .ok (.getfield 7, 3) := by decide +kernel
theorem dX8_walk_65 : decode cX8_walk 65 = .ok (.bipush 48, 2) := by decide +kernel
theorem dX8_walk_67 : decode cX8_walk 67 = .ok (.iaload, 1) := by decide +kernel
theorem dX8_walk_68 : decode cX8_walk 68 = .ok (.ifCond .ne 144, 3) := by decide +kernel
theorem dX8_walk_71 : decode cX8_walk 71 = .ok (.iload 4, 2) := by decide +kernel
theorem dX8_walk_73 : decode cX8_walk 73 = .ok (.ldc_w 289, 3) := by decide +kernel
theorem dX8_walk_76 : decode cX8_walk 76 = .ok (.imul, 1) := by decide +kernel
theorem dX8_walk_77 : decode cX8_walk 77 = .ok (.sipush 12345, 3) := by decide +kernel
theorem dX8_walk_80 : decode cX8_walk 80 = .ok (.iadd, 1) := by decide +kernel
theorem dX8_walk_81 : decode cX8_walk 81 = .ok (.istore 4, 2) := by decide +kernel
theorem dX8_walk_83 : decode cX8_walk 83 = .ok (.aload_n 0, 1) := by decide +kernel
theorem dX8_walk_84 : decode cX8_walk 84 = .ok (.aload_n 0, 1) := by decide +kernel
theorem dX8_walk_85 : decode cX8_walk 85 = .ok (.getfield 7, 3) := by decide +kernel
theorem dX8_walk_88 : decode cX8_walk 88 = .ok (.iconst 0, 1) := by decide +kernel
theorem dX8_walk_89 : decode cX8_walk 89 = .ok (.aload_n 0, 1) := by decide +kernel
theorem dX8_walk_90 : decode cX8_walk 90 = .ok (.getfield 7, 3) := by decide +kernel
theorem dX8_walk_93 : decode cX8_walk 93 = .ok (.bipush 31, 2) := by decide +kernel
theorem dX8_walk_95 : decode cX8_walk 95 = .ok (.iaload, 1) := by decide +kernel
theorem dX8_walk_96 : decode cX8_walk 96 = .ok (.invokevirtual 204, 3) := by decide +kernel
theorem dX8_walk_99 : decode cX8_walk 99 = .ok (.istore 7, 2) := by decide +kernel
theorem dX8_walk_101 : decode cX8_walk 101 = .ok (.iload 4, 2) := by decide +kernel
theorem dX8_walk_103 : decode cX8_walk 103 = .ok (.bipush 16, 2) := by decide +kernel
theorem dX8_walk_105 : decode cX8_walk 105 = .ok (.ishr, 1) := by decide +kernel
theorem dX8_walk_106 : decode cX8_walk 106 = .ok (.sipush 32767, 3) := by decide +kernel
theorem dX8_walk_109 : decode cX8_walk 109 = .ok (.iand, 1) := by decide +kernel
theorem dX8_walk_110 : decode cX8_walk 110 = .ok (.iload 7, 2) := by decide +kernel
theorem dX8_walk_112 : decode cX8_walk 112 = .ok (.invokestatic 208, 3) := by decide +kernel
theorem dX8_walk_115 : decode cX8_walk 115 = .ok (.iconst 1, 1) := by decide +kernel
theorem dX8_walk_116 : decode cX8_walk 116 = .ok (.iadd, 1) := by decide +kernel
theorem dX8_walk_117 : decode cX8_walk 117 = .ok (.irem, 1) := by decide +kernel
theorem dX8_walk_118 : decode cX8_walk 118 = .ok (.istore 8, 2) := by decide +kernel
theorem dX8_walk_120 : decode cX8_walk 120 = .ok (.iload 8, 2) := by decide +kernel
theorem dX8_walk_122 : decode cX8_walk 122 = .ok (.iload 7, 2) := by decide +kernel
theorem dX8_walk_124 : decode cX8_walk 124 = .ok (.invokestatic 208, 3) := by decide +kernel
theorem dX8_walk_127 : decode cX8_walk 127 = .ok (.if_icmp .ne 8, 3) := by decide +kernel
theorem dX8_walk_130 : decode cX8_walk 130 = .ok (.bipush 10, 2) := by decide +kernel
theorem dX8_walk_132 : decode cX8_walk 132 = .ok (.goto 10, 3) := by decide +kernel
theorem dX8_walk_135 : decode cX8_walk 135 = .ok (.iload 7, 2) := by decide +kernel
theorem dX8_walk_137 : decode cX8_walk 137 = .ok (.iload 8, 2) := by decide +kernel
theorem dX8_walk_139 : decode cX8_walk 139 = .ok (.invokestatic 211, 3) := by decide +kernel
theorem dX8_walk_142 : decode cX8_walk 142 = .ok (.istore 9, 2) := by decide +kernel
theorem dX8_walk_144 : decode cX8_walk 144 = .ok (.aload_n 0, 1) := by decide +kernel
theorem dX8_walk_145 : decode cX8_walk 145 = .ok (.iload 9, 2) := by decide +kernel
theorem dX8_walk_147 : decode cX8_walk 147 = .ok (.iload 9, 2) := by decide +kernel
theorem dX8_walk_149 : decode cX8_walk 149 = .ok (.bipush 10, 2) := by decide +kernel
theorem dX8_walk_151 : decode cX8_walk 151 = .ok (.if_icmp .ne 13, 3) := by decide +kernel
theorem dX8_walk_154 : decode cX8_walk 154 = .ok (.aload_n 0, 1) := by decide +kernel
theorem dX8_walk_155 : decode cX8_walk 155 = .ok (.getfield 7, 3) := by decide +kernel
theorem dX8_walk_158 : decode cX8_walk 158 = .ok (.bipush 31, 2) := by decide +kernel
theorem dX8_walk_160 : decode cX8_walk 160 = .ok (.iaload, 1) := by decide +kernel
theorem dX8_walk_161 : decode cX8_walk 161 = .ok (.goto 21, 3) := by decide +kernel
theorem dX8_walk_164 : decode cX8_walk 164 = .ok (.aload_n 0, 1) := by decide +kernel
theorem dX8_walk_165 : decode cX8_walk 165 = .ok (.aload_n 0, 1) := by decide +kernel
theorem dX8_walk_166 : decode cX8_walk 166 = .ok (.getfield 7, 3) := by decide +kernel
theorem dX8_walk_169 : decode cX8_walk 169 = .ok (.iconst 0, 1) := by decide +kernel
theorem dX8_walk_170 : decode cX8_walk 170 = .ok (.iload 9, 2) := by decide +kernel
theorem dX8_walk_172 : decode cX8_walk 172 = .ok (.aload_n 0, 1) := by decide +kernel
theorem dX8_walk_173 : decode cX8_walk 173 = .ok (.getfield 7, 3) := by decide +kernel
theorem dX8_walk_176 : decode cX8_walk 176 = .ok (.bipush 31, 2) := by decide +kernel
theorem dX8_walk_178 : decode cX8_walk 178 = .ok (.iaload, 1) := by decide +kernel
theorem dX8_walk_179 : decode cX8_walk 179 = .ok (.invokevirtual 200, 3) := by decide +kernel
theorem dX8_walk_182 : decode cX8_walk 182 = .ok (.invokevirtual 224, 3) := by decide +kernel
theorem dX8_walk_185 : decode cX8_walk 185 = .ok (.pop, 1) := by decide +kernel
theorem dX8_walk_186 : decode cX8_walk 186 = .ok (.iload 5, 2) := by decide +kernel
theorem dX8_walk_188 : decode cX8_walk 188 = .ok (.aload_n 0, 1) := by decide +kernel
theorem dX8_walk_189 : decode cX8_walk 189 = .ok (.getfield 7, 3) := by decide +kernel
theorem dX8_walk_192 : decode cX8_walk 192 = .ok (.bipush 48, 2) := by decide +kernel
theorem dX8_walk_194 : decode cX8_walk 194 = .ok (.iaload, 1) := by decide +kernel
theorem dX8_walk_195 : decode cX8_walk 195 = .ok (.ifCond .ne 7, 3) := by decide +kernel
theorem dX8_walk_198 : decode cX8_walk 198 = .ok (.iconst 1, 1) := by decide +kernel
theorem dX8_walk_199 : decode cX8_walk 199 = .ok (.goto 4, 3) := by decide +kernel
theorem dX8_walk_202 : decode cX8_walk 202 = .ok (.iconst 0, 1) := by decide +kernel
theorem dX8_walk_203 : decode cX8_walk 203 = .ok (.iadd, 1) := by decide +kernel
theorem dX8_walk_204 : decode cX8_walk 204 = .ok (.istore 5, 2) := by decide +kernel
theorem dX8_walk_206 : decode cX8_walk 206 = .ok (.iinc 6 1, 3) := by decide +kernel
theorem dX8_walk_209 : decode cX8_walk 209 = .ok (.goto (-154), 3) := by decide +kernel
theorem dX8_walk_212 : decode cX8_walk 212 = .ok (.aload_n 0, 1) := by decide +kernel
theorem dX8_walk_213 : decode cX8_walk 213 = .ok (.getfield 7, 3) := by decide +kernel
theorem dX8_walk_216 : decode cX8_walk 216 = .ok (.bipush 31, 2) := by decide +kernel
theorem dX8_walk_218 : decode cX8_walk 218 = .ok (.iaload, 1) := by decide +kernel
theorem dX8_walk_219 : decode cX8_walk 219 = .ok (.istore 6, 2) := by decide +kernel
theorem dX8_walk_221 : decode cX8_walk 221 = .ok (.aload_n 0, 1) := by decide +kernel
theorem dX8_walk_222 : decode cX8_walk 222 = .ok (.sipush 147, 3) := by decide +kernel
theorem dX8_walk_225 : decode cX8_walk 225 = .ok (.iconst 0, 1) := by decide +kernel
theorem dX8_walk_226 : decode cX8_walk 226 = .ok (.invokevirtual 286, 3) := by decide +kernel
theorem dX8_walk_229 : decode cX8_walk 229 = .ok (.iload_n 3, 1) := by decide +kernel
theorem dX8_walk_230 : decode cX8_walk 230 = .ok (.ifCond .ne 8, 3) := by decide +kernel
theorem dX8_walk_233 : decode cX8_walk 233 = .ok (.iload 5, 2) := by decide +kernel
theorem dX8_walk_235 : decode cX8_walk 235 = .ok (.goto 5, 3) := by decide +kernel
theorem dX8_walk_238 : decode cX8_walk 238 = .ok (.iload 6, 2) := by decide +kernel
theorem dX8_walk_240 : decode cX8_walk 240 = .ok (.ireturn, 1) := by decide +kernel
set_option maxRecDepth 20000 in
theorem ggX8_keep_X8_in : GoodIn wsX8_keep wsX8_in := goodIn_r _ [5] (by decide +kernel) (by decide +kernel)
set_option maxRecDepth 20000 in
theorem gX8_keep_X8_in : GoodIn wsX8_keep (va_wsS RX8 72 yX8_in wsX8_in) := goodIn_app (goodIn_of _ (by decide +kernel)) ggX8_keep_X8_in
set_option maxRecDepth 20000 in
theorem ggX8_keep_X8_copies : GoodIn wsX8_keep wsX8_copies := goodIn_r _ [9, 10, 11, 12, 13, 14, 15, 16, 17, 18, 19, 20, 21, 22, 23, 24, 25, 26, 27, 28, 29, 30, 31, 32, 33, 34, 35, 36, 37, 38, 39, 40, 41, 42, 43, 44, 45, 46, 47, 48, 49] (by decide +kernel) (by decide +kernel)
set_option maxRecDepth 20000 in
theorem gX8_keep_X8_copies : GoodIn wsX8_keep (wsV RX8 286 RX8 yX8_copies wsX8_copies) := goodIn_app (goodIn_of _ (by decide +kernel)) ggX8_keep_X8_copies
theorem dX8_keep_0 : decode cX8_keep 0 = .ok (.iload_n 1, 1) := by decide +kernel
theorem dX8_keep_1 : decode cX8_keep 1 = .ok (.i2l, 1) := by decide +kernel
theorem dX8_keep_2 : decode cX8_keep 2 = .ok (.lconst 0, 1) := by decide +kernel
theorem dX8_keep_3 : decode cX8_keep 3 = .ok (.lconst 1, 1) := by decide +kernel
theorem dX8_keep_4 : decode cX8_keep 4 = .ok (.invokestatic 72, 3) := by decide +kernel
theorem dX8_keep_7 : decode cX8_keep 7 = .ok (.ifCond .ne 5, 3) := by decide +kernel
theorem dX8_keep_10 : decode cX8_keep 10 = .ok (.iconst (-1), 1) := by decide +kernel
theorem dX8_keep_11 : decode cX8_keep 11 = .ok (.ireturn, 1) := by decide +kernel
theorem dX8_keep_12 : decode cX8_keep 12 = .ok (.aload_n 0, 1) := by decide +kernel
theorem dX8_keep_13 : decode cX8_keep 13 = .ok (.iconst 0, 1) := by decide +kernel
theorem dX8_keep_14 : decode cX8_keep 14 = .ok (.bipush 49, 2) := by decide +kernel
theorem dX8_keep_16 : decode cX8_keep 16 = .ok (.iload_n 1, 1) := by decide +kernel
theorem dX8_keep_17 : decode cX8_keep 17 = .ok (.iconst 1, 1) := by decide +kernel
theorem dX8_keep_18 : decode cX8_keep 18 = .ok (.iadd, 1) := by decide +kernel
theorem dX8_keep_19 : decode cX8_keep 19 = .ok (.imul, 1) := by decide +kernel
theorem dX8_keep_20 : decode cX8_keep 20 = .ok (.invokevirtual 286, 3) := by decide +kernel
theorem dX8_keep_23 : decode cX8_keep 23 = .ok (.aload_n 0, 1) := by decide +kernel
theorem dX8_keep_24 : decode cX8_keep 24 = .ok (.getfield 56, 3) := by decide +kernel
theorem dX8_keep_27 : decode cX8_keep 27 = .ok (.iload_n 1, 1) := by decide +kernel
theorem dX8_keep_28 : decode cX8_keep 28 = .ok (.baload, 1) := by decide +kernel
theorem dX8_keep_29 : decode cX8_keep 29 = .ok (.ifCond .eq 7, 3) := by decide +kernel
theorem dX8_keep_32 : decode cX8_keep 32 = .ok (.iconst 1, 1) := by decide +kernel
theorem dX8_keep_33 : decode cX8_keep 33 = .ok (.goto 4, 3) := by decide +kernel
theorem dX8_keep_36 : decode cX8_keep 36 = .ok (.iconst 0, 1) := by decide +kernel
theorem dX8_keep_37 : decode cX8_keep 37 = .ok (.istore_n 2, 1) := by decide +kernel
theorem dX8_keep_38 : decode cX8_keep 38 = .ok (.aload_n 0, 1) := by decide +kernel
theorem dX8_keep_39 : decode cX8_keep 39 = .ok (.getfield 56, 3) := by decide +kernel
theorem dX8_keep_42 : decode cX8_keep 42 = .ok (.iload_n 1, 1) := by decide +kernel
theorem dX8_keep_43 : decode cX8_keep 43 = .ok (.iconst 1, 1) := by decide +kernel
theorem dX8_keep_44 : decode cX8_keep 44 = .ok (.bastore, 1) := by decide +kernel
theorem dX8_keep_45 : decode cX8_keep 45 = .ok (.iload_n 2, 1) := by decide +kernel
theorem dX8_keep_46 : decode cX8_keep 46 = .ok (.ireturn, 1) := by decide +kernel
set_option maxRecDepth 20000 in
theorem ggX8_back_X8_in : GoodIn wsX8_back wsX8_in := goodIn_r _ [6] (by decide +kernel) (by decide +kernel)
set_option maxRecDepth 20000 in
theorem gX8_back_X8_in : GoodIn wsX8_back (va_wsS RX8 72 yX8_in wsX8_in) := goodIn_app (goodIn_of _ (by decide +kernel)) ggX8_back_X8_in
set_option maxRecDepth 20000 in
theorem ggX8_back_X8_copies : GoodIn wsX8_back wsX8_copies := goodIn_r _ [10, 2, 11, 12, 13, 14, 15, 16, 17, 18, 19, 20, 21, 22, 23, 24, 25, 26, 27, 28, 29, 30, 31, 32, 33, 34, 35, 36, 37, 38, 39, 40, 41, 42, 43, 44, 45, 46, 47, 48, 49] (by decide +kernel) (by decide +kernel)
set_option maxRecDepth 20000 in
theorem gX8_back_X8_copies : GoodIn wsX8_back (wsV RX8 286 RX8 yX8_copies wsX8_copies) := goodIn_app (goodIn_of _ (by decide +kernel)) ggX8_back_X8_copies
theorem dX8_back_0 : decode cX8_back 0 = .ok (.iload_n 1, 1) := by decide +kernel
theorem dX8_back_1 : decode cX8_back 1 = .ok (.i2l, 1) := by decide +kernel
theorem dX8_back_2 : decode cX8_back 2 = .ok (.lconst 0, 1) := by decide +kernel
theorem dX8_back_3 : decode cX8_back 3 = .ok (.lconst 1, 1) := by decide +kernel
theorem dX8_back_4 : decode cX8_back 4 = .ok (.invokestatic 72, 3) := by decide +kernel
theorem dX8_back_7 : decode cX8_back 7 = .ok (.ifCond .ne 5, 3) := by decide +kernel
theorem dX8_back_10 : decode cX8_back 10 = .ok (.iconst (-1), 1) := by decide +kernel
theorem dX8_back_11 : decode cX8_back 11 = .ok (.ireturn, 1) := by decide +kernel
theorem dX8_back_12 : decode cX8_back 12 = .ok (.aload_n 0, 1) := by decide +kernel
theorem dX8_back_13 : decode cX8_back 13 = .ok (.getfield 56, 3) := by decide +kernel
theorem dX8_back_16 : decode cX8_back 16 = .ok (.iload_n 1, 1) := by decide +kernel
theorem dX8_back_17 : decode cX8_back 17 = .ok (.baload, 1) := by decide +kernel
theorem dX8_back_18 : decode cX8_back 18 = .ok (.ifCond .ne 6, 3) := by decide +kernel
theorem dX8_back_21 : decode cX8_back 21 = .ok (.bipush (-2), 2) := by decide +kernel
theorem dX8_back_23 : decode cX8_back 23 = .ok (.ireturn, 1) := by decide +kernel
theorem dX8_back_24 : decode cX8_back 24 = .ok (.aload_n 0, 1) := by decide +kernel
theorem dX8_back_25 : decode cX8_back 25 = .ok (.bipush 49, 2) := by decide +kernel
theorem dX8_back_27 : decode cX8_back 27 = .ok (.iload_n 1, 1) := by decide +kernel
theorem dX8_back_28 : decode cX8_back 28 = .ok (.iconst 1, 1) := by decide +kernel
theorem dX8_back_29 : decode cX8_back 29 = .ok (.iadd, 1) := by decide +kernel
theorem dX8_back_30 : decode cX8_back 30 = .ok (.imul, 1) := by decide +kernel
theorem dX8_back_31 : decode cX8_back 31 = .ok (.iconst 0, 1) := by decide +kernel
theorem dX8_back_32 : decode cX8_back 32 = .ok (.invokevirtual 286, 3) := by decide +kernel
theorem dX8_back_35 : decode cX8_back 35 = .ok (.aload_n 0, 1) := by decide +kernel
theorem dX8_back_36 : decode cX8_back 36 = .ok (.getfield 7, 3) := by decide +kernel
theorem dX8_back_39 : decode cX8_back 39 = .ok (.bipush 47, 2) := by decide +kernel
theorem dX8_back_41 : decode cX8_back 41 = .ok (.iaload, 1) := by decide +kernel
theorem dX8_back_42 : decode cX8_back 42 = .ok (.ireturn, 1) := by decide +kernel
set_option maxRecDepth 20000 in
theorem ggX8_sheet_X8_in : GoodIn wsX8_sheet wsX8_in := goodIn_r _ [9] (by decide +kernel) (by decide +kernel)
set_option maxRecDepth 20000 in
theorem gX8_sheet_X8_in : GoodIn wsX8_sheet (va_wsS RX8 72 yX8_in wsX8_in) := goodIn_app (goodIn_of _ (by decide +kernel)) ggX8_sheet_X8_in
theorem dX8_sheet_0 : decode cX8_sheet 0 = .ok (.iload_n 1, 1) := by decide +kernel
theorem dX8_sheet_1 : decode cX8_sheet 1 = .ok (.i2l, 1) := by decide +kernel
theorem dX8_sheet_2 : decode cX8_sheet 2 = .ok (.lconst 0, 1) := by decide +kernel
theorem dX8_sheet_3 : decode cX8_sheet 3 = .ok (.ldc2_w 150, 3) := by decide +kernel
theorem dX8_sheet_6 : decode cX8_sheet 6 = .ok (.invokestatic 72, 3) := by decide +kernel
theorem dX8_sheet_9 : decode cX8_sheet 9 = .ok (.ifCond .eq 21, 3) := by decide +kernel
theorem dX8_sheet_12 : decode cX8_sheet 12 = .ok (.iload_n 2, 1) := by decide +kernel
theorem dX8_sheet_13 : decode cX8_sheet 13 = .ok (.i2l, 1) := by decide +kernel
theorem dX8_sheet_14 : decode cX8_sheet 14 = .ok (.lconst 0, 1) := by decide +kernel
theorem dX8_sheet_15 : decode cX8_sheet 15 = .ok (.ldc2_w 194, 3) := by decide +kernel
theorem dX8_sheet_18 : decode cX8_sheet 18 = .ok (.invokestatic 72, 3) := by decide +kernel
theorem dX8_sheet_21 : decode cX8_sheet 21 = .ok (.ifCond .eq 9, 3) := by decide +kernel
theorem dX8_sheet_24 : decode cX8_sheet 24 = .ok (.iload_n 3, 1) := by decide +kernel
theorem dX8_sheet_25 : decode cX8_sheet 25 = .ok (.bipush 40, 2) := by decide +kernel
theorem dX8_sheet_27 : decode cX8_sheet 27 = .ok (.if_icmp .le 5, 3) := by decide +kernel
theorem dX8_sheet_30 : decode cX8_sheet 30 = .ok (.iconst (-1), 1) := by decide +kernel
theorem dX8_sheet_31 : decode cX8_sheet 31 = .ok (.ireturn, 1) := by decide +kernel
theorem dX8_sheet_32 : decode cX8_sheet 32 = .ok (.iload_n 3, 1) := by decide +kernel
theorem dX8_sheet_33 : decode cX8_sheet 33 = .ok (.ifCond .ge 6, 3) := by decide +kernel
theorem dX8_sheet_36 : decode cX8_sheet 36 = .ok (.bipush (-14), 2) := by decide +kernel
theorem dX8_sheet_38 : decode cX8_sheet 38 = .ok (.ireturn, 1) := by decide +kernel
theorem dX8_sheet_39 : decode cX8_sheet 39 = .ok (.aload_n 0, 1) := by decide +kernel
theorem dX8_sheet_40 : decode cX8_sheet 40 = .ok (.getfield 60, 3) := by decide +kernel
theorem dX8_sheet_43 : decode cX8_sheet 43 = .ok (.iload_n 1, 1) := by decide +kernel
theorem dX8_sheet_44 : decode cX8_sheet 44 = .ok (.iload_n 2, 1) := by decide +kernel
theorem dX8_sheet_45 : decode cX8_sheet 45 = .ok (.iastore, 1) := by decide +kernel
theorem dX8_sheet_46 : decode cX8_sheet 46 = .ok (.aload_n 0, 1) := by decide +kernel
theorem dX8_sheet_47 : decode cX8_sheet 47 = .ok (.getfield 63, 3) := by decide +kernel
theorem dX8_sheet_50 : decode cX8_sheet 50 = .ok (.iload_n 1, 1) := by decide +kernel
theorem dX8_sheet_51 : decode cX8_sheet 51 = .ok (.iload_n 3, 1) := by decide +kernel
theorem dX8_sheet_52 : decode cX8_sheet 52 = .ok (.iastore, 1) := by decide +kernel
theorem dX8_sheet_53 : decode cX8_sheet 53 = .ok (.iconst 0, 1) := by decide +kernel
theorem dX8_sheet_54 : decode cX8_sheet 54 = .ok (.istore 4, 2) := by decide +kernel
theorem dX8_sheet_56 : decode cX8_sheet 56 = .ok (.iload 4, 2) := by decide +kernel
theorem dX8_sheet_58 : decode cX8_sheet 58 = .ok (.bipush 40, 2) := by decide +kernel
theorem dX8_sheet_60 : decode cX8_sheet 60 = .ok (.if_icmp .ge 22, 3) := by decide +kernel
theorem dX8_sheet_63 : decode cX8_sheet 63 = .ok (.aload_n 0, 1) := by decide +kernel
theorem dX8_sheet_64 : decode cX8_sheet 64 = .ok (.getfield 66, 3) := by decide +kernel
theorem dX8_sheet_67 : decode cX8_sheet 67 = .ok (.bipush 40, 2) := by decide +kernel
theorem dX8_sheet_69 : decode cX8_sheet 69 = .ok (.iload_n 1, 1) := by decide +kernel
theorem dX8_sheet_70 : decode cX8_sheet 70 = .ok (.imul, 1) := by decide +kernel
theorem dX8_sheet_71 : decode cX8_sheet 71 = .ok (.iload 4, 2) := by decide +kernel
theorem dX8_sheet_73 : decode cX8_sheet 73 = .ok (.iadd, 1) := by decide +kernel
theorem dX8_sheet_74 : decode cX8_sheet 74 = .ok (.iconst 0, 1) := by decide +kernel
theorem dX8_sheet_75 : decode cX8_sheet 75 = .ok (.iastore, 1) := by decide +kernel
theorem dX8_sheet_76 : decode cX8_sheet 76 = .ok (.iinc 4 1, 3) := by decide +kernel
theorem dX8_sheet_79 : decode cX8_sheet 79 = .ok (.goto (-23), 3) := by decide +kernel
theorem dX8_sheet_82 : decode cX8_sheet 82 = .ok (.iconst 1, 1) := by decide +kernel
theorem dX8_sheet_83 : decode cX8_sheet 83 = .ok (.ireturn, 1) := by decide +kernel
set_option maxRecDepth 20000 in
theorem ggX8_lay_X8_in : GoodIn wsX8_lay wsX8_in := goodIn_r _ [8] (by decide +kernel) (by decide +kernel)
set_option maxRecDepth 20000 in
theorem gX8_lay_X8_in : GoodIn wsX8_lay (va_wsS RX8 72 yX8_in wsX8_in) := goodIn_app (goodIn_of _ (by decide +kernel)) ggX8_lay_X8_in
theorem dX8_lay_0 : decode cX8_lay 0 = .ok (.iload_n 1, 1) := by decide +kernel
theorem dX8_lay_1 : decode cX8_lay 1 = .ok (.i2l, 1) := by decide +kernel
theorem dX8_lay_2 : decode cX8_lay 2 = .ok (.lconst 0, 1) := by decide +kernel
theorem dX8_lay_3 : decode cX8_lay 3 = .ok (.ldc2_w 150, 3) := by decide +kernel
theorem dX8_lay_6 : decode cX8_lay 6 = .ok (.invokestatic 72, 3) := by decide +kernel
theorem dX8_lay_9 : decode cX8_lay 9 = .ok (.ifCond .ne 5, 3) := by decide +kernel
theorem dX8_lay_12 : decode cX8_lay 12 = .ok (.iconst (-1), 1) := by decide +kernel
theorem dX8_lay_13 : decode cX8_lay 13 = .ok (.ireturn, 1) := by decide +kernel
theorem dX8_lay_14 : decode cX8_lay 14 = .ok (.aload_n 0, 1) := by decide +kernel
theorem dX8_lay_15 : decode cX8_lay 15 = .ok (.getfield 60, 3) := by decide +kernel
theorem dX8_lay_18 : decode cX8_lay 18 = .ok (.iload_n 1, 1) := by decide +kernel
theorem dX8_lay_19 : decode cX8_lay 19 = .ok (.iaload, 1) := by decide +kernel
theorem dX8_lay_20 : decode cX8_lay 20 = .ok (.bipush (-4), 2) := by decide +kernel
theorem dX8_lay_22 : decode cX8_lay 22 = .ok (.if_icmp .ne 6, 3) := by decide +kernel
theorem dX8_lay_25 : decode cX8_lay 25 = .ok (.bipush (-11), 2) := by decide +kernel
theorem dX8_lay_27 : decode cX8_lay 27 = .ok (.ireturn, 1) := by decide +kernel
theorem dX8_lay_28 : decode cX8_lay 28 = .ok (.iload_n 2, 1) := by decide +kernel
theorem dX8_lay_29 : decode cX8_lay 29 = .ok (.i2l, 1) := by decide +kernel
theorem dX8_lay_30 : decode cX8_lay 30 = .ok (.lconst 0, 1) := by decide +kernel
theorem dX8_lay_31 : decode cX8_lay 31 = .ok (.aload_n 0, 1) := by decide +kernel
theorem dX8_lay_32 : decode cX8_lay 32 = .ok (.getfield 63, 3) := by decide +kernel
theorem dX8_lay_35 : decode cX8_lay 35 = .ok (.iload_n 1, 1) := by decide +kernel
theorem dX8_lay_36 : decode cX8_lay 36 = .ok (.iaload, 1) := by decide +kernel
theorem dX8_lay_37 : decode cX8_lay 37 = .ok (.iconst 1, 1) := by decide +kernel
theorem dX8_lay_38 : decode cX8_lay 38 = .ok (.isub, 1) := by decide +kernel
theorem dX8_lay_39 : decode cX8_lay 39 = .ok (.i2l, 1) := by decide +kernel
theorem dX8_lay_40 : decode cX8_lay 40 = .ok (.invokestatic 72, 3) := by decide +kernel
theorem dX8_lay_43 : decode cX8_lay 43 = .ok (.ifCond .ne 6, 3) := by decide +kernel
theorem dX8_lay_46 : decode cX8_lay 46 = .ok (.bipush (-12), 2) := by decide +kernel
theorem dX8_lay_48 : decode cX8_lay 48 = .ok (.ireturn, 1) := by decide +kernel
theorem dX8_lay_49 : decode cX8_lay 49 = .ok (.aload_n 0, 1) := by decide +kernel
theorem dX8_lay_50 : decode cX8_lay 50 = .ok (.getfield 66, 3) := by decide +kernel
theorem dX8_lay_53 : decode cX8_lay 53 = .ok (.bipush 40, 2) := by decide +kernel
theorem dX8_lay_55 : decode cX8_lay 55 = .ok (.iload_n 1, 1) := by decide +kernel
theorem dX8_lay_56 : decode cX8_lay 56 = .ok (.imul, 1) := by decide +kernel
theorem dX8_lay_57 : decode cX8_lay 57 = .ok (.iload_n 2, 1) := by decide +kernel
theorem dX8_lay_58 : decode cX8_lay 58 = .ok (.iadd, 1) := by decide +kernel
theorem dX8_lay_59 : decode cX8_lay 59 = .ok (.aload_n 0, 1) := by decide +kernel
theorem dX8_lay_60 : decode cX8_lay 60 = .ok (.getfield 60, 3) := by decide +kernel
theorem dX8_lay_63 : decode cX8_lay 63 = .ok (.iload_n 1, 1) := by decide +kernel
theorem dX8_lay_64 : decode cX8_lay 64 = .ok (.iaload, 1) := by decide +kernel
theorem dX8_lay_65 : decode cX8_lay 65 = .ok (.ifCond .ne 13, 3) := by decide +kernel
theorem dX8_lay_68 : decode cX8_lay 68 = .ok (.iload_n 3, 1) := by decide +kernel
theorem dX8_lay_69 : decode cX8_lay 69 = .ok (.bipush 24, 2) := by decide +kernel
theorem dX8_lay_71 : decode cX8_lay 71 = .ok (.ishl, 1) := by decide +kernel
theorem dX8_lay_72 : decode cX8_lay 72 = .ok (.bipush 24, 2) := by decide +kernel
theorem dX8_lay_74 : decode cX8_lay 74 = .ok (.ishr, 1) := by decide +kernel
theorem dX8_lay_75 : decode cX8_lay 75 = .ok (.goto 24, 3) := by decide +kernel
theorem dX8_lay_78 : decode cX8_lay 78 = .ok (.aload_n 0, 1) := by decide +kernel
theorem dX8_lay_79 : decode cX8_lay 79 = .ok (.getfield 60, 3) := by decide +kernel
theorem dX8_lay_82 : decode cX8_lay 82 = .ok (.iload_n 1, 1) := by decide +kernel
theorem dX8_lay_83 : decode cX8_lay 83 = .ok (.iaload, 1) := by decide +kernel
theorem dX8_lay_84 : decode cX8_lay 84 = .ok (.iconst 1, 1) := by decide +kernel
theorem dX8_lay_85 : decode cX8_lay 85 = .ok (.if_icmp .ne 13, 3) := by decide +kernel
theorem dX8_lay_88 : decode cX8_lay 88 = .ok (.iload_n 3, 1) := by decide +kernel
theorem dX8_lay_89 : decode cX8_lay 89 = .ok (.bipush 16, 2) := by decide +kernel
theorem dX8_lay_91 : decode cX8_lay 91 = .ok (.ishl, 1) := by decide +kernel
theorem dX8_lay_92 : decode cX8_lay 92 = .ok (.bipush 16, 2) := by decide +kernel
theorem dX8_lay_94 : decode cX8_lay 94 = .ok (.ishr, 1) := by decide +kernel
theorem dX8_lay_95 : decode cX8_lay 95 = .ok (.goto 4, 3) := by decide +kernel
theorem dX8_lay_98 : decode cX8_lay 98 = .ok (.iload_n 3, 1) := by decide +kernel
theorem dX8_lay_99 : decode cX8_lay 99 = .ok (.iastore, 1) := by decide +kernel
theorem dX8_lay_100 : decode cX8_lay 100 = .ok (.iconst 1, 1) := by decide +kernel
theorem dX8_lay_101 : decode cX8_lay 101 = .ok (.ireturn, 1) := by decide +kernel
set_option maxRecDepth 20000 in
theorem ggX8_read_X8_in : GoodIn wsX8_read wsX8_in := goodIn_r _ [11] (by decide +kernel) (by decide +kernel)
set_option maxRecDepth 20000 in
theorem gX8_read_X8_in : GoodIn wsX8_read (va_wsS RX8 72 yX8_in wsX8_in) := goodIn_app (goodIn_of _ (by decide +kernel)) ggX8_read_X8_in
set_option maxRecDepth 20000 in
theorem ggX8_read_X8_copies : GoodIn wsX8_read wsX8_copies := goodIn_r _ [15, 16, 69, 70, 71, 72, 73, 74, 75, 76, 77, 78, 79, 80, 81, 82, 83, 84, 85, 86, 87, 88, 89, 90, 91, 92, 93, 94, 95, 96, 97, 98, 99, 100, 101, 102, 103, 104, 105, 106, 107] (by decide +kernel) (by decide +kernel)
set_option maxRecDepth 20000 in
theorem gX8_read_X8_copies : GoodIn wsX8_read (wsV RX8 286 RX8 yX8_copies wsX8_copies) := goodIn_app (goodIn_of _ (by decide +kernel)) ggX8_read_X8_copies
set_option maxRecDepth 20000 in
theorem ggX8_read_X8_goes : GoodIn wsX8_read wsX8_goes := goodIn_r _ [20, 16, 21, 22, 23, 10, 24, 25, 8, 9, 11, 26, 27, 28, 29, 30, 31, 32, 33, 34, 35, 36, 37, 38, 39, 40, 41, 42, 43, 44, 45, 46, 47, 48, 49, 50, 51, 52, 53, 54, 55, 56, 57, 58, 59, 60, 61, 62, 63, 64, 65, 66, 67, 68, 69, 70, 71, 72, 73, 74, 75, 76, 77, 78, 79, 80, 81, 82, 83, 84, 85, 86, 87, 88, 89, 90, 91, 92, 93, 94, 95, 96, 97, 98, 99, 100, 101, 102, 103, 104, 105, 106, 107] (by decide +kernel) (by decide +kernel)
set_option maxRecDepth 20000 in
theorem gX8_read_X8_goes : GoodIn wsX8_read (wsV RX8 237 RX8 yX8_goes wsX8_goes) := goodIn_app (goodIn_of _ (by decide +kernel)) ggX8_read_X8_goes
theorem dX8_read_0 : decode cX8_read 0 = .ok (.iload_n 1, 1) := by decide +kernel
theorem dX8_read_1 : decode cX8_read 1 = .ok (.i2l, 1) := by decide +kernel
theorem dX8_read_2 : decode cX8_read 2 = .ok (.lconst 0, 1) := by decide +kernel
theorem dX8_read_3 : decode cX8_read 3 = .ok (.ldc2_w 150, 3) := by decide +kernel
theorem dX8_read_6 : decode cX8_read 6 = .ok (.invokestatic 72, 3) := by decide +kernel
theorem dX8_read_9 : decode cX8_read 9 = .ok (.ifCond .eq 28, 3) := by decide +kernel
theorem dX8_read_12 : decode cX8_read 12 = .ok (.iload_n 2, 1) := by decide +kernel
theorem dX8_read_13 : decode cX8_read 13 = .ok (.i2l, 1) := by decide +kernel
theorem dX8_read_14 : decode cX8_read 14 = .ok (.lconst 0, 1) := by decide +kernel
theorem dX8_read_15 : decode cX8_read 15 = .ok (.ldc2_w 194, 3) := by decide +kernel
theorem dX8_read_18 : decode cX8_read 18 = .ok (.invokestatic 72, 3) := by decide +kernel
theorem dX8_read_21 : decode cX8_read 21 = .ok (.ifCond .eq 16, 3) := by decide +kernel
theorem dX8_read_24 : decode cX8_read 24 = .ok (.iload 4, 2) := by decide +kernel
theorem dX8_read_26 : decode cX8_read 26 = .ok (.i2l, 1) := by decide +kernel
theorem dX8_read_27 : decode cX8_read 27 = .ok (.lconst 0, 1) := by decide +kernel
theorem dX8_read_28 : decode cX8_read 28 = .ok (.ldc2_w 290, 3) := by decide +kernel
theorem dX8_read_31 : decode cX8_read 31 = .ok (.invokestatic 72, 3) := by decide +kernel
theorem dX8_read_34 : decode cX8_read 34 = .ok (.ifCond .ne 5, 3) := by decide +kernel
theorem dX8_read_37 : decode cX8_read 37 = .ok (.iconst (-1), 1) := by decide +kernel
theorem dX8_read_38 : decode cX8_read 38 = .ok (.ireturn, 1) := by decide +kernel
theorem dX8_read_39 : decode cX8_read 39 = .ok (.aload_n 0, 1) := by decide +kernel
theorem dX8_read_40 : decode cX8_read 40 = .ok (.iconst 0, 1) := by decide +kernel
theorem dX8_read_41 : decode cX8_read 41 = .ok (.sipush 147, 3) := by decide +kernel
theorem dX8_read_44 : decode cX8_read 44 = .ok (.invokevirtual 286, 3) := by decide +kernel
theorem dX8_read_47 : decode cX8_read 47 = .ok (.iconst 0, 1) := by decide +kernel
theorem dX8_read_48 : decode cX8_read 48 = .ok (.istore 5, 2) := by decide +kernel
theorem dX8_read_50 : decode cX8_read 50 = .ok (.iconst 0, 1) := by decide +kernel
theorem dX8_read_51 : decode cX8_read 51 = .ok (.istore 6, 2) := by decide +kernel
theorem dX8_read_53 : decode cX8_read 53 = .ok (.iload 6, 2) := by decide +kernel
theorem dX8_read_55 : decode cX8_read 55 = .ok (.iload 4, 2) := by decide +kernel
theorem dX8_read_57 : decode cX8_read 57 = .ok (.if_icmp .ge 112, 3) := by decide +kernel
theorem dX8_read_60 : decode cX8_read 60 = .ok (.iload 5, 2) := by decide +kernel
theorem dX8_read_62 : decode cX8_read 62 = .ok (.ifCond .ne 107, 3) := by decide +kernel
theorem dX8_read_65 : decode cX8_read 65 = .ok (.aload_n 0, 1) := by decide +kernel
theorem dX8_read_66 : decode cX8_read 66 = .ok (.getfield 60, 3) := by decide +kernel
theorem dX8_read_69 : decode cX8_read 69 = .ok (.iload_n 1, 1) := by decide +kernel
theorem dX8_read_70 : decode cX8_read 70 = .ok (.iaload, 1) := by decide +kernel
theorem dX8_read_71 : decode cX8_read 71 = .ok (.bipush (-4), 2) := by decide +kernel
theorem dX8_read_73 : decode cX8_read 73 = .ok (.if_icmp .ne 7, 3) := by decide +kernel
theorem dX8_read_76 : decode cX8_read 76 = .ok (.iconst 1, 1) := by decide +kernel
theorem dX8_read_77 : decode cX8_read 77 = .ok (.goto 44, 3) := by decide +kernel
theorem dX8_read_80 : decode cX8_read 80 = .ok (.aload_n 0, 1) := by decide +kernel
theorem dX8_read_81 : decode cX8_read 81 = .ok (.getfield 60, 3) := by decide +kernel
theorem dX8_read_84 : decode cX8_read 84 = .ok (.iload_n 1, 1) := by decide +kernel
theorem dX8_read_85 : decode cX8_read 85 = .ok (.iaload, 1) := by decide +kernel
theorem dX8_read_86 : decode cX8_read 86 = .ok (.iload_n 2, 1) := by decide +kernel
theorem dX8_read_87 : decode cX8_read 87 = .ok (.if_icmp .eq 7, 3) := by decide +kernel
theorem dX8_read_90 : decode cX8_read 90 = .ok (.iconst 3, 1) := by decide +kernel
theorem dX8_read_91 : decode cX8_read 91 = .ok (.goto 30, 3) := by decide +kernel
theorem dX8_read_94 : decode cX8_read 94 = .ok (.iload_n 3, 1) := by decide +kernel
theorem dX8_read_95 : decode cX8_read 95 = .ok (.i2l, 1) := by decide +kernel
theorem dX8_read_96 : decode cX8_read 96 = .ok (.iload 6, 2) := by decide +kernel
theorem dX8_read_98 : decode cX8_read 98 = .ok (.i2l, 1) := by decide +kernel
theorem dX8_read_99 : decode cX8_read 99 = .ok (.ladd, 1) := by decide +kernel
theorem dX8_read_100 : decode cX8_read 100 = .ok (.lconst 0, 1) := by decide +kernel
theorem dX8_read_101 : decode cX8_read 101 = .ok (.aload_n 0, 1) := by decide +kernel
theorem dX8_read_102 : decode cX8_read 102 = .ok (.getfield 63, 3) := by decide +kernel
theorem dX8_read_105 : decode cX8_read 105 = .ok (.iload_n 1, 1) := by decide +kernel
theorem dX8_read_106 : decode cX8_read 106 = .ok (.iaload, 1) := by decide +kernel
theorem dX8_read_107 : decode cX8_read 107 = .ok (.iconst 1, 1) := by decide +kernel
theorem dX8_read_108 : decode cX8_read 108 = .ok (.isub, 1) := by decide +kernel
theorem dX8_read_109 : decode cX8_read 109 = .ok (.i2l, 1) := by decide +kernel
theorem dX8_read_110 : decode cX8_read 110 = .ok (.invokestatic 72, 3) := by decide +kernel
theorem dX8_read_113 : decode cX8_read 113 = .ok (.ifCond .ne 7, 3) := by decide +kernel
theorem dX8_read_116 : decode cX8_read 116 = .ok (.iconst 2, 1) := by decide +kernel
theorem dX8_read_117 : decode cX8_read 117 = .ok (.goto 4, 3) := by decide +kernel
theorem dX8_read_120 : decode cX8_read 120 = .ok (.iconst 0, 1) := by decide +kernel
theorem dX8_read_121 : decode cX8_read 121 = .ok (.istore 5, 2) := by decide +kernel
theorem dX8_read_123 : decode cX8_read 123 = .ok (.iload 5, 2) := by decide +kernel
theorem dX8_read_125 : decode cX8_read 125 = .ok (.ifCond .ne (-72), 3) := by decide +kernel
theorem dX8_read_128 : decode cX8_read 128 = .ok (.aload_n 0, 1) := by decide +kernel
theorem dX8_read_129 : decode cX8_read 129 = .ok (.aload_n 0, 1) := by decide +kernel
theorem dX8_read_130 : decode cX8_read 130 = .ok (.getfield 66, 3) := by decide +kernel
theorem dX8_read_133 : decode cX8_read 133 = .ok (.bipush 40, 2) := by decide +kernel
theorem dX8_read_135 : decode cX8_read 135 = .ok (.iload_n 1, 1) := by decide +kernel
theorem dX8_read_136 : decode cX8_read 136 = .ok (.imul, 1) := by decide +kernel
theorem dX8_read_137 : decode cX8_read 137 = .ok (.iload_n 3, 1) := by decide +kernel
theorem dX8_read_138 : decode cX8_read 138 = .ok (.iadd, 1) := by decide +kernel
theorem dX8_read_139 : decode cX8_read 139 = .ok (.iload 6, 2) := by decide +kernel
theorem dX8_read_141 : decode cX8_read 141 = .ok (.iadd, 1) := by decide +kernel
theorem dX8_read_142 : decode cX8_read 142 = .ok (.iaload, 1) := by decide +kernel
theorem dX8_read_143 : decode cX8_read 143 = .ok (.invokevirtual 237, 3) := by decide +kernel
theorem dX8_read_146 : decode cX8_read 146 = .ok (.ifCond .ge 17, 3) := by decide +kernel
theorem dX8_read_149 : decode cX8_read 149 = .ok (.aload_n 0, 1) := by decide +kernel
theorem dX8_read_150 : decode cX8_read 150 = .ok (.sipush 147, 3) := by decide +kernel
theorem dX8_read_153 : decode cX8_read 153 = .ok (.iconst 0, 1) := by decide +kernel
theorem dX8_read_154 : decode cX8_read 154 = .ok (.invokevirtual 286, 3) := by decide +kernel
theorem dX8_read_157 : decode cX8_read 157 = .ok (.bipush (-20), 2) := by decide +kernel
theorem dX8_read_159 : decode cX8_read 159 = .ok (.iload 6, 2) := by decide +kernel
theorem dX8_read_161 : decode cX8_read 161 = .ok (.isub, 1) := by decide +kernel
theorem dX8_read_162 : decode cX8_read 162 = .ok (.ireturn, 1) := by decide +kernel
theorem dX8_read_163 : decode cX8_read 163 = .ok (.iinc 6 1, 3) := by decide +kernel
theorem dX8_read_166 : decode cX8_read 166 = .ok (.goto (-113), 3) := by decide +kernel
theorem dX8_read_169 : decode cX8_read 169 = .ok (.aload_n 0, 1) := by decide +kernel
theorem dX8_read_170 : decode cX8_read 170 = .ok (.iload 5, 2) := by decide +kernel
theorem dX8_read_172 : decode cX8_read 172 = .ok (.putfield 292, 3) := by decide +kernel
theorem dX8_read_175 : decode cX8_read 175 = .ok (.iload 6, 2) := by decide +kernel
theorem dX8_read_177 : decode cX8_read 177 = .ok (.ireturn, 1) := by decide +kernel
theorem dX8_torn_0 : decode cX8_torn 0 = .ok (.aload_n 0, 1) := by decide +kernel
theorem dX8_torn_1 : decode cX8_torn 1 = .ok (.getfield 292, 3) := by decide +kernel
theorem dX8_torn_4 : decode cX8_torn 4 = .ok (.ireturn, 1) := by decide +kernel
theorem dX8_count_0 : decode cX8_count 0 = .ok (.iconst 0, 1) := by decide +kernel
theorem dX8_count_1 : decode cX8_count 1 = .ok (.istore_n 2, 1) := by decide +kernel
theorem dX8_count_2 : decode cX8_count 2 = .ok (.iconst 0, 1) := by decide +kernel
theorem dX8_count_3 : decode cX8_count 3 = .ok (.istore_n 3, 1) := by decide +kernel
theorem dX8_count_4 : decode cX8_count 4 = .ok (.iload_n 3, 1) := by decide +kernel
theorem dX8_count_5 : decode cX8_count 5 = .ok (.aload_n 0, 1) := by decide +kernel
theorem dX8_count_6 : decode cX8_count 6 = .ok (.getfield 175, 3) := by decide +kernel
theorem dX8_count_9 : decode cX8_count 9 = .ok (.if_icmp .ge 22, 3) := by decide +kernel
theorem dX8_count_12 : decode cX8_count 12 = .ok (.iload_n 2, 1) := by decide +kernel
theorem dX8_count_13 : decode cX8_count 13 = .ok (.aload_n 0, 1) := by decide +kernel
theorem dX8_count_14 : decode cX8_count 14 = .ok (.getfield 7, 3) := by decide +kernel
theorem dX8_count_17 : decode cX8_count 17 = .ok (.iconst 3, 1) := by decide +kernel
theorem dX8_count_18 : decode cX8_count 18 = .ok (.iload_n 3, 1) := by decide +kernel
theorem dX8_count_19 : decode cX8_count 19 = .ok (.imul, 1) := by decide +kernel
theorem dX8_count_20 : decode cX8_count 20 = .ok (.iconst 2, 1) := by decide +kernel
theorem dX8_count_21 : decode cX8_count 21 = .ok (.iadd, 1) := by decide +kernel
theorem dX8_count_22 : decode cX8_count 22 = .ok (.iaload, 1) := by decide +kernel
theorem dX8_count_23 : decode cX8_count 23 = .ok (.iadd, 1) := by decide +kernel
theorem dX8_count_24 : decode cX8_count 24 = .ok (.istore_n 2, 1) := by decide +kernel
theorem dX8_count_25 : decode cX8_count 25 = .ok (.iinc 3 1, 3) := by decide +kernel
theorem dX8_count_28 : decode cX8_count 28 = .ok (.goto (-24), 3) := by decide +kernel
theorem dX8_count_31 : decode cX8_count 31 = .ok (.iload_n 1, 1) := by decide +kernel
theorem dX8_count_32 : decode cX8_count 32 = .ok (.tableswitch 122 0 6 #[44, 52, 57, 62, 92, 97, 120], 44) := by decide +kernel
theorem dX8_count_76 : decode cX8_count 76 = .ok (.aload_n 0, 1) := by decide +kernel
theorem dX8_count_77 : decode cX8_count 77 = .ok (.getfield 7, 3) := by decide +kernel
theorem dX8_count_80 : decode cX8_count 80 = .ok (.bipush 46, 2) := by decide +kernel
theorem dX8_count_82 : decode cX8_count 82 = .ok (.iaload, 1) := by decide +kernel
theorem dX8_count_83 : decode cX8_count 83 = .ok (.ireturn, 1) := by decide +kernel
theorem dX8_count_84 : decode cX8_count 84 = .ok (.aload_n 0, 1) := by decide +kernel
theorem dX8_count_85 : decode cX8_count 85 = .ok (.getfield 181, 3) := by decide +kernel
theorem dX8_count_88 : decode cX8_count 88 = .ok (.ireturn, 1) := by decide +kernel
theorem dX8_count_89 : decode cX8_count 89 = .ok (.aload_n 0, 1) := by decide +kernel
theorem dX8_count_90 : decode cX8_count 90 = .ok (.getfield 184, 3) := by decide +kernel
theorem dX8_count_93 : decode cX8_count 93 = .ok (.ireturn, 1) := by decide +kernel
theorem dX8_count_94 : decode cX8_count 94 = .ok (.aload_n 0, 1) := by decide +kernel
theorem dX8_count_95 : decode cX8_count 95 = .ok (.getfield 56, 3) := by decide +kernel
theorem dX8_count_98 : decode cX8_count 98 = .ok (.iconst 0, 1) := by decide +kernel
theorem dX8_count_99 : decode cX8_count 99 = .ok (.baload, 1) := by decide +kernel
theorem dX8_count_100 : decode cX8_count 100 = .ok (.ifCond .eq 7, 3) := by decide +kernel
theorem dX8_count_103 : decode cX8_count 103 = .ok (.iconst 1, 1) := by decide +kernel
theorem dX8_count_104 : decode cX8_count 104 = .ok (.goto 4, 3) := by decide +kernel
theorem dX8_count_107 : decode cX8_count 107 = .ok (.iconst 0, 1) := by decide +kernel
theorem dX8_count_108 : decode cX8_count 108 = .ok (.aload_n 0, 1) := by decide +kernel
theorem dX8_count_109 : decode cX8_count 109 = .ok (.getfield 56, 3) := by decide +kernel
theorem dX8_count_112 : decode cX8_count 112 = .ok (.iconst 1, 1) := by decide +kernel
theorem dX8_count_113 : decode cX8_count 113 = .ok (.baload, 1) := by decide +kernel
theorem dX8_count_114 : decode cX8_count 114 = .ok (.ifCond .eq 7, 3) := by decide +kernel
theorem dX8_count_117 : decode cX8_count 117 = .ok (.iconst 1, 1) := by decide +kernel
theorem dX8_count_118 : decode cX8_count 118 = .ok (.goto 4, 3) := by decide +kernel
theorem dX8_count_121 : decode cX8_count 121 = .ok (.iconst 0, 1) := by decide +kernel
theorem dX8_count_122 : decode cX8_count 122 = .ok (.iadd, 1) := by decide +kernel
theorem dX8_count_123 : decode cX8_count 123 = .ok (.ireturn, 1) := by decide +kernel
theorem dX8_count_124 : decode cX8_count 124 = .ok (.aload_n 0, 1) := by decide +kernel
theorem dX8_count_125 : decode cX8_count 125 = .ok (.getfield 69, 3) := by decide +kernel
theorem dX8_count_128 : decode cX8_count 128 = .ok (.ireturn, 1) := by decide +kernel
theorem dX8_count_129 : decode cX8_count 129 = .ok (.aload_n 0, 1) := by decide +kernel
theorem dX8_count_130 : decode cX8_count 130 = .ok (.getfield 60, 3) := by decide +kernel
theorem dX8_count_133 : decode cX8_count 133 = .ok (.iconst 0, 1) := by decide +kernel
theorem dX8_count_134 : decode cX8_count 134 = .ok (.iaload, 1) := by decide +kernel
theorem dX8_count_135 : decode cX8_count 135 = .ok (.bipush (-4), 2) := by decide +kernel
theorem dX8_count_137 : decode cX8_count 137 = .ok (.if_icmp .ne 8, 3) := by decide +kernel
theorem dX8_count_140 : decode cX8_count 140 = .ok (.bipush (-4), 2) := by decide +kernel
theorem dX8_count_142 : decode cX8_count 142 = .ok (.goto 9, 3) := by decide +kernel
theorem dX8_count_145 : decode cX8_count 145 = .ok (.aload_n 0, 1) := by decide +kernel
theorem dX8_count_146 : decode cX8_count 146 = .ok (.getfield 63, 3) := by decide +kernel
theorem dX8_count_149 : decode cX8_count 149 = .ok (.iconst 0, 1) := by decide +kernel
theorem dX8_count_150 : decode cX8_count 150 = .ok (.iaload, 1) := by decide +kernel
theorem dX8_count_151 : decode cX8_count 151 = .ok (.ireturn, 1) := by decide +kernel
theorem dX8_count_152 : decode cX8_count 152 = .ok (.iload_n 2, 1) := by decide +kernel
theorem dX8_count_153 : decode cX8_count 153 = .ok (.ireturn, 1) := by decide +kernel
theorem dX8_count_154 : decode cX8_count 154 = .ok (.iconst (-1), 1) := by decide +kernel
theorem dX8_count_155 : decode cX8_count 155 = .ok (.ireturn, 1) := by decide +kernel
theorem dJ6_bitCount_0f7a4_0 : decode cJ6_bitCount_0f7a4 0 = .ok (.iload_n 0, 1) := by decide +kernel
theorem dJ6_bitCount_0f7a4_1 : decode cJ6_bitCount_0f7a4 1 = .ok (.iload_n 0, 1) := by decide +kernel
theorem dJ6_bitCount_0f7a4_2 : decode cJ6_bitCount_0f7a4 2 = .ok (.iconst 1, 1) := by decide +kernel
theorem dJ6_bitCount_0f7a4_3 : decode cJ6_bitCount_0f7a4 3 = .ok (.iushr, 1) := by decide +kernel
theorem dJ6_bitCount_0f7a4_4 : decode cJ6_bitCount_0f7a4 4 = .ok (.ldc_w 265, 3) := by decide +kernel
theorem dJ6_bitCount_0f7a4_7 : decode cJ6_bitCount_0f7a4 7 = .ok (.iand, 1) := by decide +kernel
theorem dJ6_bitCount_0f7a4_8 : decode cJ6_bitCount_0f7a4 8 = .ok (.isub, 1) := by decide +kernel
theorem dJ6_bitCount_0f7a4_9 : decode cJ6_bitCount_0f7a4 9 = .ok (.istore_n 0, 1) := by decide +kernel
theorem dJ6_bitCount_0f7a4_10 : decode cJ6_bitCount_0f7a4 10 = .ok (.iload_n 0, 1) := by decide +kernel
theorem dJ6_bitCount_0f7a4_11 : decode cJ6_bitCount_0f7a4 11 = .ok (.ldc_w 266, 3) := by decide +kernel
theorem dJ6_bitCount_0f7a4_14 : decode cJ6_bitCount_0f7a4 14 = .ok (.iand, 1) := by decide +kernel
theorem dJ6_bitCount_0f7a4_15 : decode cJ6_bitCount_0f7a4 15 = .ok (.iload_n 0, 1) := by decide +kernel
theorem dJ6_bitCount_0f7a4_16 : decode cJ6_bitCount_0f7a4 16 = .ok (.iconst 2, 1) := by decide +kernel
theorem dJ6_bitCount_0f7a4_17 : decode cJ6_bitCount_0f7a4 17 = .ok (.iushr, 1) := by decide +kernel
theorem dJ6_bitCount_0f7a4_18 : decode cJ6_bitCount_0f7a4 18 = .ok (.ldc_w 266, 3) := by decide +kernel
theorem dJ6_bitCount_0f7a4_21 : decode cJ6_bitCount_0f7a4 21 = .ok (.iand, 1) := by decide +kernel
theorem dJ6_bitCount_0f7a4_22 : decode cJ6_bitCount_0f7a4 22 = .ok (.iadd, 1) := by decide +kernel
theorem dJ6_bitCount_0f7a4_23 : decode cJ6_bitCount_0f7a4 23 = .ok (.istore_n 0, 1) := by decide +kernel
theorem dJ6_bitCount_0f7a4_24 : decode cJ6_bitCount_0f7a4 24 = .ok (.iload_n 0, 1) := by decide +kernel
theorem dJ6_bitCount_0f7a4_25 : decode cJ6_bitCount_0f7a4 25 = .ok (.iload_n 0, 1) := by decide +kernel
theorem dJ6_bitCount_0f7a4_26 : decode cJ6_bitCount_0f7a4 26 = .ok (.iconst 4, 1) := by decide +kernel
theorem dJ6_bitCount_0f7a4_27 : decode cJ6_bitCount_0f7a4 27 = .ok (.iushr, 1) := by decide +kernel
theorem dJ6_bitCount_0f7a4_28 : decode cJ6_bitCount_0f7a4 28 = .ok (.iadd, 1) := by decide +kernel
theorem dJ6_bitCount_0f7a4_29 : decode cJ6_bitCount_0f7a4 29 = .ok (.ldc_w 267, 3) := by decide +kernel
theorem dJ6_bitCount_0f7a4_32 : decode cJ6_bitCount_0f7a4 32 = .ok (.iand, 1) := by decide +kernel
theorem dJ6_bitCount_0f7a4_33 : decode cJ6_bitCount_0f7a4 33 = .ok (.istore_n 0, 1) := by decide +kernel
theorem dJ6_bitCount_0f7a4_34 : decode cJ6_bitCount_0f7a4 34 = .ok (.iload_n 0, 1) := by decide +kernel
theorem dJ6_bitCount_0f7a4_35 : decode cJ6_bitCount_0f7a4 35 = .ok (.iload_n 0, 1) := by decide +kernel
theorem dJ6_bitCount_0f7a4_36 : decode cJ6_bitCount_0f7a4 36 = .ok (.bipush 8, 2) := by decide +kernel
theorem dJ6_bitCount_0f7a4_38 : decode cJ6_bitCount_0f7a4 38 = .ok (.iushr, 1) := by decide +kernel
theorem dJ6_bitCount_0f7a4_39 : decode cJ6_bitCount_0f7a4 39 = .ok (.iadd, 1) := by decide +kernel
theorem dJ6_bitCount_0f7a4_40 : decode cJ6_bitCount_0f7a4 40 = .ok (.istore_n 0, 1) := by decide +kernel
theorem dJ6_bitCount_0f7a4_41 : decode cJ6_bitCount_0f7a4 41 = .ok (.iload_n 0, 1) := by decide +kernel
theorem dJ6_bitCount_0f7a4_42 : decode cJ6_bitCount_0f7a4 42 = .ok (.iload_n 0, 1) := by decide +kernel
theorem dJ6_bitCount_0f7a4_43 : decode cJ6_bitCount_0f7a4 43 = .ok (.bipush 16, 2) := by decide +kernel
theorem dJ6_bitCount_0f7a4_45 : decode cJ6_bitCount_0f7a4 45 = .ok (.iushr, 1) := by decide +kernel
theorem dJ6_bitCount_0f7a4_46 : decode cJ6_bitCount_0f7a4 46 = .ok (.iadd, 1) := by decide +kernel
theorem dJ6_bitCount_0f7a4_47 : decode cJ6_bitCount_0f7a4 47 = .ok (.istore_n 0, 1) := by decide +kernel
theorem dJ6_bitCount_0f7a4_48 : decode cJ6_bitCount_0f7a4 48 = .ok (.iload_n 0, 1) := by decide +kernel
theorem dJ6_bitCount_0f7a4_49 : decode cJ6_bitCount_0f7a4 49 = .ok (.bipush 63, 2) := by decide +kernel
theorem dJ6_bitCount_0f7a4_51 : decode cJ6_bitCount_0f7a4 51 = .ok (.iand, 1) := by decide +kernel
theorem dJ6_bitCount_0f7a4_52 : decode cJ6_bitCount_0f7a4 52 = .ok (.ireturn, 1) := by decide +kernel
theorem dJ9_min_7cf53_0 : decode cJ9_min_7cf53 0 = .ok (.iload_n 0, 1) := by decide +kernel
theorem dJ9_min_7cf53_1 : decode cJ9_min_7cf53 1 = .ok (.iload_n 1, 1) := by decide +kernel
theorem dJ9_min_7cf53_2 : decode cJ9_min_7cf53 2 = .ok (.if_icmp .gt 7, 3) := by decide +kernel
theorem dJ9_min_7cf53_5 : decode cJ9_min_7cf53 5 = .ok (.iload_n 0, 1) := by decide +kernel
theorem dJ9_min_7cf53_6 : decode cJ9_min_7cf53 6 = .ok (.goto 4, 3) := by decide +kernel
theorem dJ9_min_7cf53_9 : decode cJ9_min_7cf53 9 = .ok (.iload_n 1, 1) := by decide +kernel
theorem dJ9_min_7cf53_10 : decode cJ9_min_7cf53 10 = .ok (.ireturn, 1) := by decide +kernel
set_option maxRecDepth 20000 in
theorem ggJ0_length_8abf5_J0_coder_7d493 : GoodIn wsJ0_length_8abf5 wsJ0_coder_7d493 := goodIn_r _ [6, 7, 8] (by decide +kernel) (by decide +kernel)
set_option maxRecDepth 20000 in
theorem gJ0_length_8abf5_J0_coder_7d493 : GoodIn wsJ0_length_8abf5 (wsV RJ0 335 RJ0 yJ0_coder_7d493 wsJ0_coder_7d493) := goodIn_app (goodIn_of _ (by decide +kernel)) ggJ0_length_8abf5_J0_coder_7d493
theorem dJ0_length_8abf5_0 : decode cJ0_length_8abf5 0 = .ok (.aload_n 0, 1) := by decide +kernel
theorem dJ0_length_8abf5_1 : decode cJ0_length_8abf5 1 = .ok (.getfield 9, 3) := by decide +kernel
theorem dJ0_length_8abf5_4 : decode cJ0_length_8abf5 4 = .ok (.arraylength, 1) := by decide +kernel
theorem dJ0_length_8abf5_5 : decode cJ0_length_8abf5 5 = .ok (.aload_n 0, 1) := by decide +kernel
theorem dJ0_length_8abf5_6 : decode cJ0_length_8abf5 6 = .ok (.invokevirtual 335, 3) := by decide +kernel
theorem dJ0_length_8abf5_9 : decode cJ0_length_8abf5 9 = .ok (.ishr, 1) := by decide +kernel
theorem dJ0_length_8abf5_10 : decode cJ0_length_8abf5 10 = .ok (.ireturn, 1) := by decide +kernel
set_option maxRecDepth 20000 in
theorem ggJ0_charAt_5068e_J0_isLatin1_aae02 : GoodIn wsJ0_charAt_5068e wsJ0_isLatin1_aae02 := goodIn_r _ [6, 7, 8] (by decide +kernel) (by decide +kernel)
set_option maxRecDepth 20000 in
theorem gJ0_charAt_5068e_J0_isLatin1_aae02 : GoodIn wsJ0_charAt_5068e (wsV RJ0 492 RJ0 yJ0_isLatin1_aae02 wsJ0_isLatin1_aae02) := goodIn_app (goodIn_of _ (by decide +kernel)) ggJ0_charAt_5068e_J0_isLatin1_aae02
set_option maxRecDepth 20000 in
theorem ggJ0_charAt_5068e_J1_charAt_3b067 : GoodIn wsJ0_charAt_5068e wsJ1_charAt_3b067 := goodIn_r _ [12, 13, 14, 5, 15, 16, 17, 18, 19, 20] (by decide +kernel) (by decide +kernel)
set_option maxRecDepth 20000 in
theorem gJ0_charAt_5068e_J1_charAt_3b067 : GoodIn wsJ0_charAt_5068e (va_wsS RJ0 495 yJ1_charAt_3b067 wsJ1_charAt_3b067) := goodIn_app (goodIn_of _ (by decide +kernel)) ggJ0_charAt_5068e_J1_charAt_3b067
set_option maxRecDepth 20000 in
theorem ggJ0_charAt_5068e_J2_charAt_3b067 : GoodIn wsJ0_charAt_5068e wsJ2_charAt_3b067 := goodIn_r _ [24, 25, 26, 23, 27, 28, 29, 30, 31, 14, 5, 15, 16, 17, 18, 19, 20, 32, 33, 34, 35, 36, 37] (by decide +kernel) (by decide +kernel)
set_option maxRecDepth 20000 in
theorem gJ0_charAt_5068e_J2_charAt_3b067 : GoodIn wsJ0_charAt_5068e (va_wsS RJ0 498 yJ2_charAt_3b067 wsJ2_charAt_3b067) := goodIn_app (goodIn_of _ (by decide +kernel)) ggJ0_charAt_5068e_J2_charAt_3b067
theorem dJ0_charAt_5068e_0 : decode cJ0_charAt_5068e 0 = .ok (.aload_n 0, 1) := by decide +kernel
theorem dJ0_charAt_5068e_1 : decode cJ0_charAt_5068e 1 = .ok (.invokevirtual 492, 3) := by decide +kernel
theorem dJ0_charAt_5068e_4 : decode cJ0_charAt_5068e 4 = .ok (.ifCond .eq 12, 3) := by decide +kernel
theorem dJ0_charAt_5068e_7 : decode cJ0_charAt_5068e 7 = .ok (.aload_n 0, 1) := by decide +kernel
theorem dJ0_charAt_5068e_8 : decode cJ0_charAt_5068e 8 = .ok (.getfield 9, 3) := by decide +kernel
theorem dJ0_charAt_5068e_11 : decode cJ0_charAt_5068e 11 = .ok (.iload_n 1, 1) := by decide +kernel
theorem dJ0_charAt_5068e_12 : decode cJ0_charAt_5068e 12 = .ok (.invokestatic 495, 3) := by decide +kernel
theorem dJ0_charAt_5068e_15 : decode cJ0_charAt_5068e 15 = .ok (.ireturn, 1) := by decide +kernel
theorem dJ0_charAt_5068e_16 : decode cJ0_charAt_5068e 16 = .ok (.aload_n 0, 1) := by decide +kernel
theorem dJ0_charAt_5068e_17 : decode cJ0_charAt_5068e 17 = .ok (.getfield 9, 3) := by decide +kernel
theorem dJ0_charAt_5068e_20 : decode cJ0_charAt_5068e 20 = .ok (.iload_n 1, 1) := by decide +kernel
theorem dJ0_charAt_5068e_21 : decode cJ0_charAt_5068e 21 = .ok (.invokestatic 498, 3) := by decide +kernel
theorem dJ0_charAt_5068e_24 : decode cJ0_charAt_5068e 24 = .ok (.ireturn, 1) := by decide +kernel
theorem dJ0_coder_7d493_0 : decode cJ0_coder_7d493 0 = .ok (.getstatic 38, 3) := by decide +kernel
theorem dJ0_coder_7d493_3 : decode cJ0_coder_7d493 3 = .ok (.ifCond .eq 10, 3) := by decide +kernel
theorem dJ0_coder_7d493_6 : decode cJ0_coder_7d493 6 = .ok (.aload_n 0, 1) := by decide +kernel
theorem dJ0_coder_7d493_7 : decode cJ0_coder_7d493 7 = .ok (.getfield 15, 3) := by decide +kernel
theorem dJ0_coder_7d493_10 : decode cJ0_coder_7d493 10 = .ok (.goto 4, 3) := by decide +kernel
theorem dJ0_coder_7d493_13 : decode cJ0_coder_7d493 13 = .ok (.iconst 1, 1) := by decide +kernel
theorem dJ0_coder_7d493_14 : decode cJ0_coder_7d493 14 = .ok (.ireturn, 1) := by decide +kernel
theorem dJ0_isLatin1_aae02_0 : decode cJ0_isLatin1_aae02 0 = .ok (.getstatic 38, 3) := by decide +kernel
theorem dJ0_isLatin1_aae02_3 : decode cJ0_isLatin1_aae02 3 = .ok (.ifCond .eq 14, 3) := by decide +kernel
theorem dJ0_isLatin1_aae02_6 : decode cJ0_isLatin1_aae02 6 = .ok (.aload_n 0, 1) := by decide +kernel
theorem dJ0_isLatin1_aae02_7 : decode cJ0_isLatin1_aae02 7 = .ok (.getfield 15, 3) := by decide +kernel
theorem dJ0_isLatin1_aae02_10 : decode cJ0_isLatin1_aae02 10 = .ok (.ifCond .ne 7, 3) := by decide +kernel
theorem dJ0_isLatin1_aae02_13 : decode cJ0_isLatin1_aae02 13 = .ok (.iconst 1, 1) := by decide +kernel
theorem dJ0_isLatin1_aae02_14 : decode cJ0_isLatin1_aae02 14 = .ok (.goto 4, 3) := by decide +kernel
theorem dJ0_isLatin1_aae02_17 : decode cJ0_isLatin1_aae02 17 = .ok (.iconst 0, 1) := by decide +kernel
theorem dJ0_isLatin1_aae02_18 : decode cJ0_isLatin1_aae02 18 = .ok (.ireturn, 1) := by decide +kernel
set_option maxRecDepth 20000 in
theorem ggJ0_checkIndex_df160_J3_checkIndex_8e157 : GoodIn wsJ0_checkIndex_df160 wsJ3_checkIndex_8e157 := goodIn_r _ [5] (by decide +kernel) (by decide +kernel)
set_option maxRecDepth 20000 in
theorem gJ0_checkIndex_df160_J3_checkIndex_8e157 : GoodIn wsJ0_checkIndex_df160 (va_wsS RJ0 1059 yJ3_checkIndex_8e157 wsJ3_checkIndex_8e157) := goodIn_app (goodIn_of _ (by decide +kernel)) ggJ0_checkIndex_df160_J3_checkIndex_8e157
theorem dJ0_checkIndex_df160_0 : decode cJ0_checkIndex_df160 0 = .ok (.iload_n 0, 1) := by decide +kernel
theorem dJ0_checkIndex_df160_1 : decode cJ0_checkIndex_df160 1 = .ok (.iload_n 1, 1) := by decide +kernel
theorem dJ0_checkIndex_df160_2 : decode cJ0_checkIndex_df160 2 = .ok (.getstatic 1053, 3) := by decide +kernel
theorem dJ0_checkIndex_df160_5 : decode cJ0_checkIndex_df160 5 = .ok (.invokestatic 1059, 3) := by decide +kernel
theorem dJ0_checkIndex_df160_8 : decode cJ0_checkIndex_df160 8 = .ok (.pop, 1) := by decide +kernel
theorem dJ0_checkIndex_df160_9 : decode cJ0_checkIndex_df160 9 = .ok (.return_, 1) := by decide +kernel
set_option maxRecDepth 20000 in
theorem ggJ1_charAt_3b067_J0_checkIndex_df160 : GoodIn wsJ1_charAt_3b067 wsJ0_checkIndex_df160 := goodIn_r _ [4, 5, 6, 7, 8, 9] (by decide +kernel) (by decide +kernel)
set_option maxRecDepth 20000 in
theorem gJ1_charAt_3b067_J0_checkIndex_df160 : GoodIn wsJ1_charAt_3b067 (va_wsS RJ1 9 yJ0_checkIndex_df160 wsJ0_checkIndex_df160) := goodIn_app (goodIn_of _ (by decide +kernel)) ggJ1_charAt_3b067_J0_checkIndex_df160
theorem dJ1_charAt_3b067_0 : decode cJ1_charAt_3b067 0 = .ok (.iload_n 1, 1) := by decide +kernel
theorem dJ1_charAt_3b067_1 : decode cJ1_charAt_3b067 1 = .ok (.aload_n 0, 1) := by decide +kernel
theorem dJ1_charAt_3b067_2 : decode cJ1_charAt_3b067 2 = .ok (.arraylength, 1) := by decide +kernel
theorem dJ1_charAt_3b067_3 : decode cJ1_charAt_3b067 3 = .ok (.invokestatic 9, 3) := by decide +kernel
theorem dJ1_charAt_3b067_6 : decode cJ1_charAt_3b067 6 = .ok (.aload_n 0, 1) := by decide +kernel
theorem dJ1_charAt_3b067_7 : decode cJ1_charAt_3b067 7 = .ok (.iload_n 1, 1) := by decide +kernel
theorem dJ1_charAt_3b067_8 : decode cJ1_charAt_3b067 8 = .ok (.baload, 1) := by decide +kernel
theorem dJ1_charAt_3b067_9 : decode cJ1_charAt_3b067 9 = .ok (.sipush 255, 3) := by decide +kernel
theorem dJ1_charAt_3b067_12 : decode cJ1_charAt_3b067 12 = .ok (.iand, 1) := by decide +kernel
theorem dJ1_charAt_3b067_13 : decode cJ1_charAt_3b067 13 = .ok (.i2c, 1) := by decide +kernel
theorem dJ1_charAt_3b067_14 : decode cJ1_charAt_3b067 14 = .ok (.ireturn, 1) := by decide +kernel
set_option maxRecDepth 20000 in
theorem ggJ2_getChar_3b067_J2_length_9d52b : GoodIn wsJ2_getChar_3b067 wsJ2_length_9d52b := goodIn_r _ [7] (by decide +kernel) (by decide +kernel)
set_option maxRecDepth 20000 in
theorem gJ2_getChar_3b067_J2_length_9d52b : GoodIn wsJ2_getChar_3b067 (va_wsS RJ2 48 yJ2_length_9d52b wsJ2_length_9d52b) := goodIn_app (goodIn_of _ (by decide +kernel)) ggJ2_getChar_3b067_J2_length_9d52b
theorem dJ2_getChar_3b067_0 : decode cJ2_getChar_3b067 0 = .ok (.getstatic 44, 3) := by decide +kernel
theorem dJ2_getChar_3b067_3 : decode cJ2_getChar_3b067 3 = .ok (.ifCond .ne 25, 3) := by decide +kernel
theorem dJ2_getChar_3b067_6 : decode cJ2_getChar_3b067 6 = .ok (.iload_n 1, 1) := by decide +kernel
theorem dJ2_getChar_3b067_7 : decode cJ2_getChar_3b067 7 = .ok (.ifCond .lt 11, 3) := by decide +kernel
theorem dJ2_getChar_3b067_10 : decode cJ2_getChar_3b067 10 = .ok (.iload_n 1, 1) := by decide +kernel
theorem dJ2_getChar_3b067_11 : decode cJ2_getChar_3b067 11 = .ok (.aload_n 0, 1) := by decide +kernel
theorem dJ2_getChar_3b067_12 : decode cJ2_getChar_3b067 12 = .ok (.invokestatic 48, 3) := by decide +kernel
theorem dJ2_getChar_3b067_15 : decode cJ2_getChar_3b067 15 = .ok (.if_icmp .lt 13, 3) := by decide +kernel
theorem dJ2_getChar_3b067_18 : decode cJ2_getChar_3b067 18 = .ok (.new 52, 3) := by decide +kernel
theorem dJ2_getChar_3b067_21 : decode cJ2_getChar_3b067 21 = .ok (.dup, 1) := by decide +kernel
theorem dJ2_getChar_3b067_22 : decode cJ2_getChar_3b067 22 = .ok (.ldc 54, 2) := by decide +kernel
theorem dJ2_getChar_3b067_24 : decode cJ2_getChar_3b067 24 = .ok (.invokespecial 56, 3) := by decide +kernel
theorem dJ2_getChar_3b067_27 : decode cJ2_getChar_3b067 27 = .ok (.athrow, 1) := by decide +kernel
theorem dJ2_getChar_3b067_28 : decode cJ2_getChar_3b067 28 = .ok (.iload_n 1, 1) := by decide +kernel
theorem dJ2_getChar_3b067_29 : decode cJ2_getChar_3b067 29 = .ok (.iconst 1, 1) := by decide +kernel
theorem dJ2_getChar_3b067_30 : decode cJ2_getChar_3b067 30 = .ok (.ishl, 1) := by decide +kernel
theorem dJ2_getChar_3b067_31 : decode cJ2_getChar_3b067 31 = .ok (.istore_n 1, 1) := by decide +kernel
theorem dJ2_getChar_3b067_32 : decode cJ2_getChar_3b067 32 = .ok (.aload_n 0, 1) := by decide +kernel
theorem dJ2_getChar_3b067_33 : decode cJ2_getChar_3b067 33 = .ok (.iload_n 1, 1) := by decide +kernel
theorem dJ2_getChar_3b067_34 : decode cJ2_getChar_3b067 34 = .ok (.iinc 1 1, 3) := by decide +kernel
theorem dJ2_getChar_3b067_37 : decode cJ2_getChar_3b067 37 = .ok (.baload, 1) := by decide +kernel
theorem dJ2_getChar_3b067_38 : decode cJ2_getChar_3b067 38 = .ok (.sipush 255, 3) := by decide +kernel
theorem dJ2_getChar_3b067_41 : decode cJ2_getChar_3b067 41 = .ok (.iand, 1) := by decide +kernel
theorem dJ2_getChar_3b067_42 : decode cJ2_getChar_3b067 42 = .ok (.getstatic 59, 3) := by decide +kernel
theorem dJ2_getChar_3b067_45 : decode cJ2_getChar_3b067 45 = .ok (.ishl, 1) := by decide +kernel
theorem dJ2_getChar_3b067_46 : decode cJ2_getChar_3b067 46 = .ok (.aload_n 0, 1) := by decide +kernel
theorem dJ2_getChar_3b067_47 : decode cJ2_getChar_3b067 47 = .ok (.iload_n 1, 1) := by decide +kernel
theorem dJ2_getChar_3b067_48 : decode cJ2_getChar_3b067 48 = .ok (.baload, 1) := by decide +kernel
theorem dJ2_getChar_3b067_49 : decode cJ2_getChar_3b067 49 = .ok (.sipush 255, 3) := by decide +kernel
theorem dJ2_getChar_3b067_52 : decode cJ2_getChar_3b067 52 = .ok (.iand, 1) := by decide +kernel
theorem dJ2_getChar_3b067_53 : decode cJ2_getChar_3b067 53 = .ok (.getstatic 63, 3) := by decide +kernel
theorem dJ2_getChar_3b067_56 : decode cJ2_getChar_3b067 56 = .ok (.ishl, 1) := by decide +kernel
theorem dJ2_getChar_3b067_57 : decode cJ2_getChar_3b067 57 = .ok (.ior, 1) := by decide +kernel
theorem dJ2_getChar_3b067_58 : decode cJ2_getChar_3b067 58 = .ok (.i2c, 1) := by decide +kernel
theorem dJ2_getChar_3b067_59 : decode cJ2_getChar_3b067 59 = .ok (.ireturn, 1) := by decide +kernel
theorem dJ2_length_9d52b_0 : decode cJ2_length_9d52b 0 = .ok (.aload_n 0, 1) := by decide +kernel
theorem dJ2_length_9d52b_1 : decode cJ2_length_9d52b 1 = .ok (.arraylength, 1) := by decide +kernel
theorem dJ2_length_9d52b_2 : decode cJ2_length_9d52b 2 = .ok (.iconst 1, 1) := by decide +kernel
theorem dJ2_length_9d52b_3 : decode cJ2_length_9d52b 3 = .ok (.ishr, 1) := by decide +kernel
