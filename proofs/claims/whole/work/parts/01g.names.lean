set_option maxRecDepth 20000 in
theorem gX7_dusk_X7_isWithin : GoodIn wsX7_dusk (va_wsS RX7 87 yX7_isWithin wsX7_isWithin) := goodIn_app (goodIn_of _ (by decide +kernel)) ggX7_dusk_X7_isWithin
set_option maxRecDepth 20000 in
theorem ggX7_dusk_X6_copyFrom : GoodIn wsX7_dusk wsX6_copyFrom := goodIn_r _ [11, 12, 13, 14, 15, 16, 17, 18, 19, 20, 21, 22, 23, 24, 25, 74, 75, 76, 77, 78, 79, 80, 81, 82, 83, 84] (by decide +kernel) (by decide +kernel)
set_option maxRecDepth 20000 in
theorem gX7_dusk_X6_copyFrom : GoodIn wsX7_dusk (wsV RX7 107 RX6 yX6_copyFrom wsX6_copyFrom) := goodIn_app (goodIn_of _ (by decide +kernel)) ggX7_dusk_X6_copyFrom
set_option maxRecDepth 20000 in
theorem ggX7_dusk_X6_applyRules : GoodIn wsX7_dusk wsX6_applyRules := goodIn_r _ [29, 30, 31, 32, 33, 34, 35, 10, 36, 18, 12, 37, 38, 5, 39, 40, 41, 42, 43, 74, 75, 76, 77, 78, 79, 80, 81, 82, 83, 84, 85, 86, 87, 88, 89, 90] (by decide +kernel) (by decide +kernel)
set_option maxRecDepth 20000 in
theorem gX7_dusk_X6_applyRules : GoodIn wsX7_dusk (wsV RX7 192 RX6 yX6_applyRules wsX6_applyRules) := goodIn_app (goodIn_of _ (by decide +kernel)) ggX7_dusk_X6_applyRules
set_option maxRecDepth 20000 in
theorem ggX7_dusk_X6_ofDoor : GoodIn wsX7_dusk wsX6_ofDoor := goodIn_r _ [47, 30, 48, 12, 49, 50, 51, 52, 53, 54, 4, 5, 6, 55, 56, 57, 10, 58, 18, 59, 60, 74, 75, 76, 77, 78, 79, 80, 81, 82, 83, 84, 85, 86, 87, 88, 89, 90] (by decide +kernel) (by decide +kernel)
set_option maxRecDepth 20000 in
theorem gX7_dusk_X6_ofDoor : GoodIn wsX7_dusk (wsV RX7 151 RX6 yX6_ofDoor wsX6_ofDoor) := goodIn_app (goodIn_of _ (by decide +kernel)) ggX7_dusk_X6_ofDoor
theorem dX7_dusk_0 : decode cX7_dusk 0 = .ok (.iload_n 1, 1) := by decide +kernel
theorem dX7_dusk_1 : decode cX7_dusk 1 = .ok (.iconst 0, 1) := by decide +kernel
theorem dX7_dusk_2 : decode cX7_dusk 2 = .ok (.bipush 60, 2) := by decide +kernel
theorem dX7_dusk_4 : decode cX7_dusk 4 = .ok (.invokestatic 87, 3) := by decide +kernel
theorem dX7_dusk_7 : decode cX7_dusk 7 = .ok (.ifCond .ne 5, 3) := by decide +kernel
theorem dX7_dusk_10 : decode cX7_dusk 10 = .ok (.iconst (-1), 1) := by decide +kernel
theorem dX7_dusk_11 : decode cX7_dusk 11 = .ok (.ireturn, 1) := by decide +kernel
theorem dX7_dusk_12 : decode cX7_dusk 12 = .ok (.aload_n 0, 1) := by decide +kernel
theorem dX7_dusk_13 : decode cX7_dusk 13 = .ok (.getfield 25, 3) := by decide +kernel
theorem dX7_dusk_16 : decode cX7_dusk 16 = .ok (.aload_n 0, 1) := by decide +kernel
theorem dX7_dusk_17 : decode cX7_dusk 17 = .ok (.getfield 21, 3) := by decide +kernel
theorem dX7_dusk_20 : decode cX7_dusk 20 = .ok (.invokevirtual 107, 3) := by decide +kernel
theorem dX7_dusk_23 : decode cX7_dusk 23 = .ok (.iconst 0, 1) := by decide +kernel
theorem dX7_dusk_24 : decode cX7_dusk 24 = .ok (.istore 4, 2) := by decide +kernel
theorem dX7_dusk_26 : decode cX7_dusk 26 = .ok (.iload 4, 2) := by decide +kernel
theorem dX7_dusk_28 : decode cX7_dusk 28 = .ok (.iload_n 1, 1) := by decide +kernel
theorem dX7_dusk_29 : decode cX7_dusk 29 = .ok (.if_icmp .ge 16, 3) := by decide +kernel
theorem dX7_dusk_32 : decode cX7_dusk 32 = .ok (.aload_n 0, 1) := by decide +kernel
theorem dX7_dusk_33 : decode cX7_dusk 33 = .ok (.getfield 25, 3) := by decide +kernel
theorem dX7_dusk_36 : decode cX7_dusk 36 = .ok (.invokevirtual 192, 3) := by decide +kernel
theorem dX7_dusk_39 : decode cX7_dusk 39 = .ok (.iinc 4 1, 3) := by decide +kernel
theorem dX7_dusk_42 : decode cX7_dusk 42 = .ok (.goto (-16), 3) := by decide +kernel
theorem dX7_dusk_45 : decode cX7_dusk 45 = .ok (.aload_n 0, 1) := by decide +kernel
theorem dX7_dusk_46 : decode cX7_dusk 46 = .ok (.getfield 25, 3) := by decide +kernel
theorem dX7_dusk_49 : decode cX7_dusk 49 = .ok (.iload_n 2, 1) := by decide +kernel
theorem dX7_dusk_50 : decode cX7_dusk 50 = .ok (.iload_n 3, 1) := by decide +kernel
theorem dX7_dusk_51 : decode cX7_dusk 51 = .ok (.invokevirtual 151, 3) := by decide +kernel
theorem dX7_dusk_54 : decode cX7_dusk 54 = .ok (.ireturn, 1) := by decide +kernel
set_option maxRecDepth 20000 in
theorem ggX7_again_X6_copyFrom : GoodIn wsX7_again wsX6_copyFrom := goodIn_r _ [7, 8, 9, 10, 11, 12, 13, 14, 15, 16, 17, 18, 19, 20, 21, 59, 60, 61, 62, 63, 64, 65, 66, 67, 68, 69] (by decide +kernel) (by decide +kernel)
set_option maxRecDepth 20000 in
theorem gX7_again_X6_copyFrom : GoodIn wsX7_again (wsV RX7 107 RX6 yX6_copyFrom wsX6_copyFrom) := goodIn_app (goodIn_of _ (by decide +kernel)) ggX7_again_X6_copyFrom
set_option maxRecDepth 20000 in
theorem ggX7_again_X6_applyRules : GoodIn wsX7_again wsX6_applyRules := goodIn_r _ [25, 26, 27, 28, 29, 30, 31, 6, 32, 14, 8, 33, 34, 35, 36, 37, 38, 39, 40, 59, 60, 61, 62, 63, 64, 65, 66, 67, 68, 69, 70, 71, 72, 73, 74, 75] (by decide +kernel) (by decide +kernel)
set_option maxRecDepth 20000 in
theorem gX7_again_X6_applyRules : GoodIn wsX7_again (wsV RX7 192 RX6 yX6_applyRules wsX6_applyRules) := goodIn_app (goodIn_of _ (by decide +kernel)) ggX7_again_X6_applyRules
set_option maxRecDepth 20000 in
theorem ggX7_again_X6_hasDoorsOf : GoodIn wsX7_again wsX6_hasDoorsOf := goodIn_r _ [44, 14, 26, 45, 8, 59, 60, 61, 62, 63, 64, 65, 66, 67, 68, 69, 70, 71, 72, 73, 74, 75] (by decide +kernel) (by decide +kernel)
set_option maxRecDepth 20000 in
theorem gX7_again_X6_hasDoorsOf : GoodIn wsX7_again (wsV RX7 195 RX6 yX6_hasDoorsOf wsX6_hasDoorsOf) := goodIn_app (goodIn_of _ (by decide +kernel)) ggX7_again_X6_hasDoorsOf
theorem dX7_again_0 : decode cX7_again 0 = .ok (.aload_n 0, 1) := by decide +kernel
theorem dX7_again_1 : decode cX7_again 1 = .ok (.getfield 25, 3) := by decide +kernel
theorem dX7_again_4 : decode cX7_again 4 = .ok (.aload_n 0, 1) := by decide +kernel
theorem dX7_again_5 : decode cX7_again 5 = .ok (.getfield 21, 3) := by decide +kernel
theorem dX7_again_8 : decode cX7_again 8 = .ok (.invokevirtual 107, 3) := by decide +kernel
theorem dX7_again_11 : decode cX7_again 11 = .ok (.iconst 1, 1) := by decide +kernel
theorem dX7_again_12 : decode cX7_again 12 = .ok (.istore_n 1, 1) := by decide +kernel
theorem dX7_again_13 : decode cX7_again 13 = .ok (.iload_n 1, 1) := by decide +kernel
theorem dX7_again_14 : decode cX7_again 14 = .ok (.bipush 60, 2) := by decide +kernel
theorem dX7_again_16 : decode cX7_again 16 = .ok (.if_icmp .gt 32, 3) := by decide +kernel
theorem dX7_again_19 : decode cX7_again 19 = .ok (.aload_n 0, 1) := by decide +kernel
theorem dX7_again_20 : decode cX7_again 20 = .ok (.getfield 25, 3) := by decide +kernel
theorem dX7_again_23 : decode cX7_again 23 = .ok (.invokevirtual 192, 3) := by decide +kernel
theorem dX7_again_26 : decode cX7_again 26 = .ok (.aload_n 0, 1) := by decide +kernel
theorem dX7_again_27 : decode cX7_again 27 = .ok (.getfield 25, 3) := by decide +kernel
theorem dX7_again_30 : decode cX7_again 30 = .ok (.aload_n 0, 1) := by decide +kernel
theorem dX7_again_31 : decode cX7_again 31 = .ok (.getfield 21, 3) := by decide +kernel
theorem dX7_again_34 : decode cX7_again 34 = .ok (.invokevirtual 195, 3) := by decide +kernel
theorem dX7_again_37 : decode cX7_again 37 = .ok (.ifCond .eq 5, 3) := by decide +kernel
theorem dX7_again_40 : decode cX7_again 40 = .ok (.iload_n 1, 1) := by decide +kernel
theorem dX7_again_41 : decode cX7_again 41 = .ok (.ireturn, 1) := by decide +kernel
theorem dX7_again_42 : decode cX7_again 42 = .ok (.iinc 1 1, 3) := by decide +kernel
theorem dX7_again_45 : decode cX7_again 45 = .ok (.goto (-32), 3) := by decide +kernel
theorem dX7_again_48 : decode cX7_again 48 = .ok (.bipush (-4), 2) := by decide +kernel
theorem dX7_again_50 : decode cX7_again 50 = .ok (.ireturn, 1) := by decide +kernel
theorem dX7_thread_0 : decode cX7_thread 0 = .ok (.iload_n 1, 1) := by decide +kernel
theorem dX7_thread_1 : decode cX7_thread 1 = .ok (.ifCond .ge 5, 3) := by decide +kernel
theorem dX7_thread_4 : decode cX7_thread 4 = .ok (.iconst (-1), 1) := by decide +kernel
theorem dX7_thread_5 : decode cX7_thread 5 = .ok (.ireturn, 1) := by decide +kernel
theorem dX7_thread_6 : decode cX7_thread 6 = .ok (.iload_n 1, 1) := by decide +kernel
theorem dX7_thread_7 : decode cX7_thread 7 = .ok (.aload_n 0, 1) := by decide +kernel
theorem dX7_thread_8 : decode cX7_thread 8 = .ok (.getfield 21, 3) := by decide +kernel
theorem dX7_thread_11 : decode cX7_thread 11 = .ok (.getfield 179, 3) := by decide +kernel
theorem dX7_thread_14 : decode cX7_thread 14 = .ok (.if_icmp .ge 15, 3) := by decide +kernel
theorem dX7_thread_17 : decode cX7_thread 17 = .ok (.aload_n 0, 1) := by decide +kernel
theorem dX7_thread_18 : decode cX7_thread 18 = .ok (.getfield 21, 3) := by decide +kernel
theorem dX7_thread_21 : decode cX7_thread 21 = .ok (.getfield 199, 3) := by decide +kernel
theorem dX7_thread_24 : decode cX7_thread 24 = .ok (.iload_n 1, 1) := by decide +kernel
theorem dX7_thread_25 : decode cX7_thread 25 = .ok (.iaload, 1) := by decide +kernel
theorem dX7_thread_26 : decode cX7_thread 26 = .ok (.goto 5, 3) := by decide +kernel
theorem dX7_thread_29 : decode cX7_thread 29 = .ok (.bipush (-4), 2) := by decide +kernel
theorem dX7_thread_31 : decode cX7_thread 31 = .ok (.ireturn, 1) := by decide +kernel
set_option maxRecDepth 20000 in
theorem ggX7_leads_X7_isWithin : GoodIn wsX7_leads wsX7_isWithin := goodIn_r _ [8] (by decide +kernel) (by decide +kernel)
set_option maxRecDepth 20000 in
theorem gX7_leads_X7_isWithin : GoodIn wsX7_leads (va_wsS RX7 87 yX7_isWithin wsX7_isWithin) := goodIn_app (goodIn_of _ (by decide +kernel)) ggX7_leads_X7_isWithin
set_option maxRecDepth 20000 in
theorem ggX7_leads_X6_across : GoodIn wsX7_leads wsX6_across := goodIn_r _ [13, 14, 15, 16, 17, 18, 19, 20, 21, 22, 23, 24, 25, 12, 26, 27, 41, 42, 43, 44, 45, 46, 47, 48, 49, 50, 51, 52, 53, 54, 55, 56, 57] (by decide +kernel) (by decide +kernel)
set_option maxRecDepth 20000 in
theorem gX7_leads_X6_across : GoodIn wsX7_leads (wsV RX7 189 RX6 yX6_across wsX6_across) := goodIn_app (goodIn_of _ (by decide +kernel)) ggX7_leads_X6_across
theorem dX7_leads_0 : decode cX7_leads 0 = .ok (.iload_n 1, 1) := by decide +kernel
theorem dX7_leads_1 : decode cX7_leads 1 = .ok (.iconst 0, 1) := by decide +kernel
theorem dX7_leads_2 : decode cX7_leads 2 = .ok (.iconst 1, 1) := by decide +kernel
theorem dX7_leads_3 : decode cX7_leads 3 = .ok (.invokestatic 87, 3) := by decide +kernel
theorem dX7_leads_6 : decode cX7_leads 6 = .ok (.ifCond .ne 5, 3) := by decide +kernel
theorem dX7_leads_9 : decode cX7_leads 9 = .ok (.iconst (-1), 1) := by decide +kernel
theorem dX7_leads_10 : decode cX7_leads 10 = .ok (.ireturn, 1) := by decide +kernel
theorem dX7_leads_11 : decode cX7_leads 11 = .ok (.aload_n 0, 1) := by decide +kernel
theorem dX7_leads_12 : decode cX7_leads 12 = .ok (.getfield 21, 3) := by decide +kernel
theorem dX7_leads_15 : decode cX7_leads 15 = .ok (.getfield 134, 3) := by decide +kernel
theorem dX7_leads_18 : decode cX7_leads 18 = .ok (.istore_n 2, 1) := by decide +kernel
theorem dX7_leads_19 : decode cX7_leads 19 = .ok (.aload_n 0, 1) := by decide +kernel
theorem dX7_leads_20 : decode cX7_leads 20 = .ok (.getfield 21, 3) := by decide +kernel
theorem dX7_leads_23 : decode cX7_leads 23 = .ok (.getfield 179, 3) := by decide +kernel
theorem dX7_leads_26 : decode cX7_leads 26 = .ok (.iconst 1, 1) := by decide +kernel
theorem dX7_leads_27 : decode cX7_leads 27 = .ok (.isub, 1) := by decide +kernel
theorem dX7_leads_28 : decode cX7_leads 28 = .ok (.istore_n 3, 1) := by decide +kernel
theorem dX7_leads_29 : decode cX7_leads 29 = .ok (.iload_n 3, 1) := by decide +kernel
theorem dX7_leads_30 : decode cX7_leads 30 = .ok (.ifCond .lt 48, 3) := by decide +kernel
theorem dX7_leads_33 : decode cX7_leads 33 = .ok (.aload_n 0, 1) := by decide +kernel
theorem dX7_leads_34 : decode cX7_leads 34 = .ok (.getfield 21, 3) := by decide +kernel
theorem dX7_leads_37 : decode cX7_leads 37 = .ok (.aload_n 0, 1) := by decide +kernel
theorem dX7_leads_38 : decode cX7_leads 38 = .ok (.getfield 21, 3) := by decide +kernel
theorem dX7_leads_41 : decode cX7_leads 41 = .ok (.getfield 199, 3) := by decide +kernel
theorem dX7_leads_44 : decode cX7_leads 44 = .ok (.iload_n 3, 1) := by decide +kernel
theorem dX7_leads_45 : decode cX7_leads 45 = .ok (.iaload, 1) := by decide +kernel
theorem dX7_leads_46 : decode cX7_leads 46 = .ok (.iload_n 2, 1) := by decide +kernel
theorem dX7_leads_47 : decode cX7_leads 47 = .ok (.invokevirtual 189, 3) := by decide +kernel
theorem dX7_leads_50 : decode cX7_leads 50 = .ok (.istore 4, 2) := by decide +kernel
theorem dX7_leads_52 : decode cX7_leads 52 = .ok (.iload 4, 2) := by decide +kernel
theorem dX7_leads_54 : decode cX7_leads 54 = .ok (.bipush (-4), 2) := by decide +kernel
theorem dX7_leads_56 : decode cX7_leads 56 = .ok (.if_icmp .ne 13, 3) := by decide +kernel
theorem dX7_leads_59 : decode cX7_leads 59 = .ok (.iload_n 1, 1) := by decide +kernel
theorem dX7_leads_60 : decode cX7_leads 60 = .ok (.ifCond .ne 7, 3) := by decide +kernel
theorem dX7_leads_63 : decode cX7_leads 63 = .ok (.iload_n 2, 1) := by decide +kernel
theorem dX7_leads_64 : decode cX7_leads 64 = .ok (.goto 4, 3) := by decide +kernel
theorem dX7_leads_67 : decode cX7_leads 67 = .ok (.iload_n 3, 1) := by decide +kernel
theorem dX7_leads_68 : decode cX7_leads 68 = .ok (.ireturn, 1) := by decide +kernel
theorem dX7_leads_69 : decode cX7_leads 69 = .ok (.iload 4, 2) := by decide +kernel
theorem dX7_leads_71 : decode cX7_leads 71 = .ok (.istore_n 2, 1) := by decide +kernel
theorem dX7_leads_72 : decode cX7_leads 72 = .ok (.iinc 3 (-1), 3) := by decide +kernel
theorem dX7_leads_75 : decode cX7_leads 75 = .ok (.goto (-46), 3) := by decide +kernel
theorem dX7_leads_78 : decode cX7_leads 78 = .ok (.iload_n 1, 1) := by decide +kernel
theorem dX7_leads_79 : decode cX7_leads 79 = .ok (.ifCond .ne 7, 3) := by decide +kernel
theorem dX7_leads_82 : decode cX7_leads 82 = .ok (.iload_n 2, 1) := by decide +kernel
theorem dX7_leads_83 : decode cX7_leads 83 = .ok (.goto 5, 3) := by decide +kernel
theorem dX7_leads_86 : decode cX7_leads 86 = .ok (.bipush (-4), 2) := by decide +kernel
theorem dX7_leads_88 : decode cX7_leads 88 = .ok (.ireturn, 1) := by decide +kernel
set_option maxRecDepth 20000 in
theorem ggX7_soonest_X2_hasRoom : GoodIn wsX7_soonest wsX2_hasRoom := goodIn_r _ [10, 11, 155, 156, 157, 158, 159, 160] (by decide +kernel) (by decide +kernel)
set_option maxRecDepth 20000 in
theorem gX7_soonest_X2_hasRoom : GoodIn wsX7_soonest (wsV RX7 159 RX2 yX2_hasRoom wsX2_hasRoom) := goodIn_app (goodIn_of _ (by decide +kernel)) ggX7_soonest_X2_hasRoom
set_option maxRecDepth 20000 in
theorem ggX7_soonest_X7_isWithin : GoodIn wsX7_soonest wsX7_isWithin := goodIn_r _ [15] (by decide +kernel) (by decide +kernel)
set_option maxRecDepth 20000 in
theorem gX7_soonest_X7_isWithin : GoodIn wsX7_soonest (va_wsS RX7 87 yX7_isWithin wsX7_isWithin) := goodIn_app (goodIn_of _ (by decide +kernel)) ggX7_soonest_X7_isWithin
set_option maxRecDepth 20000 in
theorem ggX7_soonest_X4_begin : GoodIn wsX7_soonest wsX4_begin := goodIn_r _ [20, 21, 22, 23, 24, 25, 26, 27, 28, 29, 30, 31, 32, 33, 34, 35, 36, 37, 38, 39, 40, 41, 42, 43, 161, 162, 163, 164, 165, 166, 144, 145, 146, 147, 148, 149, 150, 151, 152, 153, 154] (by decide +kernel) (by decide +kernel)
set_option maxRecDepth 20000 in
theorem gX7_soonest_X4_begin : GoodIn wsX7_soonest (wsV RX7 202 RX4 yX4_begin wsX4_begin) := goodIn_app (goodIn_of _ (by decide +kernel)) ggX7_soonest_X4_begin
set_option maxRecDepth 20000 in
theorem ggX7_soonest_X4_firstIn : GoodIn wsX7_soonest wsX4_firstIn := goodIn_r _ [47, 21, 22, 161, 162, 163, 164, 165, 166] (by decide +kernel) (by decide +kernel)
set_option maxRecDepth 20000 in
theorem gX7_soonest_X4_firstIn : GoodIn wsX7_soonest (wsV RX7 206 RX4 yX4_firstIn wsX4_firstIn) := goodIn_app (goodIn_of _ (by decide +kernel)) ggX7_soonest_X4_firstIn
set_option maxRecDepth 20000 in
theorem ggX7_soonest_X4_stepOf : GoodIn wsX7_soonest wsX4_stepOf := goodIn_r _ [51, 52, 53, 161, 162, 163, 164, 165, 166] (by decide +kernel) (by decide +kernel)
set_option maxRecDepth 20000 in
theorem gX7_soonest_X4_stepOf : GoodIn wsX7_soonest (wsV RX7 209 RX4 yX4_stepOf wsX4_stepOf) := goodIn_app (goodIn_of _ (by decide +kernel)) ggX7_soonest_X4_stepOf
set_option maxRecDepth 20000 in
theorem ggX7_soonest_X4_grow : GoodIn wsX7_soonest wsX4_grow := goodIn_r _ [57, 58, 21, 22, 59, 60, 61, 62, 63, 19, 64, 65, 66, 67, 68, 69, 70, 28, 71, 42, 72, 73, 74, 75, 76, 77, 78, 79, 80, 81, 82, 30, 83, 84, 85, 9, 86, 87, 88, 89, 90, 91, 36, 92, 93, 94, 95, 96, 97, 98, 99, 100, 101, 102, 103, 14, 104, 105, 106, 107, 108, 109, 110, 111, 52, 53, 112, 113, 114, 115, 37, 116, 117, 118, 119, 120, 121, 122, 123, 124, 125, 126, 127, 128, 129, 130, 161, 162, 163, 164, 165, 166, 144, 145, 146, 147, 148, 149, 150, 151, 152, 153, 154, 155, 156, 157, 158, 159, 160] (by decide +kernel) (by decide +kernel)
set_option maxRecDepth 20000 in
theorem gX7_soonest_X4_grow : GoodIn wsX7_soonest (wsV RX7 213 RX4 yX4_grow wsX4_grow) := goodIn_app (goodIn_of _ (by decide +kernel)) ggX7_soonest_X4_grow
theorem dX7_soonest_0 : decode cX7_soonest 0 = .ok (.aload_n 0, 1) := by decide +kernel
theorem dX7_soonest_1 : decode cX7_soonest 1 = .ok (.getfield 12, 3) := by decide +kernel
theorem dX7_soonest_4 : decode cX7_soonest 4 = .ok (.iload_n 1, 1) := by decide +kernel
theorem dX7_soonest_5 : decode cX7_soonest 5 = .ok (.invokevirtual 159, 3) := by decide +kernel
theorem dX7_soonest_8 : decode cX7_soonest 8 = .ok (.ifCond .eq 18, 3) := by decide +kernel
theorem dX7_soonest_11 : decode cX7_soonest 11 = .ok (.iload_n 2, 1) := by decide +kernel
theorem dX7_soonest_12 : decode cX7_soonest 12 = .ok (.ifCond .eq 16, 3) := by decide +kernel
theorem dX7_soonest_15 : decode cX7_soonest 15 = .ok (.iload_n 2, 1) := by decide +kernel
theorem dX7_soonest_16 : decode cX7_soonest 16 = .ok (.bipush 10, 2) := by decide +kernel
theorem dX7_soonest_18 : decode cX7_soonest 18 = .ok (.bipush 33, 2) := by decide +kernel
theorem dX7_soonest_20 : decode cX7_soonest 20 = .ok (.invokestatic 87, 3) := by decide +kernel
theorem dX7_soonest_23 : decode cX7_soonest 23 = .ok (.ifCond .ne 5, 3) := by decide +kernel
theorem dX7_soonest_26 : decode cX7_soonest 26 = .ok (.iconst (-1), 1) := by decide +kernel
theorem dX7_soonest_27 : decode cX7_soonest 27 = .ok (.ireturn, 1) := by decide +kernel
theorem dX7_soonest_28 : decode cX7_soonest 28 = .ok (.aload_n 0, 1) := by decide +kernel
theorem dX7_soonest_29 : decode cX7_soonest 29 = .ok (.getfield 21, 3) := by decide +kernel
theorem dX7_soonest_32 : decode cX7_soonest 32 = .ok (.getfield 143, 3) := by decide +kernel
theorem dX7_soonest_35 : decode cX7_soonest 35 = .ok (.ifCond .eq 6, 3) := by decide +kernel
theorem dX7_soonest_38 : decode cX7_soonest 38 = .ok (.bipush (-2), 2) := by decide +kernel
theorem dX7_soonest_40 : decode cX7_soonest 40 = .ok (.ireturn, 1) := by decide +kernel
theorem dX7_soonest_41 : decode cX7_soonest 41 = .ok (.aload_n 0, 1) := by decide +kernel
theorem dX7_soonest_42 : decode cX7_soonest 42 = .ok (.getfield 59, 3) := by decide +kernel
theorem dX7_soonest_45 : decode cX7_soonest 45 = .ok (.aload_n 0, 1) := by decide +kernel
theorem dX7_soonest_46 : decode cX7_soonest 46 = .ok (.getfield 21, 3) := by decide +kernel
theorem dX7_soonest_49 : decode cX7_soonest 49 = .ok (.aload_n 0, 1) := by decide +kernel
theorem dX7_soonest_50 : decode cX7_soonest 50 = .ok (.getfield 25, 3) := by decide +kernel
theorem dX7_soonest_53 : decode cX7_soonest 53 = .ok (.invokevirtual 202, 3) := by decide +kernel
theorem dX7_soonest_56 : decode cX7_soonest 56 = .ok (.iconst 0, 1) := by decide +kernel
theorem dX7_soonest_57 : decode cX7_soonest 57 = .ok (.istore_n 3, 1) := by decide +kernel
theorem dX7_soonest_58 : decode cX7_soonest 58 = .ok (.iload_n 3, 1) := by decide +kernel
theorem dX7_soonest_59 : decode cX7_soonest 59 = .ok (.bipush 24, 2) := by decide +kernel
theorem dX7_soonest_61 : decode cX7_soonest 61 = .ok (.if_icmp .gt 62, 3) := by decide +kernel
theorem dX7_soonest_64 : decode cX7_soonest 64 = .ok (.aload_n 0, 1) := by decide +kernel
theorem dX7_soonest_65 : decode cX7_soonest 65 = .ok (.getfield 59, 3) := by decide +kernel
theorem dX7_soonest_68 : decode cX7_soonest 68 = .ok (.iload_n 3, 1) := by decide +kernel
theorem dX7_soonest_69 : decode cX7_soonest 69 = .ok (.iload_n 1, 1) := by decide +kernel
theorem dX7_soonest_70 : decode cX7_soonest 70 = .ok (.invokevirtual 206, 3) := by decide +kernel
theorem dX7_soonest_73 : decode cX7_soonest 73 = .ok (.istore 4, 2) := by decide +kernel
theorem dX7_soonest_75 : decode cX7_soonest 75 = .ok (.iload 4, 2) := by decide +kernel
theorem dX7_soonest_77 : decode cX7_soonest 77 = .ok (.bipush (-4), 2) := by decide +kernel
theorem dX7_soonest_79 : decode cX7_soonest 79 = .ok (.if_icmp .eq 26, 3) := by decide +kernel
theorem dX7_soonest_82 : decode cX7_soonest 82 = .ok (.iload_n 2, 1) := by decide +kernel
theorem dX7_soonest_83 : decode cX7_soonest 83 = .ok (.ifCond .ne 7, 3) := by decide +kernel
theorem dX7_soonest_86 : decode cX7_soonest 86 = .ok (.iload_n 3, 1) := by decide +kernel
theorem dX7_soonest_87 : decode cX7_soonest 87 = .ok (.goto 17, 3) := by decide +kernel
theorem dX7_soonest_90 : decode cX7_soonest 90 = .ok (.aload_n 0, 1) := by decide +kernel
theorem dX7_soonest_91 : decode cX7_soonest 91 = .ok (.getfield 59, 3) := by decide +kernel
theorem dX7_soonest_94 : decode cX7_soonest 94 = .ok (.iload_n 3, 1) := by decide +kernel
theorem dX7_soonest_95 : decode cX7_soonest 95 = .ok (.iload 4, 2) := by decide +kernel
theorem dX7_soonest_97 : decode cX7_soonest 97 = .ok (.iload_n 2, 1) := by decide +kernel
theorem dX7_soonest_98 : decode cX7_soonest 98 = .ok (.bipush 10, 2) := by decide +kernel
theorem dX7_soonest_100 : decode cX7_soonest 100 = .ok (.isub, 1) := by decide +kernel
theorem dX7_soonest_101 : decode cX7_soonest 101 = .ok (.invokevirtual 209, 3) := by decide +kernel
theorem dX7_soonest_104 : decode cX7_soonest 104 = .ok (.ireturn, 1) := by decide +kernel
theorem dX7_soonest_105 : decode cX7_soonest 105 = .ok (.aload_n 0, 1) := by decide +kernel
theorem dX7_soonest_106 : decode cX7_soonest 106 = .ok (.getfield 59, 3) := by decide +kernel
theorem dX7_soonest_109 : decode cX7_soonest 109 = .ok (.iload_n 3, 1) := by decide +kernel
theorem dX7_soonest_110 : decode cX7_soonest 110 = .ok (.aload_n 0, 1) := by decide +kernel
theorem dX7_soonest_111 : decode cX7_soonest 111 = .ok (.getfield 25, 3) := by decide +kernel
theorem dX7_soonest_114 : decode cX7_soonest 114 = .ok (.invokevirtual 213, 3) := by decide +kernel
theorem dX7_soonest_117 : decode cX7_soonest 117 = .ok (.iinc 3 1, 3) := by decide +kernel
theorem dX7_soonest_120 : decode cX7_soonest 120 = .ok (.goto (-62), 3) := by decide +kernel
theorem dX7_soonest_123 : decode cX7_soonest 123 = .ok (.bipush (-4), 2) := by decide +kernel
theorem dX7_soonest_125 : decode cX7_soonest 125 = .ok (.ireturn, 1) := by decide +kernel
set_option maxRecDepth 20000 in
theorem ggX7_alive_X7_isWithin : GoodIn wsX7_alive wsX7_isWithin := goodIn_r _ [8] (by decide +kernel) (by decide +kernel)
set_option maxRecDepth 20000 in
theorem gX7_alive_X7_isWithin : GoodIn wsX7_alive (va_wsS RX7 87 yX7_isWithin wsX7_isWithin) := goodIn_app (goodIn_of _ (by decide +kernel)) ggX7_alive_X7_isWithin
set_option maxRecDepth 20000 in
theorem ggX7_alive_X4_begin : GoodIn wsX7_alive wsX4_begin := goodIn_r _ [13, 14, 15, 16, 17, 18, 19, 20, 21, 22, 23, 24, 25, 26, 27, 28, 29, 30, 31, 32, 33, 34, 35, 36, 145, 146, 147, 148, 149, 150, 134, 135, 136, 137, 138, 139, 140, 141, 142, 143, 144] (by decide +kernel) (by decide +kernel)
set_option maxRecDepth 20000 in
theorem gX7_alive_X4_begin : GoodIn wsX7_alive (wsV RX7 202 RX4 yX4_begin wsX4_begin) := goodIn_app (goodIn_of _ (by decide +kernel)) ggX7_alive_X4_begin
set_option maxRecDepth 20000 in
theorem ggX7_alive_X4_grow : GoodIn wsX7_alive wsX4_grow := goodIn_r _ [40, 41, 14, 15, 42, 43, 44, 45, 46, 12, 47, 48, 49, 50, 51, 52, 53, 21, 54, 35, 55, 56, 57, 58, 59, 60, 61, 62, 63, 64, 65, 23, 66, 67, 68, 69, 70, 71, 72, 73, 74, 75, 29, 76, 77, 78, 79, 80, 81, 82, 83, 84, 85, 86, 87, 7, 88, 89, 90, 91, 92, 93, 94, 95, 96, 97, 98, 99, 100, 101, 30, 102, 103, 104, 105, 106, 107, 108, 109, 110, 111, 112, 113, 114, 115, 116, 145, 146, 147, 148, 149, 150, 134, 135, 136, 137, 138, 139, 140, 141, 142, 143, 144, 151, 152, 153, 154, 155, 156] (by decide +kernel) (by decide +kernel)
set_option maxRecDepth 20000 in
theorem gX7_alive_X4_grow : GoodIn wsX7_alive (wsV RX7 213 RX4 yX4_grow wsX4_grow) := goodIn_app (goodIn_of _ (by decide +kernel)) ggX7_alive_X4_grow
set_option maxRecDepth 20000 in
theorem ggX7_alive_X4_roomsOf : GoodIn wsX7_alive wsX4_roomsOf := goodIn_r _ [120, 14, 15, 145, 146, 147, 148, 149, 150] (by decide +kernel) (by decide +kernel)
set_option maxRecDepth 20000 in
theorem gX7_alive_X4_roomsOf : GoodIn wsX7_alive (wsV RX7 217 RX4 yX4_roomsOf wsX4_roomsOf) := goodIn_app (goodIn_of _ (by decide +kernel)) ggX7_alive_X4_roomsOf
theorem dX7_alive_0 : decode cX7_alive 0 = .ok (.iload_n 1, 1) := by decide +kernel
theorem dX7_alive_1 : decode cX7_alive 1 = .ok (.iconst 0, 1) := by decide +kernel
theorem dX7_alive_2 : decode cX7_alive 2 = .ok (.bipush 24, 2) := by decide +kernel
theorem dX7_alive_4 : decode cX7_alive 4 = .ok (.invokestatic 87, 3) := by decide +kernel
theorem dX7_alive_7 : decode cX7_alive 7 = .ok (.ifCond .ne 5, 3) := by decide +kernel
theorem dX7_alive_10 : decode cX7_alive 10 = .ok (.iconst (-1), 1) := by decide +kernel
theorem dX7_alive_11 : decode cX7_alive 11 = .ok (.ireturn, 1) := by decide +kernel
theorem dX7_alive_12 : decode cX7_alive 12 = .ok (.aload_n 0, 1) := by decide +kernel
theorem dX7_alive_13 : decode cX7_alive 13 = .ok (.getfield 21, 3) := by decide +kernel
theorem dX7_alive_16 : decode cX7_alive 16 = .ok (.getfield 143, 3) := by decide +kernel
theorem dX7_alive_19 : decode cX7_alive 19 = .ok (.ifCond .eq 6, 3) := by decide +kernel
theorem dX7_alive_22 : decode cX7_alive 22 = .ok (.bipush (-2), 2) := by decide +kernel
theorem dX7_alive_24 : decode cX7_alive 24 = .ok (.ireturn, 1) := by decide +kernel
theorem dX7_alive_25 : decode cX7_alive 25 = .ok (.aload_n 0, 1) := by decide +kernel
theorem dX7_alive_26 : decode cX7_alive 26 = .ok (.getfield 59, 3) := by decide +kernel
theorem dX7_alive_29 : decode cX7_alive 29 = .ok (.aload_n 0, 1) := by decide +kernel
theorem dX7_alive_30 : decode cX7_alive 30 = .ok (.getfield 21, 3) := by decide +kernel
theorem dX7_alive_33 : decode cX7_alive 33 = .ok (.aload_n 0, 1) := by decide +kernel
theorem dX7_alive_34 : decode cX7_alive 34 = .ok (.getfield 25, 3) := by decide +kernel
theorem dX7_alive_37 : decode cX7_alive 37 = .ok (.invokevirtual 202, 3) := by decide +kernel
theorem dX7_alive_40 : decode cX7_alive 40 = .ok (.iconst 0, 1) := by decide +kernel
theorem dX7_alive_41 : decode cX7_alive 41 = .ok (.istore_n 2, 1) := by decide +kernel
theorem dX7_alive_42 : decode cX7_alive 42 = .ok (.iload_n 2, 1) := by decide +kernel
theorem dX7_alive_43 : decode cX7_alive 43 = .ok (.iload_n 1, 1) := by decide +kernel
theorem dX7_alive_44 : decode cX7_alive 44 = .ok (.if_icmp .ge 21, 3) := by decide +kernel
theorem dX7_alive_47 : decode cX7_alive 47 = .ok (.aload_n 0, 1) := by decide +kernel
theorem dX7_alive_48 : decode cX7_alive 48 = .ok (.getfield 59, 3) := by decide +kernel
theorem dX7_alive_51 : decode cX7_alive 51 = .ok (.iload_n 2, 1) := by decide +kernel
theorem dX7_alive_52 : decode cX7_alive 52 = .ok (.aload_n 0, 1) := by decide +kernel
theorem dX7_alive_53 : decode cX7_alive 53 = .ok (.getfield 25, 3) := by decide +kernel
theorem dX7_alive_56 : decode cX7_alive 56 = .ok (.invokevirtual 213, 3) := by decide +kernel
theorem dX7_alive_59 : decode cX7_alive 59 = .ok (.iinc 2 1, 3) := by decide +kernel
theorem dX7_alive_62 : decode cX7_alive 62 = .ok (.goto (-20), 3) := by decide +kernel
theorem dX7_alive_65 : decode cX7_alive 65 = .ok (.aload_n 0, 1) := by decide +kernel
theorem dX7_alive_66 : decode cX7_alive 66 = .ok (.getfield 59, 3) := by decide +kernel
theorem dX7_alive_69 : decode cX7_alive 69 = .ok (.iload_n 1, 1) := by decide +kernel
theorem dX7_alive_70 : decode cX7_alive 70 = .ok (.invokevirtual 217, 3) := by decide +kernel
theorem dX7_alive_73 : decode cX7_alive 73 = .ok (.ireturn, 1) := by decide +kernel
set_option maxRecDepth 20000 in
theorem ggX7_see_X7_isWithin : GoodIn wsX7_see wsX7_isWithin := goodIn_r _ [7] (by decide +kernel) (by decide +kernel)
set_option maxRecDepth 20000 in
theorem gX7_see_X7_isWithin : GoodIn wsX7_see (va_wsS RX7 87 yX7_isWithin wsX7_isWithin) := goodIn_app (goodIn_of _ (by decide +kernel)) ggX7_see_X7_isWithin
set_option maxRecDepth 20000 in
theorem ggX7_see_X2_hasDoor : GoodIn wsX7_see wsX2_hasDoor := goodIn_r _ [12, 13, 45, 46, 47, 48, 49, 50] (by decide +kernel) (by decide +kernel)
set_option maxRecDepth 20000 in
theorem gX7_see_X2_hasDoor : GoodIn wsX7_see (wsV RX7 167 RX2 yX2_hasDoor wsX2_hasDoor) := goodIn_app (goodIn_of _ (by decide +kernel)) ggX7_see_X2_hasDoor
set_option maxRecDepth 20000 in
theorem ggX7_see_X2_hasRoom : GoodIn wsX7_see wsX2_hasRoom := goodIn_r _ [17, 18, 45, 46, 47, 48, 49, 50] (by decide +kernel) (by decide +kernel)
set_option maxRecDepth 20000 in
theorem gX7_see_X2_hasRoom : GoodIn wsX7_see (wsV RX7 159 RX2 yX2_hasRoom wsX2_hasRoom) := goodIn_app (goodIn_of _ (by decide +kernel)) ggX7_see_X2_hasRoom
set_option maxRecDepth 20000 in
theorem ggX7_see_X0_add : GoodIn wsX7_see wsX0_add := goodIn_r _ [23, 24, 25, 26, 27, 41, 42, 43, 44] (by decide +kernel) (by decide +kernel)
set_option maxRecDepth 20000 in
theorem gX7_see_X0_add : GoodIn wsX7_see (wsV RX7 220 RX0 yX0_add wsX0_add) := goodIn_app (goodIn_of _ (by decide +kernel)) ggX7_see_X0_add
theorem dX7_see_0 : decode cX7_see 0 = .ok (.iload_n 1, 1) := by decide +kernel
theorem dX7_see_1 : decode cX7_see 1 = .ok (.iconst 1, 1) := by decide +kernel
theorem dX7_see_2 : decode cX7_see 2 = .ok (.bipush 6, 2) := by decide +kernel
theorem dX7_see_4 : decode cX7_see 4 = .ok (.invokestatic 87, 3) := by decide +kernel
theorem dX7_see_7 : decode cX7_see 7 = .ok (.ifCond .eq 25, 3) := by decide +kernel
theorem dX7_see_10 : decode cX7_see 10 = .ok (.aload_n 0, 1) := by decide +kernel
theorem dX7_see_11 : decode cX7_see 11 = .ok (.getfield 12, 3) := by decide +kernel
theorem dX7_see_14 : decode cX7_see 14 = .ok (.iload_n 2, 1) := by decide +kernel
theorem dX7_see_15 : decode cX7_see 15 = .ok (.invokevirtual 167, 3) := by decide +kernel
theorem dX7_see_18 : decode cX7_see 18 = .ok (.ifCond .eq 14, 3) := by decide +kernel
theorem dX7_see_21 : decode cX7_see 21 = .ok (.aload_n 0, 1) := by decide +kernel
theorem dX7_see_22 : decode cX7_see 22 = .ok (.getfield 12, 3) := by decide +kernel
theorem dX7_see_25 : decode cX7_see 25 = .ok (.iload_n 3, 1) := by decide +kernel
theorem dX7_see_26 : decode cX7_see 26 = .ok (.invokevirtual 159, 3) := by decide +kernel
theorem dX7_see_29 : decode cX7_see 29 = .ok (.ifCond .ne 5, 3) := by decide +kernel
theorem dX7_see_32 : decode cX7_see 32 = .ok (.iconst (-1), 1) := by decide +kernel
theorem dX7_see_33 : decode cX7_see 33 = .ok (.ireturn, 1) := by decide +kernel
theorem dX7_see_34 : decode cX7_see 34 = .ok (.aload_n 0, 1) := by decide +kernel
theorem dX7_see_35 : decode cX7_see 35 = .ok (.getfield 49, 3) := by decide +kernel
theorem dX7_see_38 : decode cX7_see 38 = .ok (.iload_n 1, 1) := by decide +kernel
theorem dX7_see_39 : decode cX7_see 39 = .ok (.iload_n 2, 1) := by decide +kernel
theorem dX7_see_40 : decode cX7_see 40 = .ok (.iload_n 3, 1) := by decide +kernel
theorem dX7_see_41 : decode cX7_see 41 = .ok (.invokevirtual 220, 3) := by decide +kernel
theorem dX7_see_44 : decode cX7_see 44 = .ok (.ifCond .eq 13, 3) := by decide +kernel
theorem dX7_see_47 : decode cX7_see 47 = .ok (.aload_n 0, 1) := by decide +kernel
theorem dX7_see_48 : decode cX7_see 48 = .ok (.getfield 49, 3) := by decide +kernel
theorem dX7_see_51 : decode cX7_see 51 = .ok (.getfield 110, 3) := by decide +kernel
theorem dX7_see_54 : decode cX7_see 54 = .ok (.goto 5, 3) := by decide +kernel
theorem dX7_see_57 : decode cX7_see 57 = .ok (.bipush (-3), 2) := by decide +kernel
theorem dX7_see_59 : decode cX7_see 59 = .ok (.ireturn, 1) := by decide +kernel
set_option maxRecDepth 20000 in
theorem ggX7_forget_X0_keepFirst : GoodIn wsX7_forget wsX0_keepFirst := goodIn_r _ [6, 7, 8, 9, 10, 24, 25, 26, 27] (by decide +kernel) (by decide +kernel)
set_option maxRecDepth 20000 in
theorem gX7_forget_X0_keepFirst : GoodIn wsX7_forget (wsV RX7 223 RX0 yX0_keepFirst wsX0_keepFirst) := goodIn_app (goodIn_of _ (by decide +kernel)) ggX7_forget_X0_keepFirst
theorem dX7_forget_0 : decode cX7_forget 0 = .ok (.aload_n 0, 1) := by decide +kernel
theorem dX7_forget_1 : decode cX7_forget 1 = .ok (.getfield 49, 3) := by decide +kernel
theorem dX7_forget_4 : decode cX7_forget 4 = .ok (.iload_n 1, 1) := by decide +kernel
theorem dX7_forget_5 : decode cX7_forget 5 = .ok (.invokevirtual 223, 3) := by decide +kernel
theorem dX7_forget_8 : decode cX7_forget 8 = .ok (.ireturn, 1) := by decide +kernel
set_option maxRecDepth 20000 in
theorem ggX7_laws_X7_isWithin : GoodIn wsX7_laws wsX7_isWithin := goodIn_r _ [4] (by decide +kernel) (by decide +kernel)
set_option maxRecDepth 20000 in
theorem gX7_laws_X7_isWithin : GoodIn wsX7_laws (va_wsS RX7 87 yX7_isWithin wsX7_isWithin) := goodIn_app (goodIn_of _ (by decide +kernel)) ggX7_laws_X7_isWithin
set_option maxRecDepth 20000 in
theorem ggX7_laws_X7_fits : GoodIn wsX7_laws wsX7_fits := goodIn_r _ [8, 9, 10, 11, 12, 13, 14, 15, 16, 17, 18, 19, 20, 21, 22, 3, 23, 24, 25, 26, 27, 28, 29, 30, 2, 4, 31, 32, 33, 34, 35, 36, 37, 38, 39, 40, 41, 42, 43, 44, 45, 46, 47, 48, 49, 50, 51, 52, 53, 54, 55, 56, 57, 58, 59, 60, 61, 62, 63, 64, 65, 66, 67, 68, 69, 70, 71, 72, 73, 74, 75, 76, 77, 78, 79, 80, 81, 82, 83, 84, 85, 86, 87, 88, 89, 90, 91, 92, 93, 94, 95, 96, 97, 98, 99, 100, 101] (by decide +kernel) (by decide +kernel)
set_option maxRecDepth 20000 in
theorem gX7_laws_X7_fits : GoodIn wsX7_laws (wsV RX7 226 RX7 yX7_fits wsX7_fits) := goodIn_app (goodIn_of _ (by decide +kernel)) ggX7_laws_X7_fits
theorem dX7_laws_0 : decode cX7_laws 0 = .ok (.iload_n 1, 1) := by decide +kernel
theorem dX7_laws_1 : decode cX7_laws 1 = .ok (.iconst 0, 1) := by decide +kernel
theorem dX7_laws_2 : decode cX7_laws 2 = .ok (.iconst 2, 1) := by decide +kernel
theorem dX7_laws_3 : decode cX7_laws 3 = .ok (.invokestatic 87, 3) := by decide +kernel
theorem dX7_laws_6 : decode cX7_laws 6 = .ok (.ifCond .ne 5, 3) := by decide +kernel
theorem dX7_laws_9 : decode cX7_laws 9 = .ok (.iconst (-1), 1) := by decide +kernel
theorem dX7_laws_10 : decode cX7_laws 10 = .ok (.ireturn, 1) := by decide +kernel
theorem dX7_laws_11 : decode cX7_laws 11 = .ok (.iconst 0, 1) := by decide +kernel
theorem dX7_laws_12 : decode cX7_laws 12 = .ok (.istore_n 2, 1) := by decide +kernel
theorem dX7_laws_13 : decode cX7_laws 13 = .ok (.bipush (-4), 2) := by decide +kernel
theorem dX7_laws_15 : decode cX7_laws 15 = .ok (.istore_n 3, 1) := by decide +kernel
theorem dX7_laws_16 : decode cX7_laws 16 = .ok (.bipush (-4), 2) := by decide +kernel
theorem dX7_laws_18 : decode cX7_laws 18 = .ok (.istore 4, 2) := by decide +kernel
theorem dX7_laws_20 : decode cX7_laws 20 = .ok (.iconst 0, 1) := by decide +kernel
theorem dX7_laws_21 : decode cX7_laws 21 = .ok (.istore 5, 2) := by decide +kernel
theorem dX7_laws_23 : decode cX7_laws 23 = .ok (.iload 5, 2) := by decide +kernel
theorem dX7_laws_25 : decode cX7_laws 25 = .ok (.sipush 209, 3) := by decide +kernel
theorem dX7_laws_28 : decode cX7_laws 28 = .ok (.if_icmp .gt 38, 3) := by decide +kernel
theorem dX7_laws_31 : decode cX7_laws 31 = .ok (.aload_n 0, 1) := by decide +kernel
theorem dX7_laws_32 : decode cX7_laws 32 = .ok (.iload 5, 2) := by decide +kernel
theorem dX7_laws_34 : decode cX7_laws 34 = .ok (.invokevirtual 226, 3) := by decide +kernel
theorem dX7_laws_37 : decode cX7_laws 37 = .ok (.ifCond .eq 23, 3) := by decide +kernel
theorem dX7_laws_40 : decode cX7_laws 40 = .ok (.iinc 2 1, 3) := by decide +kernel
theorem dX7_laws_43 : decode cX7_laws 43 = .ok (.iload_n 3, 1) := by decide +kernel
theorem dX7_laws_44 : decode cX7_laws 44 = .ok (.bipush (-4), 2) := by decide +kernel
theorem dX7_laws_46 : decode cX7_laws 46 = .ok (.if_icmp .ne 8, 3) := by decide +kernel
theorem dX7_laws_49 : decode cX7_laws 49 = .ok (.iload 5, 2) := by decide +kernel
theorem dX7_laws_51 : decode cX7_laws 51 = .ok (.goto 4, 3) := by decide +kernel
theorem dX7_laws_54 : decode cX7_laws 54 = .ok (.iload_n 3, 1) := by decide +kernel
theorem dX7_laws_55 : decode cX7_laws 55 = .ok (.istore_n 3, 1) := by decide +kernel
theorem dX7_laws_56 : decode cX7_laws 56 = .ok (.iload 5, 2) := by decide +kernel
theorem dX7_laws_58 : decode cX7_laws 58 = .ok (.istore 4, 2) := by decide +kernel
theorem dX7_laws_60 : decode cX7_laws 60 = .ok (.iinc 5 1, 3) := by decide +kernel
theorem dX7_laws_63 : decode cX7_laws 63 = .ok (.goto (-40), 3) := by decide +kernel
theorem dX7_laws_66 : decode cX7_laws 66 = .ok (.iload_n 1, 1) := by decide +kernel
theorem dX7_laws_67 : decode cX7_laws 67 = .ok (.ifCond .ne 5, 3) := by decide +kernel
theorem dX7_laws_70 : decode cX7_laws 70 = .ok (.iload_n 2, 1) := by decide +kernel
theorem dX7_laws_71 : decode cX7_laws 71 = .ok (.ireturn, 1) := by decide +kernel
theorem dX7_laws_72 : decode cX7_laws 72 = .ok (.iload_n 1, 1) := by decide +kernel
theorem dX7_laws_73 : decode cX7_laws 73 = .ok (.iconst 1, 1) := by decide +kernel
theorem dX7_laws_74 : decode cX7_laws 74 = .ok (.if_icmp .ne 7, 3) := by decide +kernel
theorem dX7_laws_77 : decode cX7_laws 77 = .ok (.iload_n 3, 1) := by decide +kernel
theorem dX7_laws_78 : decode cX7_laws 78 = .ok (.goto 5, 3) := by decide +kernel
theorem dX7_laws_81 : decode cX7_laws 81 = .ok (.iload 4, 2) := by decide +kernel
theorem dX7_laws_83 : decode cX7_laws 83 = .ok (.ireturn, 1) := by decide +kernel
set_option maxRecDepth 20000 in
theorem ggX7_sure_X7_isWithin : GoodIn wsX7_sure wsX7_isWithin := goodIn_r _ [5] (by decide +kernel) (by decide +kernel)
set_option maxRecDepth 20000 in
theorem gX7_sure_X7_isWithin : GoodIn wsX7_sure (va_wsS RX7 87 yX7_isWithin wsX7_isWithin) := goodIn_app (goodIn_of _ (by decide +kernel)) ggX7_sure_X7_isWithin
set_option maxRecDepth 20000 in
theorem ggX7_sure_X2_hasDoor : GoodIn wsX7_sure wsX2_hasDoor := goodIn_r _ [10, 11, 86, 87, 88, 89, 90, 91] (by decide +kernel) (by decide +kernel)
set_option maxRecDepth 20000 in
theorem gX7_sure_X2_hasDoor : GoodIn wsX7_sure (wsV RX7 167 RX2 yX2_hasDoor wsX2_hasDoor) := goodIn_app (goodIn_of _ (by decide +kernel)) ggX7_sure_X2_hasDoor
set_option maxRecDepth 20000 in
theorem ggX7_sure_X7_fits : GoodIn wsX7_sure wsX7_fits := goodIn_r _ [15, 1, 16, 17, 18, 19, 20, 9, 21, 22, 23, 24, 25, 26, 27, 4, 28, 29, 7, 8, 10, 11, 30, 31, 3, 5, 32, 33, 34, 35, 36, 37, 38, 39, 40, 41, 42, 43, 44, 45, 46, 47, 48, 49, 50, 51, 52, 53, 54, 55, 56, 57, 58, 59, 60, 61, 62, 63, 64, 65, 66, 67, 68, 73, 74, 75, 76, 77, 78, 79, 80, 81, 82, 83, 84, 85, 86, 87, 88, 89, 90, 91, 92, 93, 94, 95, 96, 97, 98, 99, 100, 101, 102, 103, 104, 105, 106] (by decide +kernel) (by decide +kernel)
set_option maxRecDepth 20000 in
theorem gX7_sure_X7_fits : GoodIn wsX7_sure (wsV RX7 226 RX7 yX7_fits wsX7_fits) := goodIn_app (goodIn_of _ (by decide +kernel)) ggX7_sure_X7_fits
set_option maxRecDepth 20000 in
theorem ggX7_sure_X7_endByLaw : GoodIn wsX7_sure wsX7_endByLaw := goodIn_r _ [72, 16, 17, 66, 32, 33, 34, 35, 36, 37, 38, 39, 40, 41, 42, 43, 44, 45, 46, 47, 48, 49, 50, 51, 52, 53, 54, 55, 56, 27, 4, 28, 30, 31, 57, 58, 73, 74, 75, 76, 77, 78, 79, 80, 81, 82, 83, 84, 85, 92, 93, 94, 95, 96, 97, 98, 99, 100, 101, 102, 86, 87, 88, 89, 90, 91] (by decide +kernel) (by decide +kernel)
set_option maxRecDepth 20000 in
theorem gX7_sure_X7_endByLaw : GoodIn wsX7_sure (wsV RX7 229 RX7 yX7_endByLaw wsX7_endByLaw) := goodIn_app (goodIn_of _ (by decide +kernel)) ggX7_sure_X7_endByLaw
theorem dX7_sure_0 : decode cX7_sure 0 = .ok (.iload_n 1, 1) := by decide +kernel
theorem dX7_sure_1 : decode cX7_sure 1 = .ok (.iconst 1, 1) := by decide +kernel
theorem dX7_sure_2 : decode cX7_sure 2 = .ok (.bipush 6, 2) := by decide +kernel
theorem dX7_sure_4 : decode cX7_sure 4 = .ok (.invokestatic 87, 3) := by decide +kernel
theorem dX7_sure_7 : decode cX7_sure 7 = .ok (.ifCond .eq 14, 3) := by decide +kernel
theorem dX7_sure_10 : decode cX7_sure 10 = .ok (.aload_n 0, 1) := by decide +kernel
theorem dX7_sure_11 : decode cX7_sure 11 = .ok (.getfield 12, 3) := by decide +kernel
theorem dX7_sure_14 : decode cX7_sure 14 = .ok (.iload_n 2, 1) := by decide +kernel
theorem dX7_sure_15 : decode cX7_sure 15 = .ok (.invokevirtual 167, 3) := by decide +kernel
theorem dX7_sure_18 : decode cX7_sure 18 = .ok (.ifCond .ne 5, 3) := by decide +kernel
theorem dX7_sure_21 : decode cX7_sure 21 = .ok (.iconst (-1), 1) := by decide +kernel
theorem dX7_sure_22 : decode cX7_sure 22 = .ok (.ireturn, 1) := by decide +kernel
theorem dX7_sure_23 : decode cX7_sure 23 = .ok (.bipush (-4), 2) := by decide +kernel
theorem dX7_sure_25 : decode cX7_sure 25 = .ok (.istore_n 3, 1) := by decide +kernel
theorem dX7_sure_26 : decode cX7_sure 26 = .ok (.iconst 0, 1) := by decide +kernel
theorem dX7_sure_27 : decode cX7_sure 27 = .ok (.istore 4, 2) := by decide +kernel
theorem dX7_sure_29 : decode cX7_sure 29 = .ok (.iload 4, 2) := by decide +kernel
theorem dX7_sure_31 : decode cX7_sure 31 = .ok (.sipush 209, 3) := by decide +kernel
theorem dX7_sure_34 : decode cX7_sure 34 = .ok (.if_icmp .gt 46, 3) := by decide +kernel
theorem dX7_sure_37 : decode cX7_sure 37 = .ok (.aload_n 0, 1) := by decide +kernel
theorem dX7_sure_38 : decode cX7_sure 38 = .ok (.iload 4, 2) := by decide +kernel
theorem dX7_sure_40 : decode cX7_sure 40 = .ok (.invokevirtual 226, 3) := by decide +kernel
theorem dX7_sure_43 : decode cX7_sure 43 = .ok (.ifCond .eq 31, 3) := by decide +kernel
theorem dX7_sure_46 : decode cX7_sure 46 = .ok (.aload_n 0, 1) := by decide +kernel
theorem dX7_sure_47 : decode cX7_sure 47 = .ok (.iload 4, 2) := by decide +kernel
theorem dX7_sure_49 : decode cX7_sure 49 = .ok (.iload_n 1, 1) := by decide +kernel
theorem dX7_sure_50 : decode cX7_sure 50 = .ok (.iload_n 2, 1) := by decide +kernel
theorem dX7_sure_51 : decode cX7_sure 51 = .ok (.invokevirtual 229, 3) := by decide +kernel
theorem dX7_sure_54 : decode cX7_sure 54 = .ok (.istore 5, 2) := by decide +kernel
theorem dX7_sure_56 : decode cX7_sure 56 = .ok (.iload_n 3, 1) := by decide +kernel
theorem dX7_sure_57 : decode cX7_sure 57 = .ok (.bipush (-4), 2) := by decide +kernel
theorem dX7_sure_59 : decode cX7_sure 59 = .ok (.if_icmp .eq 12, 3) := by decide +kernel
theorem dX7_sure_62 : decode cX7_sure 62 = .ok (.iload_n 3, 1) := by decide +kernel
theorem dX7_sure_63 : decode cX7_sure 63 = .ok (.iload 5, 2) := by decide +kernel
theorem dX7_sure_65 : decode cX7_sure 65 = .ok (.if_icmp .eq 6, 3) := by decide +kernel
theorem dX7_sure_68 : decode cX7_sure 68 = .ok (.bipush (-4), 2) := by decide +kernel
theorem dX7_sure_70 : decode cX7_sure 70 = .ok (.ireturn, 1) := by decide +kernel
theorem dX7_sure_71 : decode cX7_sure 71 = .ok (.iload 5, 2) := by decide +kernel
theorem dX7_sure_73 : decode cX7_sure 73 = .ok (.istore_n 3, 1) := by decide +kernel
theorem dX7_sure_74 : decode cX7_sure 74 = .ok (.iinc 4 1, 3) := by decide +kernel
theorem dX7_sure_77 : decode cX7_sure 77 = .ok (.goto (-48), 3) := by decide +kernel
theorem dX7_sure_80 : decode cX7_sure 80 = .ok (.iload_n 3, 1) := by decide +kernel
theorem dX7_sure_81 : decode cX7_sure 81 = .ok (.ireturn, 1) := by decide +kernel
set_option maxRecDepth 20000 in
theorem ggX7_fits_X2_isLaw : GoodIn wsX7_fits wsX2_isLaw := goodIn_r _ [8, 9, 10, 11, 12, 7, 13, 14, 15, 16, 17, 18, 19, 20, 21, 22, 23, 24, 25, 76, 77, 78, 79, 80, 81] (by decide +kernel) (by decide +kernel)
set_option maxRecDepth 20000 in
theorem gX7_fits_X2_isLaw : GoodIn wsX7_fits (wsV RX7 232 RX2 yX2_isLaw wsX2_isLaw) := goodIn_app (goodIn_of _ (by decide +kernel)) ggX7_fits_X2_isLaw
set_option maxRecDepth 20000 in
theorem ggX7_fits_X6_copyFrom : GoodIn wsX7_fits wsX6_copyFrom := goodIn_r _ [30, 31, 32, 33, 34, 35, 36, 37, 38, 39, 40, 41, 42, 43, 44, 82, 83, 84, 85, 86, 87, 88, 89, 90, 91, 92] (by decide +kernel) (by decide +kernel)
set_option maxRecDepth 20000 in
theorem gX7_fits_X6_copyFrom : GoodIn wsX7_fits (wsV RX7 107 RX6 yX6_copyFrom wsX6_copyFrom) := goodIn_app (goodIn_of _ (by decide +kernel)) ggX7_fits_X6_copyFrom
set_option maxRecDepth 20000 in
theorem ggX7_fits_X6_change : GoodIn wsX7_fits wsX6_change := goodIn_r _ [48, 37, 31, 49, 50, 14, 15, 16, 22, 23, 51, 52, 82, 83, 84, 85, 86, 87, 88, 89, 90, 91, 92, 76, 77, 78, 79, 80, 81] (by decide +kernel) (by decide +kernel)
set_option maxRecDepth 20000 in
theorem gX7_fits_X6_change : GoodIn wsX7_fits (wsV RX7 235 RX6 yX6_change wsX6_change) := goodIn_app (goodIn_of _ (by decide +kernel)) ggX7_fits_X6_change
set_option maxRecDepth 20000 in
theorem ggX7_fits_X7_isAsSeen : GoodIn wsX7_fits wsX7_isAsSeen := goodIn_r _ [56, 57, 58, 59, 2, 60, 61, 62, 63, 64, 65, 66, 67, 68, 69, 70, 71, 72, 73, 74, 75, 93, 94, 95, 96, 82, 83, 84, 85, 86, 87, 88, 89, 90, 91, 92] (by decide +kernel) (by decide +kernel)
set_option maxRecDepth 20000 in
theorem gX7_fits_X7_isAsSeen : GoodIn wsX7_fits (wsV RX7 238 RX7 yX7_isAsSeen wsX7_isAsSeen) := goodIn_app (goodIn_of _ (by decide +kernel)) ggX7_fits_X7_isAsSeen
theorem dX7_fits_0 : decode cX7_fits 0 = .ok (.aload_n 0, 1) := by decide +kernel
theorem dX7_fits_1 : decode cX7_fits 1 = .ok (.getfield 12, 3) := by decide +kernel
theorem dX7_fits_4 : decode cX7_fits 4 = .ok (.iload_n 1, 1) := by decide +kernel
theorem dX7_fits_5 : decode cX7_fits 5 = .ok (.invokevirtual 232, 3) := by decide +kernel
theorem dX7_fits_8 : decode cX7_fits 8 = .ok (.ifCond .ne 5, 3) := by decide +kernel
theorem dX7_fits_11 : decode cX7_fits 11 = .ok (.iconst 0, 1) := by decide +kernel
theorem dX7_fits_12 : decode cX7_fits 12 = .ok (.ireturn, 1) := by decide +kernel
theorem dX7_fits_13 : decode cX7_fits 13 = .ok (.aload_n 0, 1) := by decide +kernel
theorem dX7_fits_14 : decode cX7_fits 14 = .ok (.getfield 25, 3) := by decide +kernel
theorem dX7_fits_17 : decode cX7_fits 17 = .ok (.aload_n 0, 1) := by decide +kernel
theorem dX7_fits_18 : decode cX7_fits 18 = .ok (.getfield 21, 3) := by decide +kernel
theorem dX7_fits_21 : decode cX7_fits 21 = .ok (.invokevirtual 107, 3) := by decide +kernel
theorem dX7_fits_24 : decode cX7_fits 24 = .ok (.iconst 1, 1) := by decide +kernel
theorem dX7_fits_25 : decode cX7_fits 25 = .ok (.istore_n 2, 1) := by decide +kernel
theorem dX7_fits_26 : decode cX7_fits 26 = .ok (.iload_n 2, 1) := by decide +kernel
theorem dX7_fits_27 : decode cX7_fits 27 = .ok (.bipush 6, 2) := by decide +kernel
theorem dX7_fits_29 : decode cX7_fits 29 = .ok (.if_icmp .gt 27, 3) := by decide +kernel
theorem dX7_fits_32 : decode cX7_fits 32 = .ok (.aload_n 0, 1) := by decide +kernel
theorem dX7_fits_33 : decode cX7_fits 33 = .ok (.getfield 25, 3) := by decide +kernel
theorem dX7_fits_36 : decode cX7_fits 36 = .ok (.iload_n 1, 1) := by decide +kernel
theorem dX7_fits_37 : decode cX7_fits 37 = .ok (.invokevirtual 235, 3) := by decide +kernel
theorem dX7_fits_40 : decode cX7_fits 40 = .ok (.aload_n 0, 1) := by decide +kernel
theorem dX7_fits_41 : decode cX7_fits 41 = .ok (.iload_n 2, 1) := by decide +kernel
theorem dX7_fits_42 : decode cX7_fits 42 = .ok (.invokevirtual 238, 3) := by decide +kernel
theorem dX7_fits_45 : decode cX7_fits 45 = .ok (.ifCond .ne 5, 3) := by decide +kernel
theorem dX7_fits_48 : decode cX7_fits 48 = .ok (.iconst 0, 1) := by decide +kernel
theorem dX7_fits_49 : decode cX7_fits 49 = .ok (.ireturn, 1) := by decide +kernel
theorem dX7_fits_50 : decode cX7_fits 50 = .ok (.iinc 2 1, 3) := by decide +kernel
theorem dX7_fits_53 : decode cX7_fits 53 = .ok (.goto (-27), 3) := by decide +kernel
theorem dX7_fits_56 : decode cX7_fits 56 = .ok (.iconst 1, 1) := by decide +kernel
theorem dX7_fits_57 : decode cX7_fits 57 = .ok (.ireturn, 1) := by decide +kernel
theorem dX7_isAsSeen_0 : decode cX7_isAsSeen 0 = .ok (.iconst 0, 1) := by decide +kernel
theorem dX7_isAsSeen_1 : decode cX7_isAsSeen 1 = .ok (.istore_n 2, 1) := by decide +kernel
theorem dX7_isAsSeen_2 : decode cX7_isAsSeen 2 = .ok (.iload_n 2, 1) := by decide +kernel
theorem dX7_isAsSeen_3 : decode cX7_isAsSeen 3 = .ok (.aload_n 0, 1) := by decide +kernel
theorem dX7_isAsSeen_4 : decode cX7_isAsSeen 4 = .ok (.getfield 49, 3) := by decide +kernel
theorem dX7_isAsSeen_7 : decode cX7_isAsSeen 7 = .ok (.getfield 110, 3) := by decide +kernel
theorem dX7_isAsSeen_10 : decode cX7_isAsSeen 10 = .ok (.if_icmp .ge 53, 3) := by decide +kernel
theorem dX7_isAsSeen_13 : decode cX7_isAsSeen 13 = .ok (.aload_n 0, 1) := by decide +kernel
theorem dX7_isAsSeen_14 : decode cX7_isAsSeen 14 = .ok (.getfield 49, 3) := by decide +kernel
theorem dX7_isAsSeen_17 : decode cX7_isAsSeen 17 = .ok (.getfield 241, 3) := by decide +kernel
theorem dX7_isAsSeen_20 : decode cX7_isAsSeen 20 = .ok (.iload_n 2, 1) := by decide +kernel
theorem dX7_isAsSeen_21 : decode cX7_isAsSeen 21 = .ok (.iaload, 1) := by decide +kernel
theorem dX7_isAsSeen_22 : decode cX7_isAsSeen 22 = .ok (.iload_n 1, 1) := by decide +kernel
theorem dX7_isAsSeen_23 : decode cX7_isAsSeen 23 = .ok (.if_icmp .ne 34, 3) := by decide +kernel
theorem dX7_isAsSeen_26 : decode cX7_isAsSeen 26 = .ok (.aload_n 0, 1) := by decide +kernel
theorem dX7_isAsSeen_27 : decode cX7_isAsSeen 27 = .ok (.getfield 25, 3) := by decide +kernel
theorem dX7_isAsSeen_30 : decode cX7_isAsSeen 30 = .ok (.getfield 244, 3) := by decide +kernel
theorem dX7_isAsSeen_33 : decode cX7_isAsSeen 33 = .ok (.aload_n 0, 1) := by decide +kernel
theorem dX7_isAsSeen_34 : decode cX7_isAsSeen 34 = .ok (.getfield 49, 3) := by decide +kernel
theorem dX7_isAsSeen_37 : decode cX7_isAsSeen 37 = .ok (.getfield 247, 3) := by decide +kernel
theorem dX7_isAsSeen_40 : decode cX7_isAsSeen 40 = .ok (.iload_n 2, 1) := by decide +kernel
theorem dX7_isAsSeen_41 : decode cX7_isAsSeen 41 = .ok (.iaload, 1) := by decide +kernel
theorem dX7_isAsSeen_42 : decode cX7_isAsSeen 42 = .ok (.iaload, 1) := by decide +kernel
theorem dX7_isAsSeen_43 : decode cX7_isAsSeen 43 = .ok (.aload_n 0, 1) := by decide +kernel
theorem dX7_isAsSeen_44 : decode cX7_isAsSeen 44 = .ok (.getfield 49, 3) := by decide +kernel
theorem dX7_isAsSeen_47 : decode cX7_isAsSeen 47 = .ok (.getfield 250, 3) := by decide +kernel
theorem dX7_isAsSeen_50 : decode cX7_isAsSeen 50 = .ok (.iload_n 2, 1) := by decide +kernel
theorem dX7_isAsSeen_51 : decode cX7_isAsSeen 51 = .ok (.iaload, 1) := by decide +kernel
theorem dX7_isAsSeen_52 : decode cX7_isAsSeen 52 = .ok (.if_icmp .eq 5, 3) := by decide +kernel
theorem dX7_isAsSeen_55 : decode cX7_isAsSeen 55 = .ok (.iconst 0, 1) := by decide +kernel
theorem dX7_isAsSeen_56 : decode cX7_isAsSeen 56 = .ok (.ireturn, 1) := by decide +kernel
theorem dX7_isAsSeen_57 : decode cX7_isAsSeen 57 = .ok (.iinc 2 1, 3) := by decide +kernel
theorem dX7_isAsSeen_60 : decode cX7_isAsSeen 60 = .ok (.goto (-58), 3) := by decide +kernel
theorem dX7_isAsSeen_63 : decode cX7_isAsSeen 63 = .ok (.iconst 1, 1) := by decide +kernel
theorem dX7_isAsSeen_64 : decode cX7_isAsSeen 64 = .ok (.ireturn, 1) := by decide +kernel
set_option maxRecDepth 20000 in
theorem ggX7_endByLaw_X6_copyFrom : GoodIn wsX7_endByLaw wsX6_copyFrom := goodIn_r _ [8, 9, 10, 11, 12, 13, 14, 15, 16, 17, 18, 19, 20, 21, 22, 49, 50, 51, 52, 53, 54, 55, 56, 57, 58, 59] (by decide +kernel) (by decide +kernel)
set_option maxRecDepth 20000 in
theorem gX7_endByLaw_X6_copyFrom : GoodIn wsX7_endByLaw (wsV RX7 107 RX6 yX6_copyFrom wsX6_copyFrom) := goodIn_app (goodIn_of _ (by decide +kernel)) ggX7_endByLaw_X6_copyFrom
set_option maxRecDepth 20000 in
theorem ggX7_endByLaw_X6_change : GoodIn wsX7_endByLaw wsX6_change := goodIn_r _ [26, 15, 9, 27, 28, 29, 30, 31, 32, 33, 34, 35, 49, 50, 51, 52, 53, 54, 55, 56, 57, 58, 59, 60, 61, 62, 63, 64, 65] (by decide +kernel) (by decide +kernel)
set_option maxRecDepth 20000 in
theorem gX7_endByLaw_X6_change : GoodIn wsX7_endByLaw (wsV RX7 235 RX6 yX6_change wsX6_change) := goodIn_app (goodIn_of _ (by decide +kernel)) ggX7_endByLaw_X6_change
theorem dX7_endByLaw_0 : decode cX7_endByLaw 0 = .ok (.aload_n 0, 1) := by decide +kernel
theorem dX7_endByLaw_1 : decode cX7_endByLaw 1 = .ok (.getfield 25, 3) := by decide +kernel
theorem dX7_endByLaw_4 : decode cX7_endByLaw 4 = .ok (.aload_n 0, 1) := by decide +kernel
theorem dX7_endByLaw_5 : decode cX7_endByLaw 5 = .ok (.getfield 21, 3) := by decide +kernel
theorem dX7_endByLaw_8 : decode cX7_endByLaw 8 = .ok (.invokevirtual 107, 3) := by decide +kernel
theorem dX7_endByLaw_11 : decode cX7_endByLaw 11 = .ok (.iconst 0, 1) := by decide +kernel
theorem dX7_endByLaw_12 : decode cX7_endByLaw 12 = .ok (.istore 4, 2) := by decide +kernel
theorem dX7_endByLaw_14 : decode cX7_endByLaw 14 = .ok (.iload 4, 2) := by decide +kernel
theorem dX7_endByLaw_16 : decode cX7_endByLaw 16 = .ok (.iload_n 2, 1) := by decide +kernel
theorem dX7_endByLaw_17 : decode cX7_endByLaw 17 = .ok (.if_icmp .ge 17, 3) := by decide +kernel
theorem dX7_endByLaw_20 : decode cX7_endByLaw 20 = .ok (.aload_n 0, 1) := by decide +kernel
theorem dX7_endByLaw_21 : decode cX7_endByLaw 21 = .ok (.getfield 25, 3) := by decide +kernel
theorem dX7_endByLaw_24 : decode cX7_endByLaw 24 = .ok (.iload_n 1, 1) := by decide +kernel
theorem dX7_endByLaw_25 : decode cX7_endByLaw 25 = .ok (.invokevirtual 235, 3) := by decide +kernel
theorem dX7_endByLaw_28 : decode cX7_endByLaw 28 = .ok (.iinc 4 1, 3) := by decide +kernel
theorem dX7_endByLaw_31 : decode cX7_endByLaw 31 = .ok (.goto (-17), 3) := by decide +kernel
theorem dX7_endByLaw_34 : decode cX7_endByLaw 34 = .ok (.aload_n 0, 1) := by decide +kernel
theorem dX7_endByLaw_35 : decode cX7_endByLaw 35 = .ok (.getfield 25, 3) := by decide +kernel
theorem dX7_endByLaw_38 : decode cX7_endByLaw 38 = .ok (.getfield 244, 3) := by decide +kernel
theorem dX7_endByLaw_41 : decode cX7_endByLaw 41 = .ok (.iload_n 3, 1) := by decide +kernel
theorem dX7_endByLaw_42 : decode cX7_endByLaw 42 = .ok (.iaload, 1) := by decide +kernel
theorem dX7_endByLaw_43 : decode cX7_endByLaw 43 = .ok (.ireturn, 1) := by decide +kernel
set_option maxRecDepth 20000 in
theorem ggX7_hear_X7_isWithin : GoodIn wsX7_hear wsX7_isWithin := goodIn_r _ [7] (by decide +kernel) (by decide +kernel)
set_option maxRecDepth 20000 in
theorem gX7_hear_X7_isWithin : GoodIn wsX7_hear (va_wsS RX7 87 yX7_isWithin wsX7_isWithin) := goodIn_app (goodIn_of _ (by decide +kernel)) ggX7_hear_X7_isWithin
set_option maxRecDepth 20000 in
theorem ggX7_hear_X2_hasRoom : GoodIn wsX7_hear wsX2_hasRoom := goodIn_r _ [12, 13, 43, 44, 45, 46, 47, 48] (by decide +kernel) (by decide +kernel)
set_option maxRecDepth 20000 in
theorem gX7_hear_X2_hasRoom : GoodIn wsX7_hear (wsV RX7 159 RX2 yX2_hasRoom wsX2_hasRoom) := goodIn_app (goodIn_of _ (by decide +kernel)) ggX7_hear_X2_hasRoom
set_option maxRecDepth 20000 in
theorem ggX7_hear_X7_asNumber : GoodIn wsX7_hear wsX7_asNumber := goodIn_r _ [16] (by decide +kernel) (by decide +kernel)
set_option maxRecDepth 20000 in
theorem gX7_hear_X7_asNumber : GoodIn wsX7_hear (va_wsS RX7 147 yX7_asNumber wsX7_asNumber) := goodIn_app (goodIn_of _ (by decide +kernel)) ggX7_hear_X7_asNumber
set_option maxRecDepth 20000 in
theorem ggX7_hear_X0_add : GoodIn wsX7_hear wsX0_add := goodIn_r _ [21, 22, 23, 24, 25, 39, 40, 41, 42] (by decide +kernel) (by decide +kernel)
set_option maxRecDepth 20000 in
theorem gX7_hear_X0_add : GoodIn wsX7_hear (wsV RX7 220 RX0 yX0_add wsX0_add) := goodIn_app (goodIn_of _ (by decide +kernel)) ggX7_hear_X0_add
theorem dX7_hear_0 : decode cX7_hear 0 = .ok (.iload_n 1, 1) := by decide +kernel
theorem dX7_hear_1 : decode cX7_hear 1 = .ok (.iconst 1, 1) := by decide +kernel
theorem dX7_hear_2 : decode cX7_hear 2 = .ok (.bipush 12, 2) := by decide +kernel
theorem dX7_hear_4 : decode cX7_hear 4 = .ok (.invokestatic 87, 3) := by decide +kernel
theorem dX7_hear_7 : decode cX7_hear 7 = .ok (.ifCond .eq 14, 3) := by decide +kernel
theorem dX7_hear_10 : decode cX7_hear 10 = .ok (.aload_n 0, 1) := by decide +kernel
theorem dX7_hear_11 : decode cX7_hear 11 = .ok (.getfield 12, 3) := by decide +kernel
theorem dX7_hear_14 : decode cX7_hear 14 = .ok (.iload_n 2, 1) := by decide +kernel
theorem dX7_hear_15 : decode cX7_hear 15 = .ok (.invokevirtual 159, 3) := by decide +kernel
theorem dX7_hear_18 : decode cX7_hear 18 = .ok (.ifCond .ne 5, 3) := by decide +kernel
theorem dX7_hear_21 : decode cX7_hear 21 = .ok (.iconst (-1), 1) := by decide +kernel
theorem dX7_hear_22 : decode cX7_hear 22 = .ok (.ireturn, 1) := by decide +kernel
theorem dX7_hear_23 : decode cX7_hear 23 = .ok (.aload_n 0, 1) := by decide +kernel
theorem dX7_hear_24 : decode cX7_hear 24 = .ok (.getfield 53, 3) := by decide +kernel
theorem dX7_hear_27 : decode cX7_hear 27 = .ok (.iload_n 1, 1) := by decide +kernel
theorem dX7_hear_28 : decode cX7_hear 28 = .ok (.iload_n 2, 1) := by decide +kernel
theorem dX7_hear_29 : decode cX7_hear 29 = .ok (.iload_n 3, 1) := by decide +kernel
theorem dX7_hear_30 : decode cX7_hear 30 = .ok (.invokestatic 147, 3) := by decide +kernel
theorem dX7_hear_33 : decode cX7_hear 33 = .ok (.invokevirtual 220, 3) := by decide +kernel
theorem dX7_hear_36 : decode cX7_hear 36 = .ok (.ifCond .eq 13, 3) := by decide +kernel
theorem dX7_hear_39 : decode cX7_hear 39 = .ok (.aload_n 0, 1) := by decide +kernel
theorem dX7_hear_40 : decode cX7_hear 40 = .ok (.getfield 53, 3) := by decide +kernel
theorem dX7_hear_43 : decode cX7_hear 43 = .ok (.getfield 110, 3) := by decide +kernel
theorem dX7_hear_46 : decode cX7_hear 46 = .ok (.goto 5, 3) := by decide +kernel
theorem dX7_hear_49 : decode cX7_hear 49 = .ok (.bipush (-3), 2) := by decide +kernel
theorem dX7_hear_51 : decode cX7_hear 51 = .ok (.ireturn, 1) := by decide +kernel
set_option maxRecDepth 20000 in
theorem ggX7_hush_X0_keepFirst : GoodIn wsX7_hush wsX0_keepFirst := goodIn_r _ [6, 7, 8, 9, 10, 24, 25, 26, 27] (by decide +kernel) (by decide +kernel)
set_option maxRecDepth 20000 in
theorem gX7_hush_X0_keepFirst : GoodIn wsX7_hush (wsV RX7 223 RX0 yX0_keepFirst wsX0_keepFirst) := goodIn_app (goodIn_of _ (by decide +kernel)) ggX7_hush_X0_keepFirst
theorem dX7_hush_0 : decode cX7_hush 0 = .ok (.aload_n 0, 1) := by decide +kernel
theorem dX7_hush_1 : decode cX7_hush 1 = .ok (.getfield 53, 3) := by decide +kernel
theorem dX7_hush_4 : decode cX7_hush 4 = .ok (.iload_n 1, 1) := by decide +kernel
theorem dX7_hush_5 : decode cX7_hush 5 = .ok (.invokevirtual 223, 3) := by decide +kernel
theorem dX7_hush_8 : decode cX7_hush 8 = .ok (.ireturn, 1) := by decide +kernel
set_option maxRecDepth 20000 in
theorem ggX7_lair_X7_isHabit : GoodIn wsX7_lair wsX7_isHabit := goodIn_r _ [8, 9, 10, 7, 11] (by decide +kernel) (by decide +kernel)
set_option maxRecDepth 20000 in
theorem gX7_lair_X7_isHabit : GoodIn wsX7_lair (va_wsS RX7 176 yX7_isHabit wsX7_isHabit) := goodIn_app (goodIn_of _ (by decide +kernel)) ggX7_lair_X7_isHabit
set_option maxRecDepth 20000 in
theorem ggX7_lair_X7_mayLurkIn : GoodIn wsX7_lair wsX7_mayLurkIn := goodIn_r _ [15, 16, 3, 4, 17, 18, 19, 20, 21, 22, 23, 24, 25, 26, 27, 28, 29, 30, 31, 32, 33, 34, 35, 36, 37, 38, 39, 40, 41, 42, 43, 44, 45, 46, 47, 48, 49, 50, 51, 52, 53, 54, 55, 56, 57, 58, 59, 60, 61, 62, 63, 64, 65, 66, 67, 68, 69, 70, 71, 72, 7, 73, 74, 75, 76, 77, 78, 79, 80, 81, 82, 83, 84, 85, 86, 87, 88, 89, 90, 91, 92, 93, 94, 95, 96, 97, 98, 99, 100, 101, 102, 103, 104, 105, 106, 107, 108, 109, 110, 111, 112, 113, 114, 115, 116, 117, 118, 119, 126, 127, 128, 129, 130, 131, 132, 133, 134, 135, 136, 120, 121, 122, 123, 124, 125, 137, 138, 139, 140] (by decide +kernel) (by decide +kernel)
set_option maxRecDepth 20000 in
theorem gX7_lair_X7_mayLurkIn : GoodIn wsX7_lair (wsV RX7 253 RX7 yX7_mayLurkIn wsX7_mayLurkIn) := goodIn_app (goodIn_of _ (by decide +kernel)) ggX7_lair_X7_mayLurkIn
theorem dX7_lair_0 : decode cX7_lair 0 = .ok (.iload_n 1, 1) := by decide +kernel
theorem dX7_lair_1 : decode cX7_lair 1 = .ok (.invokestatic 176, 3) := by decide +kernel
theorem dX7_lair_4 : decode cX7_lair 4 = .ok (.ifCond .ne 5, 3) := by decide +kernel
theorem dX7_lair_7 : decode cX7_lair 7 = .ok (.iconst (-1), 1) := by decide +kernel
theorem dX7_lair_8 : decode cX7_lair 8 = .ok (.ireturn, 1) := by decide +kernel
theorem dX7_lair_9 : decode cX7_lair 9 = .ok (.iconst 0, 1) := by decide +kernel
theorem dX7_lair_10 : decode cX7_lair 10 = .ok (.istore_n 2, 1) := by decide +kernel
theorem dX7_lair_11 : decode cX7_lair 11 = .ok (.iconst 0, 1) := by decide +kernel
theorem dX7_lair_12 : decode cX7_lair 12 = .ok (.istore_n 3, 1) := by decide +kernel
theorem dX7_lair_13 : decode cX7_lair 13 = .ok (.iload_n 3, 1) := by decide +kernel
theorem dX7_lair_14 : decode cX7_lair 14 = .ok (.aload_n 0, 1) := by decide +kernel
theorem dX7_lair_15 : decode cX7_lair 15 = .ok (.getfield 12, 3) := by decide +kernel
theorem dX7_lair_18 : decode cX7_lair 18 = .ok (.getfield 116, 3) := by decide +kernel
theorem dX7_lair_21 : decode cX7_lair 21 = .ok (.if_icmp .ge 35, 3) := by decide +kernel
theorem dX7_lair_24 : decode cX7_lair 24 = .ok (.iload_n 3, 1) := by decide +kernel
theorem dX7_lair_25 : decode cX7_lair 25 = .ok (.aload_n 0, 1) := by decide +kernel
theorem dX7_lair_26 : decode cX7_lair 26 = .ok (.getfield 21, 3) := by decide +kernel
theorem dX7_lair_29 : decode cX7_lair 29 = .ok (.getfield 134, 3) := by decide +kernel
theorem dX7_lair_32 : decode cX7_lair 32 = .ok (.if_icmp .eq 18, 3) := by decide +kernel
theorem dX7_lair_35 : decode cX7_lair 35 = .ok (.aload_n 0, 1) := by decide +kernel
theorem dX7_lair_36 : decode cX7_lair 36 = .ok (.iload_n 3, 1) := by decide +kernel
theorem dX7_lair_37 : decode cX7_lair 37 = .ok (.iload_n 1, 1) := by decide +kernel
theorem dX7_lair_38 : decode cX7_lair 38 = .ok (.invokevirtual 253, 3) := by decide +kernel
theorem dX7_lair_41 : decode cX7_lair 41 = .ok (.ifCond .eq 9, 3) := by decide +kernel
theorem dX7_lair_44 : decode cX7_lair 44 = .ok (.iload_n 2, 1) := by decide +kernel
theorem dX7_lair_45 : decode cX7_lair 45 = .ok (.iconst 1, 1) := by decide +kernel
theorem dX7_lair_46 : decode cX7_lair 46 = .ok (.iload_n 3, 1) := by decide +kernel
theorem dX7_lair_47 : decode cX7_lair 47 = .ok (.ishl, 1) := by decide +kernel
theorem dX7_lair_48 : decode cX7_lair 48 = .ok (.ior, 1) := by decide +kernel
theorem dX7_lair_49 : decode cX7_lair 49 = .ok (.istore_n 2, 1) := by decide +kernel
theorem dX7_lair_50 : decode cX7_lair 50 = .ok (.iinc 3 1, 3) := by decide +kernel
theorem dX7_lair_53 : decode cX7_lair 53 = .ok (.goto (-40), 3) := by decide +kernel
theorem dX7_lair_56 : decode cX7_lair 56 = .ok (.iload_n 2, 1) := by decide +kernel
theorem dX7_lair_57 : decode cX7_lair 57 = .ok (.ireturn, 1) := by decide +kernel
set_option maxRecDepth 20000 in
theorem ggX7_mayLurkIn_X6_copyFrom : GoodIn wsX7_mayLurkIn wsX6_copyFrom := goodIn_r _ [8, 9, 10, 11, 12, 13, 14, 15, 16, 17, 18, 19, 20, 21, 22, 108, 109, 110, 111, 112, 113, 114, 115, 116, 117, 118] (by decide +kernel) (by decide +kernel)
set_option maxRecDepth 20000 in
theorem gX7_mayLurkIn_X6_copyFrom : GoodIn wsX7_mayLurkIn (wsV RX7 107 RX6 yX6_copyFrom wsX6_copyFrom) := goodIn_app (goodIn_of _ (by decide +kernel)) ggX7_mayLurkIn_X6_copyFrom
set_option maxRecDepth 20000 in
theorem ggX7_mayLurkIn_X6_prowl : GoodIn wsX7_mayLurkIn wsX6_prowl := goodIn_r _ [26, 21, 27, 28, 29, 7, 30, 31, 32, 33, 34, 35, 36, 37, 9, 38, 39, 40, 41, 42, 43, 44, 45, 46, 47, 15, 48, 49, 50, 51, 52, 53, 54, 55, 56, 57, 58, 59, 60, 61, 62, 63, 108, 109, 110, 111, 112, 113, 114, 115, 116, 117, 118, 119, 120, 121, 122, 123, 124] (by decide +kernel) (by decide +kernel)
set_option maxRecDepth 20000 in
theorem gX7_mayLurkIn_X6_prowl : GoodIn wsX7_mayLurkIn (wsV RX7 257 RX6 yX6_prowl wsX6_prowl) := goodIn_app (goodIn_of _ (by decide +kernel)) ggX7_mayLurkIn_X6_prowl
set_option maxRecDepth 20000 in
theorem ggX7_mayLurkIn_X6_passTime : GoodIn wsX7_mayLurkIn wsX6_passTime := goodIn_r _ [67, 21, 16, 59, 60, 61, 68, 69, 70, 7, 71, 31, 72, 73, 74, 75, 76, 77, 15, 9, 78, 79, 80, 81, 82, 108, 109, 110, 111, 112, 113, 114, 115, 116, 117, 118, 119, 120, 121, 122, 123, 124] (by decide +kernel) (by decide +kernel)
set_option maxRecDepth 20000 in
theorem gX7_mayLurkIn_X6_passTime : GoodIn wsX7_mayLurkIn (wsV RX7 260 RX6 yX6_passTime wsX6_passTime) := goodIn_app (goodIn_of _ (by decide +kernel)) ggX7_mayLurkIn_X6_passTime
set_option maxRecDepth 20000 in
theorem ggX7_mayLurkIn_X7_isAsHeard : GoodIn wsX7_mayLurkIn wsX7_isAsHeard := goodIn_r _ [86, 87, 88, 89, 90, 91, 92, 93, 60, 94, 95, 96, 97, 98, 99, 100, 101, 102, 103, 104, 105, 106, 107, 125, 126, 127, 128] (by decide +kernel) (by decide +kernel)
set_option maxRecDepth 20000 in
theorem gX7_mayLurkIn_X7_isAsHeard : GoodIn wsX7_mayLurkIn (wsV RX7 263 RX7 yX7_isAsHeard wsX7_isAsHeard) := goodIn_app (goodIn_of _ (by decide +kernel)) ggX7_mayLurkIn_X7_isAsHeard
theorem dX7_mayLurkIn_0 : decode cX7_mayLurkIn 0 = .ok (.aload_n 0, 1) := by decide +kernel
theorem dX7_mayLurkIn_1 : decode cX7_mayLurkIn 1 = .ok (.getfield 25, 3) := by decide +kernel
theorem dX7_mayLurkIn_4 : decode cX7_mayLurkIn 4 = .ok (.aload_n 0, 1) := by decide +kernel
theorem dX7_mayLurkIn_5 : decode cX7_mayLurkIn 5 = .ok (.getfield 21, 3) := by decide +kernel
theorem dX7_mayLurkIn_8 : decode cX7_mayLurkIn 8 = .ok (.invokevirtual 107, 3) := by decide +kernel
theorem dX7_mayLurkIn_11 : decode cX7_mayLurkIn 11 = .ok (.iload_n 1, 1) := by decide +kernel
theorem dX7_mayLurkIn_12 : decode cX7_mayLurkIn 12 = .ok (.istore_n 3, 1) := by decide +kernel
theorem dX7_mayLurkIn_13 : decode cX7_mayLurkIn 13 = .ok (.iconst 1, 1) := by decide +kernel
theorem dX7_mayLurkIn_14 : decode cX7_mayLurkIn 14 = .ok (.istore 4, 2) := by decide +kernel
theorem dX7_mayLurkIn_16 : decode cX7_mayLurkIn 16 = .ok (.iload 4, 2) := by decide +kernel
theorem dX7_mayLurkIn_18 : decode cX7_mayLurkIn 18 = .ok (.bipush 12, 2) := by decide +kernel
theorem dX7_mayLurkIn_20 : decode cX7_mayLurkIn 20 = .ok (.if_icmp .gt 45, 3) := by decide +kernel
theorem dX7_mayLurkIn_23 : decode cX7_mayLurkIn 23 = .ok (.aload_n 0, 1) := by decide +kernel
theorem dX7_mayLurkIn_24 : decode cX7_mayLurkIn 24 = .ok (.getfield 25, 3) := by decide +kernel
theorem dX7_mayLurkIn_27 : decode cX7_mayLurkIn 27 = .ok (.iload_n 2, 1) := by decide +kernel
theorem dX7_mayLurkIn_28 : decode cX7_mayLurkIn 28 = .ok (.iload_n 3, 1) := by decide +kernel
theorem dX7_mayLurkIn_29 : decode cX7_mayLurkIn 29 = .ok (.aload_n 0, 1) := by decide +kernel
theorem dX7_mayLurkIn_30 : decode cX7_mayLurkIn 30 = .ok (.getfield 25, 3) := by decide +kernel
theorem dX7_mayLurkIn_33 : decode cX7_mayLurkIn 33 = .ok (.getfield 134, 3) := by decide +kernel
theorem dX7_mayLurkIn_36 : decode cX7_mayLurkIn 36 = .ok (.invokevirtual 257, 3) := by decide +kernel
theorem dX7_mayLurkIn_39 : decode cX7_mayLurkIn 39 = .ok (.istore_n 3, 1) := by decide +kernel
theorem dX7_mayLurkIn_40 : decode cX7_mayLurkIn 40 = .ok (.aload_n 0, 1) := by decide +kernel
theorem dX7_mayLurkIn_41 : decode cX7_mayLurkIn 41 = .ok (.getfield 25, 3) := by decide +kernel
theorem dX7_mayLurkIn_44 : decode cX7_mayLurkIn 44 = .ok (.invokevirtual 260, 3) := by decide +kernel
theorem dX7_mayLurkIn_47 : decode cX7_mayLurkIn 47 = .ok (.aload_n 0, 1) := by decide +kernel
theorem dX7_mayLurkIn_48 : decode cX7_mayLurkIn 48 = .ok (.iload 4, 2) := by decide +kernel
theorem dX7_mayLurkIn_50 : decode cX7_mayLurkIn 50 = .ok (.iload_n 3, 1) := by decide +kernel
theorem dX7_mayLurkIn_51 : decode cX7_mayLurkIn 51 = .ok (.invokevirtual 263, 3) := by decide +kernel
theorem dX7_mayLurkIn_54 : decode cX7_mayLurkIn 54 = .ok (.ifCond .ne 5, 3) := by decide +kernel
theorem dX7_mayLurkIn_57 : decode cX7_mayLurkIn 57 = .ok (.iconst 0, 1) := by decide +kernel
theorem dX7_mayLurkIn_58 : decode cX7_mayLurkIn 58 = .ok (.ireturn, 1) := by decide +kernel
theorem dX7_mayLurkIn_59 : decode cX7_mayLurkIn 59 = .ok (.iinc 4 1, 3) := by decide +kernel
theorem dX7_mayLurkIn_62 : decode cX7_mayLurkIn 62 = .ok (.goto (-46), 3) := by decide +kernel
theorem dX7_mayLurkIn_65 : decode cX7_mayLurkIn 65 = .ok (.iconst 1, 1) := by decide +kernel
theorem dX7_mayLurkIn_66 : decode cX7_mayLurkIn 66 = .ok (.ireturn, 1) := by decide +kernel
set_option maxRecDepth 20000 in
theorem ggX7_isAsHeard_X7_asNumber : GoodIn wsX7_isAsHeard wsX7_asNumber := goodIn_r _ [9] (by decide +kernel) (by decide +kernel)
set_option maxRecDepth 20000 in
theorem gX7_isAsHeard_X7_asNumber : GoodIn wsX7_isAsHeard (va_wsS RX7 147 yX7_asNumber wsX7_asNumber) := goodIn_app (goodIn_of _ (by decide +kernel)) ggX7_isAsHeard_X7_asNumber
theorem dX7_isAsHeard_0 : decode cX7_isAsHeard 0 = .ok (.iconst 0, 1) := by decide +kernel
theorem dX7_isAsHeard_1 : decode cX7_isAsHeard 1 = .ok (.istore_n 3, 1) := by decide +kernel
theorem dX7_isAsHeard_2 : decode cX7_isAsHeard 2 = .ok (.iload_n 3, 1) := by decide +kernel
theorem dX7_isAsHeard_3 : decode cX7_isAsHeard 3 = .ok (.aload_n 0, 1) := by decide +kernel
theorem dX7_isAsHeard_4 : decode cX7_isAsHeard 4 = .ok (.getfield 53, 3) := by decide +kernel
theorem dX7_isAsHeard_7 : decode cX7_isAsHeard 7 = .ok (.getfield 110, 3) := by decide +kernel
theorem dX7_isAsHeard_10 : decode cX7_isAsHeard 10 = .ok (.if_icmp .ge 61, 3) := by decide +kernel
theorem dX7_isAsHeard_13 : decode cX7_isAsHeard 13 = .ok (.aload_n 0, 1) := by decide +kernel
theorem dX7_isAsHeard_14 : decode cX7_isAsHeard 14 = .ok (.getfield 53, 3) := by decide +kernel
theorem dX7_isAsHeard_17 : decode cX7_isAsHeard 17 = .ok (.getfield 247, 3) := by decide +kernel
theorem dX7_isAsHeard_20 : decode cX7_isAsHeard 20 = .ok (.iload_n 3, 1) := by decide +kernel
theorem dX7_isAsHeard_21 : decode cX7_isAsHeard 21 = .ok (.iaload, 1) := by decide +kernel
theorem dX7_isAsHeard_22 : decode cX7_isAsHeard 22 = .ok (.iload_n 2, 1) := by decide +kernel
theorem dX7_isAsHeard_23 : decode cX7_isAsHeard 23 = .ok (.if_icmp .ne 7, 3) := by decide +kernel
theorem dX7_isAsHeard_26 : decode cX7_isAsHeard 26 = .ok (.iconst 1, 1) := by decide +kernel
theorem dX7_isAsHeard_27 : decode cX7_isAsHeard 27 = .ok (.goto 4, 3) := by decide +kernel
theorem dX7_isAsHeard_30 : decode cX7_isAsHeard 30 = .ok (.iconst 0, 1) := by decide +kernel
theorem dX7_isAsHeard_31 : decode cX7_isAsHeard 31 = .ok (.invokestatic 147, 3) := by decide +kernel
theorem dX7_isAsHeard_34 : decode cX7_isAsHeard 34 = .ok (.istore 4, 2) := by decide +kernel
theorem dX7_isAsHeard_36 : decode cX7_isAsHeard 36 = .ok (.aload_n 0, 1) := by decide +kernel
theorem dX7_isAsHeard_37 : decode cX7_isAsHeard 37 = .ok (.getfield 53, 3) := by decide +kernel
theorem dX7_isAsHeard_40 : decode cX7_isAsHeard 40 = .ok (.getfield 241, 3) := by decide +kernel
theorem dX7_isAsHeard_43 : decode cX7_isAsHeard 43 = .ok (.iload_n 3, 1) := by decide +kernel
theorem dX7_isAsHeard_44 : decode cX7_isAsHeard 44 = .ok (.iaload, 1) := by decide +kernel
theorem dX7_isAsHeard_45 : decode cX7_isAsHeard 45 = .ok (.iload_n 1, 1) := by decide +kernel
theorem dX7_isAsHeard_46 : decode cX7_isAsHeard 46 = .ok (.if_icmp .ne 19, 3) := by decide +kernel
theorem dX7_isAsHeard_49 : decode cX7_isAsHeard 49 = .ok (.aload_n 0, 1) := by decide +kernel
theorem dX7_isAsHeard_50 : decode cX7_isAsHeard 50 = .ok (.getfield 53, 3) := by decide +kernel
theorem dX7_isAsHeard_53 : decode cX7_isAsHeard 53 = .ok (.getfield 250, 3) := by decide +kernel
theorem dX7_isAsHeard_56 : decode cX7_isAsHeard 56 = .ok (.iload_n 3, 1) := by decide +kernel
theorem dX7_isAsHeard_57 : decode cX7_isAsHeard 57 = .ok (.iaload, 1) := by decide +kernel
theorem dX7_isAsHeard_58 : decode cX7_isAsHeard 58 = .ok (.iload 4, 2) := by decide +kernel
theorem dX7_isAsHeard_60 : decode cX7_isAsHeard 60 = .ok (.if_icmp .eq 5, 3) := by decide +kernel
theorem dX7_isAsHeard_63 : decode cX7_isAsHeard 63 = .ok (.iconst 0, 1) := by decide +kernel
theorem dX7_isAsHeard_64 : decode cX7_isAsHeard 64 = .ok (.ireturn, 1) := by decide +kernel
theorem dX7_isAsHeard_65 : decode cX7_isAsHeard 65 = .ok (.iinc 3 1, 3) := by decide +kernel
theorem dX7_isAsHeard_68 : decode cX7_isAsHeard 68 = .ok (.goto (-66), 3) := by decide +kernel
theorem dX7_isAsHeard_71 : decode cX7_isAsHeard 71 = .ok (.iconst 1, 1) := by decide +kernel
theorem dX7_isAsHeard_72 : decode cX7_isAsHeard 72 = .ok (.ireturn, 1) := by decide +kernel
set_option maxRecDepth 20000 in
theorem ggX7_wall_X7_isWithin : GoodIn wsX7_wall wsX7_isWithin := goodIn_r _ [10] (by decide +kernel) (by decide +kernel)
set_option maxRecDepth 20000 in
theorem gX7_wall_X7_isWithin : GoodIn wsX7_wall (va_wsS RX7 87 yX7_isWithin wsX7_isWithin) := goodIn_app (goodIn_of _ (by decide +kernel)) ggX7_wall_X7_isWithin
set_option maxRecDepth 20000 in
theorem ggX7_wall_X6_copyFrom : GoodIn wsX7_wall wsX6_copyFrom := goodIn_r _ [15, 16, 17, 18, 19, 20, 21, 22, 23, 24, 25, 26, 27, 28, 29, 95, 96, 97, 98, 99, 100, 101, 102, 103, 104, 105] (by decide +kernel) (by decide +kernel)
set_option maxRecDepth 20000 in
theorem gX7_wall_X6_copyFrom : GoodIn wsX7_wall (wsV RX7 107 RX6 yX6_copyFrom wsX6_copyFrom) := goodIn_app (goodIn_of _ (by decide +kernel)) ggX7_wall_X6_copyFrom
set_option maxRecDepth 20000 in
theorem ggX7_wall_X1_foresee : GoodIn wsX7_wall wsX1_foresee := goodIn_r _ [34, 35, 36, 37, 38, 39, 40, 41, 42, 43, 14, 44, 22, 45, 46, 47, 48, 28, 23, 49, 9, 50, 51, 52, 53, 54, 55, 56, 57, 58, 59, 60, 61, 16, 62, 63, 64, 65, 66, 95, 96, 97, 98, 99, 100, 101, 102, 103, 104, 105, 106, 107, 108, 109, 110, 111, 112, 113] (by decide +kernel) (by decide +kernel)
set_option maxRecDepth 20000 in
theorem gX7_wall_X1_foresee : GoodIn wsX7_wall (wsV RX7 266 RX1 yX1_foresee wsX1_foresee) := goodIn_app (goodIn_of _ (by decide +kernel)) ggX7_wall_X1_foresee
set_option maxRecDepth 20000 in
theorem ggX7_wall_J6_bitCount_0f7a4 : GoodIn wsX7_wall wsJ6_bitCount_0f7a4 := goodIn_r _ [70, 71, 72, 73] (by decide +kernel) (by decide +kernel)
set_option maxRecDepth 20000 in
theorem gX7_wall_J6_bitCount_0f7a4 : GoodIn wsX7_wall (va_wsS RX7 269 yJ6_bitCount_0f7a4 wsJ6_bitCount_0f7a4) := goodIn_app (goodIn_of _ (by decide +kernel)) ggX7_wall_J6_bitCount_0f7a4
set_option maxRecDepth 20000 in
theorem ggX7_wall_X1_keepOut : GoodIn wsX7_wall wsX1_keepOut := goodIn_r _ [77, 78, 79, 80, 33, 81, 37, 40, 112, 113] (by decide +kernel) (by decide +kernel)
set_option maxRecDepth 20000 in
theorem gX7_wall_X1_keepOut : GoodIn wsX7_wall (wsV RX7 274 RX1 yX1_keepOut wsX1_keepOut) := goodIn_app (goodIn_of _ (by decide +kernel)) ggX7_wall_X1_keepOut
theorem dX7_wall_0 : decode cX7_wall 0 = .ok (.iload_n 1, 1) := by decide +kernel
theorem dX7_wall_1 : decode cX7_wall 1 = .ok (.iconst 0, 1) := by decide +kernel
theorem dX7_wall_2 : decode cX7_wall 2 = .ok (.iconst 1, 1) := by decide +kernel
theorem dX7_wall_3 : decode cX7_wall 3 = .ok (.invokestatic 87, 3) := by decide +kernel
theorem dX7_wall_6 : decode cX7_wall 6 = .ok (.ifCond .ne 5, 3) := by decide +kernel
theorem dX7_wall_9 : decode cX7_wall 9 = .ok (.iconst (-1), 1) := by decide +kernel
theorem dX7_wall_10 : decode cX7_wall 10 = .ok (.ireturn, 1) := by decide +kernel
theorem dX7_wall_11 : decode cX7_wall 11 = .ok (.aload_n 0, 1) := by decide +kernel
theorem dX7_wall_12 : decode cX7_wall 12 = .ok (.getfield 21, 3) := by decide +kernel
theorem dX7_wall_15 : decode cX7_wall 15 = .ok (.getfield 137, 3) := by decide +kernel
theorem dX7_wall_18 : decode cX7_wall 18 = .ok (.bipush (-4), 2) := by decide +kernel
theorem dX7_wall_20 : decode cX7_wall 20 = .ok (.if_icmp .ne 6, 3) := by decide +kernel
theorem dX7_wall_23 : decode cX7_wall 23 = .ok (.bipush (-2), 2) := by decide +kernel
theorem dX7_wall_25 : decode cX7_wall 25 = .ok (.ireturn, 1) := by decide +kernel
theorem dX7_wall_26 : decode cX7_wall 26 = .ok (.aload_n 0, 1) := by decide +kernel
theorem dX7_wall_27 : decode cX7_wall 27 = .ok (.getfield 25, 3) := by decide +kernel
theorem dX7_wall_30 : decode cX7_wall 30 = .ok (.aload_n 0, 1) := by decide +kernel
theorem dX7_wall_31 : decode cX7_wall 31 = .ok (.getfield 21, 3) := by decide +kernel
theorem dX7_wall_34 : decode cX7_wall 34 = .ok (.invokevirtual 107, 3) := by decide +kernel
theorem dX7_wall_37 : decode cX7_wall 37 = .ok (.aload_n 0, 1) := by decide +kernel
theorem dX7_wall_38 : decode cX7_wall 38 = .ok (.getfield 66, 3) := by decide +kernel
theorem dX7_wall_41 : decode cX7_wall 41 = .ok (.aload_n 0, 1) := by decide +kernel
theorem dX7_wall_42 : decode cX7_wall 42 = .ok (.getfield 25, 3) := by decide +kernel
theorem dX7_wall_45 : decode cX7_wall 45 = .ok (.invokevirtual 266, 3) := by decide +kernel
theorem dX7_wall_48 : decode cX7_wall 48 = .ok (.iconst 1, 1) := by decide +kernel
theorem dX7_wall_49 : decode cX7_wall 49 = .ok (.aload_n 0, 1) := by decide +kernel
theorem dX7_wall_50 : decode cX7_wall 50 = .ok (.getfield 12, 3) := by decide +kernel
theorem dX7_wall_53 : decode cX7_wall 53 = .ok (.getfield 119, 3) := by decide +kernel
theorem dX7_wall_56 : decode cX7_wall 56 = .ok (.ishl, 1) := by decide +kernel
theorem dX7_wall_57 : decode cX7_wall 57 = .ok (.istore_n 2, 1) := by decide +kernel
theorem dX7_wall_58 : decode cX7_wall 58 = .ok (.iconst 0, 1) := by decide +kernel
theorem dX7_wall_59 : decode cX7_wall 59 = .ok (.istore_n 3, 1) := by decide +kernel
theorem dX7_wall_60 : decode cX7_wall 60 = .ok (.iload_n 3, 1) := by decide +kernel
theorem dX7_wall_61 : decode cX7_wall 61 = .ok (.iconst 3, 1) := by decide +kernel
theorem dX7_wall_62 : decode cX7_wall 62 = .ok (.if_icmp .gt 63, 3) := by decide +kernel
theorem dX7_wall_65 : decode cX7_wall 65 = .ok (.iconst 0, 1) := by decide +kernel
theorem dX7_wall_66 : decode cX7_wall 66 = .ok (.istore 4, 2) := by decide +kernel
theorem dX7_wall_68 : decode cX7_wall 68 = .ok (.iload 4, 2) := by decide +kernel
theorem dX7_wall_70 : decode cX7_wall 70 = .ok (.iload_n 2, 1) := by decide +kernel
theorem dX7_wall_71 : decode cX7_wall 71 = .ok (.if_icmp .ge 48, 3) := by decide +kernel
theorem dX7_wall_74 : decode cX7_wall 74 = .ok (.iload 4, 2) := by decide +kernel
theorem dX7_wall_76 : decode cX7_wall 76 = .ok (.invokestatic 269, 3) := by decide +kernel
theorem dX7_wall_79 : decode cX7_wall 79 = .ok (.iload_n 3, 1) := by decide +kernel
theorem dX7_wall_80 : decode cX7_wall 80 = .ok (.if_icmp .ne 33, 3) := by decide +kernel
theorem dX7_wall_83 : decode cX7_wall 83 = .ok (.aload_n 0, 1) := by decide +kernel
theorem dX7_wall_84 : decode cX7_wall 84 = .ok (.getfield 66, 3) := by decide +kernel
theorem dX7_wall_87 : decode cX7_wall 87 = .ok (.aload_n 0, 1) := by decide +kernel
theorem dX7_wall_88 : decode cX7_wall 88 = .ok (.getfield 21, 3) := by decide +kernel
theorem dX7_wall_91 : decode cX7_wall 91 = .ok (.getfield 137, 3) := by decide +kernel
theorem dX7_wall_94 : decode cX7_wall 94 = .ok (.iload 4, 2) := by decide +kernel
theorem dX7_wall_96 : decode cX7_wall 96 = .ok (.invokevirtual 274, 3) := by decide +kernel
theorem dX7_wall_99 : decode cX7_wall 99 = .ok (.ifCond .eq 14, 3) := by decide +kernel
theorem dX7_wall_102 : decode cX7_wall 102 = .ok (.iload_n 1, 1) := by decide +kernel
theorem dX7_wall_103 : decode cX7_wall 103 = .ok (.ifCond .ne 7, 3) := by decide +kernel
theorem dX7_wall_106 : decode cX7_wall 106 = .ok (.iload_n 3, 1) := by decide +kernel
theorem dX7_wall_107 : decode cX7_wall 107 = .ok (.goto 5, 3) := by decide +kernel
theorem dX7_wall_110 : decode cX7_wall 110 = .ok (.iload 4, 2) := by decide +kernel
theorem dX7_wall_112 : decode cX7_wall 112 = .ok (.ireturn, 1) := by decide +kernel
theorem dX7_wall_113 : decode cX7_wall 113 = .ok (.iinc 4 1, 3) := by decide +kernel
theorem dX7_wall_116 : decode cX7_wall 116 = .ok (.goto (-48), 3) := by decide +kernel
theorem dX7_wall_119 : decode cX7_wall 119 = .ok (.iinc 3 1, 3) := by decide +kernel
theorem dX7_wall_122 : decode cX7_wall 122 = .ok (.goto (-62), 3) := by decide +kernel
theorem dX7_wall_125 : decode cX7_wall 125 = .ok (.bipush (-4), 2) := by decide +kernel
theorem dX7_wall_127 : decode cX7_wall 127 = .ok (.ireturn, 1) := by decide +kernel
set_option maxRecDepth 20000 in
theorem ggX7_walk_X7_isWithin : GoodIn wsX7_walk wsX7_isWithin := goodIn_r _ [9] (by decide +kernel) (by decide +kernel)
set_option maxRecDepth 20000 in
theorem gX7_walk_X7_isWithin : GoodIn wsX7_walk (va_wsS RX7 87 yX7_isWithin wsX7_isWithin) := goodIn_app (goodIn_of _ (by decide +kernel)) ggX7_walk_X7_isWithin
set_option maxRecDepth 20000 in
theorem ggX7_walk_X6_copyFrom : GoodIn wsX7_walk wsX6_copyFrom := goodIn_r _ [14, 15, 16, 17, 18, 19, 20, 21, 22, 23, 24, 25, 26, 27, 28, 113, 114, 115, 116, 117, 118, 119, 120, 121, 122, 123] (by decide +kernel) (by decide +kernel)
set_option maxRecDepth 20000 in
theorem gX7_walk_X6_copyFrom : GoodIn wsX7_walk (wsV RX7 107 RX6 yX6_copyFrom wsX6_copyFrom) := goodIn_app (goodIn_of _ (by decide +kernel)) ggX7_walk_X6_copyFrom
set_option maxRecDepth 20000 in
theorem ggX7_walk_X6_pickDoor : GoodIn wsX7_walk wsX6_pickDoor := goodIn_r _ [32, 23, 33, 34, 35, 13, 36, 37, 38, 39, 40, 41, 42, 43, 15, 44, 45, 46, 47, 48, 49, 50, 51, 52, 53, 21, 54, 55, 56, 57, 58, 59, 60, 61, 8, 62, 63, 64, 113, 114, 115, 116, 117, 118, 119, 120, 121, 122, 123, 124, 125, 126, 127, 128, 129] (by decide +kernel) (by decide +kernel)
set_option maxRecDepth 20000 in
theorem gX7_walk_X6_pickDoor : GoodIn wsX7_walk (wsV RX7 278 RX6 yX6_pickDoor wsX6_pickDoor) := goodIn_app (goodIn_of _ (by decide +kernel)) ggX7_walk_X6_pickDoor
set_option maxRecDepth 20000 in
theorem ggX7_walk_X6_takeStep : GoodIn wsX7_walk wsX6_takeStep := goodIn_r _ [68, 23, 26, 37, 69, 20, 24, 25, 28, 39, 40, 41, 13, 42, 43, 15, 44, 45, 46, 47, 48, 49, 50, 51, 52, 53, 21, 70, 71, 72, 73, 27, 74, 75, 76, 77, 38, 33, 34, 35, 36, 54, 55, 56, 57, 58, 59, 60, 61, 8, 62, 63, 64, 78, 79, 80, 81, 22, 82, 83, 84, 85, 86, 87, 88, 89, 90, 91, 92, 93, 94, 95, 96, 113, 114, 115, 116, 117, 118, 119, 120, 121, 122, 123, 124, 125, 126, 127, 128, 129] (by decide +kernel) (by decide +kernel)
set_option maxRecDepth 20000 in
theorem gX7_walk_X6_takeStep : GoodIn wsX7_walk (wsV RX7 185 RX6 yX6_takeStep wsX6_takeStep) := goodIn_app (goodIn_of _ (by decide +kernel)) ggX7_walk_X6_takeStep
set_option maxRecDepth 20000 in
theorem ggX7_walk_X7_asNumber : GoodIn wsX7_walk wsX7_asNumber := goodIn_r _ [99] (by decide +kernel) (by decide +kernel)
set_option maxRecDepth 20000 in
theorem gX7_walk_X7_asNumber : GoodIn wsX7_walk (va_wsS RX7 147 yX7_asNumber wsX7_asNumber) := goodIn_app (goodIn_of _ (by decide +kernel)) ggX7_walk_X7_asNumber
theorem dX7_walk_0 : decode cX7_walk 0 = .ok (.iload_n 2, 1) := by decide +kernel
theorem dX7_walk_1 : decode cX7_walk 1 = .ok (.iconst 1, 1) := by decide +kernel
theorem dX7_walk_2 : decode cX7_walk 2 = .ok (.bipush 60, 2) := by decide +kernel
theorem dX7_walk_4 : decode cX7_walk 4 = .ok (.invokestatic 87, 3) := by decide +kernel
theorem dX7_walk_7 : decode cX7_walk 7 = .ok (.ifCond .eq 12, 3) := by decide +kernel
theorem dX7_walk_10 : decode cX7_walk 10 = .ok (.iload_n 3, 1) := by decide +kernel
theorem dX7_walk_11 : decode cX7_walk 11 = .ok (.iconst 0, 1) := by decide +kernel
theorem dX7_walk_12 : decode cX7_walk 12 = .ok (.iconst 1, 1) := by decide +kernel
theorem dX7_walk_13 : decode cX7_walk 13 = .ok (.invokestatic 87, 3) := by decide +kernel
theorem dX7_walk_16 : decode cX7_walk 16 = .ok (.ifCond .ne 5, 3) := by decide +kernel
theorem dX7_walk_19 : decode cX7_walk 19 = .ok (.iconst (-1), 1) := by decide +kernel
theorem dX7_walk_20 : decode cX7_walk 20 = .ok (.ireturn, 1) := by decide +kernel
theorem dX7_walk_21 : decode cX7_walk 21 = .ok (.aload_n 0, 1) := by decide +kernel
theorem dX7_walk_22 : decode cX7_walk 22 = .ok (.getfield 21, 3) := by decide +kernel
theorem dX7_walk_25 : decode cX7_walk 25 = .ok (.getfield 143, 3) := by decide +kernel
theorem dX7_walk_28 : decode cX7_walk 28 = .ok (.ifCond .eq 6, 3) := by decide +kernel
theorem dX7_walk_31 : decode cX7_walk 31 = .ok (.bipush (-2), 2) := by decide +kernel
theorem dX7_walk_33 : decode cX7_walk 33 = .ok (.ireturn, 1) := by decide +kernel
theorem dX7_walk_34 : decode cX7_walk 34 = .ok (.aload_n 0, 1) := by decide +kernel
theorem dX7_walk_35 : decode cX7_walk 35 = .ok (.getfield 25, 3) := by decide +kernel
theorem dX7_walk_38 : decode cX7_walk 38 = .ok (.aload_n 0, 1) := by decide +kernel
theorem dX7_walk_39 : decode cX7_walk 39 = .ok (.getfield 21, 3) := by decide +kernel
theorem dX7_walk_42 : decode cX7_walk 42 = .ok (.invokevirtual 107, 3) := by decide +kernel
theorem dX7_walk_45 : decode cX7_walk 45 = .ok (.iload_n 1, 1) := by decide +kernel
theorem dX7_walk_46 : decode cX7_walk 46 = .ok (.istore 4, 2) := by decide +kernel
theorem dX7_walk_48 : decode cX7_walk 48 = .ok (.iconst 0, 1) := by decide +kernel
theorem dX7_walk_49 : decode cX7_walk 49 = .ok (.istore 5, 2) := by decide +kernel
theorem dX7_walk_51 : decode cX7_walk 51 = .ok (.iconst 0, 1) := by decide +kernel
theorem dX7_walk_52 : decode cX7_walk 52 = .ok (.istore 6, 2) := by decide +kernel
theorem dX7_walk_54 : decode cX7_walk 54 = .ok (.iload 6, 2) := by decide +kernel
theorem dX7_walk_56 : decode cX7_walk 56 = .ok (.iload_n 2, 1) := by decide +kernel
theorem dX7_walk_57 : decode cX7_walk 57 = .ok (.if_icmp .ge 77, 3) := by decide +kernel
theorem dX7_walk_60 : decode cX7_walk 60 = .ok (.aload_n 0, 1) := by decide +kernel
theorem dX7_walk_61 : decode cX7_walk 61 = .ok (.getfield 25, 3) := by decide +kernel
theorem dX7_walk_64 : decode cX7_walk 64 = .ok (.getfield 143, 3) := by decide +kernel
theorem dX7_walk_67 : decode cX7_walk 67 = .ok (.ifCond .ne 67, 3) := by decide +kernel
theorem dX7_walk_70 : decode cX7_walk 70 = .ok (.iload 4, 2) := by decide +kernel
theorem dX7_walk_72 : decode cX7_walk 72 = .ok (.ldc_w 277, 3) := by decide +kernel
theorem dX7_walk_75 : decode cX7_walk 75 = .ok (.imul, 1) := by decide +kernel
theorem dX7_walk_76 : decode cX7_walk 76 = .ok (.sipush 12345, 3) := by decide +kernel
theorem dX7_walk_79 : decode cX7_walk 79 = .ok (.iadd, 1) := by decide +kernel
theorem dX7_walk_80 : decode cX7_walk 80 = .ok (.istore 4, 2) := by decide +kernel
theorem dX7_walk_82 : decode cX7_walk 82 = .ok (.aload_n 0, 1) := by decide +kernel
theorem dX7_walk_83 : decode cX7_walk 83 = .ok (.getfield 25, 3) := by decide +kernel
theorem dX7_walk_86 : decode cX7_walk 86 = .ok (.aload_n 0, 1) := by decide +kernel
theorem dX7_walk_87 : decode cX7_walk 87 = .ok (.getfield 25, 3) := by decide +kernel
theorem dX7_walk_90 : decode cX7_walk 90 = .ok (.iload 4, 2) := by decide +kernel
theorem dX7_walk_92 : decode cX7_walk 92 = .ok (.bipush 16, 2) := by decide +kernel
theorem dX7_walk_94 : decode cX7_walk 94 = .ok (.iushr, 1) := by decide +kernel
theorem dX7_walk_95 : decode cX7_walk 95 = .ok (.sipush 32767, 3) := by decide +kernel
theorem dX7_walk_98 : decode cX7_walk 98 = .ok (.iand, 1) := by decide +kernel
theorem dX7_walk_99 : decode cX7_walk 99 = .ok (.invokevirtual 278, 3) := by decide +kernel
theorem dX7_walk_102 : decode cX7_walk 102 = .ok (.invokevirtual 185, 3) := by decide +kernel
theorem dX7_walk_105 : decode cX7_walk 105 = .ok (.iload 5, 2) := by decide +kernel
theorem dX7_walk_107 : decode cX7_walk 107 = .ok (.aload_n 0, 1) := by decide +kernel
theorem dX7_walk_108 : decode cX7_walk 108 = .ok (.getfield 25, 3) := by decide +kernel
theorem dX7_walk_111 : decode cX7_walk 111 = .ok (.getfield 143, 3) := by decide +kernel
theorem dX7_walk_114 : decode cX7_walk 114 = .ok (.ifCond .ne 7, 3) := by decide +kernel
theorem dX7_walk_117 : decode cX7_walk 117 = .ok (.iconst 1, 1) := by decide +kernel
theorem dX7_walk_118 : decode cX7_walk 118 = .ok (.goto 4, 3) := by decide +kernel
theorem dX7_walk_121 : decode cX7_walk 121 = .ok (.iconst 0, 1) := by decide +kernel
theorem dX7_walk_122 : decode cX7_walk 122 = .ok (.invokestatic 147, 3) := by decide +kernel
theorem dX7_walk_125 : decode cX7_walk 125 = .ok (.iadd, 1) := by decide +kernel
theorem dX7_walk_126 : decode cX7_walk 126 = .ok (.istore 5, 2) := by decide +kernel
theorem dX7_walk_128 : decode cX7_walk 128 = .ok (.iinc 6 1, 3) := by decide +kernel
theorem dX7_walk_131 : decode cX7_walk 131 = .ok (.goto (-77), 3) := by decide +kernel
theorem dX7_walk_134 : decode cX7_walk 134 = .ok (.iload_n 3, 1) := by decide +kernel
theorem dX7_walk_135 : decode cX7_walk 135 = .ok (.ifCond .ne 8, 3) := by decide +kernel
theorem dX7_walk_138 : decode cX7_walk 138 = .ok (.iload 5, 2) := by decide +kernel
theorem dX7_walk_140 : decode cX7_walk 140 = .ok (.goto 10, 3) := by decide +kernel
theorem dX7_walk_143 : decode cX7_walk 143 = .ok (.aload_n 0, 1) := by decide +kernel
theorem dX7_walk_144 : decode cX7_walk 144 = .ok (.getfield 25, 3) := by decide +kernel
theorem dX7_walk_147 : decode cX7_walk 147 = .ok (.getfield 134, 3) := by decide +kernel
theorem dX7_walk_150 : decode cX7_walk 150 = .ok (.ireturn, 1) := by decide +kernel
set_option maxRecDepth 20000 in
theorem ggX7_keep_X7_isWithin : GoodIn wsX7_keep wsX7_isWithin := goodIn_r _ [7] (by decide +kernel) (by decide +kernel)
set_option maxRecDepth 20000 in
theorem gX7_keep_X7_isWithin : GoodIn wsX7_keep (va_wsS RX7 87 yX7_isWithin wsX7_isWithin) := goodIn_app (goodIn_of _ (by decide +kernel)) ggX7_keep_X7_isWithin
set_option maxRecDepth 20000 in
theorem ggX7_keep_X7_hasImage : GoodIn wsX7_keep wsX7_hasImage := goodIn_r _ [11, 3, 34, 35, 36, 37, 38, 39, 40, 41, 42, 43, 44, 45, 46] (by decide +kernel) (by decide +kernel)
set_option maxRecDepth 20000 in
theorem gX7_keep_X7_hasImage : GoodIn wsX7_keep (wsV RX7 281 RX7 yX7_hasImage wsX7_hasImage) := goodIn_app (goodIn_of _ (by decide +kernel)) ggX7_keep_X7_hasImage
set_option maxRecDepth 20000 in
theorem ggX7_keep_X7_asNumber : GoodIn wsX7_keep wsX7_asNumber := goodIn_r _ [14] (by decide +kernel) (by decide +kernel)
set_option maxRecDepth 20000 in
theorem gX7_keep_X7_asNumber : GoodIn wsX7_keep (va_wsS RX7 147 yX7_asNumber wsX7_asNumber) := goodIn_app (goodIn_of _ (by decide +kernel)) ggX7_keep_X7_asNumber
set_option maxRecDepth 20000 in
theorem ggX7_keep_X6_copyFrom : GoodIn wsX7_keep wsX6_copyFrom := goodIn_r _ [19, 20, 21, 22, 23, 24, 25, 26, 27, 28, 29, 30, 31, 32, 33, 47, 48, 49, 50, 51, 52, 53, 54, 55, 56, 57] (by decide +kernel) (by decide +kernel)
set_option maxRecDepth 20000 in
theorem gX7_keep_X6_copyFrom : GoodIn wsX7_keep (wsV RX7 107 RX6 yX6_copyFrom wsX6_copyFrom) := goodIn_app (goodIn_of _ (by decide +kernel)) ggX7_keep_X6_copyFrom
theorem dX7_keep_0 : decode cX7_keep 0 = .ok (.iload_n 1, 1) := by decide +kernel
theorem dX7_keep_1 : decode cX7_keep 1 = .ok (.iconst 0, 1) := by decide +kernel
theorem dX7_keep_2 : decode cX7_keep 2 = .ok (.aload_n 0, 1) := by decide +kernel
theorem dX7_keep_3 : decode cX7_keep 3 = .ok (.getfield 31, 3) := by decide +kernel
theorem dX7_keep_6 : decode cX7_keep 6 = .ok (.arraylength, 1) := by decide +kernel
theorem dX7_keep_7 : decode cX7_keep 7 = .ok (.iconst 1, 1) := by decide +kernel
theorem dX7_keep_8 : decode cX7_keep 8 = .ok (.isub, 1) := by decide +kernel
theorem dX7_keep_9 : decode cX7_keep 9 = .ok (.invokestatic 87, 3) := by decide +kernel
theorem dX7_keep_12 : decode cX7_keep 12 = .ok (.ifCond .ne 5, 3) := by decide +kernel
theorem dX7_keep_15 : decode cX7_keep 15 = .ok (.iconst (-1), 1) := by decide +kernel
theorem dX7_keep_16 : decode cX7_keep 16 = .ok (.ireturn, 1) := by decide +kernel
theorem dX7_keep_17 : decode cX7_keep 17 = .ok (.aload_n 0, 1) := by decide +kernel
theorem dX7_keep_18 : decode cX7_keep 18 = .ok (.iload_n 1, 1) := by decide +kernel
theorem dX7_keep_19 : decode cX7_keep 19 = .ok (.invokevirtual 281, 3) := by decide +kernel
theorem dX7_keep_22 : decode cX7_keep 22 = .ok (.invokestatic 147, 3) := by decide +kernel
theorem dX7_keep_25 : decode cX7_keep 25 = .ok (.istore_n 2, 1) := by decide +kernel
theorem dX7_keep_26 : decode cX7_keep 26 = .ok (.aload_n 0, 1) := by decide +kernel
theorem dX7_keep_27 : decode cX7_keep 27 = .ok (.getfield 31, 3) := by decide +kernel
theorem dX7_keep_30 : decode cX7_keep 30 = .ok (.iload_n 1, 1) := by decide +kernel
theorem dX7_keep_31 : decode cX7_keep 31 = .ok (.aaload, 1) := by decide +kernel
theorem dX7_keep_32 : decode cX7_keep 32 = .ok (.aload_n 0, 1) := by decide +kernel
theorem dX7_keep_33 : decode cX7_keep 33 = .ok (.getfield 21, 3) := by decide +kernel
theorem dX7_keep_36 : decode cX7_keep 36 = .ok (.invokevirtual 107, 3) := by decide +kernel
theorem dX7_keep_39 : decode cX7_keep 39 = .ok (.aload_n 0, 1) := by decide +kernel
theorem dX7_keep_40 : decode cX7_keep 40 = .ok (.dup, 1) := by decide +kernel
theorem dX7_keep_41 : decode cX7_keep 41 = .ok (.getfield 35, 3) := by decide +kernel
theorem dX7_keep_44 : decode cX7_keep 44 = .ok (.iconst 1, 1) := by decide +kernel
theorem dX7_keep_45 : decode cX7_keep 45 = .ok (.iload_n 1, 1) := by decide +kernel
theorem dX7_keep_46 : decode cX7_keep 46 = .ok (.ishl, 1) := by decide +kernel
theorem dX7_keep_47 : decode cX7_keep 47 = .ok (.ior, 1) := by decide +kernel
theorem dX7_keep_48 : decode cX7_keep 48 = .ok (.putfield 35, 3) := by decide +kernel
theorem dX7_keep_51 : decode cX7_keep 51 = .ok (.iload_n 2, 1) := by decide +kernel
theorem dX7_keep_52 : decode cX7_keep 52 = .ok (.ireturn, 1) := by decide +kernel
set_option maxRecDepth 20000 in
theorem ggX7_back_X7_isWithin : GoodIn wsX7_back wsX7_isWithin := goodIn_r _ [7] (by decide +kernel) (by decide +kernel)
set_option maxRecDepth 20000 in
theorem gX7_back_X7_isWithin : GoodIn wsX7_back (va_wsS RX7 87 yX7_isWithin wsX7_isWithin) := goodIn_app (goodIn_of _ (by decide +kernel)) ggX7_back_X7_isWithin
set_option maxRecDepth 20000 in
theorem ggX7_back_X7_hasImage : GoodIn wsX7_back wsX7_hasImage := goodIn_r _ [11, 12, 32, 33, 34, 35, 36, 37, 38, 39, 40, 41, 42, 43, 44] (by decide +kernel) (by decide +kernel)
set_option maxRecDepth 20000 in
theorem gX7_back_X7_hasImage : GoodIn wsX7_back (wsV RX7 281 RX7 yX7_hasImage wsX7_hasImage) := goodIn_app (goodIn_of _ (by decide +kernel)) ggX7_back_X7_hasImage
set_option maxRecDepth 20000 in
theorem ggX7_back_X6_copyFrom : GoodIn wsX7_back wsX6_copyFrom := goodIn_r _ [17, 18, 19, 20, 21, 22, 23, 24, 25, 26, 27, 28, 29, 30, 31, 45, 46, 47, 48, 49, 50, 51, 52, 53, 54, 55] (by decide +kernel) (by decide +kernel)
set_option maxRecDepth 20000 in
theorem gX7_back_X6_copyFrom : GoodIn wsX7_back (wsV RX7 107 RX6 yX6_copyFrom wsX6_copyFrom) := goodIn_app (goodIn_of _ (by decide +kernel)) ggX7_back_X6_copyFrom
theorem dX7_back_0 : decode cX7_back 0 = .ok (.iload_n 1, 1) := by decide +kernel
theorem dX7_back_1 : decode cX7_back 1 = .ok (.iconst 0, 1) := by decide +kernel
theorem dX7_back_2 : decode cX7_back 2 = .ok (.aload_n 0, 1) := by decide +kernel
theorem dX7_back_3 : decode cX7_back 3 = .ok (.getfield 31, 3) := by decide +kernel
theorem dX7_back_6 : decode cX7_back 6 = .ok (.arraylength, 1) := by decide +kernel
theorem dX7_back_7 : decode cX7_back 7 = .ok (.iconst 1, 1) := by decide +kernel
theorem dX7_back_8 : decode cX7_back 8 = .ok (.isub, 1) := by decide +kernel
theorem dX7_back_9 : decode cX7_back 9 = .ok (.invokestatic 87, 3) := by decide +kernel
theorem dX7_back_12 : decode cX7_back 12 = .ok (.ifCond .ne 5, 3) := by decide +kernel
theorem dX7_back_15 : decode cX7_back 15 = .ok (.iconst (-1), 1) := by decide +kernel
theorem dX7_back_16 : decode cX7_back 16 = .ok (.ireturn, 1) := by decide +kernel
theorem dX7_back_17 : decode cX7_back 17 = .ok (.aload_n 0, 1) := by decide +kernel
theorem dX7_back_18 : decode cX7_back 18 = .ok (.iload_n 1, 1) := by decide +kernel
theorem dX7_back_19 : decode cX7_back 19 = .ok (.invokevirtual 281, 3) := by decide +kernel
theorem dX7_back_22 : decode cX7_back 22 = .ok (.ifCond .ne 6, 3) := by decide +kernel
theorem dX7_back_25 : decode cX7_back 25 = .ok (.bipush (-2), 2) := by decide +kernel
theorem dX7_back_27 : decode cX7_back 27 = .ok (.ireturn, 1) := by decide +kernel
theorem dX7_back_28 : decode cX7_back 28 = .ok (.aload_n 0, 1) := by decide +kernel
theorem dX7_back_29 : decode cX7_back 29 = .ok (.getfield 21, 3) := by decide +kernel
theorem dX7_back_32 : decode cX7_back 32 = .ok (.aload_n 0, 1) := by decide +kernel
theorem dX7_back_33 : decode cX7_back 33 = .ok (.getfield 31, 3) := by decide +kernel
theorem dX7_back_36 : decode cX7_back 36 = .ok (.iload_n 1, 1) := by decide +kernel
theorem dX7_back_37 : decode cX7_back 37 = .ok (.aaload, 1) := by decide +kernel
theorem dX7_back_38 : decode cX7_back 38 = .ok (.invokevirtual 107, 3) := by decide +kernel
theorem dX7_back_41 : decode cX7_back 41 = .ok (.aload_n 0, 1) := by decide +kernel
theorem dX7_back_42 : decode cX7_back 42 = .ok (.getfield 21, 3) := by decide +kernel
theorem dX7_back_45 : decode cX7_back 45 = .ok (.getfield 131, 3) := by decide +kernel
theorem dX7_back_48 : decode cX7_back 48 = .ok (.ireturn, 1) := by decide +kernel
theorem dX7_hasImage_0 : decode cX7_hasImage 0 = .ok (.aload_n 0, 1) := by decide +kernel
theorem dX7_hasImage_1 : decode cX7_hasImage 1 = .ok (.getfield 35, 3) := by decide +kernel
theorem dX7_hasImage_4 : decode cX7_hasImage 4 = .ok (.iload_n 1, 1) := by decide +kernel
theorem dX7_hasImage_5 : decode cX7_hasImage 5 = .ok (.ishr, 1) := by decide +kernel
theorem dX7_hasImage_6 : decode cX7_hasImage 6 = .ok (.iconst 1, 1) := by decide +kernel
theorem dX7_hasImage_7 : decode cX7_hasImage 7 = .ok (.iand, 1) := by decide +kernel
theorem dX7_hasImage_8 : decode cX7_hasImage 8 = .ok (.ifCond .eq 7, 3) := by decide +kernel
theorem dX7_hasImage_11 : decode cX7_hasImage 11 = .ok (.iconst 1, 1) := by decide +kernel
theorem dX7_hasImage_12 : decode cX7_hasImage 12 = .ok (.goto 4, 3) := by decide +kernel
theorem dX7_hasImage_15 : decode cX7_hasImage 15 = .ok (.iconst 0, 1) := by decide +kernel
theorem dX7_hasImage_16 : decode cX7_hasImage 16 = .ok (.ireturn, 1) := by decide +kernel
set_option maxRecDepth 20000 in
theorem ggX7_sheet_X7_isSheet : GoodIn wsX7_sheet wsX7_isSheet := goodIn_r _ [6, 1, 7, 8, 5, 9, 25, 26, 27, 28, 29, 30, 31, 32, 33, 34, 35, 36, 37] (by decide +kernel) (by decide +kernel)
set_option maxRecDepth 20000 in
theorem gX7_sheet_X7_isSheet : GoodIn wsX7_sheet (wsV RX7 284 RX7 yX7_isSheet wsX7_isSheet) := goodIn_app (goodIn_of _ (by decide +kernel)) ggX7_sheet_X7_isSheet
set_option maxRecDepth 20000 in
theorem ggX7_sheet_X7_isLane : GoodIn wsX7_sheet wsX7_isLane := goodIn_r _ [12, 7, 8, 5, 9] (by decide +kernel) (by decide +kernel)
set_option maxRecDepth 20000 in
theorem gX7_sheet_X7_isLane : GoodIn wsX7_sheet (va_wsS RX7 287 yX7_isLane wsX7_isLane) := goodIn_app (goodIn_of _ (by decide +kernel)) ggX7_sheet_X7_isLane
set_option maxRecDepth 20000 in
theorem ggX7_sheet_X5_renew : GoodIn wsX7_sheet wsX5_renew := goodIn_r _ [17, 18, 19, 20, 21, 22, 23, 24, 38, 39, 40] (by decide +kernel) (by decide +kernel)
set_option maxRecDepth 20000 in
theorem gX7_sheet_X5_renew : GoodIn wsX7_sheet (wsV RX7 290 RX5 yX5_renew wsX5_renew) := goodIn_app (goodIn_of _ (by decide +kernel)) ggX7_sheet_X5_renew
theorem dX7_sheet_0 : decode cX7_sheet 0 = .ok (.aload_n 0, 1) := by decide +kernel
theorem dX7_sheet_1 : decode cX7_sheet 1 = .ok (.iload_n 1, 1) := by decide +kernel
theorem dX7_sheet_2 : decode cX7_sheet 2 = .ok (.invokevirtual 284, 3) := by decide +kernel
theorem dX7_sheet_5 : decode cX7_sheet 5 = .ok (.ifCond .eq 16, 3) := by decide +kernel
theorem dX7_sheet_8 : decode cX7_sheet 8 = .ok (.iload_n 2, 1) := by decide +kernel
theorem dX7_sheet_9 : decode cX7_sheet 9 = .ok (.invokestatic 287, 3) := by decide +kernel
theorem dX7_sheet_12 : decode cX7_sheet 12 = .ok (.ifCond .eq 9, 3) := by decide +kernel
theorem dX7_sheet_15 : decode cX7_sheet 15 = .ok (.iload_n 3, 1) := by decide +kernel
theorem dX7_sheet_16 : decode cX7_sheet 16 = .ok (.bipush 40, 2) := by decide +kernel
theorem dX7_sheet_18 : decode cX7_sheet 18 = .ok (.if_icmp .le 5, 3) := by decide +kernel
theorem dX7_sheet_21 : decode cX7_sheet 21 = .ok (.iconst (-1), 1) := by decide +kernel
theorem dX7_sheet_22 : decode cX7_sheet 22 = .ok (.ireturn, 1) := by decide +kernel
theorem dX7_sheet_23 : decode cX7_sheet 23 = .ok (.iload_n 3, 1) := by decide +kernel
theorem dX7_sheet_24 : decode cX7_sheet 24 = .ok (.ifCond .ge 6, 3) := by decide +kernel
theorem dX7_sheet_27 : decode cX7_sheet 27 = .ok (.bipush (-14), 2) := by decide +kernel
theorem dX7_sheet_29 : decode cX7_sheet 29 = .ok (.ireturn, 1) := by decide +kernel
theorem dX7_sheet_30 : decode cX7_sheet 30 = .ok (.aload_n 0, 1) := by decide +kernel
theorem dX7_sheet_31 : decode cX7_sheet 31 = .ok (.getfield 72, 3) := by decide +kernel
theorem dX7_sheet_34 : decode cX7_sheet 34 = .ok (.iload_n 1, 1) := by decide +kernel
theorem dX7_sheet_35 : decode cX7_sheet 35 = .ok (.aaload, 1) := by decide +kernel
theorem dX7_sheet_36 : decode cX7_sheet 36 = .ok (.iload_n 2, 1) := by decide +kernel
theorem dX7_sheet_37 : decode cX7_sheet 37 = .ok (.iload_n 3, 1) := by decide +kernel
theorem dX7_sheet_38 : decode cX7_sheet 38 = .ok (.invokevirtual 290, 3) := by decide +kernel
theorem dX7_sheet_41 : decode cX7_sheet 41 = .ok (.iconst 1, 1) := by decide +kernel
theorem dX7_sheet_42 : decode cX7_sheet 42 = .ok (.ireturn, 1) := by decide +kernel
set_option maxRecDepth 20000 in
theorem ggX7_lay_X7_isSheet : GoodIn wsX7_lay wsX7_isSheet := goodIn_r _ [7, 1, 8, 9, 6, 10, 23, 24, 25, 26, 27, 28, 29, 30, 31, 32, 33, 34, 35] (by decide +kernel) (by decide +kernel)
set_option maxRecDepth 20000 in
theorem gX7_lay_X7_isSheet : GoodIn wsX7_lay (wsV RX7 284 RX7 yX7_isSheet wsX7_isSheet) := goodIn_app (goodIn_of _ (by decide +kernel)) ggX7_lay_X7_isSheet
set_option maxRecDepth 20000 in
theorem ggX7_lay_X5_faultAt : GoodIn wsX7_lay wsX5_faultAt := goodIn_r _ [15, 16, 17, 9, 6, 10, 36, 37, 38] (by decide +kernel) (by decide +kernel)
set_option maxRecDepth 20000 in
theorem gX7_lay_X5_faultAt : GoodIn wsX7_lay (wsV RX7 297 RX5 yX5_faultAt wsX5_faultAt) := goodIn_app (goodIn_of _ (by decide +kernel)) ggX7_lay_X5_faultAt
set_option maxRecDepth 20000 in
theorem ggX7_lay_X5_setCell : GoodIn wsX7_lay wsX5_setCell := goodIn_r _ [21, 17, 22, 36, 37, 38] (by decide +kernel) (by decide +kernel)
set_option maxRecDepth 20000 in
theorem gX7_lay_X5_setCell : GoodIn wsX7_lay (wsV RX7 300 RX5 yX5_setCell wsX5_setCell) := goodIn_app (goodIn_of _ (by decide +kernel)) ggX7_lay_X5_setCell
theorem dX7_lay_0 : decode cX7_lay 0 = .ok (.aload_n 0, 1) := by decide +kernel
theorem dX7_lay_1 : decode cX7_lay 1 = .ok (.iload_n 1, 1) := by decide +kernel
theorem dX7_lay_2 : decode cX7_lay 2 = .ok (.invokevirtual 284, 3) := by decide +kernel
theorem dX7_lay_5 : decode cX7_lay 5 = .ok (.ifCond .ne 5, 3) := by decide +kernel
theorem dX7_lay_8 : decode cX7_lay 8 = .ok (.iconst (-1), 1) := by decide +kernel
theorem dX7_lay_9 : decode cX7_lay 9 = .ok (.ireturn, 1) := by decide +kernel
theorem dX7_lay_10 : decode cX7_lay 10 = .ok (.aload_n 0, 1) := by decide +kernel
theorem dX7_lay_11 : decode cX7_lay 11 = .ok (.getfield 72, 3) := by decide +kernel
theorem dX7_lay_14 : decode cX7_lay 14 = .ok (.iload_n 1, 1) := by decide +kernel
theorem dX7_lay_15 : decode cX7_lay 15 = .ok (.aaload, 1) := by decide +kernel
theorem dX7_lay_16 : decode cX7_lay 16 = .ok (.aload_n 0, 1) := by decide +kernel
theorem dX7_lay_17 : decode cX7_lay 17 = .ok (.getfield 72, 3) := by decide +kernel
theorem dX7_lay_20 : decode cX7_lay 20 = .ok (.iload_n 1, 1) := by decide +kernel
theorem dX7_lay_21 : decode cX7_lay 21 = .ok (.aaload, 1) := by decide +kernel
theorem dX7_lay_22 : decode cX7_lay 22 = .ok (.getfield 294, 3) := by decide +kernel
theorem dX7_lay_25 : decode cX7_lay 25 = .ok (.iload_n 2, 1) := by decide +kernel
theorem dX7_lay_26 : decode cX7_lay 26 = .ok (.invokevirtual 297, 3) := by decide +kernel
theorem dX7_lay_29 : decode cX7_lay 29 = .ok (.istore 4, 2) := by decide +kernel
theorem dX7_lay_31 : decode cX7_lay 31 = .ok (.iload 4, 2) := by decide +kernel
theorem dX7_lay_33 : decode cX7_lay 33 = .ok (.ifCond .eq 9, 3) := by decide +kernel
theorem dX7_lay_36 : decode cX7_lay 36 = .ok (.bipush (-10), 2) := by decide +kernel
theorem dX7_lay_38 : decode cX7_lay 38 = .ok (.iload 4, 2) := by decide +kernel
theorem dX7_lay_40 : decode cX7_lay 40 = .ok (.isub, 1) := by decide +kernel
theorem dX7_lay_41 : decode cX7_lay 41 = .ok (.ireturn, 1) := by decide +kernel
theorem dX7_lay_42 : decode cX7_lay 42 = .ok (.aload_n 0, 1) := by decide +kernel
theorem dX7_lay_43 : decode cX7_lay 43 = .ok (.getfield 72, 3) := by decide +kernel
theorem dX7_lay_46 : decode cX7_lay 46 = .ok (.iload_n 1, 1) := by decide +kernel
theorem dX7_lay_47 : decode cX7_lay 47 = .ok (.aaload, 1) := by decide +kernel
theorem dX7_lay_48 : decode cX7_lay 48 = .ok (.iload_n 2, 1) := by decide +kernel
theorem dX7_lay_49 : decode cX7_lay 49 = .ok (.iload_n 3, 1) := by decide +kernel
theorem dX7_lay_50 : decode cX7_lay 50 = .ok (.invokevirtual 300, 3) := by decide +kernel
theorem dX7_lay_53 : decode cX7_lay 53 = .ok (.iconst 1, 1) := by decide +kernel
theorem dX7_lay_54 : decode cX7_lay 54 = .ok (.ireturn, 1) := by decide +kernel
set_option maxRecDepth 20000 in
theorem ggX7_read_X7_isSheet : GoodIn wsX7_read wsX7_isSheet := goodIn_r _ [10, 3, 11, 12, 9, 13, 117, 118, 119, 120, 121, 122, 123, 124, 125, 126, 127, 128, 129] (by decide +kernel) (by decide +kernel)
set_option maxRecDepth 20000 in
theorem gX7_read_X7_isSheet : GoodIn wsX7_read (wsV RX7 284 RX7 yX7_isSheet wsX7_isSheet) := goodIn_app (goodIn_of _ (by decide +kernel)) ggX7_read_X7_isSheet
set_option maxRecDepth 20000 in
theorem ggX7_read_X7_isLane : GoodIn wsX7_read wsX7_isLane := goodIn_r _ [16, 11, 12, 9, 13] (by decide +kernel) (by decide +kernel)
set_option maxRecDepth 20000 in
theorem gX7_read_X7_isLane : GoodIn wsX7_read (va_wsS RX7 287 yX7_isLane wsX7_isLane) := goodIn_app (goodIn_of _ (by decide +kernel)) ggX7_read_X7_isLane
set_option maxRecDepth 20000 in
theorem ggX7_read_X7_isWithin : GoodIn wsX7_read wsX7_isWithin := goodIn_r _ [13] (by decide +kernel) (by decide +kernel)
set_option maxRecDepth 20000 in
theorem gX7_read_X7_isWithin : GoodIn wsX7_read (va_wsS RX7 87 yX7_isWithin wsX7_isWithin) := goodIn_app (goodIn_of _ (by decide +kernel)) ggX7_read_X7_isWithin
set_option maxRecDepth 20000 in
theorem ggX7_read_X6_copyFrom : GoodIn wsX7_read wsX6_copyFrom := goodIn_r _ [21, 22, 23, 24, 25, 26, 27, 28, 29, 30, 31, 32, 33, 34, 35, 133, 134, 135, 136, 137, 138, 139, 140, 141, 142, 143] (by decide +kernel) (by decide +kernel)
set_option maxRecDepth 20000 in
theorem gX7_read_X6_copyFrom : GoodIn wsX7_read (wsV RX7 107 RX6 yX6_copyFrom wsX6_copyFrom) := goodIn_app (goodIn_of _ (by decide +kernel)) ggX7_read_X6_copyFrom
set_option maxRecDepth 20000 in
theorem ggX7_read_X5_faultAt : GoodIn wsX7_read wsX5_faultAt := goodIn_r _ [40, 41, 42, 12, 9, 13, 130, 131, 132] (by decide +kernel) (by decide +kernel)
set_option maxRecDepth 20000 in
theorem gX7_read_X5_faultAt : GoodIn wsX7_read (wsV RX7 297 RX5 yX5_faultAt wsX5_faultAt) := goodIn_app (goodIn_of _ (by decide +kernel)) ggX7_read_X5_faultAt
set_option maxRecDepth 20000 in
theorem ggX7_read_X7_refusalOf : GoodIn wsX7_read wsX7_refusalOf := goodIn_r _ [46, 47, 2, 48, 49, 50, 51, 52, 53, 54, 55, 56, 57, 58, 59, 20, 60, 61, 62, 22, 63, 64, 65, 66, 67, 28, 117, 118, 119, 120, 121, 122, 123, 124, 125, 126, 127, 128, 129, 133, 134, 135, 136, 137, 138, 139, 140, 141, 142, 143, 144, 145, 146, 147, 148, 149] (by decide +kernel) (by decide +kernel)
set_option maxRecDepth 20000 in
theorem gX7_read_X7_refusalOf : GoodIn wsX7_read (wsV RX7 182 RX7 yX7_refusalOf wsX7_refusalOf) := goodIn_app (goodIn_of _ (by decide +kernel)) ggX7_read_X7_refusalOf
set_option maxRecDepth 20000 in
theorem ggX7_read_X6_takeStep : GoodIn wsX7_read wsX6_takeStep := goodIn_r _ [71, 30, 33, 61, 72, 27, 31, 32, 35, 73, 58, 59, 20, 60, 62, 22, 63, 52, 53, 54, 55, 56, 64, 65, 66, 67, 28, 74, 75, 76, 77, 34, 78, 79, 80, 81, 82, 83, 84, 85, 86, 87, 88, 89, 90, 91, 92, 93, 94, 9, 95, 96, 97, 98, 99, 100, 101, 29, 102, 103, 104, 105, 106, 107, 108, 109, 110, 111, 112, 113, 114, 115, 116, 133, 134, 135, 136, 137, 138, 139, 140, 141, 142, 143, 144, 145, 146, 147, 148, 149] (by decide +kernel) (by decide +kernel)
set_option maxRecDepth 20000 in
theorem gX7_read_X6_takeStep : GoodIn wsX7_read (wsV RX7 185 RX6 yX6_takeStep wsX6_takeStep) := goodIn_app (goodIn_of _ (by decide +kernel)) ggX7_read_X6_takeStep
theorem dX7_read_0 : decode cX7_read 0 = .ok (.aload_n 0, 1) := by decide +kernel
theorem dX7_read_1 : decode cX7_read 1 = .ok (.iload_n 1, 1) := by decide +kernel
theorem dX7_read_2 : decode cX7_read 2 = .ok (.invokevirtual 284, 3) := by decide +kernel
theorem dX7_read_5 : decode cX7_read 5 = .ok (.ifCond .eq 21, 3) := by decide +kernel
theorem dX7_read_8 : decode cX7_read 8 = .ok (.iload_n 2, 1) := by decide +kernel
theorem dX7_read_9 : decode cX7_read 9 = .ok (.invokestatic 287, 3) := by decide +kernel
theorem dX7_read_12 : decode cX7_read 12 = .ok (.ifCond .eq 14, 3) := by decide +kernel
theorem dX7_read_15 : decode cX7_read 15 = .ok (.iload 4, 2) := by decide +kernel
theorem dX7_read_17 : decode cX7_read 17 = .ok (.iconst 0, 1) := by decide +kernel
theorem dX7_read_18 : decode cX7_read 18 = .ok (.bipush 20, 2) := by decide +kernel
theorem dX7_read_20 : decode cX7_read 20 = .ok (.invokestatic 87, 3) := by decide +kernel
theorem dX7_read_23 : decode cX7_read 23 = .ok (.ifCond .ne 5, 3) := by decide +kernel
theorem dX7_read_26 : decode cX7_read 26 = .ok (.iconst (-1), 1) := by decide +kernel
theorem dX7_read_27 : decode cX7_read 27 = .ok (.ireturn, 1) := by decide +kernel
theorem dX7_read_28 : decode cX7_read 28 = .ok (.aload_n 0, 1) := by decide +kernel
theorem dX7_read_29 : decode cX7_read 29 = .ok (.getfield 28, 3) := by decide +kernel
theorem dX7_read_32 : decode cX7_read 32 = .ok (.aload_n 0, 1) := by decide +kernel
theorem dX7_read_33 : decode cX7_read 33 = .ok (.getfield 21, 3) := by decide +kernel
theorem dX7_read_36 : decode cX7_read 36 = .ok (.invokevirtual 107, 3) := by decide +kernel
theorem dX7_read_39 : decode cX7_read 39 = .ok (.iconst 0, 1) := by decide +kernel
theorem dX7_read_40 : decode cX7_read 40 = .ok (.istore 5, 2) := by decide +kernel
theorem dX7_read_42 : decode cX7_read 42 = .ok (.iload 5, 2) := by decide +kernel
theorem dX7_read_44 : decode cX7_read 44 = .ok (.iload 4, 2) := by decide +kernel
theorem dX7_read_46 : decode cX7_read 46 = .ok (.if_icmp .ge 90, 3) := by decide +kernel
theorem dX7_read_49 : decode cX7_read 49 = .ok (.aload_n 0, 1) := by decide +kernel
theorem dX7_read_50 : decode cX7_read 50 = .ok (.getfield 72, 3) := by decide +kernel
