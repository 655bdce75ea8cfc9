theorem dX4_stepOf_49 : decode cX4_stepOf 49 = .ok (.iadd, 1) := by decide +kernel
theorem dX4_stepOf_50 : decode cX4_stepOf 50 = .ok (.bipush 56, 2) := by decide +kernel
theorem dX4_stepOf_52 : decode cX4_stepOf 52 = .ok (.imul, 1) := by decide +kernel
theorem dX4_stepOf_53 : decode cX4_stepOf 53 = .ok (.iload 4, 2) := by decide +kernel
theorem dX4_stepOf_55 : decode cX4_stepOf 55 = .ok (.iadd, 1) := by decide +kernel
theorem dX4_stepOf_56 : decode cX4_stepOf 56 = .ok (.iaload, 1) := by decide +kernel
theorem dX4_stepOf_57 : decode cX4_stepOf 57 = .ok (.ireturn, 1) := by decide +kernel
theorem dX5_init_0 : decode cX5_init 0 = .ok (.aload_n 0, 1) := by decide +kernel
theorem dX5_init_1 : decode cX5_init 1 = .ok (.invokespecial 3, 3) := by decide +kernel
theorem dX5_init_4 : decode cX5_init 4 = .ok (.aload_n 0, 1) := by decide +kernel
theorem dX5_init_5 : decode cX5_init 5 = .ok (.bipush 40, 2) := by decide +kernel
theorem dX5_init_7 : decode cX5_init 7 = .ok (.newarray .int, 2) := by decide +kernel
theorem dX5_init_9 : decode cX5_init 9 = .ok (.putfield 9, 3) := by decide +kernel
theorem dX5_init_12 : decode cX5_init 12 = .ok (.aload_n 0, 1) := by decide +kernel
theorem dX5_init_13 : decode cX5_init 13 = .ok (.iconst 0, 1) := by decide +kernel
theorem dX5_init_14 : decode cX5_init 14 = .ok (.putfield 15, 3) := by decide +kernel
theorem dX5_init_17 : decode cX5_init 17 = .ok (.aload_n 0, 1) := by decide +kernel
theorem dX5_init_18 : decode cX5_init 18 = .ok (.bipush (-4), 2) := by decide +kernel
theorem dX5_init_20 : decode cX5_init 20 = .ok (.putfield 19, 3) := by decide +kernel
theorem dX5_init_23 : decode cX5_init 23 = .ok (.return_, 1) := by decide +kernel
set_option maxRecDepth 20000 in
theorem ggX5_renew_J7_fill_53178 : GoodIn wsX5_renew wsJ7_fill_53178 := goodIn_r _ [7] (by decide +kernel) (by decide +kernel)
set_option maxRecDepth 20000 in
theorem gX5_renew_J7_fill_53178 : GoodIn wsX5_renew (va_wsS RX5 22 yJ7_fill_53178 wsJ7_fill_53178) := goodIn_app (goodIn_of _ (by decide +kernel)) ggX5_renew_J7_fill_53178
theorem dX5_renew_0 : decode cX5_renew 0 = .ok (.aload_n 0, 1) := by decide +kernel
theorem dX5_renew_1 : decode cX5_renew 1 = .ok (.iload_n 1, 1) := by decide +kernel
theorem dX5_renew_2 : decode cX5_renew 2 = .ok (.putfield 15, 3) := by decide +kernel
theorem dX5_renew_5 : decode cX5_renew 5 = .ok (.aload_n 0, 1) := by decide +kernel
theorem dX5_renew_6 : decode cX5_renew 6 = .ok (.iload_n 2, 1) := by decide +kernel
theorem dX5_renew_7 : decode cX5_renew 7 = .ok (.putfield 19, 3) := by decide +kernel
theorem dX5_renew_10 : decode cX5_renew 10 = .ok (.aload_n 0, 1) := by decide +kernel
theorem dX5_renew_11 : decode cX5_renew 11 = .ok (.getfield 9, 3) := by decide +kernel
theorem dX5_renew_14 : decode cX5_renew 14 = .ok (.iconst 0, 1) := by decide +kernel
theorem dX5_renew_15 : decode cX5_renew 15 = .ok (.invokestatic 22, 3) := by decide +kernel
theorem dX5_renew_18 : decode cX5_renew 18 = .ok (.return_, 1) := by decide +kernel
theorem dX5_setCell_0 : decode cX5_setCell 0 = .ok (.aload_n 0, 1) := by decide +kernel
theorem dX5_setCell_1 : decode cX5_setCell 1 = .ok (.getfield 15, 3) := by decide +kernel
theorem dX5_setCell_4 : decode cX5_setCell 4 = .ok (.ifCond .ne 14, 3) := by decide +kernel
theorem dX5_setCell_7 : decode cX5_setCell 7 = .ok (.aload_n 0, 1) := by decide +kernel
theorem dX5_setCell_8 : decode cX5_setCell 8 = .ok (.getfield 9, 3) := by decide +kernel
theorem dX5_setCell_11 : decode cX5_setCell 11 = .ok (.iload_n 1, 1) := by decide +kernel
theorem dX5_setCell_12 : decode cX5_setCell 12 = .ok (.iload_n 2, 1) := by decide +kernel
theorem dX5_setCell_13 : decode cX5_setCell 13 = .ok (.i2b, 1) := by decide +kernel
theorem dX5_setCell_14 : decode cX5_setCell 14 = .ok (.iastore, 1) := by decide +kernel
theorem dX5_setCell_15 : decode cX5_setCell 15 = .ok (.goto 29, 3) := by decide +kernel
theorem dX5_setCell_18 : decode cX5_setCell 18 = .ok (.aload_n 0, 1) := by decide +kernel
theorem dX5_setCell_19 : decode cX5_setCell 19 = .ok (.getfield 15, 3) := by decide +kernel
theorem dX5_setCell_22 : decode cX5_setCell 22 = .ok (.iconst 1, 1) := by decide +kernel
theorem dX5_setCell_23 : decode cX5_setCell 23 = .ok (.if_icmp .ne 14, 3) := by decide +kernel
theorem dX5_setCell_26 : decode cX5_setCell 26 = .ok (.aload_n 0, 1) := by decide +kernel
theorem dX5_setCell_27 : decode cX5_setCell 27 = .ok (.getfield 9, 3) := by decide +kernel
theorem dX5_setCell_30 : decode cX5_setCell 30 = .ok (.iload_n 1, 1) := by decide +kernel
theorem dX5_setCell_31 : decode cX5_setCell 31 = .ok (.iload_n 2, 1) := by decide +kernel
theorem dX5_setCell_32 : decode cX5_setCell 32 = .ok (.i2s, 1) := by decide +kernel
theorem dX5_setCell_33 : decode cX5_setCell 33 = .ok (.iastore, 1) := by decide +kernel
theorem dX5_setCell_34 : decode cX5_setCell 34 = .ok (.goto 10, 3) := by decide +kernel
theorem dX5_setCell_37 : decode cX5_setCell 37 = .ok (.aload_n 0, 1) := by decide +kernel
theorem dX5_setCell_38 : decode cX5_setCell 38 = .ok (.getfield 9, 3) := by decide +kernel
theorem dX5_setCell_41 : decode cX5_setCell 41 = .ok (.iload_n 1, 1) := by decide +kernel
theorem dX5_setCell_42 : decode cX5_setCell 42 = .ok (.iload_n 2, 1) := by decide +kernel
theorem dX5_setCell_43 : decode cX5_setCell 43 = .ok (.iastore, 1) := by decide +kernel
theorem dX5_setCell_44 : decode cX5_setCell 44 = .ok (.return_, 1) := by decide +kernel
set_option maxRecDepth 20000 in
theorem ggX5_faultAt_X7_isWithin : GoodIn wsX5_faultAt wsX7_isWithin := goodIn_r _ [5] (by decide +kernel) (by decide +kernel)
set_option maxRecDepth 20000 in
theorem gX5_faultAt_X7_isWithin_n28 : GoodIn wsX5_faultAt (wsX7_isWithin) := ggX5_faultAt_X7_isWithin
theorem dX5_faultAt_0 : decode cX5_faultAt 0 = .ok (.aload_n 0, 1) := by decide +kernel
theorem dX5_faultAt_1 : decode cX5_faultAt 1 = .ok (.getfield 19, 3) := by decide +kernel
theorem dX5_faultAt_4 : decode cX5_faultAt 4 = .ok (.bipush (-4), 2) := by decide +kernel
theorem dX5_faultAt_6 : decode cX5_faultAt 6 = .ok (.if_icmp .ne 5, 3) := by decide +kernel
theorem dX5_faultAt_9 : decode cX5_faultAt 9 = .ok (.iconst 1, 1) := by decide +kernel
theorem dX5_faultAt_10 : decode cX5_faultAt 10 = .ok (.ireturn, 1) := by decide +kernel
theorem dX5_faultAt_11 : decode cX5_faultAt 11 = .ok (.aload_n 0, 1) := by decide +kernel
theorem dX5_faultAt_12 : decode cX5_faultAt 12 = .ok (.getfield 15, 3) := by decide +kernel
theorem dX5_faultAt_15 : decode cX5_faultAt 15 = .ok (.iload_n 1, 1) := by decide +kernel
theorem dX5_faultAt_16 : decode cX5_faultAt 16 = .ok (.if_icmp .eq 5, 3) := by decide +kernel
theorem dX5_faultAt_19 : decode cX5_faultAt 19 = .ok (.iconst 3, 1) := by decide +kernel
theorem dX5_faultAt_20 : decode cX5_faultAt 20 = .ok (.ireturn, 1) := by decide +kernel
theorem dX5_faultAt_21 : decode cX5_faultAt 21 = .ok (.iload_n 2, 1) := by decide +kernel
theorem dX5_faultAt_22 : decode cX5_faultAt 22 = .ok (.iconst 0, 1) := by decide +kernel
theorem dX5_faultAt_23 : decode cX5_faultAt 23 = .ok (.aload_n 0, 1) := by decide +kernel
theorem dX5_faultAt_24 : decode cX5_faultAt 24 = .ok (.getfield 19, 3) := by decide +kernel
theorem dX5_faultAt_27 : decode cX5_faultAt 27 = .ok (.iconst 1, 1) := by decide +kernel
theorem dX5_faultAt_28 : decode cX5_faultAt 28 = .ok (.isub, 1) := by decide +kernel
theorem dX5_faultAt_29 : decode cX5_faultAt 29 = .ok (.invokestatic 28, 3) := by decide +kernel
theorem dX5_faultAt_32 : decode cX5_faultAt 32 = .ok (.ifCond .eq 7, 3) := by decide +kernel
theorem dX5_faultAt_35 : decode cX5_faultAt 35 = .ok (.iconst 0, 1) := by decide +kernel
theorem dX5_faultAt_36 : decode cX5_faultAt 36 = .ok (.goto 4, 3) := by decide +kernel
theorem dX5_faultAt_39 : decode cX5_faultAt 39 = .ok (.iconst 2, 1) := by decide +kernel
theorem dX5_faultAt_40 : decode cX5_faultAt 40 = .ok (.ireturn, 1) := by decide +kernel
set_option maxRecDepth 20000 in
theorem ggX6_init_X6_reset : GoodIn wsX6_init wsX6_reset := goodIn_r _ [12, 13, 14, 15, 16, 17, 18, 19, 20, 21, 22, 23, 24, 25, 26, 27, 28, 29, 30, 31] (by decide +kernel) (by decide +kernel)
set_option maxRecDepth 20000 in
theorem gX6_init_X6_reset : GoodIn wsX6_init (wsV RX6 22 RX6 yX6_reset wsX6_reset) := goodIn_app (goodIn_of _ (by decide +kernel)) ggX6_init_X6_reset
theorem dX6_init_0 : decode cX6_init 0 = .ok (.aload_n 0, 1) := by decide +kernel
theorem dX6_init_1 : decode cX6_init 1 = .ok (.invokespecial 3, 3) := by decide +kernel
theorem dX6_init_4 : decode cX6_init 4 = .ok (.aload_n 0, 1) := by decide +kernel
theorem dX6_init_5 : decode cX6_init 5 = .ok (.bipush 10, 2) := by decide +kernel
theorem dX6_init_7 : decode cX6_init 7 = .ok (.newarray .int, 2) := by decide +kernel
theorem dX6_init_9 : decode cX6_init 9 = .ok (.putfield 9, 3) := by decide +kernel
theorem dX6_init_12 : decode cX6_init 12 = .ok (.aload_n 0, 1) := by decide +kernel
theorem dX6_init_13 : decode cX6_init 13 = .ok (.bipush 12, 2) := by decide +kernel
theorem dX6_init_15 : decode cX6_init 15 = .ok (.newarray .int, 2) := by decide +kernel
theorem dX6_init_17 : decode cX6_init 17 = .ok (.putfield 15, 3) := by decide +kernel
theorem dX6_init_20 : decode cX6_init 20 = .ok (.aload_n 0, 1) := by decide +kernel
theorem dX6_init_21 : decode cX6_init 21 = .ok (.aload_n 1, 1) := by decide +kernel
theorem dX6_init_22 : decode cX6_init 22 = .ok (.putfield 18, 3) := by decide +kernel
theorem dX6_init_25 : decode cX6_init 25 = .ok (.aload_n 0, 1) := by decide +kernel
theorem dX6_init_26 : decode cX6_init 26 = .ok (.invokevirtual 22, 3) := by decide +kernel
theorem dX6_init_29 : decode cX6_init 29 = .ok (.return_, 1) := by decide +kernel
theorem dX6_reset_0 : decode cX6_reset 0 = .ok (.aload_n 0, 1) := by decide +kernel
theorem dX6_reset_1 : decode cX6_reset 1 = .ok (.iconst 0, 1) := by decide +kernel
theorem dX6_reset_2 : decode cX6_reset 2 = .ok (.putfield 25, 3) := by decide +kernel
theorem dX6_reset_5 : decode cX6_reset 5 = .ok (.aload_n 0, 1) := by decide +kernel
theorem dX6_reset_6 : decode cX6_reset 6 = .ok (.iconst 1, 1) := by decide +kernel
theorem dX6_reset_7 : decode cX6_reset 7 = .ok (.putfield 29, 3) := by decide +kernel
theorem dX6_reset_10 : decode cX6_reset 10 = .ok (.aload_n 0, 1) := by decide +kernel
theorem dX6_reset_11 : decode cX6_reset 11 = .ok (.iconst 0, 1) := by decide +kernel
theorem dX6_reset_12 : decode cX6_reset 12 = .ok (.putfield 32, 3) := by decide +kernel
theorem dX6_reset_15 : decode cX6_reset 15 = .ok (.aload_n 0, 1) := by decide +kernel
theorem dX6_reset_16 : decode cX6_reset 16 = .ok (.bipush (-4), 2) := by decide +kernel
theorem dX6_reset_18 : decode cX6_reset 18 = .ok (.putfield 35, 3) := by decide +kernel
theorem dX6_reset_21 : decode cX6_reset 21 = .ok (.aload_n 0, 1) := by decide +kernel
theorem dX6_reset_22 : decode cX6_reset 22 = .ok (.iconst 0, 1) := by decide +kernel
theorem dX6_reset_23 : decode cX6_reset 23 = .ok (.putfield 38, 3) := by decide +kernel
theorem dX6_reset_26 : decode cX6_reset 26 = .ok (.aload_n 0, 1) := by decide +kernel
theorem dX6_reset_27 : decode cX6_reset 27 = .ok (.iconst 0, 1) := by decide +kernel
theorem dX6_reset_28 : decode cX6_reset 28 = .ok (.putfield 41, 3) := by decide +kernel
theorem dX6_reset_31 : decode cX6_reset 31 = .ok (.aload_n 0, 1) := by decide +kernel
theorem dX6_reset_32 : decode cX6_reset 32 = .ok (.iconst 0, 1) := by decide +kernel
theorem dX6_reset_33 : decode cX6_reset 33 = .ok (.putfield 44, 3) := by decide +kernel
theorem dX6_reset_36 : decode cX6_reset 36 = .ok (.aload_n 0, 1) := by decide +kernel
theorem dX6_reset_37 : decode cX6_reset 37 = .ok (.iconst 0, 1) := by decide +kernel
theorem dX6_reset_38 : decode cX6_reset 38 = .ok (.putfield 47, 3) := by decide +kernel
theorem dX6_reset_41 : decode cX6_reset 41 = .ok (.return_, 1) := by decide +kernel
theorem dX6_copyFrom_0 : decode cX6_copyFrom 0 = .ok (.aload_n 1, 1) := by decide +kernel
theorem dX6_copyFrom_1 : decode cX6_copyFrom 1 = .ok (.getfield 9, 3) := by decide +kernel
theorem dX6_copyFrom_4 : decode cX6_copyFrom 4 = .ok (.iconst 0, 1) := by decide +kernel
theorem dX6_copyFrom_5 : decode cX6_copyFrom 5 = .ok (.aload_n 0, 1) := by decide +kernel
theorem dX6_copyFrom_6 : decode cX6_copyFrom 6 = .ok (.getfield 9, 3) := by decide +kernel
theorem dX6_copyFrom_9 : decode cX6_copyFrom 9 = .ok (.iconst 0, 1) := by decide +kernel
theorem dX6_copyFrom_10 : decode cX6_copyFrom 10 = .ok (.bipush 10, 2) := by decide +kernel
theorem dX6_copyFrom_12 : decode cX6_copyFrom 12 = .ok (.invokestatic 51, 3) := by decide +kernel
theorem dX6_copyFrom_15 : decode cX6_copyFrom 15 = .ok (.aload_n 1, 1) := by decide +kernel
theorem dX6_copyFrom_16 : decode cX6_copyFrom 16 = .ok (.getfield 15, 3) := by decide +kernel
theorem dX6_copyFrom_19 : decode cX6_copyFrom 19 = .ok (.iconst 0, 1) := by decide +kernel
theorem dX6_copyFrom_20 : decode cX6_copyFrom 20 = .ok (.aload_n 0, 1) := by decide +kernel
theorem dX6_copyFrom_21 : decode cX6_copyFrom 21 = .ok (.getfield 15, 3) := by decide +kernel
theorem dX6_copyFrom_24 : decode cX6_copyFrom 24 = .ok (.iconst 0, 1) := by decide +kernel
theorem dX6_copyFrom_25 : decode cX6_copyFrom 25 = .ok (.bipush 12, 2) := by decide +kernel
theorem dX6_copyFrom_27 : decode cX6_copyFrom 27 = .ok (.invokestatic 51, 3) := by decide +kernel
theorem dX6_copyFrom_30 : decode cX6_copyFrom 30 = .ok (.aload_n 0, 1) := by decide +kernel
theorem dX6_copyFrom_31 : decode cX6_copyFrom 31 = .ok (.aload_n 1, 1) := by decide +kernel
theorem dX6_copyFrom_32 : decode cX6_copyFrom 32 = .ok (.getfield 25, 3) := by decide +kernel
theorem dX6_copyFrom_35 : decode cX6_copyFrom 35 = .ok (.putfield 25, 3) := by decide +kernel
theorem dX6_copyFrom_38 : decode cX6_copyFrom 38 = .ok (.aload_n 0, 1) := by decide +kernel
theorem dX6_copyFrom_39 : decode cX6_copyFrom 39 = .ok (.aload_n 1, 1) := by decide +kernel
theorem dX6_copyFrom_40 : decode cX6_copyFrom 40 = .ok (.getfield 29, 3) := by decide +kernel
theorem dX6_copyFrom_43 : decode cX6_copyFrom 43 = .ok (.putfield 29, 3) := by decide +kernel
theorem dX6_copyFrom_46 : decode cX6_copyFrom 46 = .ok (.aload_n 0, 1) := by decide +kernel
theorem dX6_copyFrom_47 : decode cX6_copyFrom 47 = .ok (.aload_n 1, 1) := by decide +kernel
theorem dX6_copyFrom_48 : decode cX6_copyFrom 48 = .ok (.getfield 32, 3) := by decide +kernel
theorem dX6_copyFrom_51 : decode cX6_copyFrom 51 = .ok (.putfield 32, 3) := by decide +kernel
theorem dX6_copyFrom_54 : decode cX6_copyFrom 54 = .ok (.aload_n 0, 1) := by decide +kernel
theorem dX6_copyFrom_55 : decode cX6_copyFrom 55 = .ok (.aload_n 1, 1) := by decide +kernel
theorem dX6_copyFrom_56 : decode cX6_copyFrom 56 = .ok (.getfield 35, 3) := by decide +kernel
theorem dX6_copyFrom_59 : decode cX6_copyFrom 59 = .ok (.putfield 35, 3) := by decide +kernel
theorem dX6_copyFrom_62 : decode cX6_copyFrom 62 = .ok (.aload_n 0, 1) := by decide +kernel
theorem dX6_copyFrom_63 : decode cX6_copyFrom 63 = .ok (.aload_n 1, 1) := by decide +kernel
theorem dX6_copyFrom_64 : decode cX6_copyFrom 64 = .ok (.getfield 38, 3) := by decide +kernel
theorem dX6_copyFrom_67 : decode cX6_copyFrom 67 = .ok (.putfield 38, 3) := by decide +kernel
theorem dX6_copyFrom_70 : decode cX6_copyFrom 70 = .ok (.aload_n 0, 1) := by decide +kernel
theorem dX6_copyFrom_71 : decode cX6_copyFrom 71 = .ok (.aload_n 1, 1) := by decide +kernel
theorem dX6_copyFrom_72 : decode cX6_copyFrom 72 = .ok (.getfield 41, 3) := by decide +kernel
theorem dX6_copyFrom_75 : decode cX6_copyFrom 75 = .ok (.putfield 41, 3) := by decide +kernel
theorem dX6_copyFrom_78 : decode cX6_copyFrom 78 = .ok (.aload_n 0, 1) := by decide +kernel
theorem dX6_copyFrom_79 : decode cX6_copyFrom 79 = .ok (.aload_n 1, 1) := by decide +kernel
theorem dX6_copyFrom_80 : decode cX6_copyFrom 80 = .ok (.getfield 44, 3) := by decide +kernel
theorem dX6_copyFrom_83 : decode cX6_copyFrom 83 = .ok (.putfield 44, 3) := by decide +kernel
theorem dX6_copyFrom_86 : decode cX6_copyFrom 86 = .ok (.aload_n 0, 1) := by decide +kernel
theorem dX6_copyFrom_87 : decode cX6_copyFrom 87 = .ok (.aload_n 1, 1) := by decide +kernel
theorem dX6_copyFrom_88 : decode cX6_copyFrom 88 = .ok (.getfield 47, 3) := by decide +kernel
theorem dX6_copyFrom_91 : decode cX6_copyFrom 91 = .ok (.putfield 47, 3) := by decide +kernel
theorem dX6_copyFrom_94 : decode cX6_copyFrom 94 = .ok (.return_, 1) := by decide +kernel
theorem dX6_isBarred_0 : decode cX6_isBarred 0 = .ok (.aload_n 0, 1) := by decide +kernel
theorem dX6_isBarred_1 : decode cX6_isBarred 1 = .ok (.getfield 25, 3) := by decide +kernel
theorem dX6_isBarred_4 : decode cX6_isBarred 4 = .ok (.iload_n 1, 1) := by decide +kernel
theorem dX6_isBarred_5 : decode cX6_isBarred 5 = .ok (.ishr, 1) := by decide +kernel
theorem dX6_isBarred_6 : decode cX6_isBarred 6 = .ok (.iconst 1, 1) := by decide +kernel
theorem dX6_isBarred_7 : decode cX6_isBarred 7 = .ok (.iand, 1) := by decide +kernel
theorem dX6_isBarred_8 : decode cX6_isBarred 8 = .ok (.ifCond .eq 7, 3) := by decide +kernel
theorem dX6_isBarred_11 : decode cX6_isBarred 11 = .ok (.iconst 1, 1) := by decide +kernel
theorem dX6_isBarred_12 : decode cX6_isBarred 12 = .ok (.goto 4, 3) := by decide +kernel
theorem dX6_isBarred_15 : decode cX6_isBarred 15 = .ok (.iconst 0, 1) := by decide +kernel
theorem dX6_isBarred_16 : decode cX6_isBarred 16 = .ok (.ireturn, 1) := by decide +kernel
set_option maxRecDepth 20000 in
theorem ggX6_ofDoor_X2_hasDoor : GoodIn wsX6_ofDoor wsX2_hasDoor := goodIn_r _ [8, 9, 32, 33, 34, 35, 36, 37] (by decide +kernel) (by decide +kernel)
set_option maxRecDepth 20000 in
theorem gX6_ofDoor_X2_hasDoor : GoodIn wsX6_ofDoor (wsV RX6 57 RX2 yX2_hasDoor wsX2_hasDoor) := goodIn_app (goodIn_of _ (by decide +kernel)) ggX6_ofDoor_X2_hasDoor
set_option maxRecDepth 20000 in
theorem ggX6_ofDoor_X7_isWithin : GoodIn wsX6_ofDoor wsX7_isWithin := goodIn_r _ [12] (by decide +kernel) (by decide +kernel)
set_option maxRecDepth 20000 in
theorem gX6_ofDoor_X7_isWithin_n63 : GoodIn wsX6_ofDoor (wsX7_isWithin) := ggX6_ofDoor_X7_isWithin
set_option maxRecDepth 20000 in
theorem ggX6_ofDoor_X6_isBarred : GoodIn wsX6_ofDoor wsX6_isBarred := goodIn_r _ [17, 18, 21, 22, 23, 24, 25, 26, 27, 28, 29, 30, 31] (by decide +kernel) (by decide +kernel)
set_option maxRecDepth 20000 in
theorem gX6_ofDoor_X6_isBarred : GoodIn wsX6_ofDoor (wsV RX6 67 RX6 yX6_isBarred wsX6_isBarred) := goodIn_app (goodIn_of _ (by decide +kernel)) ggX6_ofDoor_X6_isBarred
set_option maxRecDepth 20000 in
theorem ggX6_ofDoor_X7_asNumber : GoodIn wsX6_ofDoor wsX7_asNumber := goodIn_r _ [20] (by decide +kernel) (by decide +kernel)
set_option maxRecDepth 20000 in
theorem gX6_ofDoor_X7_asNumber_n70 : GoodIn wsX6_ofDoor (wsX7_asNumber) := ggX6_ofDoor_X7_asNumber
theorem dX6_ofDoor_0 : decode cX6_ofDoor 0 = .ok (.aload_n 0, 1) := by decide +kernel
theorem dX6_ofDoor_1 : decode cX6_ofDoor 1 = .ok (.getfield 18, 3) := by decide +kernel
theorem dX6_ofDoor_4 : decode cX6_ofDoor 4 = .ok (.iload_n 1, 1) := by decide +kernel
theorem dX6_ofDoor_5 : decode cX6_ofDoor 5 = .ok (.invokevirtual 57, 3) := by decide +kernel
theorem dX6_ofDoor_8 : decode cX6_ofDoor 8 = .ok (.ifCond .eq 12, 3) := by decide +kernel
theorem dX6_ofDoor_11 : decode cX6_ofDoor 11 = .ok (.iload_n 2, 1) := by decide +kernel
theorem dX6_ofDoor_12 : decode cX6_ofDoor 12 = .ok (.iconst 0, 1) := by decide +kernel
theorem dX6_ofDoor_13 : decode cX6_ofDoor 13 = .ok (.iconst 2, 1) := by decide +kernel
theorem dX6_ofDoor_14 : decode cX6_ofDoor 14 = .ok (.invokestatic 63, 3) := by decide +kernel
theorem dX6_ofDoor_17 : decode cX6_ofDoor 17 = .ok (.ifCond .ne 5, 3) := by decide +kernel
theorem dX6_ofDoor_20 : decode cX6_ofDoor 20 = .ok (.iconst (-1), 1) := by decide +kernel
theorem dX6_ofDoor_21 : decode cX6_ofDoor 21 = .ok (.ireturn, 1) := by decide +kernel
theorem dX6_ofDoor_22 : decode cX6_ofDoor 22 = .ok (.iload_n 2, 1) := by decide +kernel
theorem dX6_ofDoor_23 : decode cX6_ofDoor 23 = .ok (.iconst 2, 1) := by decide +kernel
theorem dX6_ofDoor_24 : decode cX6_ofDoor 24 = .ok (.if_icmp .ne 12, 3) := by decide +kernel
theorem dX6_ofDoor_27 : decode cX6_ofDoor 27 = .ok (.aload_n 0, 1) := by decide +kernel
theorem dX6_ofDoor_28 : decode cX6_ofDoor 28 = .ok (.iload_n 1, 1) := by decide +kernel
theorem dX6_ofDoor_29 : decode cX6_ofDoor 29 = .ok (.invokevirtual 67, 3) := by decide +kernel
theorem dX6_ofDoor_32 : decode cX6_ofDoor 32 = .ok (.invokestatic 70, 3) := by decide +kernel
theorem dX6_ofDoor_35 : decode cX6_ofDoor 35 = .ok (.ireturn, 1) := by decide +kernel
theorem dX6_ofDoor_36 : decode cX6_ofDoor 36 = .ok (.iload_n 2, 1) := by decide +kernel
theorem dX6_ofDoor_37 : decode cX6_ofDoor 37 = .ok (.ifCond .ne 15, 3) := by decide +kernel
theorem dX6_ofDoor_40 : decode cX6_ofDoor 40 = .ok (.aload_n 0, 1) := by decide +kernel
theorem dX6_ofDoor_41 : decode cX6_ofDoor 41 = .ok (.getfield 18, 3) := by decide +kernel
theorem dX6_ofDoor_44 : decode cX6_ofDoor 44 = .ok (.getfield 74, 3) := by decide +kernel
theorem dX6_ofDoor_47 : decode cX6_ofDoor 47 = .ok (.iload_n 1, 1) := by decide +kernel
theorem dX6_ofDoor_48 : decode cX6_ofDoor 48 = .ok (.iaload, 1) := by decide +kernel
theorem dX6_ofDoor_49 : decode cX6_ofDoor 49 = .ok (.goto 9, 3) := by decide +kernel
theorem dX6_ofDoor_52 : decode cX6_ofDoor 52 = .ok (.aload_n 0, 1) := by decide +kernel
theorem dX6_ofDoor_53 : decode cX6_ofDoor 53 = .ok (.getfield 9, 3) := by decide +kernel
theorem dX6_ofDoor_56 : decode cX6_ofDoor 56 = .ok (.iload_n 1, 1) := by decide +kernel
theorem dX6_ofDoor_57 : decode cX6_ofDoor 57 = .ok (.iaload, 1) := by decide +kernel
theorem dX6_ofDoor_58 : decode cX6_ofDoor 58 = .ok (.ireturn, 1) := by decide +kernel
theorem dX6_hasDoorsOf_0 : decode cX6_hasDoorsOf 0 = .ok (.aload_n 0, 1) := by decide +kernel
theorem dX6_hasDoorsOf_1 : decode cX6_hasDoorsOf 1 = .ok (.getfield 25, 3) := by decide +kernel
theorem dX6_hasDoorsOf_4 : decode cX6_hasDoorsOf 4 = .ok (.aload_n 1, 1) := by decide +kernel
theorem dX6_hasDoorsOf_5 : decode cX6_hasDoorsOf 5 = .ok (.getfield 25, 3) := by decide +kernel
theorem dX6_hasDoorsOf_8 : decode cX6_hasDoorsOf 8 = .ok (.if_icmp .eq 5, 3) := by decide +kernel
theorem dX6_hasDoorsOf_11 : decode cX6_hasDoorsOf 11 = .ok (.iconst 0, 1) := by decide +kernel
theorem dX6_hasDoorsOf_12 : decode cX6_hasDoorsOf 12 = .ok (.ireturn, 1) := by decide +kernel
theorem dX6_hasDoorsOf_13 : decode cX6_hasDoorsOf 13 = .ok (.iconst 0, 1) := by decide +kernel
theorem dX6_hasDoorsOf_14 : decode cX6_hasDoorsOf 14 = .ok (.istore_n 2, 1) := by decide +kernel
theorem dX6_hasDoorsOf_15 : decode cX6_hasDoorsOf 15 = .ok (.iload_n 2, 1) := by decide +kernel
theorem dX6_hasDoorsOf_16 : decode cX6_hasDoorsOf 16 = .ok (.aload_n 0, 1) := by decide +kernel
theorem dX6_hasDoorsOf_17 : decode cX6_hasDoorsOf 17 = .ok (.getfield 18, 3) := by decide +kernel
theorem dX6_hasDoorsOf_20 : decode cX6_hasDoorsOf 20 = .ok (.getfield 77, 3) := by decide +kernel
theorem dX6_hasDoorsOf_23 : decode cX6_hasDoorsOf 23 = .ok (.if_icmp .ge 26, 3) := by decide +kernel
theorem dX6_hasDoorsOf_26 : decode cX6_hasDoorsOf 26 = .ok (.aload_n 0, 1) := by decide +kernel
theorem dX6_hasDoorsOf_27 : decode cX6_hasDoorsOf 27 = .ok (.getfield 9, 3) := by decide +kernel
theorem dX6_hasDoorsOf_30 : decode cX6_hasDoorsOf 30 = .ok (.iload_n 2, 1) := by decide +kernel
theorem dX6_hasDoorsOf_31 : decode cX6_hasDoorsOf 31 = .ok (.iaload, 1) := by decide +kernel
theorem dX6_hasDoorsOf_32 : decode cX6_hasDoorsOf 32 = .ok (.aload_n 1, 1) := by decide +kernel
theorem dX6_hasDoorsOf_33 : decode cX6_hasDoorsOf 33 = .ok (.getfield 9, 3) := by decide +kernel
theorem dX6_hasDoorsOf_36 : decode cX6_hasDoorsOf 36 = .ok (.iload_n 2, 1) := by decide +kernel
theorem dX6_hasDoorsOf_37 : decode cX6_hasDoorsOf 37 = .ok (.iaload, 1) := by decide +kernel
theorem dX6_hasDoorsOf_38 : decode cX6_hasDoorsOf 38 = .ok (.if_icmp .eq 5, 3) := by decide +kernel
theorem dX6_hasDoorsOf_41 : decode cX6_hasDoorsOf 41 = .ok (.iconst 0, 1) := by decide +kernel
theorem dX6_hasDoorsOf_42 : decode cX6_hasDoorsOf 42 = .ok (.ireturn, 1) := by decide +kernel
theorem dX6_hasDoorsOf_43 : decode cX6_hasDoorsOf 43 = .ok (.iinc 2 1, 3) := by decide +kernel
theorem dX6_hasDoorsOf_46 : decode cX6_hasDoorsOf 46 = .ok (.goto (-31), 3) := by decide +kernel
theorem dX6_hasDoorsOf_49 : decode cX6_hasDoorsOf 49 = .ok (.iconst 1, 1) := by decide +kernel
theorem dX6_hasDoorsOf_50 : decode cX6_hasDoorsOf 50 = .ok (.ireturn, 1) := by decide +kernel
set_option maxRecDepth 20000 in
theorem ggX6_across_X2_hasDoor : GoodIn wsX6_across wsX2_hasDoor := goodIn_r _ [8, 9, 27, 28, 29, 30, 31, 32] (by decide +kernel) (by decide +kernel)
set_option maxRecDepth 20000 in
theorem gX6_across_X2_hasDoor : GoodIn wsX6_across (wsV RX6 57 RX2 yX2_hasDoor wsX2_hasDoor) := goodIn_app (goodIn_of _ (by decide +kernel)) ggX6_across_X2_hasDoor
set_option maxRecDepth 20000 in
theorem ggX6_across_X6_isBarred : GoodIn wsX6_across wsX6_isBarred := goodIn_r _ [14, 15, 16, 17, 18, 19, 20, 21, 22, 23, 24, 25, 26] (by decide +kernel) (by decide +kernel)
set_option maxRecDepth 20000 in
theorem gX6_across_X6_isBarred : GoodIn wsX6_across (wsV RX6 67 RX6 yX6_isBarred wsX6_isBarred) := goodIn_app (goodIn_of _ (by decide +kernel)) ggX6_across_X6_isBarred
theorem dX6_across_0 : decode cX6_across 0 = .ok (.aload_n 0, 1) := by decide +kernel
theorem dX6_across_1 : decode cX6_across 1 = .ok (.getfield 18, 3) := by decide +kernel
theorem dX6_across_4 : decode cX6_across 4 = .ok (.iload_n 1, 1) := by decide +kernel
theorem dX6_across_5 : decode cX6_across 5 = .ok (.invokevirtual 57, 3) := by decide +kernel
theorem dX6_across_8 : decode cX6_across 8 = .ok (.ifCond .eq 11, 3) := by decide +kernel
theorem dX6_across_11 : decode cX6_across 11 = .ok (.aload_n 0, 1) := by decide +kernel
theorem dX6_across_12 : decode cX6_across 12 = .ok (.iload_n 1, 1) := by decide +kernel
theorem dX6_across_13 : decode cX6_across 13 = .ok (.invokevirtual 67, 3) := by decide +kernel
theorem dX6_across_16 : decode cX6_across 16 = .ok (.ifCond .eq 6, 3) := by decide +kernel
theorem dX6_across_19 : decode cX6_across 19 = .ok (.bipush (-4), 2) := by decide +kernel
theorem dX6_across_21 : decode cX6_across 21 = .ok (.ireturn, 1) := by decide +kernel
theorem dX6_across_22 : decode cX6_across 22 = .ok (.aload_n 0, 1) := by decide +kernel
theorem dX6_across_23 : decode cX6_across 23 = .ok (.getfield 18, 3) := by decide +kernel
theorem dX6_across_26 : decode cX6_across 26 = .ok (.getfield 74, 3) := by decide +kernel
theorem dX6_across_29 : decode cX6_across 29 = .ok (.iload_n 1, 1) := by decide +kernel
theorem dX6_across_30 : decode cX6_across 30 = .ok (.iaload, 1) := by decide +kernel
theorem dX6_across_31 : decode cX6_across 31 = .ok (.iload_n 2, 1) := by decide +kernel
theorem dX6_across_32 : decode cX6_across 32 = .ok (.if_icmp .ne 10, 3) := by decide +kernel
theorem dX6_across_35 : decode cX6_across 35 = .ok (.aload_n 0, 1) := by decide +kernel
theorem dX6_across_36 : decode cX6_across 36 = .ok (.getfield 9, 3) := by decide +kernel
theorem dX6_across_39 : decode cX6_across 39 = .ok (.iload_n 1, 1) := by decide +kernel
theorem dX6_across_40 : decode cX6_across 40 = .ok (.iaload, 1) := by decide +kernel
theorem dX6_across_41 : decode cX6_across 41 = .ok (.ireturn, 1) := by decide +kernel
theorem dX6_across_42 : decode cX6_across 42 = .ok (.aload_n 0, 1) := by decide +kernel
theorem dX6_across_43 : decode cX6_across 43 = .ok (.getfield 9, 3) := by decide +kernel
theorem dX6_across_46 : decode cX6_across 46 = .ok (.iload_n 1, 1) := by decide +kernel
theorem dX6_across_47 : decode cX6_across 47 = .ok (.iaload, 1) := by decide +kernel
theorem dX6_across_48 : decode cX6_across 48 = .ok (.iload_n 2, 1) := by decide +kernel
theorem dX6_across_49 : decode cX6_across 49 = .ok (.if_icmp .ne 15, 3) := by decide +kernel
theorem dX6_across_52 : decode cX6_across 52 = .ok (.aload_n 0, 1) := by decide +kernel
theorem dX6_across_53 : decode cX6_across 53 = .ok (.getfield 18, 3) := by decide +kernel
theorem dX6_across_56 : decode cX6_across 56 = .ok (.getfield 74, 3) := by decide +kernel
theorem dX6_across_59 : decode cX6_across 59 = .ok (.iload_n 1, 1) := by decide +kernel
theorem dX6_across_60 : decode cX6_across 60 = .ok (.iaload, 1) := by decide +kernel
theorem dX6_across_61 : decode cX6_across 61 = .ok (.goto 5, 3) := by decide +kernel
theorem dX6_across_64 : decode cX6_across 64 = .ok (.bipush (-4), 2) := by decide +kernel
theorem dX6_across_66 : decode cX6_across 66 = .ok (.ireturn, 1) := by decide +kernel
set_option maxRecDepth 20000 in
theorem ggX6_openFrom_X6_across : GoodIn wsX6_openFrom wsX6_across := goodIn_r _ [7, 1, 8, 9, 10, 11, 12, 13, 14, 15, 16, 17, 18, 6, 19, 20, 21, 22, 23, 24, 25, 26, 27, 28, 29, 30, 31, 32, 33, 34, 35, 36, 37] (by decide +kernel) (by decide +kernel)
set_option maxRecDepth 20000 in
theorem gX6_openFrom_X6_across : GoodIn wsX6_openFrom (wsV RX6 80 RX6 yX6_across wsX6_across) := goodIn_app (goodIn_of _ (by decide +kernel)) ggX6_openFrom_X6_across
theorem dX6_openFrom_0 : decode cX6_openFrom 0 = .ok (.iconst 0, 1) := by decide +kernel
theorem dX6_openFrom_1 : decode cX6_openFrom 1 = .ok (.istore_n 2, 1) := by decide +kernel
theorem dX6_openFrom_2 : decode cX6_openFrom 2 = .ok (.iconst 0, 1) := by decide +kernel
theorem dX6_openFrom_3 : decode cX6_openFrom 3 = .ok (.istore_n 3, 1) := by decide +kernel
theorem dX6_openFrom_4 : decode cX6_openFrom 4 = .ok (.iload_n 3, 1) := by decide +kernel
theorem dX6_openFrom_5 : decode cX6_openFrom 5 = .ok (.aload_n 0, 1) := by decide +kernel
theorem dX6_openFrom_6 : decode cX6_openFrom 6 = .ok (.getfield 18, 3) := by decide +kernel
theorem dX6_openFrom_9 : decode cX6_openFrom 9 = .ok (.getfield 77, 3) := by decide +kernel
theorem dX6_openFrom_12 : decode cX6_openFrom 12 = .ok (.if_icmp .ge 26, 3) := by decide +kernel
theorem dX6_openFrom_15 : decode cX6_openFrom 15 = .ok (.aload_n 0, 1) := by decide +kernel
theorem dX6_openFrom_16 : decode cX6_openFrom 16 = .ok (.iload_n 3, 1) := by decide +kernel
theorem dX6_openFrom_17 : decode cX6_openFrom 17 = .ok (.iload_n 1, 1) := by decide +kernel
theorem dX6_openFrom_18 : decode cX6_openFrom 18 = .ok (.invokevirtual 80, 3) := by decide +kernel
theorem dX6_openFrom_21 : decode cX6_openFrom 21 = .ok (.bipush (-4), 2) := by decide +kernel
theorem dX6_openFrom_23 : decode cX6_openFrom 23 = .ok (.if_icmp .eq 9, 3) := by decide +kernel
theorem dX6_openFrom_26 : decode cX6_openFrom 26 = .ok (.iload_n 2, 1) := by decide +kernel
theorem dX6_openFrom_27 : decode cX6_openFrom 27 = .ok (.iconst 1, 1) := by decide +kernel
theorem dX6_openFrom_28 : decode cX6_openFrom 28 = .ok (.iload_n 3, 1) := by decide +kernel
theorem dX6_openFrom_29 : decode cX6_openFrom 29 = .ok (.ishl, 1) := by decide +kernel
theorem dX6_openFrom_30 : decode cX6_openFrom 30 = .ok (.ior, 1) := by decide +kernel
theorem dX6_openFrom_31 : decode cX6_openFrom 31 = .ok (.istore_n 2, 1) := by decide +kernel
theorem dX6_openFrom_32 : decode cX6_openFrom 32 = .ok (.iinc 3 1, 3) := by decide +kernel
theorem dX6_openFrom_35 : decode cX6_openFrom 35 = .ok (.goto (-31), 3) := by decide +kernel
theorem dX6_openFrom_38 : decode cX6_openFrom 38 = .ok (.iload_n 2, 1) := by decide +kernel
theorem dX6_openFrom_39 : decode cX6_openFrom 39 = .ok (.ireturn, 1) := by decide +kernel
set_option maxRecDepth 20000 in
theorem ggX6_isDoorBetween_X6_across : GoodIn wsX6_isDoorBetween wsX6_across := goodIn_r _ [7, 1, 8, 9, 10, 11, 12, 13, 14, 15, 16, 17, 18, 6, 19, 20, 21, 22, 23, 24, 25, 26, 27, 28, 29, 30, 31, 32, 33, 34, 35, 36, 37] (by decide +kernel) (by decide +kernel)
set_option maxRecDepth 20000 in
theorem gX6_isDoorBetween_X6_across : GoodIn wsX6_isDoorBetween (wsV RX6 80 RX6 yX6_across wsX6_across) := goodIn_app (goodIn_of _ (by decide +kernel)) ggX6_isDoorBetween_X6_across
theorem dX6_isDoorBetween_0 : decode cX6_isDoorBetween 0 = .ok (.iconst 0, 1) := by decide +kernel
theorem dX6_isDoorBetween_1 : decode cX6_isDoorBetween 1 = .ok (.istore_n 3, 1) := by decide +kernel
theorem dX6_isDoorBetween_2 : decode cX6_isDoorBetween 2 = .ok (.iload_n 3, 1) := by decide +kernel
theorem dX6_isDoorBetween_3 : decode cX6_isDoorBetween 3 = .ok (.aload_n 0, 1) := by decide +kernel
theorem dX6_isDoorBetween_4 : decode cX6_isDoorBetween 4 = .ok (.getfield 18, 3) := by decide +kernel
theorem dX6_isDoorBetween_7 : decode cX6_isDoorBetween 7 = .ok (.getfield 77, 3) := by decide +kernel
theorem dX6_isDoorBetween_10 : decode cX6_isDoorBetween 10 = .ok (.if_icmp .ge 21, 3) := by decide +kernel
theorem dX6_isDoorBetween_13 : decode cX6_isDoorBetween 13 = .ok (.aload_n 0, 1) := by decide +kernel
theorem dX6_isDoorBetween_14 : decode cX6_isDoorBetween 14 = .ok (.iload_n 3, 1) := by decide +kernel
theorem dX6_isDoorBetween_15 : decode cX6_isDoorBetween 15 = .ok (.iload_n 1, 1) := by decide +kernel
theorem dX6_isDoorBetween_16 : decode cX6_isDoorBetween 16 = .ok (.invokevirtual 80, 3) := by decide +kernel
theorem dX6_isDoorBetween_19 : decode cX6_isDoorBetween 19 = .ok (.iload_n 2, 1) := by decide +kernel
theorem dX6_isDoorBetween_20 : decode cX6_isDoorBetween 20 = .ok (.if_icmp .ne 5, 3) := by decide +kernel
theorem dX6_isDoorBetween_23 : decode cX6_isDoorBetween 23 = .ok (.iconst 1, 1) := by decide +kernel
theorem dX6_isDoorBetween_24 : decode cX6_isDoorBetween 24 = .ok (.ireturn, 1) := by decide +kernel
theorem dX6_isDoorBetween_25 : decode cX6_isDoorBetween 25 = .ok (.iinc 3 1, 3) := by decide +kernel
theorem dX6_isDoorBetween_28 : decode cX6_isDoorBetween 28 = .ok (.goto (-26), 3) := by decide +kernel
theorem dX6_isDoorBetween_31 : decode cX6_isDoorBetween 31 = .ok (.iconst 0, 1) := by decide +kernel
theorem dX6_isDoorBetween_32 : decode cX6_isDoorBetween 32 = .ok (.ireturn, 1) := by decide +kernel
set_option maxRecDepth 20000 in
theorem ggX6_change_X7_firstDoorOf : GoodIn wsX6_change wsX7_firstDoorOf := goodIn_r _ [7] (by decide +kernel) (by decide +kernel)
set_option maxRecDepth 20000 in
theorem gX6_change_X7_firstDoorOf_n84 : GoodIn wsX6_change (wsX7_firstDoorOf) := ggX6_change_X7_firstDoorOf
set_option maxRecDepth 20000 in
theorem ggX6_change_X7_secondPartOf : GoodIn wsX6_change wsX7_secondPartOf := goodIn_r _ [9] (by decide +kernel) (by decide +kernel)
set_option maxRecDepth 20000 in
theorem gX6_change_X7_secondPartOf_n88 : GoodIn wsX6_change (wsX7_secondPartOf) := ggX6_change_X7_secondPartOf
set_option maxRecDepth 20000 in
theorem ggX6_change_X7_modulo : GoodIn wsX6_change wsX7_modulo := goodIn_r _ [11] (by decide +kernel) (by decide +kernel)
set_option maxRecDepth 20000 in
theorem gX6_change_X7_modulo_n94 : GoodIn wsX6_change (wsX7_modulo) := ggX6_change_X7_modulo
theorem dX6_change_0 : decode cX6_change 0 = .ok (.iload_n 1, 1) := by decide +kernel
theorem dX6_change_1 : decode cX6_change 1 = .ok (.invokestatic 84, 3) := by decide +kernel
theorem dX6_change_4 : decode cX6_change 4 = .ok (.istore_n 2, 1) := by decide +kernel
theorem dX6_change_5 : decode cX6_change 5 = .ok (.iload_n 1, 1) := by decide +kernel
theorem dX6_change_6 : decode cX6_change 6 = .ok (.invokestatic 88, 3) := by decide +kernel
theorem dX6_change_9 : decode cX6_change 9 = .ok (.istore_n 3, 1) := by decide +kernel
theorem dX6_change_10 : decode cX6_change 10 = .ok (.iload_n 1, 1) := by decide +kernel
theorem dX6_change_11 : decode cX6_change 11 = .ok (.sipush 200, 3) := by decide +kernel
theorem dX6_change_14 : decode cX6_change 14 = .ok (.if_icmp .lt 18, 3) := by decide +kernel
theorem dX6_change_17 : decode cX6_change 17 = .ok (.aload_n 0, 1) := by decide +kernel
theorem dX6_change_18 : decode cX6_change 18 = .ok (.dup, 1) := by decide +kernel
theorem dX6_change_19 : decode cX6_change 19 = .ok (.getfield 25, 3) := by decide +kernel
theorem dX6_change_22 : decode cX6_change 22 = .ok (.iconst 1, 1) := by decide +kernel
theorem dX6_change_23 : decode cX6_change 23 = .ok (.iload_n 2, 1) := by decide +kernel
theorem dX6_change_24 : decode cX6_change 24 = .ok (.ishl, 1) := by decide +kernel
theorem dX6_change_25 : decode cX6_change 25 = .ok (.ixor, 1) := by decide +kernel
theorem dX6_change_26 : decode cX6_change 26 = .ok (.putfield 25, 3) := by decide +kernel
theorem dX6_change_29 : decode cX6_change 29 = .ok (.goto 64, 3) := by decide +kernel
theorem dX6_change_32 : decode cX6_change 32 = .ok (.iload_n 1, 1) := by decide +kernel
theorem dX6_change_33 : decode cX6_change 33 = .ok (.bipush 100, 2) := by decide +kernel
theorem dX6_change_35 : decode cX6_change 35 = .ok (.if_icmp .lt 30, 3) := by decide +kernel
theorem dX6_change_38 : decode cX6_change 38 = .ok (.aload_n 0, 1) := by decide +kernel
theorem dX6_change_39 : decode cX6_change 39 = .ok (.getfield 9, 3) := by decide +kernel
theorem dX6_change_42 : decode cX6_change 42 = .ok (.iload_n 2, 1) := by decide +kernel
theorem dX6_change_43 : decode cX6_change 43 = .ok (.aload_n 0, 1) := by decide +kernel
theorem dX6_change_44 : decode cX6_change 44 = .ok (.getfield 9, 3) := by decide +kernel
theorem dX6_change_47 : decode cX6_change 47 = .ok (.iload_n 2, 1) := by decide +kernel
theorem dX6_change_48 : decode cX6_change 48 = .ok (.iaload, 1) := by decide +kernel
theorem dX6_change_49 : decode cX6_change 49 = .ok (.iload_n 3, 1) := by decide +kernel
theorem dX6_change_50 : decode cX6_change 50 = .ok (.iadd, 1) := by decide +kernel
theorem dX6_change_51 : decode cX6_change 51 = .ok (.aload_n 0, 1) := by decide +kernel
theorem dX6_change_52 : decode cX6_change 52 = .ok (.getfield 18, 3) := by decide +kernel
theorem dX6_change_55 : decode cX6_change 55 = .ok (.getfield 91, 3) := by decide +kernel
theorem dX6_change_58 : decode cX6_change 58 = .ok (.invokestatic 94, 3) := by decide +kernel
theorem dX6_change_61 : decode cX6_change 61 = .ok (.iastore, 1) := by decide +kernel
theorem dX6_change_62 : decode cX6_change 62 = .ok (.goto 31, 3) := by decide +kernel
theorem dX6_change_65 : decode cX6_change 65 = .ok (.aload_n 0, 1) := by decide +kernel
theorem dX6_change_66 : decode cX6_change 66 = .ok (.getfield 9, 3) := by decide +kernel
theorem dX6_change_69 : decode cX6_change 69 = .ok (.iload_n 2, 1) := by decide +kernel
theorem dX6_change_70 : decode cX6_change 70 = .ok (.iaload, 1) := by decide +kernel
theorem dX6_change_71 : decode cX6_change 71 = .ok (.istore 4, 2) := by decide +kernel
theorem dX6_change_73 : decode cX6_change 73 = .ok (.aload_n 0, 1) := by decide +kernel
theorem dX6_change_74 : decode cX6_change 74 = .ok (.getfield 9, 3) := by decide +kernel
theorem dX6_change_77 : decode cX6_change 77 = .ok (.iload_n 2, 1) := by decide +kernel
theorem dX6_change_78 : decode cX6_change 78 = .ok (.aload_n 0, 1) := by decide +kernel
theorem dX6_change_79 : decode cX6_change 79 = .ok (.getfield 9, 3) := by decide +kernel
theorem dX6_change_82 : decode cX6_change 82 = .ok (.iload_n 3, 1) := by decide +kernel
theorem dX6_change_83 : decode cX6_change 83 = .ok (.iaload, 1) := by decide +kernel
theorem dX6_change_84 : decode cX6_change 84 = .ok (.iastore, 1) := by decide +kernel
theorem dX6_change_85 : decode cX6_change 85 = .ok (.aload_n 0, 1) := by decide +kernel
theorem dX6_change_86 : decode cX6_change 86 = .ok (.getfield 9, 3) := by decide +kernel
theorem dX6_change_89 : decode cX6_change 89 = .ok (.iload_n 3, 1) := by decide +kernel
theorem dX6_change_90 : decode cX6_change 90 = .ok (.iload 4, 2) := by decide +kernel
theorem dX6_change_92 : decode cX6_change 92 = .ok (.iastore, 1) := by decide +kernel
theorem dX6_change_93 : decode cX6_change 93 = .ok (.return_, 1) := by decide +kernel
set_option maxRecDepth 20000 in
theorem ggX6_applyRules_X6_change : GoodIn wsX6_applyRules wsX6_change := goodIn_r _ [8, 9, 10, 1, 11, 12, 13, 14, 15, 16, 17, 18, 19, 20, 21, 22, 23, 24, 25, 26, 27, 28, 29, 30, 31, 32, 33, 34, 35] (by decide +kernel) (by decide +kernel)
set_option maxRecDepth 20000 in
theorem gX6_applyRules_X6_change : GoodIn wsX6_applyRules (wsV RX6 103 RX6 yX6_change wsX6_change) := goodIn_app (goodIn_of _ (by decide +kernel)) ggX6_applyRules_X6_change
theorem dX6_applyRules_0 : decode cX6_applyRules 0 = .ok (.iconst 0, 1) := by decide +kernel
theorem dX6_applyRules_1 : decode cX6_applyRules 1 = .ok (.istore_n 1, 1) := by decide +kernel
theorem dX6_applyRules_2 : decode cX6_applyRules 2 = .ok (.iload_n 1, 1) := by decide +kernel
theorem dX6_applyRules_3 : decode cX6_applyRules 3 = .ok (.aload_n 0, 1) := by decide +kernel
theorem dX6_applyRules_4 : decode cX6_applyRules 4 = .ok (.getfield 18, 3) := by decide +kernel
theorem dX6_applyRules_7 : decode cX6_applyRules 7 = .ok (.getfield 97, 3) := by decide +kernel
theorem dX6_applyRules_10 : decode cX6_applyRules 10 = .ok (.if_icmp .ge 22, 3) := by decide +kernel
theorem dX6_applyRules_13 : decode cX6_applyRules 13 = .ok (.aload_n 0, 1) := by decide +kernel
theorem dX6_applyRules_14 : decode cX6_applyRules 14 = .ok (.aload_n 0, 1) := by decide +kernel
theorem dX6_applyRules_15 : decode cX6_applyRules 15 = .ok (.getfield 18, 3) := by decide +kernel
theorem dX6_applyRules_18 : decode cX6_applyRules 18 = .ok (.getfield 100, 3) := by decide +kernel
theorem dX6_applyRules_21 : decode cX6_applyRules 21 = .ok (.iload_n 1, 1) := by decide +kernel
theorem dX6_applyRules_22 : decode cX6_applyRules 22 = .ok (.iaload, 1) := by decide +kernel
theorem dX6_applyRules_23 : decode cX6_applyRules 23 = .ok (.invokevirtual 103, 3) := by decide +kernel
theorem dX6_applyRules_26 : decode cX6_applyRules 26 = .ok (.iinc 1 1, 3) := by decide +kernel
theorem dX6_applyRules_29 : decode cX6_applyRules 29 = .ok (.goto (-27), 3) := by decide +kernel
theorem dX6_applyRules_32 : decode cX6_applyRules 32 = .ok (.return_, 1) := by decide +kernel
set_option maxRecDepth 20000 in
theorem ggX6_passTime_X7_modulo : GoodIn wsX6_passTime wsX7_modulo := goodIn_r _ [5] (by decide +kernel) (by decide +kernel)
set_option maxRecDepth 20000 in
theorem gX6_passTime_X7_modulo_n94 : GoodIn wsX6_passTime (wsX7_modulo) := ggX6_passTime_X7_modulo
set_option maxRecDepth 20000 in
theorem ggX6_passTime_X6_applyRules : GoodIn wsX6_passTime wsX6_applyRules := goodIn_r _ [10, 11, 12, 13, 14, 15, 16, 9, 17, 18, 19, 20, 21, 4, 22, 23, 24, 3, 5, 25, 26, 27, 28, 29, 30, 31, 32, 33, 34, 35, 36, 37, 38, 39, 40, 41] (by decide +kernel) (by decide +kernel)
set_option maxRecDepth 20000 in
theorem gX6_passTime_X6_applyRules : GoodIn wsX6_passTime (wsV RX6 107 RX6 yX6_applyRules wsX6_applyRules) := goodIn_app (goodIn_of _ (by decide +kernel)) ggX6_passTime_X6_applyRules
theorem dX6_passTime_0 : decode cX6_passTime 0 = .ok (.aload_n 0, 1) := by decide +kernel
theorem dX6_passTime_1 : decode cX6_passTime 1 = .ok (.dup, 1) := by decide +kernel
theorem dX6_passTime_2 : decode cX6_passTime 2 = .ok (.getfield 44, 3) := by decide +kernel
theorem dX6_passTime_5 : decode cX6_passTime 5 = .ok (.iconst 1, 1) := by decide +kernel
theorem dX6_passTime_6 : decode cX6_passTime 6 = .ok (.iadd, 1) := by decide +kernel
theorem dX6_passTime_7 : decode cX6_passTime 7 = .ok (.putfield 44, 3) := by decide +kernel
theorem dX6_passTime_10 : decode cX6_passTime 10 = .ok (.aload_n 0, 1) := by decide +kernel
theorem dX6_passTime_11 : decode cX6_passTime 11 = .ok (.getfield 44, 3) := by decide +kernel
theorem dX6_passTime_14 : decode cX6_passTime 14 = .ok (.aload_n 0, 1) := by decide +kernel
theorem dX6_passTime_15 : decode cX6_passTime 15 = .ok (.getfield 29, 3) := by decide +kernel
theorem dX6_passTime_18 : decode cX6_passTime 18 = .ok (.invokestatic 94, 3) := by decide +kernel
theorem dX6_passTime_21 : decode cX6_passTime 21 = .ok (.ifCond .ne 7, 3) := by decide +kernel
theorem dX6_passTime_24 : decode cX6_passTime 24 = .ok (.aload_n 0, 1) := by decide +kernel
theorem dX6_passTime_25 : decode cX6_passTime 25 = .ok (.invokevirtual 107, 3) := by decide +kernel
theorem dX6_passTime_28 : decode cX6_passTime 28 = .ok (.return_, 1) := by decide +kernel
set_option maxRecDepth 20000 in
theorem ggX6_prowl_X6_isDoorBetween : GoodIn wsX6_prowl wsX6_isDoorBetween := goodIn_r _ [6, 7, 8, 9, 10, 11, 5, 12, 13, 14, 15, 16, 17, 18, 19, 20, 21, 22, 23, 24, 25, 42, 43, 44, 45, 46, 47, 48, 49, 50, 51, 52, 53, 54, 55, 56, 57, 58] (by decide +kernel) (by decide +kernel)
set_option maxRecDepth 20000 in
theorem gX6_prowl_X6_isDoorBetween : GoodIn wsX6_prowl (wsV RX6 110 RX6 yX6_isDoorBetween wsX6_isDoorBetween) := goodIn_app (goodIn_of _ (by decide +kernel)) ggX6_prowl_X6_isDoorBetween
set_option maxRecDepth 20000 in
theorem ggX6_prowl_X6_openFrom : GoodIn wsX6_prowl wsX6_openFrom := goodIn_r _ [29, 7, 8, 9, 10, 11, 5, 12, 13, 14, 15, 16, 17, 18, 19, 20, 21, 22, 23, 24, 25, 42, 43, 44, 45, 46, 47, 48, 49, 50, 51, 52, 53, 54, 55, 56, 57, 58] (by decide +kernel) (by decide +kernel)
set_option maxRecDepth 20000 in
theorem gX6_prowl_X6_openFrom : GoodIn wsX6_prowl (wsV RX6 114 RX6 yX6_openFrom wsX6_openFrom) := goodIn_app (goodIn_of _ (by decide +kernel)) ggX6_prowl_X6_openFrom
set_option maxRecDepth 20000 in
theorem ggX6_prowl_J6_bitCount_0f7a4 : GoodIn wsX6_prowl wsJ6_bitCount_0f7a4 := goodIn_r _ [33, 34, 35, 36] (by decide +kernel) (by decide +kernel)
set_option maxRecDepth 20000 in
theorem gX6_prowl_J6_bitCount_0f7a4 : GoodIn wsX6_prowl (va_wsS RX6 117 yJ6_bitCount_0f7a4 wsJ6_bitCount_0f7a4) := goodIn_app (goodIn_of _ (by decide +kernel)) ggX6_prowl_J6_bitCount_0f7a4
set_option maxRecDepth 20000 in
theorem ggX6_prowl_X7_modulo : GoodIn wsX6_prowl wsX7_modulo := goodIn_r _ [39] (by decide +kernel) (by decide +kernel)
set_option maxRecDepth 20000 in
theorem gX6_prowl_X7_modulo_n94 : GoodIn wsX6_prowl (wsX7_modulo) := ggX6_prowl_X7_modulo
set_option maxRecDepth 20000 in
theorem ggX6_prowl_X7_doorAt : GoodIn wsX6_prowl wsX7_doorAt := goodIn_r _ [41] (by decide +kernel) (by decide +kernel)
set_option maxRecDepth 20000 in
theorem gX6_prowl_X7_doorAt_n122 : GoodIn wsX6_prowl (wsX7_doorAt) := ggX6_prowl_X7_doorAt
set_option maxRecDepth 20000 in
theorem ggX6_prowl_X6_across : GoodIn wsX6_prowl wsX6_across := goodIn_r _ [12, 7, 13, 14, 15, 16, 17, 18, 19, 20, 21, 22, 23, 5, 24, 25, 42, 43, 44, 45, 46, 47, 48, 49, 50, 51, 52, 53, 54, 55, 56, 57, 58] (by decide +kernel) (by decide +kernel)
set_option maxRecDepth 20000 in
theorem gX6_prowl_X6_across : GoodIn wsX6_prowl (wsV RX6 80 RX6 yX6_across wsX6_across) := goodIn_app (goodIn_of _ (by decide +kernel)) ggX6_prowl_X6_across
theorem dX6_prowl_0 : decode cX6_prowl 0 = .ok (.iload_n 2, 1) := by decide +kernel
theorem dX6_prowl_1 : decode cX6_prowl 1 = .ok (.bipush (-4), 2) := by decide +kernel
theorem dX6_prowl_3 : decode cX6_prowl 3 = .ok (.if_icmp .eq 7, 3) := by decide +kernel
theorem dX6_prowl_6 : decode cX6_prowl 6 = .ok (.iload_n 1, 1) := by decide +kernel
theorem dX6_prowl_7 : decode cX6_prowl 7 = .ok (.ifCond .ne 5, 3) := by decide +kernel
theorem dX6_prowl_10 : decode cX6_prowl 10 = .ok (.iload_n 2, 1) := by decide +kernel
theorem dX6_prowl_11 : decode cX6_prowl 11 = .ok (.ireturn, 1) := by decide +kernel
theorem dX6_prowl_12 : decode cX6_prowl 12 = .ok (.iload_n 1, 1) := by decide +kernel
theorem dX6_prowl_13 : decode cX6_prowl 13 = .ok (.iconst 2, 1) := by decide +kernel
theorem dX6_prowl_14 : decode cX6_prowl 14 = .ok (.if_icmp .ne 18, 3) := by decide +kernel
theorem dX6_prowl_17 : decode cX6_prowl 17 = .ok (.aload_n 0, 1) := by decide +kernel
theorem dX6_prowl_18 : decode cX6_prowl 18 = .ok (.iload_n 2, 1) := by decide +kernel
theorem dX6_prowl_19 : decode cX6_prowl 19 = .ok (.iload_n 3, 1) := by decide +kernel
theorem dX6_prowl_20 : decode cX6_prowl 20 = .ok (.invokevirtual 110, 3) := by decide +kernel
theorem dX6_prowl_23 : decode cX6_prowl 23 = .ok (.ifCond .eq 7, 3) := by decide +kernel
theorem dX6_prowl_26 : decode cX6_prowl 26 = .ok (.iload_n 3, 1) := by decide +kernel
theorem dX6_prowl_27 : decode cX6_prowl 27 = .ok (.goto 4, 3) := by decide +kernel
theorem dX6_prowl_30 : decode cX6_prowl 30 = .ok (.iload_n 2, 1) := by decide +kernel
theorem dX6_prowl_31 : decode cX6_prowl 31 = .ok (.ireturn, 1) := by decide +kernel
theorem dX6_prowl_32 : decode cX6_prowl 32 = .ok (.aload_n 0, 1) := by decide +kernel
theorem dX6_prowl_33 : decode cX6_prowl 33 = .ok (.iload_n 2, 1) := by decide +kernel
theorem dX6_prowl_34 : decode cX6_prowl 34 = .ok (.invokevirtual 114, 3) := by decide +kernel
theorem dX6_prowl_37 : decode cX6_prowl 37 = .ok (.istore 4, 2) := by decide +kernel
theorem dX6_prowl_39 : decode cX6_prowl 39 = .ok (.iload 4, 2) := by decide +kernel
theorem dX6_prowl_41 : decode cX6_prowl 41 = .ok (.ifCond .ne 5, 3) := by decide +kernel
theorem dX6_prowl_44 : decode cX6_prowl 44 = .ok (.iload_n 2, 1) := by decide +kernel
theorem dX6_prowl_45 : decode cX6_prowl 45 = .ok (.ireturn, 1) := by decide +kernel
theorem dX6_prowl_46 : decode cX6_prowl 46 = .ok (.iload_n 1, 1) := by decide +kernel
theorem dX6_prowl_47 : decode cX6_prowl 47 = .ok (.iconst 1, 1) := by decide +kernel
theorem dX6_prowl_48 : decode cX6_prowl 48 = .ok (.if_icmp .ne 7, 3) := by decide +kernel
theorem dX6_prowl_51 : decode cX6_prowl 51 = .ok (.iconst 0, 1) := by decide +kernel
theorem dX6_prowl_52 : decode cX6_prowl 52 = .ok (.goto 15, 3) := by decide +kernel
theorem dX6_prowl_55 : decode cX6_prowl 55 = .ok (.aload_n 0, 1) := by decide +kernel
theorem dX6_prowl_56 : decode cX6_prowl 56 = .ok (.getfield 44, 3) := by decide +kernel
theorem dX6_prowl_59 : decode cX6_prowl 59 = .ok (.iload 4, 2) := by decide +kernel
theorem dX6_prowl_61 : decode cX6_prowl 61 = .ok (.invokestatic 117, 3) := by decide +kernel
theorem dX6_prowl_64 : decode cX6_prowl 64 = .ok (.invokestatic 94, 3) := by decide +kernel
theorem dX6_prowl_67 : decode cX6_prowl 67 = .ok (.istore 5, 2) := by decide +kernel
theorem dX6_prowl_69 : decode cX6_prowl 69 = .ok (.aload_n 0, 1) := by decide +kernel
theorem dX6_prowl_70 : decode cX6_prowl 70 = .ok (.iload 4, 2) := by decide +kernel
theorem dX6_prowl_72 : decode cX6_prowl 72 = .ok (.iload 5, 2) := by decide +kernel
theorem dX6_prowl_74 : decode cX6_prowl 74 = .ok (.invokestatic 122, 3) := by decide +kernel
theorem dX6_prowl_77 : decode cX6_prowl 77 = .ok (.iload_n 2, 1) := by decide +kernel
theorem dX6_prowl_78 : decode cX6_prowl 78 = .ok (.invokevirtual 80, 3) := by decide +kernel
theorem dX6_prowl_81 : decode cX6_prowl 81 = .ok (.ireturn, 1) := by decide +kernel
set_option maxRecDepth 20000 in
theorem ggX6_takeStep_X6_across : GoodIn wsX6_takeStep wsX6_across := goodIn_r _ [13, 3, 14, 15, 16, 17, 18, 19, 20, 21, 22, 23, 24, 12, 25, 26, 73, 74, 75, 76, 77, 78, 79, 80, 81, 82, 83, 84, 85, 86, 87, 88, 89] (by decide +kernel) (by decide +kernel)
set_option maxRecDepth 20000 in
theorem gX6_takeStep_X6_across : GoodIn wsX6_takeStep (wsV RX6 80 RX6 yX6_across wsX6_across) := goodIn_app (goodIn_of _ (by decide +kernel)) ggX6_takeStep_X6_across
set_option maxRecDepth 20000 in
theorem ggX6_takeStep_X6_prowl : GoodIn wsX6_takeStep wsX6_prowl := goodIn_r _ [30, 31, 32, 33, 34, 12, 35, 3, 36, 9, 10, 11, 13, 14, 15, 16, 17, 18, 19, 20, 21, 22, 23, 24, 25, 26, 37, 38, 39, 40, 41, 42, 43, 44, 45, 46, 47, 48, 49, 50, 51, 52, 73, 74, 75, 76, 77, 78, 79, 80, 81, 82, 83, 84, 85, 86, 87, 88, 89] (by decide +kernel) (by decide +kernel)
set_option maxRecDepth 20000 in
theorem gX6_takeStep_X6_prowl : GoodIn wsX6_takeStep (wsV RX6 128 RX6 yX6_prowl wsX6_prowl) := goodIn_app (goodIn_of _ (by decide +kernel)) ggX6_takeStep_X6_prowl
set_option maxRecDepth 20000 in
theorem ggX6_takeStep_X6_passTime : GoodIn wsX6_takeStep wsX6_passTime := goodIn_r _ [56, 31, 57, 48, 49, 50, 58, 59, 60, 12, 61, 3, 62, 63, 64, 65, 66, 67, 26, 15, 68, 69, 70, 71, 72, 73, 74, 75, 76, 77, 78, 79, 80, 81, 82, 83, 84, 85, 86, 87, 88, 89] (by decide +kernel) (by decide +kernel)
set_option maxRecDepth 20000 in
theorem gX6_takeStep_X6_passTime : GoodIn wsX6_takeStep (wsV RX6 132 RX6 yX6_passTime wsX6_passTime) := goodIn_app (goodIn_of _ (by decide +kernel)) ggX6_takeStep_X6_passTime
theorem dX6_takeStep_0 : decode cX6_takeStep 0 = .ok (.iload_n 1, 1) := by decide +kernel
theorem dX6_takeStep_1 : decode cX6_takeStep 1 = .ok (.bipush 10, 2) := by decide +kernel
theorem dX6_takeStep_3 : decode cX6_takeStep 3 = .ok (.if_icmp .eq 50, 3) := by decide +kernel
theorem dX6_takeStep_6 : decode cX6_takeStep 6 = .ok (.aload_n 0, 1) := by decide +kernel
theorem dX6_takeStep_7 : decode cX6_takeStep 7 = .ok (.aload_n 0, 1) := by decide +kernel
theorem dX6_takeStep_8 : decode cX6_takeStep 8 = .ok (.iload_n 1, 1) := by decide +kernel
theorem dX6_takeStep_9 : decode cX6_takeStep 9 = .ok (.aload_n 0, 1) := by decide +kernel
theorem dX6_takeStep_10 : decode cX6_takeStep 10 = .ok (.getfield 32, 3) := by decide +kernel
theorem dX6_takeStep_13 : decode cX6_takeStep 13 = .ok (.invokevirtual 80, 3) := by decide +kernel
theorem dX6_takeStep_16 : decode cX6_takeStep 16 = .ok (.putfield 32, 3) := by decide +kernel
theorem dX6_takeStep_19 : decode cX6_takeStep 19 = .ok (.aload_n 0, 1) := by decide +kernel
theorem dX6_takeStep_20 : decode cX6_takeStep 20 = .ok (.getfield 41, 3) := by decide +kernel
theorem dX6_takeStep_23 : decode cX6_takeStep 23 = .ok (.aload_n 0, 1) := by decide +kernel
theorem dX6_takeStep_24 : decode cX6_takeStep 24 = .ok (.getfield 18, 3) := by decide +kernel
theorem dX6_takeStep_27 : decode cX6_takeStep 27 = .ok (.getfield 125, 3) := by decide +kernel
theorem dX6_takeStep_30 : decode cX6_takeStep 30 = .ok (.if_icmp .ge 23, 3) := by decide +kernel
theorem dX6_takeStep_33 : decode cX6_takeStep 33 = .ok (.aload_n 0, 1) := by decide +kernel
theorem dX6_takeStep_34 : decode cX6_takeStep 34 = .ok (.getfield 15, 3) := by decide +kernel
theorem dX6_takeStep_37 : decode cX6_takeStep 37 = .ok (.aload_n 0, 1) := by decide +kernel
theorem dX6_takeStep_38 : decode cX6_takeStep 38 = .ok (.getfield 41, 3) := by decide +kernel
theorem dX6_takeStep_41 : decode cX6_takeStep 41 = .ok (.iload_n 1, 1) := by decide +kernel
theorem dX6_takeStep_42 : decode cX6_takeStep 42 = .ok (.iastore, 1) := by decide +kernel
theorem dX6_takeStep_43 : decode cX6_takeStep 43 = .ok (.aload_n 0, 1) := by decide +kernel
theorem dX6_takeStep_44 : decode cX6_takeStep 44 = .ok (.dup, 1) := by decide +kernel
theorem dX6_takeStep_45 : decode cX6_takeStep 45 = .ok (.getfield 41, 3) := by decide +kernel
theorem dX6_takeStep_48 : decode cX6_takeStep 48 = .ok (.iconst 1, 1) := by decide +kernel
theorem dX6_takeStep_49 : decode cX6_takeStep 49 = .ok (.iadd, 1) := by decide +kernel
theorem dX6_takeStep_50 : decode cX6_takeStep 50 = .ok (.putfield 41, 3) := by decide +kernel
theorem dX6_takeStep_53 : decode cX6_takeStep 53 = .ok (.aload_n 0, 1) := by decide +kernel
theorem dX6_takeStep_54 : decode cX6_takeStep 54 = .ok (.getfield 35, 3) := by decide +kernel
theorem dX6_takeStep_57 : decode cX6_takeStep 57 = .ok (.aload_n 0, 1) := by decide +kernel
theorem dX6_takeStep_58 : decode cX6_takeStep 58 = .ok (.getfield 32, 3) := by decide +kernel
theorem dX6_takeStep_61 : decode cX6_takeStep 61 = .ok (.if_icmp .eq 23, 3) := by decide +kernel
theorem dX6_takeStep_64 : decode cX6_takeStep 64 = .ok (.aload_n 0, 1) := by decide +kernel
theorem dX6_takeStep_65 : decode cX6_takeStep 65 = .ok (.aload_n 0, 1) := by decide +kernel
theorem dX6_takeStep_66 : decode cX6_takeStep 66 = .ok (.aload_n 0, 1) := by decide +kernel
theorem dX6_takeStep_67 : decode cX6_takeStep 67 = .ok (.getfield 38, 3) := by decide +kernel
theorem dX6_takeStep_70 : decode cX6_takeStep 70 = .ok (.aload_n 0, 1) := by decide +kernel
theorem dX6_takeStep_71 : decode cX6_takeStep 71 = .ok (.getfield 35, 3) := by decide +kernel
theorem dX6_takeStep_74 : decode cX6_takeStep 74 = .ok (.aload_n 0, 1) := by decide +kernel
theorem dX6_takeStep_75 : decode cX6_takeStep 75 = .ok (.getfield 32, 3) := by decide +kernel
theorem dX6_takeStep_78 : decode cX6_takeStep 78 = .ok (.invokevirtual 128, 3) := by decide +kernel
theorem dX6_takeStep_81 : decode cX6_takeStep 81 = .ok (.putfield 35, 3) := by decide +kernel
theorem dX6_takeStep_84 : decode cX6_takeStep 84 = .ok (.aload_n 0, 1) := by decide +kernel
theorem dX6_takeStep_85 : decode cX6_takeStep 85 = .ok (.getfield 35, 3) := by decide +kernel
theorem dX6_takeStep_88 : decode cX6_takeStep 88 = .ok (.aload_n 0, 1) := by decide +kernel
theorem dX6_takeStep_89 : decode cX6_takeStep 89 = .ok (.getfield 32, 3) := by decide +kernel
theorem dX6_takeStep_92 : decode cX6_takeStep 92 = .ok (.if_icmp .ne 8, 3) := by decide +kernel
theorem dX6_takeStep_95 : decode cX6_takeStep 95 = .ok (.aload_n 0, 1) := by decide +kernel
theorem dX6_takeStep_96 : decode cX6_takeStep 96 = .ok (.iconst 1, 1) := by decide +kernel
theorem dX6_takeStep_97 : decode cX6_takeStep 97 = .ok (.putfield 47, 3) := by decide +kernel
theorem dX6_takeStep_100 : decode cX6_takeStep 100 = .ok (.aload_n 0, 1) := by decide +kernel
theorem dX6_takeStep_101 : decode cX6_takeStep 101 = .ok (.invokevirtual 132, 3) := by decide +kernel
theorem dX6_takeStep_104 : decode cX6_takeStep 104 = .ok (.return_, 1) := by decide +kernel
set_option maxRecDepth 20000 in
theorem ggX6_pickDoor_X6_openFrom : GoodIn wsX6_pickDoor wsX6_openFrom := goodIn_r _ [6, 7, 8, 9, 10, 11, 5, 12, 13, 14, 15, 16, 17, 18, 19, 20, 21, 22, 23, 24, 25, 38, 39, 40, 41, 42, 43, 44, 45, 46, 47, 48, 49, 50, 51, 52, 53, 54] (by decide +kernel) (by decide +kernel)
set_option maxRecDepth 20000 in
theorem gX6_pickDoor_X6_openFrom : GoodIn wsX6_pickDoor (wsV RX6 114 RX6 yX6_openFrom wsX6_openFrom) := goodIn_app (goodIn_of _ (by decide +kernel)) ggX6_pickDoor_X6_openFrom
set_option maxRecDepth 20000 in
theorem ggX6_pickDoor_J6_bitCount_0f7a4 : GoodIn wsX6_pickDoor wsJ6_bitCount_0f7a4 := goodIn_r _ [29, 30, 31, 32] (by decide +kernel) (by decide +kernel)
set_option maxRecDepth 20000 in
theorem gX6_pickDoor_J6_bitCount_0f7a4 : GoodIn wsX6_pickDoor (va_wsS RX6 117 yJ6_bitCount_0f7a4 wsJ6_bitCount_0f7a4) := goodIn_app (goodIn_of _ (by decide +kernel)) ggX6_pickDoor_J6_bitCount_0f7a4
set_option maxRecDepth 20000 in
theorem ggX6_pickDoor_X7_modulo : GoodIn wsX6_pickDoor wsX7_modulo := goodIn_r _ [35] (by decide +kernel) (by decide +kernel)
set_option maxRecDepth 20000 in
theorem gX6_pickDoor_X7_modulo_n94 : GoodIn wsX6_pickDoor (wsX7_modulo) := ggX6_pickDoor_X7_modulo
set_option maxRecDepth 20000 in
theorem ggX6_pickDoor_X7_doorAt : GoodIn wsX6_pickDoor wsX7_doorAt := goodIn_r _ [37] (by decide +kernel) (by decide +kernel)
set_option maxRecDepth 20000 in
theorem gX6_pickDoor_X7_doorAt_n122 : GoodIn wsX6_pickDoor (wsX7_doorAt) := ggX6_pickDoor_X7_doorAt
theorem dX6_pickDoor_0 : decode cX6_pickDoor 0 = .ok (.aload_n 0, 1) := by decide +kernel
theorem dX6_pickDoor_1 : decode cX6_pickDoor 1 = .ok (.aload_n 0, 1) := by decide +kernel
theorem dX6_pickDoor_2 : decode cX6_pickDoor 2 = .ok (.getfield 32, 3) := by decide +kernel
theorem dX6_pickDoor_5 : decode cX6_pickDoor 5 = .ok (.invokevirtual 114, 3) := by decide +kernel
theorem dX6_pickDoor_8 : decode cX6_pickDoor 8 = .ok (.istore_n 2, 1) := by decide +kernel
theorem dX6_pickDoor_9 : decode cX6_pickDoor 9 = .ok (.iload_n 2, 1) := by decide +kernel
theorem dX6_pickDoor_10 : decode cX6_pickDoor 10 = .ok (.iload_n 1, 1) := by decide +kernel
theorem dX6_pickDoor_11 : decode cX6_pickDoor 11 = .ok (.iload_n 2, 1) := by decide +kernel
theorem dX6_pickDoor_12 : decode cX6_pickDoor 12 = .ok (.invokestatic 117, 3) := by decide +kernel
theorem dX6_pickDoor_15 : decode cX6_pickDoor 15 = .ok (.iconst 1, 1) := by decide +kernel
theorem dX6_pickDoor_16 : decode cX6_pickDoor 16 = .ok (.iadd, 1) := by decide +kernel
theorem dX6_pickDoor_17 : decode cX6_pickDoor 17 = .ok (.invokestatic 94, 3) := by decide +kernel
theorem dX6_pickDoor_20 : decode cX6_pickDoor 20 = .ok (.invokestatic 122, 3) := by decide +kernel
theorem dX6_pickDoor_23 : decode cX6_pickDoor 23 = .ok (.ireturn, 1) := by decide +kernel
set_option maxRecDepth 20000 in
theorem ggX7_init_X2_init : GoodIn wsX7_init wsX2_init := goodIn_r _ [40, 41, 2, 3, 42, 43, 44, 45, 46, 47, 6, 48, 49, 50, 51, 52, 110, 111, 112, 113, 114, 115] (by decide +kernel) (by decide +kernel)
set_option maxRecDepth 20000 in
theorem gX7_init_X2_init : GoodIn wsX7_init (wsX2_init) := ggX7_init_X2_init
set_option maxRecDepth 20000 in
theorem ggX7_init_X6_init : GoodIn wsX7_init wsX6_init := goodIn_r _ [55, 56, 2, 3, 42, 57, 58, 59, 60, 61, 62, 10, 63, 64, 65, 66, 67, 68, 69, 70, 71, 129, 130, 131, 132, 133, 134, 135, 136, 137, 138, 139] (by decide +kernel) (by decide +kernel)
set_option maxRecDepth 20000 in
theorem gX7_init_X6_init : GoodIn wsX7_init (wsX6_init) := ggX7_init_X6_init
set_option maxRecDepth 20000 in
theorem ggX7_init_X3_init : GoodIn wsX7_init wsX3_init := goodIn_r _ [73, 74, 2, 3, 75, 5, 6, 76, 77, 9, 10, 78, 79, 80, 81, 82, 83, 39, 40, 41, 42, 43, 44, 45, 46, 47, 48, 49, 50, 51, 52, 84, 54, 55, 56, 57, 58, 59, 60, 61, 62, 63, 64, 65, 66, 67, 68, 69, 70, 71, 110, 111, 112, 113, 114, 115, 140, 141, 142, 143, 144, 145, 146, 147, 148, 149, 150, 151, 129, 130, 131, 132, 133, 134, 135, 136, 137, 138, 139] (by decide +kernel) (by decide +kernel)
set_option maxRecDepth 20000 in
theorem gX7_init_X3_init_n41 : GoodIn wsX7_init (wsX3_init) := ggX7_init_X3_init
set_option maxRecDepth 20000 in
theorem ggX7_init_X0_init : GoodIn wsX7_init wsX0_init := goodIn_r _ [86, 87, 2, 3, 42, 88, 89, 90, 91, 152, 153, 154, 155] (by decide +kernel) (by decide +kernel)
set_option maxRecDepth 20000 in
theorem gX7_init_X0_init_n48 : GoodIn wsX7_init (wsX0_init) := ggX7_init_X0_init
set_option maxRecDepth 20000 in
theorem ggX7_init_X4_init : GoodIn wsX7_init wsX4_init := goodIn_r _ [93, 94, 2, 3, 42, 95, 96, 97, 98, 99, 156, 157, 158, 159, 160, 161] (by decide +kernel) (by decide +kernel)
set_option maxRecDepth 20000 in
theorem gX7_init_X4_init_n58 : GoodIn wsX7_init (wsX4_init) := ggX7_init_X4_init
set_option maxRecDepth 20000 in
theorem ggX7_init_X1_init : GoodIn wsX7_init wsX1_init := goodIn_r _ [101, 102, 2, 3, 42, 103, 162, 163] (by decide +kernel) (by decide +kernel)
set_option maxRecDepth 20000 in
theorem gX7_init_X1_init_n65 : GoodIn wsX7_init (wsX1_init) := ggX7_init_X1_init
set_option maxRecDepth 20000 in
theorem ggX7_init_X5_init : GoodIn wsX7_init wsX5_init := goodIn_r _ [105, 106, 2, 3, 42, 107, 108, 109, 164, 165, 166] (by decide +kernel) (by decide +kernel)
set_option maxRecDepth 20000 in
theorem gX7_init_X5_init_n79 : GoodIn wsX7_init (wsX5_init) := ggX7_init_X5_init
theorem dX7_init_0 : decode cX7_init 0 = .ok (.aload_n 0, 1) := by decide +kernel
theorem dX7_init_1 : decode cX7_init 1 = .ok (.invokespecial 3, 3) := by decide +kernel
theorem dX7_init_4 : decode cX7_init 4 = .ok (.aload_n 0, 1) := by decide +kernel
theorem dX7_init_5 : decode cX7_init 5 = .ok (.new 9, 3) := by decide +kernel
theorem dX7_init_8 : decode cX7_init 8 = .ok (.dup, 1) := by decide +kernel
theorem dX7_init_9 : decode cX7_init 9 = .ok (.invokespecial 11, 3) := by decide +kernel
theorem dX7_init_12 : decode cX7_init 12 = .ok (.putfield 12, 3) := by decide +kernel
theorem dX7_init_15 : decode cX7_init 15 = .ok (.aload_n 0, 1) := by decide +kernel
theorem dX7_init_16 : decode cX7_init 16 = .ok (.new 16, 3) := by decide +kernel
theorem dX7_init_19 : decode cX7_init 19 = .ok (.dup, 1) := by decide +kernel
theorem dX7_init_20 : decode cX7_init 20 = .ok (.aload_n 0, 1) := by decide +kernel
theorem dX7_init_21 : decode cX7_init 21 = .ok (.getfield 12, 3) := by decide +kernel
theorem dX7_init_24 : decode cX7_init 24 = .ok (.invokespecial 18, 3) := by decide +kernel
theorem dX7_init_27 : decode cX7_init 27 = .ok (.putfield 21, 3) := by decide +kernel
theorem dX7_init_30 : decode cX7_init 30 = .ok (.aload_n 0, 1) := by decide +kernel
theorem dX7_init_31 : decode cX7_init 31 = .ok (.new 16, 3) := by decide +kernel
theorem dX7_init_34 : decode cX7_init 34 = .ok (.dup, 1) := by decide +kernel
theorem dX7_init_35 : decode cX7_init 35 = .ok (.aload_n 0, 1) := by decide +kernel
theorem dX7_init_36 : decode cX7_init 36 = .ok (.getfield 12, 3) := by decide +kernel
theorem dX7_init_39 : decode cX7_init 39 = .ok (.invokespecial 18, 3) := by decide +kernel
theorem dX7_init_42 : decode cX7_init 42 = .ok (.putfield 25, 3) := by decide +kernel
theorem dX7_init_45 : decode cX7_init 45 = .ok (.aload_n 0, 1) := by decide +kernel
theorem dX7_init_46 : decode cX7_init 46 = .ok (.new 16, 3) := by decide +kernel
theorem dX7_init_49 : decode cX7_init 49 = .ok (.dup, 1) := by decide +kernel
theorem dX7_init_50 : decode cX7_init 50 = .ok (.aload_n 0, 1) := by decide +kernel
theorem dX7_init_51 : decode cX7_init 51 = .ok (.getfield 12, 3) := by decide +kernel
theorem dX7_init_54 : decode cX7_init 54 = .ok (.invokespecial 18, 3) := by decide +kernel
theorem dX7_init_57 : decode cX7_init 57 = .ok (.putfield 28, 3) := by decide +kernel
theorem dX7_init_60 : decode cX7_init 60 = .ok (.aload_n 0, 1) := by decide +kernel
theorem dX7_init_61 : decode cX7_init 61 = .ok (.iconst 2, 1) := by decide +kernel
theorem dX7_init_62 : decode cX7_init 62 = .ok (.anewarray 16, 3) := by decide +kernel
theorem dX7_init_65 : decode cX7_init 65 = .ok (.putfield 31, 3) := by decide +kernel
theorem dX7_init_68 : decode cX7_init 68 = .ok (.aload_n 0, 1) := by decide +kernel
theorem dX7_init_69 : decode cX7_init 69 = .ok (.iconst 0, 1) := by decide +kernel
theorem dX7_init_70 : decode cX7_init 70 = .ok (.putfield 35, 3) := by decide +kernel
theorem dX7_init_73 : decode cX7_init 73 = .ok (.aload_n 0, 1) := by decide +kernel
theorem dX7_init_74 : decode cX7_init 74 = .ok (.new 39, 3) := by decide +kernel
theorem dX7_init_77 : decode cX7_init 77 = .ok (.dup, 1) := by decide +kernel
theorem dX7_init_78 : decode cX7_init 78 = .ok (.invokespecial 41, 3) := by decide +kernel
theorem dX7_init_81 : decode cX7_init 81 = .ok (.putfield 42, 3) := by decide +kernel
theorem dX7_init_84 : decode cX7_init 84 = .ok (.aload_n 0, 1) := by decide +kernel
theorem dX7_init_85 : decode cX7_init 85 = .ok (.new 46, 3) := by decide +kernel
theorem dX7_init_88 : decode cX7_init 88 = .ok (.dup, 1) := by decide +kernel
theorem dX7_init_89 : decode cX7_init 89 = .ok (.invokespecial 48, 3) := by decide +kernel
theorem dX7_init_92 : decode cX7_init 92 = .ok (.putfield 49, 3) := by decide +kernel
theorem dX7_init_95 : decode cX7_init 95 = .ok (.aload_n 0, 1) := by decide +kernel
theorem dX7_init_96 : decode cX7_init 96 = .ok (.new 46, 3) := by decide +kernel
theorem dX7_init_99 : decode cX7_init 99 = .ok (.dup, 1) := by decide +kernel
theorem dX7_init_100 : decode cX7_init 100 = .ok (.invokespecial 48, 3) := by decide +kernel
theorem dX7_init_103 : decode cX7_init 103 = .ok (.putfield 53, 3) := by decide +kernel
theorem dX7_init_106 : decode cX7_init 106 = .ok (.aload_n 0, 1) := by decide +kernel
theorem dX7_init_107 : decode cX7_init 107 = .ok (.new 56, 3) := by decide +kernel
theorem dX7_init_110 : decode cX7_init 110 = .ok (.dup, 1) := by decide +kernel
theorem dX7_init_111 : decode cX7_init 111 = .ok (.invokespecial 58, 3) := by decide +kernel
theorem dX7_init_114 : decode cX7_init 114 = .ok (.putfield 59, 3) := by decide +kernel
theorem dX7_init_117 : decode cX7_init 117 = .ok (.aload_n 0, 1) := by decide +kernel
theorem dX7_init_118 : decode cX7_init 118 = .ok (.new 63, 3) := by decide +kernel
theorem dX7_init_121 : decode cX7_init 121 = .ok (.dup, 1) := by decide +kernel
theorem dX7_init_122 : decode cX7_init 122 = .ok (.invokespecial 65, 3) := by decide +kernel
theorem dX7_init_125 : decode cX7_init 125 = .ok (.putfield 66, 3) := by decide +kernel
theorem dX7_init_128 : decode cX7_init 128 = .ok (.aload_n 0, 1) := by decide +kernel
theorem dX7_init_129 : decode cX7_init 129 = .ok (.iconst 4, 1) := by decide +kernel
theorem dX7_init_130 : decode cX7_init 130 = .ok (.anewarray 70, 3) := by decide +kernel
theorem dX7_init_133 : decode cX7_init 133 = .ok (.putfield 72, 3) := by decide +kernel
theorem dX7_init_136 : decode cX7_init 136 = .ok (.aload_n 0, 1) := by decide +kernel
theorem dX7_init_137 : decode cX7_init 137 = .ok (.iconst 0, 1) := by decide +kernel
theorem dX7_init_138 : decode cX7_init 138 = .ok (.putfield 76, 3) := by decide +kernel
theorem dX7_init_141 : decode cX7_init 141 = .ok (.iconst 0, 1) := by decide +kernel
theorem dX7_init_142 : decode cX7_init 142 = .ok (.istore_n 1, 1) := by decide +kernel
theorem dX7_init_143 : decode cX7_init 143 = .ok (.iload_n 1, 1) := by decide +kernel
theorem dX7_init_144 : decode cX7_init 144 = .ok (.aload_n 0, 1) := by decide +kernel
theorem dX7_init_145 : decode cX7_init 145 = .ok (.getfield 31, 3) := by decide +kernel
theorem dX7_init_148 : decode cX7_init 148 = .ok (.arraylength, 1) := by decide +kernel
theorem dX7_init_149 : decode cX7_init 149 = .ok (.if_icmp .ge 26, 3) := by decide +kernel
theorem dX7_init_152 : decode cX7_init 152 = .ok (.aload_n 0, 1) := by decide +kernel
theorem dX7_init_153 : decode cX7_init 153 = .ok (.getfield 31, 3) := by decide +kernel
theorem dX7_init_156 : decode cX7_init 156 = .ok (.iload_n 1, 1) := by decide +kernel
theorem dX7_init_157 : decode cX7_init 157 = .ok (.new 16, 3) := by decide +kernel
theorem dX7_init_160 : decode cX7_init 160 = .ok (.dup, 1) := by decide +kernel
theorem dX7_init_161 : decode cX7_init 161 = .ok (.aload_n 0, 1) := by decide +kernel
theorem dX7_init_162 : decode cX7_init 162 = .ok (.getfield 12, 3) := by decide +kernel
theorem dX7_init_165 : decode cX7_init 165 = .ok (.invokespecial 18, 3) := by decide +kernel
theorem dX7_init_168 : decode cX7_init 168 = .ok (.aastore, 1) := by decide +kernel
theorem dX7_init_169 : decode cX7_init 169 = .ok (.iinc 1 1, 3) := by decide +kernel
theorem dX7_init_172 : decode cX7_init 172 = .ok (.goto (-29), 3) := by decide +kernel
theorem dX7_init_175 : decode cX7_init 175 = .ok (.iconst 0, 1) := by decide +kernel
theorem dX7_init_176 : decode cX7_init 176 = .ok (.istore_n 1, 1) := by decide +kernel
theorem dX7_init_177 : decode cX7_init 177 = .ok (.iload_n 1, 1) := by decide +kernel
theorem dX7_init_178 : decode cX7_init 178 = .ok (.aload_n 0, 1) := by decide +kernel
theorem dX7_init_179 : decode cX7_init 179 = .ok (.getfield 72, 3) := by decide +kernel
theorem dX7_init_182 : decode cX7_init 182 = .ok (.arraylength, 1) := by decide +kernel
theorem dX7_init_183 : decode cX7_init 183 = .ok (.if_icmp .ge 22, 3) := by decide +kernel
theorem dX7_init_186 : decode cX7_init 186 = .ok (.aload_n 0, 1) := by decide +kernel
theorem dX7_init_187 : decode cX7_init 187 = .ok (.getfield 72, 3) := by decide +kernel
theorem dX7_init_190 : decode cX7_init 190 = .ok (.iload_n 1, 1) := by decide +kernel
theorem dX7_init_191 : decode cX7_init 191 = .ok (.new 70, 3) := by decide +kernel
theorem dX7_init_194 : decode cX7_init 194 = .ok (.dup, 1) := by decide +kernel
theorem dX7_init_195 : decode cX7_init 195 = .ok (.invokespecial 79, 3) := by decide +kernel
theorem dX7_init_198 : decode cX7_init 198 = .ok (.aastore, 1) := by decide +kernel
theorem dX7_init_199 : decode cX7_init 199 = .ok (.iinc 1 1, 3) := by decide +kernel
theorem dX7_init_202 : decode cX7_init 202 = .ok (.goto (-25), 3) := by decide +kernel
theorem dX7_init_205 : decode cX7_init 205 = .ok (.return_, 1) := by decide +kernel
set_option maxRecDepth 20000 in
theorem ggX7_feed_X3_append : GoodIn wsX7_feed wsX3_append := goodIn_r _ [7, 8, 9, 23, 24, 25, 26, 27, 28, 29, 30, 31, 32, 33, 34] (by decide +kernel) (by decide +kernel)
set_option maxRecDepth 20000 in
theorem gX7_feed_X3_append : GoodIn wsX7_feed (wsV RX7 80 RX3 yX3_append wsX3_append) := goodIn_app (goodIn_of _ (by decide +kernel)) ggX7_feed_X3_append
theorem dX7_feed_0 : decode cX7_feed 0 = .ok (.aload_n 0, 1) := by decide +kernel
theorem dX7_feed_1 : decode cX7_feed 1 = .ok (.getfield 42, 3) := by decide +kernel
theorem dX7_feed_4 : decode cX7_feed 4 = .ok (.lload_n 1, 1) := by decide +kernel
theorem dX7_feed_5 : decode cX7_feed 5 = .ok (.invokevirtual 80, 3) := by decide +kernel
theorem dX7_feed_8 : decode cX7_feed 8 = .ok (.ifCond .eq 13, 3) := by decide +kernel
theorem dX7_feed_11 : decode cX7_feed 11 = .ok (.aload_n 0, 1) := by decide +kernel
theorem dX7_feed_12 : decode cX7_feed 12 = .ok (.getfield 42, 3) := by decide +kernel
theorem dX7_feed_15 : decode cX7_feed 15 = .ok (.getfield 84, 3) := by decide +kernel
theorem dX7_feed_18 : decode cX7_feed 18 = .ok (.goto 5, 3) := by decide +kernel
theorem dX7_feed_21 : decode cX7_feed 21 = .ok (.bipush (-3), 2) := by decide +kernel
theorem dX7_feed_23 : decode cX7_feed 23 = .ok (.ireturn, 1) := by decide +kernel
set_option maxRecDepth 20000 in
theorem ggX7_end_X7_isWithin : GoodIn wsX7_end wsX7_isWithin := goodIn_r _ [6] (by decide +kernel) (by decide +kernel)
set_option maxRecDepth 20000 in
theorem gX7_end_X7_isWithin : GoodIn wsX7_end (va_wsS RX7 87 yX7_isWithin wsX7_isWithin) := goodIn_app (goodIn_of _ (by decide +kernel)) ggX7_end_X7_isWithin
theorem dX7_end_0 : decode cX7_end 0 = .ok (.iload_n 1, 1) := by decide +kernel
theorem dX7_end_1 : decode cX7_end 1 = .ok (.iconst 0, 1) := by decide +kernel
theorem dX7_end_2 : decode cX7_end 2 = .ok (.aload_n 0, 1) := by decide +kernel
theorem dX7_end_3 : decode cX7_end 3 = .ok (.getfield 42, 3) := by decide +kernel
theorem dX7_end_6 : decode cX7_end 6 = .ok (.getfield 84, 3) := by decide +kernel
theorem dX7_end_9 : decode cX7_end 9 = .ok (.invokestatic 87, 3) := by decide +kernel
theorem dX7_end_12 : decode cX7_end 12 = .ok (.ifCond .ne 5, 3) := by decide +kernel
theorem dX7_end_15 : decode cX7_end 15 = .ok (.iconst (-1), 1) := by decide +kernel
theorem dX7_end_16 : decode cX7_end 16 = .ok (.ireturn, 1) := by decide +kernel
theorem dX7_end_17 : decode cX7_end 17 = .ok (.aload_n 0, 1) := by decide +kernel
theorem dX7_end_18 : decode cX7_end 18 = .ok (.getfield 42, 3) := by decide +kernel
theorem dX7_end_21 : decode cX7_end 21 = .ok (.getfield 84, 3) := by decide +kernel
theorem dX7_end_24 : decode cX7_end 24 = .ok (.istore_n 2, 1) := by decide +kernel
theorem dX7_end_25 : decode cX7_end 25 = .ok (.aload_n 0, 1) := by decide +kernel
theorem dX7_end_26 : decode cX7_end 26 = .ok (.getfield 42, 3) := by decide +kernel
theorem dX7_end_29 : decode cX7_end 29 = .ok (.iload_n 1, 1) := by decide +kernel
theorem dX7_end_30 : decode cX7_end 30 = .ok (.putfield 84, 3) := by decide +kernel
theorem dX7_end_33 : decode cX7_end 33 = .ok (.iload_n 2, 1) := by decide +kernel
theorem dX7_end_34 : decode cX7_end 34 = .ok (.ireturn, 1) := by decide +kernel
set_option maxRecDepth 20000 in
theorem ggX7_text_X3_readTape : GoodIn wsX7_text wsX3_readTape := goodIn_r _ [17, 18, 19, 20, 21, 22, 23, 24, 25, 26, 27, 28, 29, 30, 31, 32, 33, 34, 35, 36, 37, 38, 39, 40, 41, 42, 43, 44, 45, 46, 47, 48, 49, 50, 16, 51, 52, 53, 54, 55, 56, 57, 58, 59, 60, 61, 62, 63, 64, 65, 66, 67, 68, 69, 70, 71, 72, 73, 74, 75, 76, 77, 78, 79, 80, 81, 82, 83, 84, 85, 86, 87, 88, 89, 90, 91, 92, 93, 94, 95, 96, 97, 98, 99, 100, 101, 102, 103, 104, 105, 106, 107, 108, 109, 110, 111, 112, 113, 114, 115, 116, 117, 118, 119, 120, 121, 122, 123, 124, 125, 126, 127, 128, 129, 130, 131, 132, 133, 134, 135, 136, 137, 138, 139, 140, 141, 142, 143, 144, 145, 146, 147, 148, 149, 150, 151, 152, 153, 154, 155, 156, 157, 158, 159, 160, 161, 162, 163, 164, 165, 166, 167, 168, 169, 170, 171, 172, 173, 174, 175, 176, 177, 178, 179, 180, 181, 182, 213, 214, 215, 216, 217, 218, 219, 220, 221, 222, 223, 224, 229, 230, 231, 232, 233, 234, 235, 236, 237, 238, 239, 240, 241, 242, 243, 244, 245] (by decide +kernel) (by decide +kernel)
set_option maxRecDepth 20000 in
theorem gX7_text_X3_readTape : GoodIn wsX7_text (wsV RX7 91 RX3 yX3_readTape wsX3_readTape) := goodIn_app (goodIn_of _ (by decide +kernel)) ggX7_text_X3_readTape
set_option maxRecDepth 20000 in
theorem ggX7_text_X2_copyFrom : GoodIn wsX7_text wsX2_copyFrom := goodIn_r _ [186, 187, 188, 189, 190, 191, 192, 31, 32, 33, 34, 229, 230, 231, 232, 233, 234] (by decide +kernel) (by decide +kernel)
set_option maxRecDepth 20000 in
theorem gX7_text_X2_copyFrom : GoodIn wsX7_text (wsV RX7 101 RX2 yX2_copyFrom wsX2_copyFrom) := goodIn_app (goodIn_of _ (by decide +kernel)) ggX7_text_X2_copyFrom
set_option maxRecDepth 20000 in
theorem ggX7_text_X6_copyFrom : GoodIn wsX7_text wsX6_copyFrom := goodIn_r _ [196, 197, 198, 189, 190, 191, 199, 40, 41, 42, 43, 44, 45, 46, 47, 235, 236, 237, 238, 239, 240, 241, 242, 243, 244, 245] (by decide +kernel) (by decide +kernel)
set_option maxRecDepth 20000 in
theorem gX7_text_X6_copyFrom : GoodIn wsX7_text (wsV RX7 107 RX6 yX6_copyFrom wsX6_copyFrom) := goodIn_app (goodIn_of _ (by decide +kernel)) ggX7_text_X6_copyFrom
theorem dX7_text_0 : decode cX7_text 0 = .ok (.aload_n 0, 1) := by decide +kernel
theorem dX7_text_1 : decode cX7_text 1 = .ok (.getfield 42, 3) := by decide +kernel
theorem dX7_text_4 : decode cX7_text 4 = .ok (.invokevirtual 91, 3) := by decide +kernel
theorem dX7_text_7 : decode cX7_text 7 = .ok (.aload_n 0, 1) := by decide +kernel
theorem dX7_text_8 : decode cX7_text 8 = .ok (.getfield 42, 3) := by decide +kernel
theorem dX7_text_11 : decode cX7_text 11 = .ok (.getfield 94, 3) := by decide +kernel
theorem dX7_text_14 : decode cX7_text 14 = .ok (.ifCond .eq 14, 3) := by decide +kernel
theorem dX7_text_17 : decode cX7_text 17 = .ok (.bipush (-10), 2) := by decide +kernel
theorem dX7_text_19 : decode cX7_text 19 = .ok (.aload_n 0, 1) := by decide +kernel
theorem dX7_text_20 : decode cX7_text 20 = .ok (.getfield 42, 3) := by decide +kernel
theorem dX7_text_23 : decode cX7_text 23 = .ok (.getfield 97, 3) := by decide +kernel
theorem dX7_text_26 : decode cX7_text 26 = .ok (.isub, 1) := by decide +kernel
theorem dX7_text_27 : decode cX7_text 27 = .ok (.ireturn, 1) := by decide +kernel
theorem dX7_text_28 : decode cX7_text 28 = .ok (.aload_n 0, 1) := by decide +kernel
theorem dX7_text_29 : decode cX7_text 29 = .ok (.getfield 12, 3) := by decide +kernel
theorem dX7_text_32 : decode cX7_text 32 = .ok (.aload_n 0, 1) := by decide +kernel
theorem dX7_text_33 : decode cX7_text 33 = .ok (.getfield 42, 3) := by decide +kernel
theorem dX7_text_36 : decode cX7_text 36 = .ok (.getfield 100, 3) := by decide +kernel
theorem dX7_text_39 : decode cX7_text 39 = .ok (.invokevirtual 101, 3) := by decide +kernel
theorem dX7_text_42 : decode cX7_text 42 = .ok (.aload_n 0, 1) := by decide +kernel
theorem dX7_text_43 : decode cX7_text 43 = .ok (.getfield 21, 3) := by decide +kernel
theorem dX7_text_46 : decode cX7_text 46 = .ok (.aload_n 0, 1) := by decide +kernel
theorem dX7_text_47 : decode cX7_text 47 = .ok (.getfield 42, 3) := by decide +kernel
theorem dX7_text_50 : decode cX7_text 50 = .ok (.getfield 104, 3) := by decide +kernel
theorem dX7_text_53 : decode cX7_text 53 = .ok (.invokevirtual 107, 3) := by decide +kernel
theorem dX7_text_56 : decode cX7_text 56 = .ok (.aload_n 0, 1) := by decide +kernel
theorem dX7_text_57 : decode cX7_text 57 = .ok (.getfield 49, 3) := by decide +kernel
theorem dX7_text_60 : decode cX7_text 60 = .ok (.iconst 0, 1) := by decide +kernel
theorem dX7_text_61 : decode cX7_text 61 = .ok (.putfield 110, 3) := by decide +kernel
theorem dX7_text_64 : decode cX7_text 64 = .ok (.aload_n 0, 1) := by decide +kernel
theorem dX7_text_65 : decode cX7_text 65 = .ok (.getfield 53, 3) := by decide +kernel
theorem dX7_text_68 : decode cX7_text 68 = .ok (.iconst 0, 1) := by decide +kernel
theorem dX7_text_69 : decode cX7_text 69 = .ok (.putfield 110, 3) := by decide +kernel
theorem dX7_text_72 : decode cX7_text 72 = .ok (.aload_n 0, 1) := by decide +kernel
theorem dX7_text_73 : decode cX7_text 73 = .ok (.iconst 0, 1) := by decide +kernel
theorem dX7_text_74 : decode cX7_text 74 = .ok (.putfield 35, 3) := by decide +kernel
theorem dX7_text_77 : decode cX7_text 77 = .ok (.aload_n 0, 1) := by decide +kernel
theorem dX7_text_78 : decode cX7_text 78 = .ok (.getfield 42, 3) := by decide +kernel
theorem dX7_text_81 : decode cX7_text 81 = .ok (.getfield 113, 3) := by decide +kernel
theorem dX7_text_84 : decode cX7_text 84 = .ok (.ireturn, 1) := by decide +kernel
theorem dX7_fault_0 : decode cX7_fault 0 = .ok (.aload_n 0, 1) := by decide +kernel
theorem dX7_fault_1 : decode cX7_fault 1 = .ok (.getfield 42, 3) := by decide +kernel
theorem dX7_fault_4 : decode cX7_fault 4 = .ok (.getfield 94, 3) := by decide +kernel
theorem dX7_fault_7 : decode cX7_fault 7 = .ok (.ireturn, 1) := by decide +kernel
set_option maxRecDepth 20000 in
theorem ggX7_rule_X7_asNumber : GoodIn wsX7_rule wsX7_asNumber := goodIn_r _ [16] (by decide +kernel) (by decide +kernel)
set_option maxRecDepth 20000 in
theorem gX7_rule_X7_asNumber : GoodIn wsX7_rule (va_wsS RX7 147 yX7_asNumber wsX7_asNumber) := goodIn_app (goodIn_of _ (by decide +kernel)) ggX7_rule_X7_asNumber
theorem dX7_rule_0 : decode cX7_rule 0 = .ok (.iload_n 1, 1) := by decide +kernel
theorem dX7_rule_1 : decode cX7_rule 1 = .ok (.tableswitch 138 0 9 #[55, 63, 71, 79, 87, 95, 103, 111, 119, 127], 55) := by decide +kernel
theorem dX7_rule_56 : decode cX7_rule 56 = .ok (.aload_n 0, 1) := by decide +kernel
theorem dX7_rule_57 : decode cX7_rule 57 = .ok (.getfield 12, 3) := by decide +kernel
theorem dX7_rule_60 : decode cX7_rule 60 = .ok (.getfield 116, 3) := by decide +kernel
theorem dX7_rule_63 : decode cX7_rule 63 = .ok (.ireturn, 1) := by decide +kernel
theorem dX7_rule_64 : decode cX7_rule 64 = .ok (.aload_n 0, 1) := by decide +kernel
theorem dX7_rule_65 : decode cX7_rule 65 = .ok (.getfield 12, 3) := by decide +kernel
theorem dX7_rule_68 : decode cX7_rule 68 = .ok (.getfield 119, 3) := by decide +kernel
theorem dX7_rule_71 : decode cX7_rule 71 = .ok (.ireturn, 1) := by decide +kernel
theorem dX7_rule_72 : decode cX7_rule 72 = .ok (.aload_n 0, 1) := by decide +kernel
theorem dX7_rule_73 : decode cX7_rule 73 = .ok (.getfield 21, 3) := by decide +kernel
theorem dX7_rule_76 : decode cX7_rule 76 = .ok (.getfield 122, 3) := by decide +kernel
theorem dX7_rule_79 : decode cX7_rule 79 = .ok (.ireturn, 1) := by decide +kernel
theorem dX7_rule_80 : decode cX7_rule 80 = .ok (.aload_n 0, 1) := by decide +kernel
theorem dX7_rule_81 : decode cX7_rule 81 = .ok (.getfield 12, 3) := by decide +kernel
theorem dX7_rule_84 : decode cX7_rule 84 = .ok (.getfield 125, 3) := by decide +kernel
theorem dX7_rule_87 : decode cX7_rule 87 = .ok (.ireturn, 1) := by decide +kernel
theorem dX7_rule_88 : decode cX7_rule 88 = .ok (.aload_n 0, 1) := by decide +kernel
theorem dX7_rule_89 : decode cX7_rule 89 = .ok (.getfield 12, 3) := by decide +kernel
theorem dX7_rule_92 : decode cX7_rule 92 = .ok (.getfield 128, 3) := by decide +kernel
theorem dX7_rule_95 : decode cX7_rule 95 = .ok (.ireturn, 1) := by decide +kernel
theorem dX7_rule_96 : decode cX7_rule 96 = .ok (.aload_n 0, 1) := by decide +kernel
theorem dX7_rule_97 : decode cX7_rule 97 = .ok (.getfield 21, 3) := by decide +kernel
theorem dX7_rule_100 : decode cX7_rule 100 = .ok (.getfield 131, 3) := by decide +kernel
theorem dX7_rule_103 : decode cX7_rule 103 = .ok (.ireturn, 1) := by decide +kernel
theorem dX7_rule_104 : decode cX7_rule 104 = .ok (.aload_n 0, 1) := by decide +kernel
theorem dX7_rule_105 : decode cX7_rule 105 = .ok (.getfield 21, 3) := by decide +kernel
theorem dX7_rule_108 : decode cX7_rule 108 = .ok (.getfield 134, 3) := by decide +kernel
theorem dX7_rule_111 : decode cX7_rule 111 = .ok (.ireturn, 1) := by decide +kernel
theorem dX7_rule_112 : decode cX7_rule 112 = .ok (.aload_n 0, 1) := by decide +kernel
theorem dX7_rule_113 : decode cX7_rule 113 = .ok (.getfield 21, 3) := by decide +kernel
theorem dX7_rule_116 : decode cX7_rule 116 = .ok (.getfield 137, 3) := by decide +kernel
theorem dX7_rule_119 : decode cX7_rule 119 = .ok (.ireturn, 1) := by decide +kernel
theorem dX7_rule_120 : decode cX7_rule 120 = .ok (.aload_n 0, 1) := by decide +kernel
theorem dX7_rule_121 : decode cX7_rule 121 = .ok (.getfield 21, 3) := by decide +kernel
theorem dX7_rule_124 : decode cX7_rule 124 = .ok (.getfield 140, 3) := by decide +kernel
theorem dX7_rule_127 : decode cX7_rule 127 = .ok (.ireturn, 1) := by decide +kernel
theorem dX7_rule_128 : decode cX7_rule 128 = .ok (.aload_n 0, 1) := by decide +kernel
theorem dX7_rule_129 : decode cX7_rule 129 = .ok (.getfield 21, 3) := by decide +kernel
theorem dX7_rule_132 : decode cX7_rule 132 = .ok (.getfield 143, 3) := by decide +kernel
theorem dX7_rule_135 : decode cX7_rule 135 = .ok (.invokestatic 147, 3) := by decide +kernel
theorem dX7_rule_138 : decode cX7_rule 138 = .ok (.ireturn, 1) := by decide +kernel
theorem dX7_rule_139 : decode cX7_rule 139 = .ok (.iconst (-1), 1) := by decide +kernel
theorem dX7_rule_140 : decode cX7_rule 140 = .ok (.ireturn, 1) := by decide +kernel
set_option maxRecDepth 20000 in
theorem ggX7_door_X6_ofDoor : GoodIn wsX7_door wsX6_ofDoor := goodIn_r _ [6, 7, 8, 9, 10, 11, 12, 13, 14, 15, 16, 17, 18, 19, 20, 21, 5, 22, 23, 24, 25, 39, 40, 41, 42, 43, 44, 45, 46, 47, 48, 49, 50, 51, 52, 53, 54, 55] (by decide +kernel) (by decide +kernel)
set_option maxRecDepth 20000 in
theorem gX7_door_X6_ofDoor : GoodIn wsX7_door (wsV RX7 151 RX6 yX6_ofDoor wsX6_ofDoor) := goodIn_app (goodIn_of _ (by decide +kernel)) ggX7_door_X6_ofDoor
theorem dX7_door_0 : decode cX7_door 0 = .ok (.aload_n 0, 1) := by decide +kernel
theorem dX7_door_1 : decode cX7_door 1 = .ok (.getfield 21, 3) := by decide +kernel
theorem dX7_door_4 : decode cX7_door 4 = .ok (.iload_n 1, 1) := by decide +kernel
theorem dX7_door_5 : decode cX7_door 5 = .ok (.iload_n 2, 1) := by decide +kernel
theorem dX7_door_6 : decode cX7_door 6 = .ok (.invokevirtual 151, 3) := by decide +kernel
theorem dX7_door_9 : decode cX7_door 9 = .ok (.ireturn, 1) := by decide +kernel
set_option maxRecDepth 20000 in
theorem ggX7_law_X7_isWithin : GoodIn wsX7_law wsX7_isWithin := goodIn_r _ [7] (by decide +kernel) (by decide +kernel)
set_option maxRecDepth 20000 in
theorem gX7_law_X7_isWithin : GoodIn wsX7_law (va_wsS RX7 87 yX7_isWithin wsX7_isWithin) := goodIn_app (goodIn_of _ (by decide +kernel)) ggX7_law_X7_isWithin
theorem dX7_law_0 : decode cX7_law 0 = .ok (.iload_n 1, 1) := by decide +kernel
theorem dX7_law_1 : decode cX7_law 1 = .ok (.iconst 0, 1) := by decide +kernel
theorem dX7_law_2 : decode cX7_law 2 = .ok (.aload_n 0, 1) := by decide +kernel
theorem dX7_law_3 : decode cX7_law 3 = .ok (.getfield 12, 3) := by decide +kernel
theorem dX7_law_6 : decode cX7_law 6 = .ok (.getfield 125, 3) := by decide +kernel
theorem dX7_law_9 : decode cX7_law 9 = .ok (.iconst 1, 1) := by decide +kernel
theorem dX7_law_10 : decode cX7_law 10 = .ok (.isub, 1) := by decide +kernel
theorem dX7_law_11 : decode cX7_law 11 = .ok (.invokestatic 87, 3) := by decide +kernel
theorem dX7_law_14 : decode cX7_law 14 = .ok (.ifCond .eq 15, 3) := by decide +kernel
theorem dX7_law_17 : decode cX7_law 17 = .ok (.aload_n 0, 1) := by decide +kernel
theorem dX7_law_18 : decode cX7_law 18 = .ok (.getfield 12, 3) := by decide +kernel
theorem dX7_law_21 : decode cX7_law 21 = .ok (.getfield 155, 3) := by decide +kernel
theorem dX7_law_24 : decode cX7_law 24 = .ok (.iload_n 1, 1) := by decide +kernel
theorem dX7_law_25 : decode cX7_law 25 = .ok (.iaload, 1) := by decide +kernel
theorem dX7_law_26 : decode cX7_law 26 = .ok (.goto 4, 3) := by decide +kernel
theorem dX7_law_29 : decode cX7_law 29 = .ok (.iconst (-1), 1) := by decide +kernel
theorem dX7_law_30 : decode cX7_law 30 = .ok (.ireturn, 1) := by decide +kernel
set_option maxRecDepth 20000 in
theorem ggX7_doors_X2_hasRoom : GoodIn wsX7_doors wsX2_hasRoom := goodIn_r _ [7, 8, 45, 46, 47, 48, 49, 50] (by decide +kernel) (by decide +kernel)
set_option maxRecDepth 20000 in
theorem gX7_doors_X2_hasRoom : GoodIn wsX7_doors (wsV RX7 159 RX2 yX2_hasRoom wsX2_hasRoom) := goodIn_app (goodIn_of _ (by decide +kernel)) ggX7_doors_X2_hasRoom
set_option maxRecDepth 20000 in
theorem ggX7_doors_X6_openFrom : GoodIn wsX7_doors wsX6_openFrom := goodIn_r _ [13, 14, 15, 16, 17, 18, 12, 19, 20, 21, 22, 23, 24, 6, 25, 26, 27, 28, 29, 30, 31, 51, 52, 53, 54, 55, 56, 57, 58, 59, 60, 61, 45, 46, 47, 48, 49, 50] (by decide +kernel) (by decide +kernel)
set_option maxRecDepth 20000 in
theorem gX7_doors_X6_openFrom : GoodIn wsX7_doors (wsV RX7 163 RX6 yX6_openFrom wsX6_openFrom) := goodIn_app (goodIn_of _ (by decide +kernel)) ggX7_doors_X6_openFrom
theorem dX7_doors_0 : decode cX7_doors 0 = .ok (.aload_n 0, 1) := by decide +kernel
theorem dX7_doors_1 : decode cX7_doors 1 = .ok (.getfield 12, 3) := by decide +kernel
theorem dX7_doors_4 : decode cX7_doors 4 = .ok (.iload_n 1, 1) := by decide +kernel
theorem dX7_doors_5 : decode cX7_doors 5 = .ok (.invokevirtual 159, 3) := by decide +kernel
theorem dX7_doors_8 : decode cX7_doors 8 = .ok (.ifCond .eq 14, 3) := by decide +kernel
theorem dX7_doors_11 : decode cX7_doors 11 = .ok (.aload_n 0, 1) := by decide +kernel
theorem dX7_doors_12 : decode cX7_doors 12 = .ok (.getfield 21, 3) := by decide +kernel
theorem dX7_doors_15 : decode cX7_doors 15 = .ok (.iload_n 1, 1) := by decide +kernel
theorem dX7_doors_16 : decode cX7_doors 16 = .ok (.invokevirtual 163, 3) := by decide +kernel
theorem dX7_doors_19 : decode cX7_doors 19 = .ok (.goto 4, 3) := by decide +kernel
theorem dX7_doors_22 : decode cX7_doors 22 = .ok (.iconst (-1), 1) := by decide +kernel
theorem dX7_doors_23 : decode cX7_doors 23 = .ok (.ireturn, 1) := by decide +kernel
set_option maxRecDepth 20000 in
theorem ggX7_bar_X2_hasDoor : GoodIn wsX7_bar wsX2_hasDoor := goodIn_r _ [8, 9, 44, 45, 46, 47, 48, 49] (by decide +kernel) (by decide +kernel)
set_option maxRecDepth 20000 in
theorem gX7_bar_X2_hasDoor : GoodIn wsX7_bar (wsV RX7 167 RX2 yX2_hasDoor wsX2_hasDoor) := goodIn_app (goodIn_of _ (by decide +kernel)) ggX7_bar_X2_hasDoor
set_option maxRecDepth 20000 in
theorem ggX7_bar_X6_isBarred : GoodIn wsX7_bar wsX6_isBarred := goodIn_r _ [14, 15, 33, 34, 35, 36, 37, 38, 39, 40, 41, 42, 43] (by decide +kernel) (by decide +kernel)
set_option maxRecDepth 20000 in
theorem gX7_bar_X6_isBarred : GoodIn wsX7_bar (wsV RX7 170 RX6 yX6_isBarred wsX6_isBarred) := goodIn_app (goodIn_of _ (by decide +kernel)) ggX7_bar_X6_isBarred
set_option maxRecDepth 20000 in
theorem ggX7_bar_X7_asNumber : GoodIn wsX7_bar wsX7_asNumber := goodIn_r _ [19] (by decide +kernel) (by decide +kernel)
set_option maxRecDepth 20000 in
theorem gX7_bar_X7_asNumber : GoodIn wsX7_bar (va_wsS RX7 147 yX7_asNumber wsX7_asNumber) := goodIn_app (goodIn_of _ (by decide +kernel)) ggX7_bar_X7_asNumber
theorem dX7_bar_0 : decode cX7_bar 0 = .ok (.aload_n 0, 1) := by decide +kernel
theorem dX7_bar_1 : decode cX7_bar 1 = .ok (.getfield 12, 3) := by decide +kernel
theorem dX7_bar_4 : decode cX7_bar 4 = .ok (.iload_n 1, 1) := by decide +kernel
theorem dX7_bar_5 : decode cX7_bar 5 = .ok (.invokevirtual 167, 3) := by decide +kernel
theorem dX7_bar_8 : decode cX7_bar 8 = .ok (.ifCond .ne 5, 3) := by decide +kernel
theorem dX7_bar_11 : decode cX7_bar 11 = .ok (.iconst (-1), 1) := by decide +kernel
theorem dX7_bar_12 : decode cX7_bar 12 = .ok (.ireturn, 1) := by decide +kernel
theorem dX7_bar_13 : decode cX7_bar 13 = .ok (.aload_n 0, 1) := by decide +kernel
theorem dX7_bar_14 : decode cX7_bar 14 = .ok (.getfield 21, 3) := by decide +kernel
theorem dX7_bar_17 : decode cX7_bar 17 = .ok (.iload_n 1, 1) := by decide +kernel
theorem dX7_bar_18 : decode cX7_bar 18 = .ok (.invokevirtual 170, 3) := by decide +kernel
theorem dX7_bar_21 : decode cX7_bar 21 = .ok (.istore_n 3, 1) := by decide +kernel
theorem dX7_bar_22 : decode cX7_bar 22 = .ok (.iload_n 3, 1) := by decide +kernel
theorem dX7_bar_23 : decode cX7_bar 23 = .ok (.iload_n 2, 1) := by decide +kernel
theorem dX7_bar_24 : decode cX7_bar 24 = .ok (.if_icmp .eq 18, 3) := by decide +kernel
theorem dX7_bar_27 : decode cX7_bar 27 = .ok (.aload_n 0, 1) := by decide +kernel
theorem dX7_bar_28 : decode cX7_bar 28 = .ok (.getfield 21, 3) := by decide +kernel
theorem dX7_bar_31 : decode cX7_bar 31 = .ok (.dup, 1) := by decide +kernel
theorem dX7_bar_32 : decode cX7_bar 32 = .ok (.getfield 173, 3) := by decide +kernel
theorem dX7_bar_35 : decode cX7_bar 35 = .ok (.iconst 1, 1) := by decide +kernel
theorem dX7_bar_36 : decode cX7_bar 36 = .ok (.iload_n 1, 1) := by decide +kernel
theorem dX7_bar_37 : decode cX7_bar 37 = .ok (.ishl, 1) := by decide +kernel
theorem dX7_bar_38 : decode cX7_bar 38 = .ok (.ixor, 1) := by decide +kernel
theorem dX7_bar_39 : decode cX7_bar 39 = .ok (.putfield 173, 3) := by decide +kernel
theorem dX7_bar_42 : decode cX7_bar 42 = .ok (.iload_n 3, 1) := by decide +kernel
theorem dX7_bar_43 : decode cX7_bar 43 = .ok (.invokestatic 147, 3) := by decide +kernel
theorem dX7_bar_46 : decode cX7_bar 46 = .ok (.ireturn, 1) := by decide +kernel
set_option maxRecDepth 20000 in
theorem ggX7_period_X7_isWithin : GoodIn wsX7_period wsX7_isWithin := goodIn_r _ [6] (by decide +kernel) (by decide +kernel)
set_option maxRecDepth 20000 in
theorem gX7_period_X7_isWithin : GoodIn wsX7_period (va_wsS RX7 87 yX7_isWithin wsX7_isWithin) := goodIn_app (goodIn_of _ (by decide +kernel)) ggX7_period_X7_isWithin
theorem dX7_period_0 : decode cX7_period 0 = .ok (.iload_n 1, 1) := by decide +kernel
theorem dX7_period_1 : decode cX7_period 1 = .ok (.iconst 1, 1) := by decide +kernel
theorem dX7_period_2 : decode cX7_period 2 = .ok (.bipush 6, 2) := by decide +kernel
theorem dX7_period_4 : decode cX7_period 4 = .ok (.invokestatic 87, 3) := by decide +kernel
theorem dX7_period_7 : decode cX7_period 7 = .ok (.ifCond .ne 5, 3) := by decide +kernel
theorem dX7_period_10 : decode cX7_period 10 = .ok (.iconst (-1), 1) := by decide +kernel
theorem dX7_period_11 : decode cX7_period 11 = .ok (.ireturn, 1) := by decide +kernel
theorem dX7_period_12 : decode cX7_period 12 = .ok (.aload_n 0, 1) := by decide +kernel
theorem dX7_period_13 : decode cX7_period 13 = .ok (.getfield 21, 3) := by decide +kernel
theorem dX7_period_16 : decode cX7_period 16 = .ok (.getfield 122, 3) := by decide +kernel
theorem dX7_period_19 : decode cX7_period 19 = .ok (.istore_n 2, 1) := by decide +kernel
theorem dX7_period_20 : decode cX7_period 20 = .ok (.aload_n 0, 1) := by decide +kernel
theorem dX7_period_21 : decode cX7_period 21 = .ok (.getfield 21, 3) := by decide +kernel
theorem dX7_period_24 : decode cX7_period 24 = .ok (.iload_n 1, 1) := by decide +kernel
theorem dX7_period_25 : decode cX7_period 25 = .ok (.putfield 122, 3) := by decide +kernel
theorem dX7_period_28 : decode cX7_period 28 = .ok (.iload_n 2, 1) := by decide +kernel
theorem dX7_period_29 : decode cX7_period 29 = .ok (.ireturn, 1) := by decide +kernel
set_option maxRecDepth 20000 in
theorem ggX7_put_X2_hasRoom : GoodIn wsX7_put wsX2_hasRoom := goodIn_r _ [10, 11, 36, 37, 38, 39, 40, 41] (by decide +kernel) (by decide +kernel)
set_option maxRecDepth 20000 in
theorem gX7_put_X2_hasRoom : GoodIn wsX7_put (wsV RX7 159 RX2 yX2_hasRoom wsX2_hasRoom) := goodIn_app (goodIn_of _ (by decide +kernel)) ggX7_put_X2_hasRoom
theorem dX7_put_0 : decode cX7_put 0 = .ok (.aload_n 0, 1) := by decide +kernel
theorem dX7_put_1 : decode cX7_put 1 = .ok (.getfield 12, 3) := by decide +kernel
theorem dX7_put_4 : decode cX7_put 4 = .ok (.iload_n 1, 1) := by decide +kernel
theorem dX7_put_5 : decode cX7_put 5 = .ok (.invokevirtual 159, 3) := by decide +kernel
theorem dX7_put_8 : decode cX7_put 8 = .ok (.ifCond .ne 5, 3) := by decide +kernel
theorem dX7_put_11 : decode cX7_put 11 = .ok (.iconst (-1), 1) := by decide +kernel
theorem dX7_put_12 : decode cX7_put 12 = .ok (.ireturn, 1) := by decide +kernel
theorem dX7_put_13 : decode cX7_put 13 = .ok (.aload_n 0, 1) := by decide +kernel
theorem dX7_put_14 : decode cX7_put 14 = .ok (.getfield 21, 3) := by decide +kernel
theorem dX7_put_17 : decode cX7_put 17 = .ok (.getfield 137, 3) := by decide +kernel
theorem dX7_put_20 : decode cX7_put 20 = .ok (.iload_n 1, 1) := by decide +kernel
theorem dX7_put_21 : decode cX7_put 21 = .ok (.if_icmp .ne 6, 3) := by decide +kernel
theorem dX7_put_24 : decode cX7_put 24 = .ok (.bipush (-2), 2) := by decide +kernel
theorem dX7_put_26 : decode cX7_put 26 = .ok (.ireturn, 1) := by decide +kernel
theorem dX7_put_27 : decode cX7_put 27 = .ok (.aload_n 0, 1) := by decide +kernel
theorem dX7_put_28 : decode cX7_put 28 = .ok (.getfield 21, 3) := by decide +kernel
theorem dX7_put_31 : decode cX7_put 31 = .ok (.getfield 134, 3) := by decide +kernel
theorem dX7_put_34 : decode cX7_put 34 = .ok (.istore_n 2, 1) := by decide +kernel
theorem dX7_put_35 : decode cX7_put 35 = .ok (.aload_n 0, 1) := by decide +kernel
theorem dX7_put_36 : decode cX7_put 36 = .ok (.getfield 21, 3) := by decide +kernel
theorem dX7_put_39 : decode cX7_put 39 = .ok (.iload_n 1, 1) := by decide +kernel
theorem dX7_put_40 : decode cX7_put 40 = .ok (.putfield 134, 3) := by decide +kernel
theorem dX7_put_43 : decode cX7_put 43 = .ok (.aload_n 0, 1) := by decide +kernel
theorem dX7_put_44 : decode cX7_put 44 = .ok (.getfield 21, 3) := by decide +kernel
theorem dX7_put_47 : decode cX7_put 47 = .ok (.iconst 0, 1) := by decide +kernel
theorem dX7_put_48 : decode cX7_put 48 = .ok (.putfield 143, 3) := by decide +kernel
theorem dX7_put_51 : decode cX7_put 51 = .ok (.iload_n 2, 1) := by decide +kernel
theorem dX7_put_52 : decode cX7_put 52 = .ok (.ireturn, 1) := by decide +kernel
set_option maxRecDepth 20000 in
theorem ggX7_lurk_X2_hasRoom : GoodIn wsX7_lurk wsX2_hasRoom := goodIn_r _ [10, 11, 43, 44, 45, 46, 47, 48] (by decide +kernel) (by decide +kernel)
set_option maxRecDepth 20000 in
theorem gX7_lurk_X2_hasRoom : GoodIn wsX7_lurk (wsV RX7 159 RX2 yX2_hasRoom wsX2_hasRoom) := goodIn_app (goodIn_of _ (by decide +kernel)) ggX7_lurk_X2_hasRoom
set_option maxRecDepth 20000 in
theorem ggX7_lurk_X7_isHabit : GoodIn wsX7_lurk wsX7_isHabit := goodIn_r _ [15, 16, 17, 14, 18] (by decide +kernel) (by decide +kernel)
set_option maxRecDepth 20000 in
theorem gX7_lurk_X7_isHabit : GoodIn wsX7_lurk (va_wsS RX7 176 yX7_isHabit wsX7_isHabit) := goodIn_app (goodIn_of _ (by decide +kernel)) ggX7_lurk_X7_isHabit
theorem dX7_lurk_0 : decode cX7_lurk 0 = .ok (.iload_n 1, 1) := by decide +kernel
theorem dX7_lurk_1 : decode cX7_lurk 1 = .ok (.bipush (-4), 2) := by decide +kernel
theorem dX7_lurk_3 : decode cX7_lurk 3 = .ok (.if_icmp .eq 14, 3) := by decide +kernel
theorem dX7_lurk_6 : decode cX7_lurk 6 = .ok (.aload_n 0, 1) := by decide +kernel
theorem dX7_lurk_7 : decode cX7_lurk 7 = .ok (.getfield 12, 3) := by decide +kernel
theorem dX7_lurk_10 : decode cX7_lurk 10 = .ok (.iload_n 1, 1) := by decide +kernel
theorem dX7_lurk_11 : decode cX7_lurk 11 = .ok (.invokevirtual 159, 3) := by decide +kernel
theorem dX7_lurk_14 : decode cX7_lurk 14 = .ok (.ifCond .eq 10, 3) := by decide +kernel
theorem dX7_lurk_17 : decode cX7_lurk 17 = .ok (.iload_n 2, 1) := by decide +kernel
theorem dX7_lurk_18 : decode cX7_lurk 18 = .ok (.invokestatic 176, 3) := by decide +kernel
theorem dX7_lurk_21 : decode cX7_lurk 21 = .ok (.ifCond .ne 5, 3) := by decide +kernel
theorem dX7_lurk_24 : decode cX7_lurk 24 = .ok (.iconst (-1), 1) := by decide +kernel
theorem dX7_lurk_25 : decode cX7_lurk 25 = .ok (.ireturn, 1) := by decide +kernel
theorem dX7_lurk_26 : decode cX7_lurk 26 = .ok (.aload_n 0, 1) := by decide +kernel
theorem dX7_lurk_27 : decode cX7_lurk 27 = .ok (.getfield 21, 3) := by decide +kernel
theorem dX7_lurk_30 : decode cX7_lurk 30 = .ok (.getfield 134, 3) := by decide +kernel
theorem dX7_lurk_33 : decode cX7_lurk 33 = .ok (.iload_n 1, 1) := by decide +kernel
theorem dX7_lurk_34 : decode cX7_lurk 34 = .ok (.if_icmp .ne 6, 3) := by decide +kernel
theorem dX7_lurk_37 : decode cX7_lurk 37 = .ok (.bipush (-2), 2) := by decide +kernel
theorem dX7_lurk_39 : decode cX7_lurk 39 = .ok (.ireturn, 1) := by decide +kernel
theorem dX7_lurk_40 : decode cX7_lurk 40 = .ok (.aload_n 0, 1) := by decide +kernel
theorem dX7_lurk_41 : decode cX7_lurk 41 = .ok (.getfield 21, 3) := by decide +kernel
theorem dX7_lurk_44 : decode cX7_lurk 44 = .ok (.getfield 137, 3) := by decide +kernel
theorem dX7_lurk_47 : decode cX7_lurk 47 = .ok (.istore_n 3, 1) := by decide +kernel
theorem dX7_lurk_48 : decode cX7_lurk 48 = .ok (.aload_n 0, 1) := by decide +kernel
theorem dX7_lurk_49 : decode cX7_lurk 49 = .ok (.getfield 21, 3) := by decide +kernel
theorem dX7_lurk_52 : decode cX7_lurk 52 = .ok (.iload_n 1, 1) := by decide +kernel
theorem dX7_lurk_53 : decode cX7_lurk 53 = .ok (.putfield 137, 3) := by decide +kernel
theorem dX7_lurk_56 : decode cX7_lurk 56 = .ok (.aload_n 0, 1) := by decide +kernel
theorem dX7_lurk_57 : decode cX7_lurk 57 = .ok (.getfield 21, 3) := by decide +kernel
theorem dX7_lurk_60 : decode cX7_lurk 60 = .ok (.iload_n 2, 1) := by decide +kernel
theorem dX7_lurk_61 : decode cX7_lurk 61 = .ok (.putfield 140, 3) := by decide +kernel
theorem dX7_lurk_64 : decode cX7_lurk 64 = .ok (.iload_n 3, 1) := by decide +kernel
theorem dX7_lurk_65 : decode cX7_lurk 65 = .ok (.ireturn, 1) := by decide +kernel
set_option maxRecDepth 20000 in
theorem ggX7_bite_X7_isWithin : GoodIn wsX7_bite wsX7_isWithin := goodIn_r _ [6] (by decide +kernel) (by decide +kernel)
set_option maxRecDepth 20000 in
theorem gX7_bite_X7_isWithin : GoodIn wsX7_bite (va_wsS RX7 87 yX7_isWithin wsX7_isWithin) := goodIn_app (goodIn_of _ (by decide +kernel)) ggX7_bite_X7_isWithin
theorem dX7_bite_0 : decode cX7_bite 0 = .ok (.iload_n 1, 1) := by decide +kernel
theorem dX7_bite_1 : decode cX7_bite 1 = .ok (.iconst 0, 1) := by decide +kernel
theorem dX7_bite_2 : decode cX7_bite 2 = .ok (.aload_n 0, 1) := by decide +kernel
theorem dX7_bite_3 : decode cX7_bite 3 = .ok (.getfield 21, 3) := by decide +kernel
theorem dX7_bite_6 : decode cX7_bite 6 = .ok (.getfield 179, 3) := by decide +kernel
theorem dX7_bite_9 : decode cX7_bite 9 = .ok (.invokestatic 87, 3) := by decide +kernel
theorem dX7_bite_12 : decode cX7_bite 12 = .ok (.ifCond .ne 5, 3) := by decide +kernel
theorem dX7_bite_15 : decode cX7_bite 15 = .ok (.iconst (-1), 1) := by decide +kernel
theorem dX7_bite_16 : decode cX7_bite 16 = .ok (.ireturn, 1) := by decide +kernel
theorem dX7_bite_17 : decode cX7_bite 17 = .ok (.aload_n 0, 1) := by decide +kernel
theorem dX7_bite_18 : decode cX7_bite 18 = .ok (.getfield 21, 3) := by decide +kernel
theorem dX7_bite_21 : decode cX7_bite 21 = .ok (.getfield 179, 3) := by decide +kernel
theorem dX7_bite_24 : decode cX7_bite 24 = .ok (.istore_n 2, 1) := by decide +kernel
theorem dX7_bite_25 : decode cX7_bite 25 = .ok (.aload_n 0, 1) := by decide +kernel
theorem dX7_bite_26 : decode cX7_bite 26 = .ok (.getfield 21, 3) := by decide +kernel
theorem dX7_bite_29 : decode cX7_bite 29 = .ok (.iload_n 1, 1) := by decide +kernel
theorem dX7_bite_30 : decode cX7_bite 30 = .ok (.putfield 179, 3) := by decide +kernel
theorem dX7_bite_33 : decode cX7_bite 33 = .ok (.iload_n 2, 1) := by decide +kernel
theorem dX7_bite_34 : decode cX7_bite 34 = .ok (.ireturn, 1) := by decide +kernel
set_option maxRecDepth 20000 in
theorem ggX7_go_X7_refusalOf : GoodIn wsX7_go wsX7_refusalOf := goodIn_r _ [8, 9, 1, 2, 3, 10, 11, 12, 13, 14, 15, 16, 17, 18, 19, 20, 21, 22, 23, 24, 25, 26, 27, 28, 29, 30, 88, 89, 90, 91, 92, 93, 94, 95, 96, 97, 98, 99, 100, 101, 102, 103, 104, 105, 106, 107, 108, 109, 110, 111, 112, 113, 114, 115, 116, 117] (by decide +kernel) (by decide +kernel)
set_option maxRecDepth 20000 in
theorem gX7_go_X7_refusalOf : GoodIn wsX7_go (wsV RX7 182 RX7 yX7_refusalOf wsX7_refusalOf) := goodIn_app (goodIn_of _ (by decide +kernel)) ggX7_go_X7_refusalOf
set_option maxRecDepth 20000 in
theorem ggX7_go_X6_takeStep : GoodIn wsX7_go wsX6_takeStep := goodIn_r _ [34, 35, 36, 22, 37, 38, 39, 40, 41, 42, 18, 19, 20, 21, 23, 24, 25, 12, 13, 14, 15, 16, 26, 27, 28, 29, 30, 43, 44, 45, 46, 47, 48, 49, 50, 51, 52, 53, 54, 55, 56, 57, 58, 59, 60, 61, 62, 63, 64, 7, 65, 66, 67, 68, 69, 70, 71, 72, 73, 74, 75, 76, 77, 78, 79, 80, 81, 82, 83, 84, 85, 86, 87, 101, 102, 103, 104, 105, 106, 107, 108, 109, 110, 111, 112, 113, 114, 115, 116, 117] (by decide +kernel) (by decide +kernel)
set_option maxRecDepth 20000 in
theorem gX7_go_X6_takeStep : GoodIn wsX7_go (wsV RX7 185 RX6 yX6_takeStep wsX6_takeStep) := goodIn_app (goodIn_of _ (by decide +kernel)) ggX7_go_X6_takeStep
theorem dX7_go_0 : decode cX7_go 0 = .ok (.aload_n 0, 1) := by decide +kernel
theorem dX7_go_1 : decode cX7_go 1 = .ok (.iload_n 1, 1) := by decide +kernel
theorem dX7_go_2 : decode cX7_go 2 = .ok (.invokevirtual 182, 3) := by decide +kernel
theorem dX7_go_5 : decode cX7_go 5 = .ok (.istore_n 2, 1) := by decide +kernel
theorem dX7_go_6 : decode cX7_go 6 = .ok (.iload_n 2, 1) := by decide +kernel
theorem dX7_go_7 : decode cX7_go 7 = .ok (.ifCond .eq 5, 3) := by decide +kernel
theorem dX7_go_10 : decode cX7_go 10 = .ok (.iload_n 2, 1) := by decide +kernel
theorem dX7_go_11 : decode cX7_go 11 = .ok (.ireturn, 1) := by decide +kernel
theorem dX7_go_12 : decode cX7_go 12 = .ok (.aload_n 0, 1) := by decide +kernel
theorem dX7_go_13 : decode cX7_go 13 = .ok (.getfield 21, 3) := by decide +kernel
theorem dX7_go_16 : decode cX7_go 16 = .ok (.iload_n 1, 1) := by decide +kernel
theorem dX7_go_17 : decode cX7_go 17 = .ok (.invokevirtual 185, 3) := by decide +kernel
theorem dX7_go_20 : decode cX7_go 20 = .ok (.aload_n 0, 1) := by decide +kernel
theorem dX7_go_21 : decode cX7_go 21 = .ok (.getfield 21, 3) := by decide +kernel
theorem dX7_go_24 : decode cX7_go 24 = .ok (.getfield 143, 3) := by decide +kernel
theorem dX7_go_27 : decode cX7_go 27 = .ok (.ifCond .eq 16, 3) := by decide +kernel
theorem dX7_go_30 : decode cX7_go 30 = .ok (.bipush 10, 2) := by decide +kernel
theorem dX7_go_32 : decode cX7_go 32 = .ok (.aload_n 0, 1) := by decide +kernel
theorem dX7_go_33 : decode cX7_go 33 = .ok (.getfield 21, 3) := by decide +kernel
theorem dX7_go_36 : decode cX7_go 36 = .ok (.getfield 134, 3) := by decide +kernel
theorem dX7_go_39 : decode cX7_go 39 = .ok (.iadd, 1) := by decide +kernel
theorem dX7_go_40 : decode cX7_go 40 = .ok (.goto 10, 3) := by decide +kernel
theorem dX7_go_43 : decode cX7_go 43 = .ok (.aload_n 0, 1) := by decide +kernel
theorem dX7_go_44 : decode cX7_go 44 = .ok (.getfield 21, 3) := by decide +kernel
theorem dX7_go_47 : decode cX7_go 47 = .ok (.getfield 134, 3) := by decide +kernel
theorem dX7_go_50 : decode cX7_go 50 = .ok (.ireturn, 1) := by decide +kernel
set_option maxRecDepth 20000 in
theorem ggX7_refusalOf_X2_hasDoor : GoodIn wsX7_refusalOf wsX2_hasDoor := goodIn_r _ [10, 11, 50, 51, 52, 53, 54, 55] (by decide +kernel) (by decide +kernel)
set_option maxRecDepth 20000 in
theorem gX7_refusalOf_X2_hasDoor : GoodIn wsX7_refusalOf (wsV RX7 167 RX2 yX2_hasDoor wsX2_hasDoor) := goodIn_app (goodIn_of _ (by decide +kernel)) ggX7_refusalOf_X2_hasDoor
set_option maxRecDepth 20000 in
theorem ggX7_refusalOf_X6_across : GoodIn wsX7_refusalOf wsX6_across := goodIn_r _ [16, 17, 18, 19, 20, 7, 8, 9, 10, 11, 21, 22, 23, 15, 24, 25, 39, 40, 41, 42, 43, 44, 45, 46, 47, 48, 49, 50, 51, 52, 53, 54, 55] (by decide +kernel) (by decide +kernel)
set_option maxRecDepth 20000 in
theorem gX7_refusalOf_X6_across : GoodIn wsX7_refusalOf (wsV RX7 189 RX6 yX6_across wsX6_across) := goodIn_app (goodIn_of _ (by decide +kernel)) ggX7_refusalOf_X6_across
theorem dX7_refusalOf_0 : decode cX7_refusalOf 0 = .ok (.iload_n 1, 1) := by decide +kernel
theorem dX7_refusalOf_1 : decode cX7_refusalOf 1 = .ok (.bipush 10, 2) := by decide +kernel
theorem dX7_refusalOf_3 : decode cX7_refusalOf 3 = .ok (.if_icmp .eq 16, 3) := by decide +kernel
theorem dX7_refusalOf_6 : decode cX7_refusalOf 6 = .ok (.aload_n 0, 1) := by decide +kernel
theorem dX7_refusalOf_7 : decode cX7_refusalOf 7 = .ok (.getfield 12, 3) := by decide +kernel
theorem dX7_refusalOf_10 : decode cX7_refusalOf 10 = .ok (.iload_n 1, 1) := by decide +kernel
theorem dX7_refusalOf_11 : decode cX7_refusalOf 11 = .ok (.invokevirtual 167, 3) := by decide +kernel
theorem dX7_refusalOf_14 : decode cX7_refusalOf 14 = .ok (.ifCond .ne 5, 3) := by decide +kernel
theorem dX7_refusalOf_17 : decode cX7_refusalOf 17 = .ok (.iconst (-1), 1) := by decide +kernel
theorem dX7_refusalOf_18 : decode cX7_refusalOf 18 = .ok (.ireturn, 1) := by decide +kernel
theorem dX7_refusalOf_19 : decode cX7_refusalOf 19 = .ok (.aload_n 0, 1) := by decide +kernel
theorem dX7_refusalOf_20 : decode cX7_refusalOf 20 = .ok (.getfield 21, 3) := by decide +kernel
theorem dX7_refusalOf_23 : decode cX7_refusalOf 23 = .ok (.getfield 143, 3) := by decide +kernel
theorem dX7_refusalOf_26 : decode cX7_refusalOf 26 = .ok (.ifCond .ne 29, 3) := by decide +kernel
theorem dX7_refusalOf_29 : decode cX7_refusalOf 29 = .ok (.iload_n 1, 1) := by decide +kernel
theorem dX7_refusalOf_30 : decode cX7_refusalOf 30 = .ok (.bipush 10, 2) := by decide +kernel
theorem dX7_refusalOf_32 : decode cX7_refusalOf 32 = .ok (.if_icmp .eq 26, 3) := by decide +kernel
theorem dX7_refusalOf_35 : decode cX7_refusalOf 35 = .ok (.aload_n 0, 1) := by decide +kernel
theorem dX7_refusalOf_36 : decode cX7_refusalOf 36 = .ok (.getfield 21, 3) := by decide +kernel
theorem dX7_refusalOf_39 : decode cX7_refusalOf 39 = .ok (.iload_n 1, 1) := by decide +kernel
theorem dX7_refusalOf_40 : decode cX7_refusalOf 40 = .ok (.aload_n 0, 1) := by decide +kernel
theorem dX7_refusalOf_41 : decode cX7_refusalOf 41 = .ok (.getfield 21, 3) := by decide +kernel
theorem dX7_refusalOf_44 : decode cX7_refusalOf 44 = .ok (.getfield 134, 3) := by decide +kernel
theorem dX7_refusalOf_47 : decode cX7_refusalOf 47 = .ok (.invokevirtual 189, 3) := by decide +kernel
theorem dX7_refusalOf_50 : decode cX7_refusalOf 50 = .ok (.bipush (-4), 2) := by decide +kernel
theorem dX7_refusalOf_52 : decode cX7_refusalOf 52 = .ok (.if_icmp .ne 6, 3) := by decide +kernel
theorem dX7_refusalOf_55 : decode cX7_refusalOf 55 = .ok (.bipush (-2), 2) := by decide +kernel
theorem dX7_refusalOf_57 : decode cX7_refusalOf 57 = .ok (.ireturn, 1) := by decide +kernel
theorem dX7_refusalOf_58 : decode cX7_refusalOf 58 = .ok (.aload_n 0, 1) := by decide +kernel
theorem dX7_refusalOf_59 : decode cX7_refusalOf 59 = .ok (.getfield 21, 3) := by decide +kernel
theorem dX7_refusalOf_62 : decode cX7_refusalOf 62 = .ok (.getfield 131, 3) := by decide +kernel
theorem dX7_refusalOf_65 : decode cX7_refusalOf 65 = .ok (.sipush 999, 3) := by decide +kernel
theorem dX7_refusalOf_68 : decode cX7_refusalOf 68 = .ok (.if_icmp .lt 8, 3) := by decide +kernel
theorem dX7_refusalOf_71 : decode cX7_refusalOf 71 = .ok (.bipush (-3), 2) := by decide +kernel
theorem dX7_refusalOf_73 : decode cX7_refusalOf 73 = .ok (.goto 4, 3) := by decide +kernel
theorem dX7_refusalOf_76 : decode cX7_refusalOf 76 = .ok (.iconst 0, 1) := by decide +kernel
theorem dX7_refusalOf_77 : decode cX7_refusalOf 77 = .ok (.ireturn, 1) := by decide +kernel
set_option maxRecDepth 20000 in
theorem ggX7_dusk_X7_isWithin : GoodIn wsX7_dusk wsX7_isWithin := goodIn_r _ [6] (by decide +kernel) (by decide +kernel)
