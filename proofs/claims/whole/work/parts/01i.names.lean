theorem dX8_readOnce_7 : decode cX8_readOnce 7 = .ok (.bipush 7, 2) := by decide +kernel
theorem dX8_readOnce_9 : decode cX8_readOnce 9 = .ok (.iconst 0, 1) := by decide +kernel
theorem dX8_readOnce_10 : decode cX8_readOnce 10 = .ok (.invokevirtual 113, 3) := by decide +kernel
theorem dX8_readOnce_13 : decode cX8_readOnce 13 = .ok (.putfield 139, 3) := by decide +kernel
theorem dX8_readOnce_16 : decode cX8_readOnce 16 = .ok (.goto 73, 3) := by decide +kernel
theorem dX8_readOnce_19 : decode cX8_readOnce 19 = .ok (.iload_n 1, 1) := by decide +kernel
theorem dX8_readOnce_20 : decode cX8_readOnce 20 = .ok (.iconst 2, 1) := by decide +kernel
theorem dX8_readOnce_21 : decode cX8_readOnce 21 = .ok (.if_icmp .ne 23, 3) := by decide +kernel
theorem dX8_readOnce_24 : decode cX8_readOnce 24 = .ok (.aload_n 0, 1) := by decide +kernel
theorem dX8_readOnce_25 : decode cX8_readOnce 25 = .ok (.getfield 23, 3) := by decide +kernel
theorem dX8_readOnce_28 : decode cX8_readOnce 28 = .ok (.bipush 30, 2) := by decide +kernel
theorem dX8_readOnce_30 : decode cX8_readOnce 30 = .ok (.aload_n 0, 1) := by decide +kernel
theorem dX8_readOnce_31 : decode cX8_readOnce 31 = .ok (.iconst 1, 1) := by decide +kernel
theorem dX8_readOnce_32 : decode cX8_readOnce 32 = .ok (.bipush 6, 2) := by decide +kernel
theorem dX8_readOnce_34 : decode cX8_readOnce 34 = .ok (.iconst 0, 1) := by decide +kernel
theorem dX8_readOnce_35 : decode cX8_readOnce 35 = .ok (.invokevirtual 113, 3) := by decide +kernel
theorem dX8_readOnce_38 : decode cX8_readOnce 38 = .ok (.iconst 1, 1) := by decide +kernel
theorem dX8_readOnce_39 : decode cX8_readOnce 39 = .ok (.isub, 1) := by decide +kernel
theorem dX8_readOnce_40 : decode cX8_readOnce 40 = .ok (.iastore, 1) := by decide +kernel
theorem dX8_readOnce_41 : decode cX8_readOnce 41 = .ok (.goto 48, 3) := by decide +kernel
theorem dX8_readOnce_44 : decode cX8_readOnce 44 = .ok (.iload_n 1, 1) := by decide +kernel
theorem dX8_readOnce_45 : decode cX8_readOnce 45 = .ok (.bipush 6, 2) := by decide +kernel
theorem dX8_readOnce_47 : decode cX8_readOnce 47 = .ok (.if_icmp .ne 17, 3) := by decide +kernel
theorem dX8_readOnce_50 : decode cX8_readOnce 50 = .ok (.aload_n 0, 1) := by decide +kernel
theorem dX8_readOnce_51 : decode cX8_readOnce 51 = .ok (.getfield 23, 3) := by decide +kernel
theorem dX8_readOnce_54 : decode cX8_readOnce 54 = .ok (.bipush 31, 2) := by decide +kernel
theorem dX8_readOnce_56 : decode cX8_readOnce 56 = .ok (.aload_n 0, 1) := by decide +kernel
theorem dX8_readOnce_57 : decode cX8_readOnce 57 = .ok (.invokevirtual 126, 3) := by decide +kernel
theorem dX8_readOnce_60 : decode cX8_readOnce 60 = .ok (.iastore, 1) := by decide +kernel
theorem dX8_readOnce_61 : decode cX8_readOnce 61 = .ok (.goto 28, 3) := by decide +kernel
theorem dX8_readOnce_64 : decode cX8_readOnce 64 = .ok (.iload_n 1, 1) := by decide +kernel
theorem dX8_readOnce_65 : decode cX8_readOnce 65 = .ok (.bipush 7, 2) := by decide +kernel
theorem dX8_readOnce_67 : decode cX8_readOnce 67 = .ok (.if_icmp .ne 10, 3) := by decide +kernel
theorem dX8_readOnce_70 : decode cX8_readOnce 70 = .ok (.aload_n 0, 1) := by decide +kernel
theorem dX8_readOnce_71 : decode cX8_readOnce 71 = .ok (.invokevirtual 142, 3) := by decide +kernel
theorem dX8_readOnce_74 : decode cX8_readOnce 74 = .ok (.goto 15, 3) := by decide +kernel
theorem dX8_readOnce_77 : decode cX8_readOnce 77 = .ok (.aload_n 0, 1) := by decide +kernel
theorem dX8_readOnce_78 : decode cX8_readOnce 78 = .ok (.aload_n 0, 1) := by decide +kernel
theorem dX8_readOnce_79 : decode cX8_readOnce 79 = .ok (.iconst 0, 1) := by decide +kernel
theorem dX8_readOnce_80 : decode cX8_readOnce 80 = .ok (.bipush 12, 2) := by decide +kernel
theorem dX8_readOnce_82 : decode cX8_readOnce 82 = .ok (.iconst 0, 1) := by decide +kernel
theorem dX8_readOnce_83 : decode cX8_readOnce 83 = .ok (.invokevirtual 113, 3) := by decide +kernel
theorem dX8_readOnce_86 : decode cX8_readOnce 86 = .ok (.putfield 145, 3) := by decide +kernel
theorem dX8_readOnce_89 : decode cX8_readOnce 89 = .ok (.return_, 1) := by decide +kernel
set_option maxRecDepth 20000 in
theorem ggX8_readLine_X8_nameHere : GoodIn wsX8_readLine wsX8_nameHere := goodIn_r _ [13, 8, 14, 15, 16, 17, 18, 19, 20, 12, 21, 22, 23, 75, 76, 77, 78, 79, 80, 81, 82, 83, 84, 85, 86, 87, 88, 89, 90, 91, 92, 93, 94, 95, 96, 97, 98, 99, 100, 101, 102, 103, 104, 105, 106, 107, 108, 109, 110, 111, 112, 113] (by decide +kernel) (by decide +kernel)
set_option maxRecDepth 20000 in
theorem gX8_readLine_X8_nameHere : GoodIn wsX8_readLine (wsV RX8 130 RX8 yX8_nameHere wsX8_nameHere) := goodIn_app (goodIn_of _ (by decide +kernel)) ggX8_readLine_X8_nameHere
set_option maxRecDepth 20000 in
theorem ggX8_readLine_X8_in : GoodIn wsX8_readLine wsX8_in := goodIn_r _ [26] (by decide +kernel) (by decide +kernel)
set_option maxRecDepth 20000 in
theorem gX8_readLine_X8_in : GoodIn wsX8_readLine (va_wsS RX8 72 yX8_in wsX8_in) := goodIn_app (goodIn_of _ (by decide +kernel)) ggX8_readLine_X8_in
set_option maxRecDepth 20000 in
theorem ggX8_readLine_X8_fails : GoodIn wsX8_readLine wsX8_fails := goodIn_r _ [30, 7, 15, 31, 75, 76, 77, 78, 79, 80, 81, 82, 83, 84, 85, 86, 87, 88, 89, 90, 91, 92, 93, 94, 95, 96, 97, 98, 99, 100, 101, 102, 103, 104, 105, 106, 107, 108, 109, 110, 111, 112, 113] (by decide +kernel) (by decide +kernel)
set_option maxRecDepth 20000 in
theorem gX8_readLine_X8_fails : GoodIn wsX8_readLine (wsV RX8 106 RX8 yX8_fails wsX8_fails) := goodIn_app (goodIn_of _ (by decide +kernel)) ggX8_readLine_X8_fails
set_option maxRecDepth 20000 in
theorem ggX8_readLine_X8_step : GoodIn wsX8_readLine wsX8_step := goodIn_r _ [35, 7, 14, 15, 36, 8, 37, 38, 39, 40, 18, 19, 20, 12, 21, 22, 23, 24, 25, 26, 27, 28, 29, 30, 31, 75, 76, 77, 78, 79, 80, 81, 82, 83, 84, 85, 86, 87, 88, 89, 90, 91, 92, 93, 94, 95, 96, 97, 98, 99, 100, 101, 102, 103, 104, 105, 106, 107, 108, 109, 110, 111, 112, 113] (by decide +kernel) (by decide +kernel)
set_option maxRecDepth 20000 in
theorem gX8_readLine_X8_step : GoodIn wsX8_readLine (wsV RX8 110 RX8 yX8_step wsX8_step) := goodIn_app (goodIn_of _ (by decide +kernel)) ggX8_readLine_X8_step
set_option maxRecDepth 20000 in
theorem ggX8_readLine_X8_readDoor : GoodIn wsX8_readLine wsX8_readDoor := goodIn_r _ [44, 4, 45, 7, 8, 46, 47, 48, 12, 49, 50, 51, 52, 53, 54, 36, 27, 28, 29, 30, 15, 31, 24, 25, 26, 32, 33, 34, 35, 14, 37, 38, 39, 40, 18, 19, 20, 21, 22, 23, 9, 10, 11, 13, 16, 17, 75, 76, 77, 78, 79, 80, 81, 82, 83, 84, 85, 86, 87, 88, 89, 90, 91, 92, 93, 94, 95, 96, 97, 98, 99, 100, 101, 102, 103, 104, 105, 106, 107, 108, 109, 110, 111, 112, 113] (by decide +kernel) (by decide +kernel)
set_option maxRecDepth 20000 in
theorem gX8_readLine_X8_readDoor : GoodIn wsX8_readLine (wsV RX8 157 RX8 yX8_readDoor wsX8_readDoor) := goodIn_app (goodIn_of _ (by decide +kernel)) ggX8_readLine_X8_readDoor
set_option maxRecDepth 20000 in
theorem ggX8_readLine_X8_readRule : GoodIn wsX8_readLine wsX8_readRule := goodIn_r _ [58, 5, 59, 60, 61, 62, 12, 63, 64, 51, 52, 53, 54, 7, 8, 36, 27, 28, 29, 30, 15, 31, 24, 25, 26, 32, 33, 34, 35, 14, 37, 38, 39, 40, 18, 19, 20, 21, 22, 23, 75, 76, 77, 78, 79, 80, 81, 82, 83, 84, 85, 86, 87, 88, 89, 90, 91, 92, 93, 94, 95, 96, 97, 98, 99, 100, 101, 102, 103, 104, 105, 106, 107, 108, 109, 110, 111, 112, 113] (by decide +kernel) (by decide +kernel)
set_option maxRecDepth 20000 in
theorem gX8_readLine_X8_readRule : GoodIn wsX8_readLine (wsV RX8 160 RX8 yX8_readRule wsX8_readRule) := goodIn_app (goodIn_of _ (by decide +kernel)) ggX8_readLine_X8_readRule
set_option maxRecDepth 20000 in
theorem ggX8_readLine_X8_readOnce : GoodIn wsX8_readLine wsX8_readOnce := goodIn_r _ [68, 69, 45, 70, 51, 52, 53, 12, 54, 7, 8, 36, 27, 28, 29, 30, 15, 31, 24, 25, 26, 32, 33, 34, 35, 14, 37, 38, 39, 40, 18, 19, 20, 21, 22, 23, 46, 47, 48, 49, 50, 71, 72, 73, 74, 9, 10, 11, 13, 16, 17, 75, 76, 77, 78, 79, 80, 81, 82, 83, 84, 85, 86, 87, 88, 89, 90, 91, 92, 93, 94, 95, 96, 97, 98, 99, 100, 101, 102, 103, 104, 105, 106, 107, 108, 109, 110, 111, 112, 113] (by decide +kernel) (by decide +kernel)
set_option maxRecDepth 20000 in
theorem gX8_readLine_X8_readOnce : GoodIn wsX8_readLine (wsV RX8 163 RX8 yX8_readOnce wsX8_readOnce) := goodIn_app (goodIn_of _ (by decide +kernel)) ggX8_readLine_X8_readOnce
theorem dX8_readLine_0 : decode cX8_readLine 0 = .ok (.aload_n 0, 1) := by decide +kernel
theorem dX8_readLine_1 : decode cX8_readLine 1 = .ok (.invokevirtual 130, 3) := by decide +kernel
theorem dX8_readLine_4 : decode cX8_readLine 4 = .ok (.istore_n 1, 1) := by decide +kernel
theorem dX8_readLine_5 : decode cX8_readLine 5 = .ok (.iload_n 1, 1) := by decide +kernel
theorem dX8_readLine_6 : decode cX8_readLine 6 = .ok (.i2l, 1) := by decide +kernel
theorem dX8_readLine_7 : decode cX8_readLine 7 = .ok (.lconst 0, 1) := by decide +kernel
theorem dX8_readLine_8 : decode cX8_readLine 8 = .ok (.ldc2_w 148, 3) := by decide +kernel
theorem dX8_readLine_11 : decode cX8_readLine 11 = .ok (.invokestatic 72, 3) := by decide +kernel
theorem dX8_readLine_14 : decode cX8_readLine 14 = .ok (.ifCond .ne 9, 3) := by decide +kernel
theorem dX8_readLine_17 : decode cX8_readLine 17 = .ok (.aload_n 0, 1) := by decide +kernel
theorem dX8_readLine_18 : decode cX8_readLine 18 = .ok (.iconst 2, 1) := by decide +kernel
theorem dX8_readLine_19 : decode cX8_readLine 19 = .ok (.invokevirtual 106, 3) := by decide +kernel
theorem dX8_readLine_22 : decode cX8_readLine 22 = .ok (.return_, 1) := by decide +kernel
theorem dX8_readLine_23 : decode cX8_readLine 23 = .ok (.iload_n 1, 1) := by decide +kernel
theorem dX8_readLine_24 : decode cX8_readLine 24 = .ok (.i2l, 1) := by decide +kernel
theorem dX8_readLine_25 : decode cX8_readLine 25 = .ok (.ldc2_w 150, 3) := by decide +kernel
theorem dX8_readLine_28 : decode cX8_readLine 28 = .ok (.ldc2_w 152, 3) := by decide +kernel
theorem dX8_readLine_31 : decode cX8_readLine 31 = .ok (.invokestatic 72, 3) := by decide +kernel
theorem dX8_readLine_34 : decode cX8_readLine 34 = .ok (.istore_n 2, 1) := by decide +kernel
theorem dX8_readLine_35 : decode cX8_readLine 35 = .ok (.iload_n 1, 1) := by decide +kernel
theorem dX8_readLine_36 : decode cX8_readLine 36 = .ok (.iconst 1, 1) := by decide +kernel
theorem dX8_readLine_37 : decode cX8_readLine 37 = .ok (.if_icmp .ne 12, 3) := by decide +kernel
theorem dX8_readLine_40 : decode cX8_readLine 40 = .ok (.aload_n 0, 1) := by decide +kernel
theorem dX8_readLine_41 : decode cX8_readLine 41 = .ok (.getfield 123, 3) := by decide +kernel
theorem dX8_readLine_44 : decode cX8_readLine 44 = .ok (.bipush 10, 2) := by decide +kernel
theorem dX8_readLine_46 : decode cX8_readLine 46 = .ok (.if_icmp .eq 16, 3) := by decide +kernel
theorem dX8_readLine_49 : decode cX8_readLine 49 = .ok (.iload_n 2, 1) := by decide +kernel
theorem dX8_readLine_50 : decode cX8_readLine 50 = .ok (.ifCond .eq 17, 3) := by decide +kernel
theorem dX8_readLine_53 : decode cX8_readLine 53 = .ok (.aload_n 0, 1) := by decide +kernel
theorem dX8_readLine_54 : decode cX8_readLine 54 = .ok (.getfield 133, 3) := by decide +kernel
theorem dX8_readLine_57 : decode cX8_readLine 57 = .ok (.bipush 6, 2) := by decide +kernel
theorem dX8_readLine_59 : decode cX8_readLine 59 = .ok (.if_icmp .ne 8, 3) := by decide +kernel
theorem dX8_readLine_62 : decode cX8_readLine 62 = .ok (.aload_n 0, 1) := by decide +kernel
theorem dX8_readLine_63 : decode cX8_readLine 63 = .ok (.iconst 5, 1) := by decide +kernel
theorem dX8_readLine_64 : decode cX8_readLine 64 = .ok (.invokevirtual 106, 3) := by decide +kernel
theorem dX8_readLine_67 : decode cX8_readLine 67 = .ok (.iload_n 1, 1) := by decide +kernel
theorem dX8_readLine_68 : decode cX8_readLine 68 = .ok (.iconst 1, 1) := by decide +kernel
theorem dX8_readLine_69 : decode cX8_readLine 69 = .ok (.if_icmp .eq 24, 3) := by decide +kernel
theorem dX8_readLine_72 : decode cX8_readLine 72 = .ok (.iload_n 2, 1) := by decide +kernel
theorem dX8_readLine_73 : decode cX8_readLine 73 = .ok (.ifCond .ne 20, 3) := by decide +kernel
theorem dX8_readLine_76 : decode cX8_readLine 76 = .ok (.aload_n 0, 1) := by decide +kernel
theorem dX8_readLine_77 : decode cX8_readLine 77 = .ok (.getfield 154, 3) := by decide +kernel
theorem dX8_readLine_80 : decode cX8_readLine 80 = .ok (.iload_n 1, 1) := by decide +kernel
theorem dX8_readLine_81 : decode cX8_readLine 81 = .ok (.ishr, 1) := by decide +kernel
theorem dX8_readLine_82 : decode cX8_readLine 82 = .ok (.iconst 1, 1) := by decide +kernel
theorem dX8_readLine_83 : decode cX8_readLine 83 = .ok (.iand, 1) := by decide +kernel
theorem dX8_readLine_84 : decode cX8_readLine 84 = .ok (.iconst 1, 1) := by decide +kernel
theorem dX8_readLine_85 : decode cX8_readLine 85 = .ok (.if_icmp .ne 8, 3) := by decide +kernel
theorem dX8_readLine_88 : decode cX8_readLine 88 = .ok (.aload_n 0, 1) := by decide +kernel
theorem dX8_readLine_89 : decode cX8_readLine 89 = .ok (.iconst 4, 1) := by decide +kernel
theorem dX8_readLine_90 : decode cX8_readLine 90 = .ok (.invokevirtual 106, 3) := by decide +kernel
theorem dX8_readLine_93 : decode cX8_readLine 93 = .ok (.aload_n 0, 1) := by decide +kernel
theorem dX8_readLine_94 : decode cX8_readLine 94 = .ok (.dup, 1) := by decide +kernel
theorem dX8_readLine_95 : decode cX8_readLine 95 = .ok (.getfield 154, 3) := by decide +kernel
theorem dX8_readLine_98 : decode cX8_readLine 98 = .ok (.iconst 1, 1) := by decide +kernel
theorem dX8_readLine_99 : decode cX8_readLine 99 = .ok (.iload_n 1, 1) := by decide +kernel
theorem dX8_readLine_100 : decode cX8_readLine 100 = .ok (.ishl, 1) := by decide +kernel
theorem dX8_readLine_101 : decode cX8_readLine 101 = .ok (.ior, 1) := by decide +kernel
theorem dX8_readLine_102 : decode cX8_readLine 102 = .ok (.putfield 154, 3) := by decide +kernel
theorem dX8_readLine_105 : decode cX8_readLine 105 = .ok (.aload_n 0, 1) := by decide +kernel
theorem dX8_readLine_106 : decode cX8_readLine 106 = .ok (.invokevirtual 110, 3) := by decide +kernel
theorem dX8_readLine_109 : decode cX8_readLine 109 = .ok (.aload_n 0, 1) := by decide +kernel
theorem dX8_readLine_110 : decode cX8_readLine 110 = .ok (.getfield 76, 3) := by decide +kernel
theorem dX8_readLine_113 : decode cX8_readLine 113 = .ok (.ifCond .le 4, 3) := by decide +kernel
theorem dX8_readLine_116 : decode cX8_readLine 116 = .ok (.return_, 1) := by decide +kernel
theorem dX8_readLine_117 : decode cX8_readLine 117 = .ok (.iload_n 1, 1) := by decide +kernel
theorem dX8_readLine_118 : decode cX8_readLine 118 = .ok (.iconst 1, 1) := by decide +kernel
theorem dX8_readLine_119 : decode cX8_readLine 119 = .ok (.if_icmp .ne 10, 3) := by decide +kernel
theorem dX8_readLine_122 : decode cX8_readLine 122 = .ok (.aload_n 0, 1) := by decide +kernel
theorem dX8_readLine_123 : decode cX8_readLine 123 = .ok (.invokevirtual 157, 3) := by decide +kernel
theorem dX8_readLine_126 : decode cX8_readLine 126 = .ok (.goto 20, 3) := by decide +kernel
theorem dX8_readLine_129 : decode cX8_readLine 129 = .ok (.iload_n 2, 1) := by decide +kernel
theorem dX8_readLine_130 : decode cX8_readLine 130 = .ok (.ifCond .eq 11, 3) := by decide +kernel
theorem dX8_readLine_133 : decode cX8_readLine 133 = .ok (.aload_n 0, 1) := by decide +kernel
theorem dX8_readLine_134 : decode cX8_readLine 134 = .ok (.iload_n 1, 1) := by decide +kernel
theorem dX8_readLine_135 : decode cX8_readLine 135 = .ok (.invokevirtual 160, 3) := by decide +kernel
theorem dX8_readLine_138 : decode cX8_readLine 138 = .ok (.goto 8, 3) := by decide +kernel
theorem dX8_readLine_141 : decode cX8_readLine 141 = .ok (.aload_n 0, 1) := by decide +kernel
theorem dX8_readLine_142 : decode cX8_readLine 142 = .ok (.iload_n 1, 1) := by decide +kernel
theorem dX8_readLine_143 : decode cX8_readLine 143 = .ok (.invokevirtual 163, 3) := by decide +kernel
theorem dX8_readLine_146 : decode cX8_readLine 146 = .ok (.aload_n 0, 1) := by decide +kernel
theorem dX8_readLine_147 : decode cX8_readLine 147 = .ok (.getfield 76, 3) := by decide +kernel
theorem dX8_readLine_150 : decode cX8_readLine 150 = .ok (.ifCond .ne 16, 3) := by decide +kernel
theorem dX8_readLine_153 : decode cX8_readLine 153 = .ok (.aload_n 0, 1) := by decide +kernel
theorem dX8_readLine_154 : decode cX8_readLine 154 = .ok (.getfield 85, 3) := by decide +kernel
theorem dX8_readLine_157 : decode cX8_readLine 157 = .ok (.iconst 3, 1) := by decide +kernel
theorem dX8_readLine_158 : decode cX8_readLine 158 = .ok (.if_icmp .eq 8, 3) := by decide +kernel
theorem dX8_readLine_161 : decode cX8_readLine 161 = .ok (.aload_n 0, 1) := by decide +kernel
theorem dX8_readLine_162 : decode cX8_readLine 162 = .ok (.iconst 2, 1) := by decide +kernel
theorem dX8_readLine_163 : decode cX8_readLine 163 = .ok (.invokevirtual 106, 3) := by decide +kernel
theorem dX8_readLine_166 : decode cX8_readLine 166 = .ok (.aload_n 0, 1) := by decide +kernel
theorem dX8_readLine_167 : decode cX8_readLine 167 = .ok (.invokevirtual 110, 3) := by decide +kernel
theorem dX8_readLine_170 : decode cX8_readLine 170 = .ok (.return_, 1) := by decide +kernel
theorem dX8_beginsText_0 : decode cX8_beginsText 0 = .ok (.aload_n 0, 1) := by decide +kernel
theorem dX8_beginsText_1 : decode cX8_beginsText 1 = .ok (.iconst 0, 1) := by decide +kernel
theorem dX8_beginsText_2 : decode cX8_beginsText 2 = .ok (.putfield 76, 3) := by decide +kernel
theorem dX8_beginsText_5 : decode cX8_beginsText 5 = .ok (.aload_n 0, 1) := by decide +kernel
theorem dX8_beginsText_6 : decode cX8_beginsText 6 = .ok (.iconst 0, 1) := by decide +kernel
theorem dX8_beginsText_7 : decode cX8_beginsText 7 = .ok (.putfield 88, 3) := by decide +kernel
theorem dX8_beginsText_10 : decode cX8_beginsText 10 = .ok (.aload_n 0, 1) := by decide +kernel
theorem dX8_beginsText_11 : decode cX8_beginsText 11 = .ok (.iconst 2, 1) := by decide +kernel
theorem dX8_beginsText_12 : decode cX8_beginsText 12 = .ok (.putfield 139, 3) := by decide +kernel
theorem dX8_beginsText_15 : decode cX8_beginsText 15 = .ok (.aload_n 0, 1) := by decide +kernel
theorem dX8_beginsText_16 : decode cX8_beginsText 16 = .ok (.iconst 0, 1) := by decide +kernel
theorem dX8_beginsText_17 : decode cX8_beginsText 17 = .ok (.putfield 123, 3) := by decide +kernel
theorem dX8_beginsText_20 : decode cX8_beginsText 20 = .ok (.aload_n 0, 1) := by decide +kernel
theorem dX8_beginsText_21 : decode cX8_beginsText 21 = .ok (.bipush 12, 2) := by decide +kernel
theorem dX8_beginsText_23 : decode cX8_beginsText 23 = .ok (.putfield 145, 3) := by decide +kernel
theorem dX8_beginsText_26 : decode cX8_beginsText 26 = .ok (.aload_n 0, 1) := by decide +kernel
theorem dX8_beginsText_27 : decode cX8_beginsText 27 = .ok (.iconst 0, 1) := by decide +kernel
theorem dX8_beginsText_28 : decode cX8_beginsText 28 = .ok (.putfield 133, 3) := by decide +kernel
theorem dX8_beginsText_31 : decode cX8_beginsText 31 = .ok (.aload_n 0, 1) := by decide +kernel
theorem dX8_beginsText_32 : decode cX8_beginsText 32 = .ok (.iconst 0, 1) := by decide +kernel
theorem dX8_beginsText_33 : decode cX8_beginsText 33 = .ok (.putfield 154, 3) := by decide +kernel
theorem dX8_beginsText_36 : decode cX8_beginsText 36 = .ok (.aload_n 0, 1) := by decide +kernel
theorem dX8_beginsText_37 : decode cX8_beginsText 37 = .ok (.iconst (-1), 1) := by decide +kernel
theorem dX8_beginsText_38 : decode cX8_beginsText 38 = .ok (.putfield 117, 3) := by decide +kernel
theorem dX8_beginsText_41 : decode cX8_beginsText 41 = .ok (.aload_n 0, 1) := by decide +kernel
theorem dX8_beginsText_42 : decode cX8_beginsText 42 = .ok (.iconst (-1), 1) := by decide +kernel
theorem dX8_beginsText_43 : decode cX8_beginsText 43 = .ok (.putfield 120, 3) := by decide +kernel
theorem dX8_beginsText_46 : decode cX8_beginsText 46 = .ok (.iconst 0, 1) := by decide +kernel
theorem dX8_beginsText_47 : decode cX8_beginsText 47 = .ok (.istore_n 1, 1) := by decide +kernel
theorem dX8_beginsText_48 : decode cX8_beginsText 48 = .ok (.iload_n 1, 1) := by decide +kernel
theorem dX8_beginsText_49 : decode cX8_beginsText 49 = .ok (.bipush 49, 2) := by decide +kernel
theorem dX8_beginsText_51 : decode cX8_beginsText 51 = .ok (.if_icmp .ge 16, 3) := by decide +kernel
theorem dX8_beginsText_54 : decode cX8_beginsText 54 = .ok (.aload_n 0, 1) := by decide +kernel
theorem dX8_beginsText_55 : decode cX8_beginsText 55 = .ok (.getfield 23, 3) := by decide +kernel
theorem dX8_beginsText_58 : decode cX8_beginsText 58 = .ok (.iload_n 1, 1) := by decide +kernel
theorem dX8_beginsText_59 : decode cX8_beginsText 59 = .ok (.iconst 0, 1) := by decide +kernel
theorem dX8_beginsText_60 : decode cX8_beginsText 60 = .ok (.iastore, 1) := by decide +kernel
theorem dX8_beginsText_61 : decode cX8_beginsText 61 = .ok (.iinc 1 1, 3) := by decide +kernel
theorem dX8_beginsText_64 : decode cX8_beginsText 64 = .ok (.goto (-16), 3) := by decide +kernel
theorem dX8_beginsText_67 : decode cX8_beginsText 67 = .ok (.return_, 1) := by decide +kernel
set_option maxRecDepth 20000 in
theorem ggX8_text_X8_beginsText : GoodIn wsX8_text wsX8_beginsText := goodIn_r _ [27, 1, 28, 4, 6, 16, 18, 29, 3, 5, 7, 93, 94, 95, 96, 97, 98, 99, 100, 101, 102, 103, 104, 105, 106, 107, 108, 109, 110, 111, 112, 113, 114, 115, 116, 117, 118, 119, 120, 121, 122, 123, 124, 125, 126, 127, 128, 129, 130, 131] (by decide +kernel) (by decide +kernel)
set_option maxRecDepth 20000 in
theorem gX8_text_X8_beginsText : GoodIn wsX8_text (wsV RX8 166 RX8 yX8_beginsText wsX8_beginsText) := goodIn_app (goodIn_of _ (by decide +kernel)) ggX8_text_X8_beginsText
set_option maxRecDepth 20000 in
theorem ggX8_text_X8_step : GoodIn wsX8_text wsX8_step := goodIn_r _ [33, 1, 28, 34, 35, 2, 36, 37, 38, 39, 40, 41, 42, 26, 43, 8, 44, 45, 46, 47, 48, 49, 50, 51, 10, 93, 94, 95, 96, 97, 98, 99, 100, 101, 102, 103, 104, 105, 106, 107, 108, 109, 110, 111, 112, 113, 114, 115, 116, 117, 118, 119, 120, 121, 122, 123, 124, 125, 126, 127, 128, 129, 130, 131] (by decide +kernel) (by decide +kernel)
set_option maxRecDepth 20000 in
theorem gX8_text_X8_step : GoodIn wsX8_text (wsV RX8 110 RX8 yX8_step wsX8_step) := goodIn_app (goodIn_of _ (by decide +kernel)) ggX8_text_X8_step
set_option maxRecDepth 20000 in
theorem ggX8_text_X8_readLine : GoodIn wsX8_text wsX8_readLine := goodIn_r _ [55, 56, 57, 58, 6, 18, 29, 1, 2, 59, 60, 61, 26, 62, 28, 34, 63, 64, 40, 41, 42, 43, 8, 44, 45, 46, 47, 48, 49, 50, 51, 10, 30, 31, 32, 33, 35, 36, 37, 38, 39, 65, 66, 67, 68, 7, 69, 70, 71, 72, 3, 73, 74, 75, 76, 77, 78, 79, 80, 13, 81, 82, 83, 84, 5, 85, 86, 87, 88, 4, 16, 89, 90, 91, 92, 93, 94, 95, 96, 97, 98, 99, 100, 101, 102, 103, 104, 105, 106, 107, 108, 109, 110, 111, 112, 113, 114, 115, 116, 117, 118, 119, 120, 121, 122, 123, 124, 125, 126, 127, 128, 129, 130, 131] (by decide +kernel) (by decide +kernel)
set_option maxRecDepth 20000 in
theorem gX8_text_X8_readLine : GoodIn wsX8_text (wsV RX8 169 RX8 yX8_readLine wsX8_readLine) := goodIn_app (goodIn_of _ (by decide +kernel)) ggX8_text_X8_readLine
set_option maxRecDepth 20000 in
theorem ggX8_text_X8_fails : GoodIn wsX8_text wsX8_fails := goodIn_r _ [51, 1, 34, 10, 93, 94, 95, 96, 97, 98, 99, 100, 101, 102, 103, 104, 105, 106, 107, 108, 109, 110, 111, 112, 113, 114, 115, 116, 117, 118, 119, 120, 121, 122, 123, 124, 125, 126, 127, 128, 129, 130, 131] (by decide +kernel) (by decide +kernel)
set_option maxRecDepth 20000 in
theorem gX8_text_X8_fails : GoodIn wsX8_text (wsV RX8 106 RX8 yX8_fails wsX8_fails) := goodIn_app (goodIn_of _ (by decide +kernel)) ggX8_text_X8_fails
theorem dX8_text_0 : decode cX8_text 0 = .ok (.aload_n 0, 1) := by decide +kernel
theorem dX8_text_1 : decode cX8_text 1 = .ok (.invokevirtual 166, 3) := by decide +kernel
theorem dX8_text_4 : decode cX8_text 4 = .ok (.iconst 0, 1) := by decide +kernel
theorem dX8_text_5 : decode cX8_text 5 = .ok (.istore_n 1, 1) := by decide +kernel
theorem dX8_text_6 : decode cX8_text 6 = .ok (.aload_n 0, 1) := by decide +kernel
theorem dX8_text_7 : decode cX8_text 7 = .ok (.invokevirtual 110, 3) := by decide +kernel
theorem dX8_text_10 : decode cX8_text 10 = .ok (.aload_n 0, 1) := by decide +kernel
theorem dX8_text_11 : decode cX8_text 11 = .ok (.getfield 76, 3) := by decide +kernel
theorem dX8_text_14 : decode cX8_text 14 = .ok (.ifCond .ne 20, 3) := by decide +kernel
theorem dX8_text_17 : decode cX8_text 17 = .ok (.aload_n 0, 1) := by decide +kernel
theorem dX8_text_18 : decode cX8_text 18 = .ok (.getfield 85, 3) := by decide +kernel
theorem dX8_text_21 : decode cX8_text 21 = .ok (.ifCond .eq 13, 3) := by decide +kernel
theorem dX8_text_24 : decode cX8_text 24 = .ok (.aload_n 0, 1) := by decide +kernel
theorem dX8_text_25 : decode cX8_text 25 = .ok (.invokevirtual 169, 3) := by decide +kernel
theorem dX8_text_28 : decode cX8_text 28 = .ok (.iinc 1 1, 3) := by decide +kernel
theorem dX8_text_31 : decode cX8_text 31 = .ok (.goto (-21), 3) := by decide +kernel
theorem dX8_text_34 : decode cX8_text 34 = .ok (.aload_n 0, 1) := by decide +kernel
theorem dX8_text_35 : decode cX8_text 35 = .ok (.getfield 76, 3) := by decide +kernel
theorem dX8_text_38 : decode cX8_text 38 = .ok (.ifCond .ne 31, 3) := by decide +kernel
theorem dX8_text_41 : decode cX8_text 41 = .ok (.aload_n 0, 1) := by decide +kernel
theorem dX8_text_42 : decode cX8_text 42 = .ok (.getfield 117, 3) := by decide +kernel
theorem dX8_text_45 : decode cX8_text 45 = .ok (.aload_n 0, 1) := by decide +kernel
theorem dX8_text_46 : decode cX8_text 46 = .ok (.getfield 139, 3) := by decide +kernel
theorem dX8_text_49 : decode cX8_text 49 = .ok (.if_icmp .ge 14, 3) := by decide +kernel
theorem dX8_text_52 : decode cX8_text 52 = .ok (.aload_n 0, 1) := by decide +kernel
theorem dX8_text_53 : decode cX8_text 53 = .ok (.getfield 120, 3) := by decide +kernel
theorem dX8_text_56 : decode cX8_text 56 = .ok (.aload_n 0, 1) := by decide +kernel
theorem dX8_text_57 : decode cX8_text 57 = .ok (.getfield 123, 3) := by decide +kernel
theorem dX8_text_60 : decode cX8_text 60 = .ok (.if_icmp .lt 9, 3) := by decide +kernel
theorem dX8_text_63 : decode cX8_text 63 = .ok (.aload_n 0, 1) := by decide +kernel
theorem dX8_text_64 : decode cX8_text 64 = .ok (.bipush 6, 2) := by decide +kernel
theorem dX8_text_66 : decode cX8_text 66 = .ok (.invokevirtual 106, 3) := by decide +kernel
theorem dX8_text_69 : decode cX8_text 69 = .ok (.aload_n 0, 1) := by decide +kernel
theorem dX8_text_70 : decode cX8_text 70 = .ok (.getfield 76, 3) := by decide +kernel
theorem dX8_text_73 : decode cX8_text 73 = .ok (.ifCond .ne 28, 3) := by decide +kernel
theorem dX8_text_76 : decode cX8_text 76 = .ok (.aload_n 0, 1) := by decide +kernel
theorem dX8_text_77 : decode cX8_text 77 = .ok (.getfield 23, 3) := by decide +kernel
theorem dX8_text_80 : decode cX8_text 80 = .ok (.bipush 32, 2) := by decide +kernel
theorem dX8_text_82 : decode cX8_text 82 = .ok (.iaload, 1) := by decide +kernel
theorem dX8_text_83 : decode cX8_text 83 = .ok (.aload_n 0, 1) := by decide +kernel
theorem dX8_text_84 : decode cX8_text 84 = .ok (.getfield 23, 3) := by decide +kernel
theorem dX8_text_87 : decode cX8_text 87 = .ok (.bipush 31, 2) := by decide +kernel
theorem dX8_text_89 : decode cX8_text 89 = .ok (.iaload, 1) := by decide +kernel
theorem dX8_text_90 : decode cX8_text 90 = .ok (.iconst 1, 1) := by decide +kernel
theorem dX8_text_91 : decode cX8_text 91 = .ok (.iadd, 1) := by decide +kernel
theorem dX8_text_92 : decode cX8_text 92 = .ok (.if_icmp .ne 9, 3) := by decide +kernel
theorem dX8_text_95 : decode cX8_text 95 = .ok (.aload_n 0, 1) := by decide +kernel
theorem dX8_text_96 : decode cX8_text 96 = .ok (.bipush 7, 2) := by decide +kernel
theorem dX8_text_98 : decode cX8_text 98 = .ok (.invokevirtual 106, 3) := by decide +kernel
theorem dX8_text_101 : decode cX8_text 101 = .ok (.aload_n 0, 1) := by decide +kernel
theorem dX8_text_102 : decode cX8_text 102 = .ok (.iconst 0, 1) := by decide +kernel
theorem dX8_text_103 : decode cX8_text 103 = .ok (.putfield 69, 3) := by decide +kernel
theorem dX8_text_106 : decode cX8_text 106 = .ok (.aload_n 0, 1) := by decide +kernel
theorem dX8_text_107 : decode cX8_text 107 = .ok (.aload_n 0, 1) := by decide +kernel
theorem dX8_text_108 : decode cX8_text 108 = .ok (.getfield 76, 3) := by decide +kernel
theorem dX8_text_111 : decode cX8_text 111 = .ok (.putfield 172, 3) := by decide +kernel
theorem dX8_text_114 : decode cX8_text 114 = .ok (.aload_n 0, 1) := by decide +kernel
theorem dX8_text_115 : decode cX8_text 115 = .ok (.getfield 76, 3) := by decide +kernel
theorem dX8_text_118 : decode cX8_text 118 = .ok (.ifCond .le 11, 3) := by decide +kernel
theorem dX8_text_121 : decode cX8_text 121 = .ok (.bipush (-10), 2) := by decide +kernel
theorem dX8_text_123 : decode cX8_text 123 = .ok (.aload_n 0, 1) := by decide +kernel
theorem dX8_text_124 : decode cX8_text 124 = .ok (.getfield 82, 3) := by decide +kernel
theorem dX8_text_127 : decode cX8_text 127 = .ok (.isub, 1) := by decide +kernel
theorem dX8_text_128 : decode cX8_text 128 = .ok (.ireturn, 1) := by decide +kernel
theorem dX8_text_129 : decode cX8_text 129 = .ok (.iconst 0, 1) := by decide +kernel
theorem dX8_text_130 : decode cX8_text 130 = .ok (.istore_n 2, 1) := by decide +kernel
theorem dX8_text_131 : decode cX8_text 131 = .ok (.iload_n 2, 1) := by decide +kernel
theorem dX8_text_132 : decode cX8_text 132 = .ok (.bipush 49, 2) := by decide +kernel
theorem dX8_text_134 : decode cX8_text 134 = .ok (.if_icmp .ge 39, 3) := by decide +kernel
theorem dX8_text_137 : decode cX8_text 137 = .ok (.aload_n 0, 1) := by decide +kernel
theorem dX8_text_138 : decode cX8_text 138 = .ok (.getfield 7, 3) := by decide +kernel
theorem dX8_text_141 : decode cX8_text 141 = .ok (.iload_n 2, 1) := by decide +kernel
theorem dX8_text_142 : decode cX8_text 142 = .ok (.aload_n 0, 1) := by decide +kernel
theorem dX8_text_143 : decode cX8_text 143 = .ok (.getfield 23, 3) := by decide +kernel
theorem dX8_text_146 : decode cX8_text 146 = .ok (.iload_n 2, 1) := by decide +kernel
theorem dX8_text_147 : decode cX8_text 147 = .ok (.iaload, 1) := by decide +kernel
theorem dX8_text_148 : decode cX8_text 148 = .ok (.iastore, 1) := by decide +kernel
theorem dX8_text_149 : decode cX8_text 149 = .ok (.aload_n 0, 1) := by decide +kernel
theorem dX8_text_150 : decode cX8_text 150 = .ok (.getfield 20, 3) := by decide +kernel
theorem dX8_text_153 : decode cX8_text 153 = .ok (.iload_n 2, 1) := by decide +kernel
theorem dX8_text_154 : decode cX8_text 154 = .ok (.bipush 18, 2) := by decide +kernel
theorem dX8_text_156 : decode cX8_text 156 = .ok (.irem, 1) := by decide +kernel
theorem dX8_text_157 : decode cX8_text 157 = .ok (.aload_n 0, 1) := by decide +kernel
theorem dX8_text_158 : decode cX8_text 158 = .ok (.getfield 26, 3) := by decide +kernel
theorem dX8_text_161 : decode cX8_text 161 = .ok (.iload_n 2, 1) := by decide +kernel
theorem dX8_text_162 : decode cX8_text 162 = .ok (.bipush 18, 2) := by decide +kernel
theorem dX8_text_164 : decode cX8_text 164 = .ok (.irem, 1) := by decide +kernel
theorem dX8_text_165 : decode cX8_text 165 = .ok (.iaload, 1) := by decide +kernel
theorem dX8_text_166 : decode cX8_text 166 = .ok (.iastore, 1) := by decide +kernel
theorem dX8_text_167 : decode cX8_text 167 = .ok (.iinc 2 1, 3) := by decide +kernel
theorem dX8_text_170 : decode cX8_text 170 = .ok (.goto (-39), 3) := by decide +kernel
theorem dX8_text_173 : decode cX8_text 173 = .ok (.aload_n 0, 1) := by decide +kernel
theorem dX8_text_174 : decode cX8_text 174 = .ok (.aload_n 0, 1) := by decide +kernel
theorem dX8_text_175 : decode cX8_text 175 = .ok (.getfield 139, 3) := by decide +kernel
theorem dX8_text_178 : decode cX8_text 178 = .ok (.putfield 13, 3) := by decide +kernel
theorem dX8_text_181 : decode cX8_text 181 = .ok (.aload_n 0, 1) := by decide +kernel
theorem dX8_text_182 : decode cX8_text 182 = .ok (.aload_n 0, 1) := by decide +kernel
theorem dX8_text_183 : decode cX8_text 183 = .ok (.getfield 123, 3) := by decide +kernel
theorem dX8_text_186 : decode cX8_text 186 = .ok (.putfield 175, 3) := by decide +kernel
theorem dX8_text_189 : decode cX8_text 189 = .ok (.aload_n 0, 1) := by decide +kernel
theorem dX8_text_190 : decode cX8_text 190 = .ok (.aload_n 0, 1) := by decide +kernel
theorem dX8_text_191 : decode cX8_text 191 = .ok (.getfield 145, 3) := by decide +kernel
theorem dX8_text_194 : decode cX8_text 194 = .ok (.putfield 17, 3) := by decide +kernel
theorem dX8_text_197 : decode cX8_text 197 = .ok (.aload_n 0, 1) := by decide +kernel
theorem dX8_text_198 : decode cX8_text 198 = .ok (.aload_n 0, 1) := by decide +kernel
theorem dX8_text_199 : decode cX8_text 199 = .ok (.getfield 133, 3) := by decide +kernel
theorem dX8_text_202 : decode cX8_text 202 = .ok (.putfield 178, 3) := by decide +kernel
theorem dX8_text_205 : decode cX8_text 205 = .ok (.aload_n 0, 1) := by decide +kernel
theorem dX8_text_206 : decode cX8_text 206 = .ok (.iconst 0, 1) := by decide +kernel
theorem dX8_text_207 : decode cX8_text 207 = .ok (.putfield 181, 3) := by decide +kernel
theorem dX8_text_210 : decode cX8_text 210 = .ok (.aload_n 0, 1) := by decide +kernel
theorem dX8_text_211 : decode cX8_text 211 = .ok (.iconst 0, 1) := by decide +kernel
theorem dX8_text_212 : decode cX8_text 212 = .ok (.putfield 184, 3) := by decide +kernel
theorem dX8_text_215 : decode cX8_text 215 = .ok (.aload_n 0, 1) := by decide +kernel
theorem dX8_text_216 : decode cX8_text 216 = .ok (.getfield 56, 3) := by decide +kernel
theorem dX8_text_219 : decode cX8_text 219 = .ok (.iconst 0, 1) := by decide +kernel
theorem dX8_text_220 : decode cX8_text 220 = .ok (.iconst 0, 1) := by decide +kernel
theorem dX8_text_221 : decode cX8_text 221 = .ok (.bastore, 1) := by decide +kernel
theorem dX8_text_222 : decode cX8_text 222 = .ok (.aload_n 0, 1) := by decide +kernel
theorem dX8_text_223 : decode cX8_text 223 = .ok (.getfield 56, 3) := by decide +kernel
theorem dX8_text_226 : decode cX8_text 226 = .ok (.iconst 1, 1) := by decide +kernel
theorem dX8_text_227 : decode cX8_text 227 = .ok (.iconst 0, 1) := by decide +kernel
theorem dX8_text_228 : decode cX8_text 228 = .ok (.bastore, 1) := by decide +kernel
theorem dX8_text_229 : decode cX8_text 229 = .ok (.iload_n 1, 1) := by decide +kernel
theorem dX8_text_230 : decode cX8_text 230 = .ok (.ireturn, 1) := by decide +kernel
theorem dX8_fault_0 : decode cX8_fault 0 = .ok (.aload_n 0, 1) := by decide +kernel
theorem dX8_fault_1 : decode cX8_fault 1 = .ok (.getfield 172, 3) := by decide +kernel
theorem dX8_fault_4 : decode cX8_fault 4 = .ok (.ireturn, 1) := by decide +kernel
set_option maxRecDepth 20000 in
theorem ggX8_isRoom_X8_in : GoodIn wsX8_isRoom wsX8_in := goodIn_r _ [5] (by decide +kernel) (by decide +kernel)
set_option maxRecDepth 20000 in
theorem gX8_isRoom_X8_in : GoodIn wsX8_isRoom (va_wsS RX8 72 yX8_in wsX8_in) := goodIn_app (goodIn_of _ (by decide +kernel)) ggX8_isRoom_X8_in
theorem dX8_isRoom_0 : decode cX8_isRoom 0 = .ok (.iload_n 1, 1) := by decide +kernel
theorem dX8_isRoom_1 : decode cX8_isRoom 1 = .ok (.i2l, 1) := by decide +kernel
theorem dX8_isRoom_2 : decode cX8_isRoom 2 = .ok (.lconst 0, 1) := by decide +kernel
theorem dX8_isRoom_3 : decode cX8_isRoom 3 = .ok (.aload_n 0, 1) := by decide +kernel
theorem dX8_isRoom_4 : decode cX8_isRoom 4 = .ok (.getfield 13, 3) := by decide +kernel
theorem dX8_isRoom_7 : decode cX8_isRoom 7 = .ok (.iconst 1, 1) := by decide +kernel
theorem dX8_isRoom_8 : decode cX8_isRoom 8 = .ok (.isub, 1) := by decide +kernel
theorem dX8_isRoom_9 : decode cX8_isRoom 9 = .ok (.i2l, 1) := by decide +kernel
theorem dX8_isRoom_10 : decode cX8_isRoom 10 = .ok (.invokestatic 72, 3) := by decide +kernel
theorem dX8_isRoom_13 : decode cX8_isRoom 13 = .ok (.ireturn, 1) := by decide +kernel
set_option maxRecDepth 20000 in
theorem ggX8_isDoor_X8_in : GoodIn wsX8_isDoor wsX8_in := goodIn_r _ [5] (by decide +kernel) (by decide +kernel)
set_option maxRecDepth 20000 in
theorem gX8_isDoor_X8_in : GoodIn wsX8_isDoor (va_wsS RX8 72 yX8_in wsX8_in) := goodIn_app (goodIn_of _ (by decide +kernel)) ggX8_isDoor_X8_in
theorem dX8_isDoor_0 : decode cX8_isDoor 0 = .ok (.iload_n 1, 1) := by decide +kernel
theorem dX8_isDoor_1 : decode cX8_isDoor 1 = .ok (.i2l, 1) := by decide +kernel
theorem dX8_isDoor_2 : decode cX8_isDoor 2 = .ok (.lconst 0, 1) := by decide +kernel
theorem dX8_isDoor_3 : decode cX8_isDoor 3 = .ok (.aload_n 0, 1) := by decide +kernel
theorem dX8_isDoor_4 : decode cX8_isDoor 4 = .ok (.getfield 175, 3) := by decide +kernel
theorem dX8_isDoor_7 : decode cX8_isDoor 7 = .ok (.iconst 1, 1) := by decide +kernel
theorem dX8_isDoor_8 : decode cX8_isDoor 8 = .ok (.isub, 1) := by decide +kernel
theorem dX8_isDoor_9 : decode cX8_isDoor 9 = .ok (.i2l, 1) := by decide +kernel
theorem dX8_isDoor_10 : decode cX8_isDoor 10 = .ok (.invokestatic 72, 3) := by decide +kernel
theorem dX8_isDoor_13 : decode cX8_isDoor 13 = .ok (.ireturn, 1) := by decide +kernel
theorem dX8_beastNow_0 : decode cX8_beastNow 0 = .ok (.aload_n 0, 1) := by decide +kernel
theorem dX8_beastNow_1 : decode cX8_beastNow 1 = .ok (.getfield 7, 3) := by decide +kernel
theorem dX8_beastNow_4 : decode cX8_beastNow 4 = .ok (.bipush 32, 2) := by decide +kernel
theorem dX8_beastNow_6 : decode cX8_beastNow 6 = .ok (.iaload, 1) := by decide +kernel
theorem dX8_beastNow_7 : decode cX8_beastNow 7 = .ok (.ifCond .ne 8, 3) := by decide +kernel
theorem dX8_beastNow_10 : decode cX8_beastNow 10 = .ok (.bipush (-4), 2) := by decide +kernel
theorem dX8_beastNow_12 : decode cX8_beastNow 12 = .ok (.goto 12, 3) := by decide +kernel
theorem dX8_beastNow_15 : decode cX8_beastNow 15 = .ok (.aload_n 0, 1) := by decide +kernel
theorem dX8_beastNow_16 : decode cX8_beastNow 16 = .ok (.getfield 7, 3) := by decide +kernel
theorem dX8_beastNow_19 : decode cX8_beastNow 19 = .ok (.bipush 32, 2) := by decide +kernel
theorem dX8_beastNow_21 : decode cX8_beastNow 21 = .ok (.iaload, 1) := by decide +kernel
theorem dX8_beastNow_22 : decode cX8_beastNow 22 = .ok (.iconst 1, 1) := by decide +kernel
theorem dX8_beastNow_23 : decode cX8_beastNow 23 = .ok (.isub, 1) := by decide +kernel
theorem dX8_beastNow_24 : decode cX8_beastNow 24 = .ok (.ireturn, 1) := by decide +kernel
set_option maxRecDepth 20000 in
theorem ggX8_rule_X8_beastNow : GoodIn wsX8_rule wsX8_beastNow := goodIn_r _ [10, 3, 11, 12, 13, 14, 15, 16, 17, 18, 19, 20, 21, 22, 23, 24, 25, 26, 27, 28, 29, 30, 31, 32, 33, 34, 35, 36, 37, 38, 39, 40, 41, 42, 43, 44, 45, 46, 47, 48, 49] (by decide +kernel) (by decide +kernel)
set_option maxRecDepth 20000 in
theorem gX8_rule_X8_beastNow : GoodIn wsX8_rule (wsV RX8 187 RX8 yX8_beastNow wsX8_beastNow) := goodIn_app (goodIn_of _ (by decide +kernel)) ggX8_rule_X8_beastNow
theorem dX8_rule_0 : decode cX8_rule 0 = .ok (.iload_n 1, 1) := by decide +kernel
theorem dX8_rule_1 : decode cX8_rule 1 = .ok (.tableswitch 122 0 9 #[55, 60, 65, 75, 80, 85, 93, 101, 106, 114], 55) := by decide +kernel
theorem dX8_rule_56 : decode cX8_rule 56 = .ok (.aload_n 0, 1) := by decide +kernel
theorem dX8_rule_57 : decode cX8_rule 57 = .ok (.getfield 13, 3) := by decide +kernel
theorem dX8_rule_60 : decode cX8_rule 60 = .ok (.ireturn, 1) := by decide +kernel
theorem dX8_rule_61 : decode cX8_rule 61 = .ok (.aload_n 0, 1) := by decide +kernel
theorem dX8_rule_62 : decode cX8_rule 62 = .ok (.getfield 175, 3) := by decide +kernel
theorem dX8_rule_65 : decode cX8_rule 65 = .ok (.ireturn, 1) := by decide +kernel
theorem dX8_rule_66 : decode cX8_rule 66 = .ok (.aload_n 0, 1) := by decide +kernel
theorem dX8_rule_67 : decode cX8_rule 67 = .ok (.getfield 7, 3) := by decide +kernel
theorem dX8_rule_70 : decode cX8_rule 70 = .ok (.bipush 30, 2) := by decide +kernel
theorem dX8_rule_72 : decode cX8_rule 72 = .ok (.iaload, 1) := by decide +kernel
theorem dX8_rule_73 : decode cX8_rule 73 = .ok (.iconst 1, 1) := by decide +kernel
theorem dX8_rule_74 : decode cX8_rule 74 = .ok (.iadd, 1) := by decide +kernel
theorem dX8_rule_75 : decode cX8_rule 75 = .ok (.ireturn, 1) := by decide +kernel
theorem dX8_rule_76 : decode cX8_rule 76 = .ok (.aload_n 0, 1) := by decide +kernel
theorem dX8_rule_77 : decode cX8_rule 77 = .ok (.getfield 178, 3) := by decide +kernel
theorem dX8_rule_80 : decode cX8_rule 80 = .ok (.ireturn, 1) := by decide +kernel
theorem dX8_rule_81 : decode cX8_rule 81 = .ok (.aload_n 0, 1) := by decide +kernel
theorem dX8_rule_82 : decode cX8_rule 82 = .ok (.getfield 17, 3) := by decide +kernel
theorem dX8_rule_85 : decode cX8_rule 85 = .ok (.ireturn, 1) := by decide +kernel
theorem dX8_rule_86 : decode cX8_rule 86 = .ok (.aload_n 0, 1) := by decide +kernel
theorem dX8_rule_87 : decode cX8_rule 87 = .ok (.getfield 7, 3) := by decide +kernel
theorem dX8_rule_90 : decode cX8_rule 90 = .ok (.bipush 47, 2) := by decide +kernel
theorem dX8_rule_92 : decode cX8_rule 92 = .ok (.iaload, 1) := by decide +kernel
theorem dX8_rule_93 : decode cX8_rule 93 = .ok (.ireturn, 1) := by decide +kernel
theorem dX8_rule_94 : decode cX8_rule 94 = .ok (.aload_n 0, 1) := by decide +kernel
theorem dX8_rule_95 : decode cX8_rule 95 = .ok (.getfield 7, 3) := by decide +kernel
theorem dX8_rule_98 : decode cX8_rule 98 = .ok (.bipush 31, 2) := by decide +kernel
theorem dX8_rule_100 : decode cX8_rule 100 = .ok (.iaload, 1) := by decide +kernel
theorem dX8_rule_101 : decode cX8_rule 101 = .ok (.ireturn, 1) := by decide +kernel
theorem dX8_rule_102 : decode cX8_rule 102 = .ok (.aload_n 0, 1) := by decide +kernel
theorem dX8_rule_103 : decode cX8_rule 103 = .ok (.invokevirtual 187, 3) := by decide +kernel
theorem dX8_rule_106 : decode cX8_rule 106 = .ok (.ireturn, 1) := by decide +kernel
theorem dX8_rule_107 : decode cX8_rule 107 = .ok (.aload_n 0, 1) := by decide +kernel
theorem dX8_rule_108 : decode cX8_rule 108 = .ok (.getfield 7, 3) := by decide +kernel
theorem dX8_rule_111 : decode cX8_rule 111 = .ok (.bipush 33, 2) := by decide +kernel
theorem dX8_rule_113 : decode cX8_rule 113 = .ok (.iaload, 1) := by decide +kernel
theorem dX8_rule_114 : decode cX8_rule 114 = .ok (.ireturn, 1) := by decide +kernel
theorem dX8_rule_115 : decode cX8_rule 115 = .ok (.aload_n 0, 1) := by decide +kernel
theorem dX8_rule_116 : decode cX8_rule 116 = .ok (.getfield 7, 3) := by decide +kernel
theorem dX8_rule_119 : decode cX8_rule 119 = .ok (.bipush 48, 2) := by decide +kernel
theorem dX8_rule_121 : decode cX8_rule 121 = .ok (.iaload, 1) := by decide +kernel
theorem dX8_rule_122 : decode cX8_rule 122 = .ok (.ireturn, 1) := by decide +kernel
theorem dX8_rule_123 : decode cX8_rule 123 = .ok (.iconst (-1), 1) := by decide +kernel
theorem dX8_rule_124 : decode cX8_rule 124 = .ok (.ireturn, 1) := by decide +kernel
set_option maxRecDepth 20000 in
theorem ggX8_door_X8_isDoor : GoodIn wsX8_door wsX8_isDoor := goodIn_r _ [7, 8, 9, 10, 6, 11, 12, 13, 14, 15, 16, 17, 18, 19, 20, 21, 22, 23, 24, 25, 26, 27, 28, 29, 30, 31, 32, 33, 34, 35, 36, 37, 38, 39, 40, 41, 42, 43, 44, 45, 46, 47, 48, 49, 50] (by decide +kernel) (by decide +kernel)
set_option maxRecDepth 20000 in
theorem gX8_door_X8_isDoor : GoodIn wsX8_door (wsV RX8 190 RX8 yX8_isDoor wsX8_isDoor) := goodIn_app (goodIn_of _ (by decide +kernel)) ggX8_door_X8_isDoor
set_option maxRecDepth 20000 in
theorem ggX8_door_X8_in : GoodIn wsX8_door wsX8_in := goodIn_r _ [11] (by decide +kernel) (by decide +kernel)
set_option maxRecDepth 20000 in
theorem gX8_door_X8_in : GoodIn wsX8_door (va_wsS RX8 72 yX8_in wsX8_in) := goodIn_app (goodIn_of _ (by decide +kernel)) ggX8_door_X8_in
theorem dX8_door_0 : decode cX8_door 0 = .ok (.aload_n 0, 1) := by decide +kernel
theorem dX8_door_1 : decode cX8_door 1 = .ok (.iload_n 1, 1) := by decide +kernel
theorem dX8_door_2 : decode cX8_door 2 = .ok (.invokevirtual 190, 3) := by decide +kernel
theorem dX8_door_5 : decode cX8_door 5 = .ok (.ifCond .eq 28, 3) := by decide +kernel
theorem dX8_door_8 : decode cX8_door 8 = .ok (.iload_n 2, 1) := by decide +kernel
theorem dX8_door_9 : decode cX8_door 9 = .ok (.i2l, 1) := by decide +kernel
theorem dX8_door_10 : decode cX8_door 10 = .ok (.lconst 0, 1) := by decide +kernel
theorem dX8_door_11 : decode cX8_door 11 = .ok (.ldc2_w 194, 3) := by decide +kernel
theorem dX8_door_14 : decode cX8_door 14 = .ok (.invokestatic 72, 3) := by decide +kernel
theorem dX8_door_17 : decode cX8_door 17 = .ok (.ifCond .eq 16, 3) := by decide +kernel
theorem dX8_door_20 : decode cX8_door 20 = .ok (.aload_n 0, 1) := by decide +kernel
theorem dX8_door_21 : decode cX8_door 21 = .ok (.getfield 7, 3) := by decide +kernel
theorem dX8_door_24 : decode cX8_door 24 = .ok (.iconst 3, 1) := by decide +kernel
theorem dX8_door_25 : decode cX8_door 25 = .ok (.iload_n 1, 1) := by decide +kernel
theorem dX8_door_26 : decode cX8_door 26 = .ok (.imul, 1) := by decide +kernel
theorem dX8_door_27 : decode cX8_door 27 = .ok (.iload_n 2, 1) := by decide +kernel
theorem dX8_door_28 : decode cX8_door 28 = .ok (.iadd, 1) := by decide +kernel
theorem dX8_door_29 : decode cX8_door 29 = .ok (.iaload, 1) := by decide +kernel
theorem dX8_door_30 : decode cX8_door 30 = .ok (.goto 4, 3) := by decide +kernel
theorem dX8_door_33 : decode cX8_door 33 = .ok (.iconst (-1), 1) := by decide +kernel
theorem dX8_door_34 : decode cX8_door 34 = .ok (.ireturn, 1) := by decide +kernel
set_option maxRecDepth 20000 in
theorem ggX8_law_X8_in : GoodIn wsX8_law wsX8_in := goodIn_r _ [6] (by decide +kernel) (by decide +kernel)
set_option maxRecDepth 20000 in
theorem gX8_law_X8_in : GoodIn wsX8_law (va_wsS RX8 72 yX8_in wsX8_in) := goodIn_app (goodIn_of _ (by decide +kernel)) ggX8_law_X8_in
theorem dX8_law_0 : decode cX8_law 0 = .ok (.iload_n 1, 1) := by decide +kernel
theorem dX8_law_1 : decode cX8_law 1 = .ok (.i2l, 1) := by decide +kernel
theorem dX8_law_2 : decode cX8_law 2 = .ok (.lconst 0, 1) := by decide +kernel
theorem dX8_law_3 : decode cX8_law 3 = .ok (.aload_n 0, 1) := by decide +kernel
theorem dX8_law_4 : decode cX8_law 4 = .ok (.getfield 178, 3) := by decide +kernel
theorem dX8_law_7 : decode cX8_law 7 = .ok (.iconst 1, 1) := by decide +kernel
theorem dX8_law_8 : decode cX8_law 8 = .ok (.isub, 1) := by decide +kernel
theorem dX8_law_9 : decode cX8_law 9 = .ok (.i2l, 1) := by decide +kernel
theorem dX8_law_10 : decode cX8_law 10 = .ok (.invokestatic 72, 3) := by decide +kernel
theorem dX8_law_13 : decode cX8_law 13 = .ok (.ifCond .ne 5, 3) := by decide +kernel
theorem dX8_law_16 : decode cX8_law 16 = .ok (.iconst (-1), 1) := by decide +kernel
theorem dX8_law_17 : decode cX8_law 17 = .ok (.ireturn, 1) := by decide +kernel
theorem dX8_law_18 : decode cX8_law 18 = .ok (.aload_n 0, 1) := by decide +kernel
theorem dX8_law_19 : decode cX8_law 19 = .ok (.getfield 20, 3) := by decide +kernel
theorem dX8_law_22 : decode cX8_law 22 = .ok (.iconst 3, 1) := by decide +kernel
theorem dX8_law_23 : decode cX8_law 23 = .ok (.iload_n 1, 1) := by decide +kernel
theorem dX8_law_24 : decode cX8_law 24 = .ok (.imul, 1) := by decide +kernel
theorem dX8_law_25 : decode cX8_law 25 = .ok (.iaload, 1) := by decide +kernel
theorem dX8_law_26 : decode cX8_law 26 = .ok (.istore_n 2, 1) := by decide +kernel
theorem dX8_law_27 : decode cX8_law 27 = .ok (.bipush 100, 2) := by decide +kernel
theorem dX8_law_29 : decode cX8_law 29 = .ok (.iload_n 2, 1) := by decide +kernel
theorem dX8_law_30 : decode cX8_law 30 = .ok (.imul, 1) := by decide +kernel
theorem dX8_law_31 : decode cX8_law 31 = .ok (.iload_n 2, 1) := by decide +kernel
theorem dX8_law_32 : decode cX8_law 32 = .ok (.iconst 2, 1) := by decide +kernel
theorem dX8_law_33 : decode cX8_law 33 = .ok (.if_icmp .ne 16, 3) := by decide +kernel
theorem dX8_law_36 : decode cX8_law 36 = .ok (.aload_n 0, 1) := by decide +kernel
theorem dX8_law_37 : decode cX8_law 37 = .ok (.getfield 20, 3) := by decide +kernel
theorem dX8_law_40 : decode cX8_law 40 = .ok (.iconst 3, 1) := by decide +kernel
theorem dX8_law_41 : decode cX8_law 41 = .ok (.iload_n 1, 1) := by decide +kernel
theorem dX8_law_42 : decode cX8_law 42 = .ok (.imul, 1) := by decide +kernel
theorem dX8_law_43 : decode cX8_law 43 = .ok (.iconst 1, 1) := by decide +kernel
theorem dX8_law_44 : decode cX8_law 44 = .ok (.iadd, 1) := by decide +kernel
theorem dX8_law_45 : decode cX8_law 45 = .ok (.iaload, 1) := by decide +kernel
theorem dX8_law_46 : decode cX8_law 46 = .ok (.goto 27, 3) := by decide +kernel
theorem dX8_law_49 : decode cX8_law 49 = .ok (.bipush 10, 2) := by decide +kernel
theorem dX8_law_51 : decode cX8_law 51 = .ok (.aload_n 0, 1) := by decide +kernel
theorem dX8_law_52 : decode cX8_law 52 = .ok (.getfield 20, 3) := by decide +kernel
theorem dX8_law_55 : decode cX8_law 55 = .ok (.iconst 3, 1) := by decide +kernel
theorem dX8_law_56 : decode cX8_law 56 = .ok (.iload_n 1, 1) := by decide +kernel
theorem dX8_law_57 : decode cX8_law 57 = .ok (.imul, 1) := by decide +kernel
theorem dX8_law_58 : decode cX8_law 58 = .ok (.iconst 1, 1) := by decide +kernel
theorem dX8_law_59 : decode cX8_law 59 = .ok (.iadd, 1) := by decide +kernel
theorem dX8_law_60 : decode cX8_law 60 = .ok (.iaload, 1) := by decide +kernel
theorem dX8_law_61 : decode cX8_law 61 = .ok (.imul, 1) := by decide +kernel
theorem dX8_law_62 : decode cX8_law 62 = .ok (.aload_n 0, 1) := by decide +kernel
theorem dX8_law_63 : decode cX8_law 63 = .ok (.getfield 20, 3) := by decide +kernel
theorem dX8_law_66 : decode cX8_law 66 = .ok (.iconst 3, 1) := by decide +kernel
theorem dX8_law_67 : decode cX8_law 67 = .ok (.iload_n 1, 1) := by decide +kernel
theorem dX8_law_68 : decode cX8_law 68 = .ok (.imul, 1) := by decide +kernel
theorem dX8_law_69 : decode cX8_law 69 = .ok (.iconst 2, 1) := by decide +kernel
theorem dX8_law_70 : decode cX8_law 70 = .ok (.iadd, 1) := by decide +kernel
theorem dX8_law_71 : decode cX8_law 71 = .ok (.iaload, 1) := by decide +kernel
theorem dX8_law_72 : decode cX8_law 72 = .ok (.iadd, 1) := by decide +kernel
theorem dX8_law_73 : decode cX8_law 73 = .ok (.iadd, 1) := by decide +kernel
theorem dX8_law_74 : decode cX8_law 74 = .ok (.ireturn, 1) := by decide +kernel
theorem dX8_worksNow_0 : decode cX8_worksNow 0 = .ok (.iconst 0, 1) := by decide +kernel
theorem dX8_worksNow_1 : decode cX8_worksNow 1 = .ok (.istore_n 1, 1) := by decide +kernel
theorem dX8_worksNow_2 : decode cX8_worksNow 2 = .ok (.iload_n 1, 1) := by decide +kernel
theorem dX8_worksNow_3 : decode cX8_worksNow 3 = .ok (.bipush 30, 2) := by decide +kernel
theorem dX8_worksNow_5 : decode cX8_worksNow 5 = .ok (.if_icmp .ge 21, 3) := by decide +kernel
theorem dX8_worksNow_8 : decode cX8_worksNow 8 = .ok (.aload_n 0, 1) := by decide +kernel
theorem dX8_worksNow_9 : decode cX8_worksNow 9 = .ok (.getfield 38, 3) := by decide +kernel
theorem dX8_worksNow_12 : decode cX8_worksNow 12 = .ok (.iload_n 1, 1) := by decide +kernel
theorem dX8_worksNow_13 : decode cX8_worksNow 13 = .ok (.aload_n 0, 1) := by decide +kernel
theorem dX8_worksNow_14 : decode cX8_worksNow 14 = .ok (.getfield 7, 3) := by decide +kernel
theorem dX8_worksNow_17 : decode cX8_worksNow 17 = .ok (.iload_n 1, 1) := by decide +kernel
theorem dX8_worksNow_18 : decode cX8_worksNow 18 = .ok (.iaload, 1) := by decide +kernel
theorem dX8_worksNow_19 : decode cX8_worksNow 19 = .ok (.iastore, 1) := by decide +kernel
theorem dX8_worksNow_20 : decode cX8_worksNow 20 = .ok (.iinc 1 1, 3) := by decide +kernel
theorem dX8_worksNow_23 : decode cX8_worksNow 23 = .ok (.goto (-21), 3) := by decide +kernel
theorem dX8_worksNow_26 : decode cX8_worksNow 26 = .ok (.return_, 1) := by decide +kernel
theorem dX8_doesRule_0 : decode cX8_doesRule 0 = .ok (.iload_n 1, 1) := by decide +kernel
theorem dX8_doesRule_1 : decode cX8_doesRule 1 = .ok (.ifCond .ne 50, 3) := by decide +kernel
theorem dX8_doesRule_4 : decode cX8_doesRule 4 = .ok (.aload_n 0, 1) := by decide +kernel
theorem dX8_doesRule_5 : decode cX8_doesRule 5 = .ok (.getfield 38, 3) := by decide +kernel
theorem dX8_doesRule_8 : decode cX8_doesRule 8 = .ok (.iconst 3, 1) := by decide +kernel
theorem dX8_doesRule_9 : decode cX8_doesRule 9 = .ok (.iload_n 2, 1) := by decide +kernel
theorem dX8_doesRule_10 : decode cX8_doesRule 10 = .ok (.imul, 1) := by decide +kernel
theorem dX8_doesRule_11 : decode cX8_doesRule 11 = .ok (.iconst 1, 1) := by decide +kernel
theorem dX8_doesRule_12 : decode cX8_doesRule 12 = .ok (.iadd, 1) := by decide +kernel
theorem dX8_doesRule_13 : decode cX8_doesRule 13 = .ok (.iaload, 1) := by decide +kernel
theorem dX8_doesRule_14 : decode cX8_doesRule 14 = .ok (.istore 4, 2) := by decide +kernel
theorem dX8_doesRule_16 : decode cX8_doesRule 16 = .ok (.aload_n 0, 1) := by decide +kernel
theorem dX8_doesRule_17 : decode cX8_doesRule 17 = .ok (.getfield 38, 3) := by decide +kernel
theorem dX8_doesRule_20 : decode cX8_doesRule 20 = .ok (.iconst 3, 1) := by decide +kernel
theorem dX8_doesRule_21 : decode cX8_doesRule 21 = .ok (.iload_n 2, 1) := by decide +kernel
theorem dX8_doesRule_22 : decode cX8_doesRule 22 = .ok (.imul, 1) := by decide +kernel
theorem dX8_doesRule_23 : decode cX8_doesRule 23 = .ok (.iconst 1, 1) := by decide +kernel
theorem dX8_doesRule_24 : decode cX8_doesRule 24 = .ok (.iadd, 1) := by decide +kernel
theorem dX8_doesRule_25 : decode cX8_doesRule 25 = .ok (.aload_n 0, 1) := by decide +kernel
theorem dX8_doesRule_26 : decode cX8_doesRule 26 = .ok (.getfield 38, 3) := by decide +kernel
theorem dX8_doesRule_29 : decode cX8_doesRule 29 = .ok (.iconst 3, 1) := by decide +kernel
theorem dX8_doesRule_30 : decode cX8_doesRule 30 = .ok (.iload_n 3, 1) := by decide +kernel
theorem dX8_doesRule_31 : decode cX8_doesRule 31 = .ok (.imul, 1) := by decide +kernel
theorem dX8_doesRule_32 : decode cX8_doesRule 32 = .ok (.iconst 1, 1) := by decide +kernel
theorem dX8_doesRule_33 : decode cX8_doesRule 33 = .ok (.iadd, 1) := by decide +kernel
theorem dX8_doesRule_34 : decode cX8_doesRule 34 = .ok (.iaload, 1) := by decide +kernel
theorem dX8_doesRule_35 : decode cX8_doesRule 35 = .ok (.iastore, 1) := by decide +kernel
theorem dX8_doesRule_36 : decode cX8_doesRule 36 = .ok (.aload_n 0, 1) := by decide +kernel
theorem dX8_doesRule_37 : decode cX8_doesRule 37 = .ok (.getfield 38, 3) := by decide +kernel
theorem dX8_doesRule_40 : decode cX8_doesRule 40 = .ok (.iconst 3, 1) := by decide +kernel
theorem dX8_doesRule_41 : decode cX8_doesRule 41 = .ok (.iload_n 3, 1) := by decide +kernel
theorem dX8_doesRule_42 : decode cX8_doesRule 42 = .ok (.imul, 1) := by decide +kernel
theorem dX8_doesRule_43 : decode cX8_doesRule 43 = .ok (.iconst 1, 1) := by decide +kernel
theorem dX8_doesRule_44 : decode cX8_doesRule 44 = .ok (.iadd, 1) := by decide +kernel
theorem dX8_doesRule_45 : decode cX8_doesRule 45 = .ok (.iload 4, 2) := by decide +kernel
theorem dX8_doesRule_47 : decode cX8_doesRule 47 = .ok (.iastore, 1) := by decide +kernel
theorem dX8_doesRule_48 : decode cX8_doesRule 48 = .ok (.goto 60, 3) := by decide +kernel
theorem dX8_doesRule_51 : decode cX8_doesRule 51 = .ok (.iload_n 1, 1) := by decide +kernel
theorem dX8_doesRule_52 : decode cX8_doesRule 52 = .ok (.iconst 1, 1) := by decide +kernel
theorem dX8_doesRule_53 : decode cX8_doesRule 53 = .ok (.if_icmp .ne 33, 3) := by decide +kernel
theorem dX8_doesRule_56 : decode cX8_doesRule 56 = .ok (.aload_n 0, 1) := by decide +kernel
theorem dX8_doesRule_57 : decode cX8_doesRule 57 = .ok (.getfield 38, 3) := by decide +kernel
theorem dX8_doesRule_60 : decode cX8_doesRule 60 = .ok (.iconst 3, 1) := by decide +kernel
theorem dX8_doesRule_61 : decode cX8_doesRule 61 = .ok (.iload_n 2, 1) := by decide +kernel
theorem dX8_doesRule_62 : decode cX8_doesRule 62 = .ok (.imul, 1) := by decide +kernel
theorem dX8_doesRule_63 : decode cX8_doesRule 63 = .ok (.iconst 1, 1) := by decide +kernel
theorem dX8_doesRule_64 : decode cX8_doesRule 64 = .ok (.iadd, 1) := by decide +kernel
theorem dX8_doesRule_65 : decode cX8_doesRule 65 = .ok (.aload_n 0, 1) := by decide +kernel
theorem dX8_doesRule_66 : decode cX8_doesRule 66 = .ok (.getfield 38, 3) := by decide +kernel
theorem dX8_doesRule_69 : decode cX8_doesRule 69 = .ok (.iconst 3, 1) := by decide +kernel
theorem dX8_doesRule_70 : decode cX8_doesRule 70 = .ok (.iload_n 2, 1) := by decide +kernel
theorem dX8_doesRule_71 : decode cX8_doesRule 71 = .ok (.imul, 1) := by decide +kernel
theorem dX8_doesRule_72 : decode cX8_doesRule 72 = .ok (.iconst 1, 1) := by decide +kernel
theorem dX8_doesRule_73 : decode cX8_doesRule 73 = .ok (.iadd, 1) := by decide +kernel
theorem dX8_doesRule_74 : decode cX8_doesRule 74 = .ok (.iaload, 1) := by decide +kernel
theorem dX8_doesRule_75 : decode cX8_doesRule 75 = .ok (.iload_n 3, 1) := by decide +kernel
theorem dX8_doesRule_76 : decode cX8_doesRule 76 = .ok (.iadd, 1) := by decide +kernel
theorem dX8_doesRule_77 : decode cX8_doesRule 77 = .ok (.aload_n 0, 1) := by decide +kernel
theorem dX8_doesRule_78 : decode cX8_doesRule 78 = .ok (.getfield 13, 3) := by decide +kernel
theorem dX8_doesRule_81 : decode cX8_doesRule 81 = .ok (.irem, 1) := by decide +kernel
theorem dX8_doesRule_82 : decode cX8_doesRule 82 = .ok (.iastore, 1) := by decide +kernel
theorem dX8_doesRule_83 : decode cX8_doesRule 83 = .ok (.goto 25, 3) := by decide +kernel
theorem dX8_doesRule_86 : decode cX8_doesRule 86 = .ok (.aload_n 0, 1) := by decide +kernel
theorem dX8_doesRule_87 : decode cX8_doesRule 87 = .ok (.getfield 38, 3) := by decide +kernel
theorem dX8_doesRule_90 : decode cX8_doesRule 90 = .ok (.iconst 3, 1) := by decide +kernel
theorem dX8_doesRule_91 : decode cX8_doesRule 91 = .ok (.iload_n 2, 1) := by decide +kernel
theorem dX8_doesRule_92 : decode cX8_doesRule 92 = .ok (.imul, 1) := by decide +kernel
theorem dX8_doesRule_93 : decode cX8_doesRule 93 = .ok (.iconst 2, 1) := by decide +kernel
theorem dX8_doesRule_94 : decode cX8_doesRule 94 = .ok (.iadd, 1) := by decide +kernel
theorem dX8_doesRule_95 : decode cX8_doesRule 95 = .ok (.iconst 1, 1) := by decide +kernel
theorem dX8_doesRule_96 : decode cX8_doesRule 96 = .ok (.aload_n 0, 1) := by decide +kernel
theorem dX8_doesRule_97 : decode cX8_doesRule 97 = .ok (.getfield 38, 3) := by decide +kernel
theorem dX8_doesRule_100 : decode cX8_doesRule 100 = .ok (.iconst 3, 1) := by decide +kernel
theorem dX8_doesRule_101 : decode cX8_doesRule 101 = .ok (.iload_n 2, 1) := by decide +kernel
theorem dX8_doesRule_102 : decode cX8_doesRule 102 = .ok (.imul, 1) := by decide +kernel
theorem dX8_doesRule_103 : decode cX8_doesRule 103 = .ok (.iconst 2, 1) := by decide +kernel
theorem dX8_doesRule_104 : decode cX8_doesRule 104 = .ok (.iadd, 1) := by decide +kernel
theorem dX8_doesRule_105 : decode cX8_doesRule 105 = .ok (.iaload, 1) := by decide +kernel
theorem dX8_doesRule_106 : decode cX8_doesRule 106 = .ok (.isub, 1) := by decide +kernel
theorem dX8_doesRule_107 : decode cX8_doesRule 107 = .ok (.iastore, 1) := by decide +kernel
theorem dX8_doesRule_108 : decode cX8_doesRule 108 = .ok (.return_, 1) := by decide +kernel
set_option maxRecDepth 20000 in
theorem ggX8_dusks_X8_doesRule : GoodIn wsX8_dusks wsX8_doesRule := goodIn_r _ [7, 8, 9, 10, 11, 12, 13, 14, 15, 16, 17, 18, 19, 20, 21, 22, 23, 24, 25, 26, 27, 28, 29, 30, 31, 32, 33, 34, 35, 36, 37, 38, 39, 40, 41, 42, 43, 44, 45, 46, 47, 48] (by decide +kernel) (by decide +kernel)
set_option maxRecDepth 20000 in
theorem gX8_dusks_X8_doesRule : GoodIn wsX8_dusks (wsV RX8 196 RX8 yX8_doesRule wsX8_doesRule) := goodIn_app (goodIn_of _ (by decide +kernel)) ggX8_dusks_X8_doesRule
theorem dX8_dusks_0 : decode cX8_dusks 0 = .ok (.iconst 0, 1) := by decide +kernel
theorem dX8_dusks_1 : decode cX8_dusks 1 = .ok (.istore_n 1, 1) := by decide +kernel
theorem dX8_dusks_2 : decode cX8_dusks 2 = .ok (.iload_n 1, 1) := by decide +kernel
theorem dX8_dusks_3 : decode cX8_dusks 3 = .ok (.aload_n 0, 1) := by decide +kernel
theorem dX8_dusks_4 : decode cX8_dusks 4 = .ok (.getfield 178, 3) := by decide +kernel
theorem dX8_dusks_7 : decode cX8_dusks 7 = .ok (.if_icmp .ge 41, 3) := by decide +kernel
theorem dX8_dusks_10 : decode cX8_dusks 10 = .ok (.aload_n 0, 1) := by decide +kernel
theorem dX8_dusks_11 : decode cX8_dusks 11 = .ok (.aload_n 0, 1) := by decide +kernel
theorem dX8_dusks_12 : decode cX8_dusks 12 = .ok (.getfield 20, 3) := by decide +kernel
theorem dX8_dusks_15 : decode cX8_dusks 15 = .ok (.iconst 3, 1) := by decide +kernel
theorem dX8_dusks_16 : decode cX8_dusks 16 = .ok (.iload_n 1, 1) := by decide +kernel
theorem dX8_dusks_17 : decode cX8_dusks 17 = .ok (.imul, 1) := by decide +kernel
theorem dX8_dusks_18 : decode cX8_dusks 18 = .ok (.iaload, 1) := by decide +kernel
theorem dX8_dusks_19 : decode cX8_dusks 19 = .ok (.aload_n 0, 1) := by decide +kernel
theorem dX8_dusks_20 : decode cX8_dusks 20 = .ok (.getfield 20, 3) := by decide +kernel
theorem dX8_dusks_23 : decode cX8_dusks 23 = .ok (.iconst 3, 1) := by decide +kernel
theorem dX8_dusks_24 : decode cX8_dusks 24 = .ok (.iload_n 1, 1) := by decide +kernel
theorem dX8_dusks_25 : decode cX8_dusks 25 = .ok (.imul, 1) := by decide +kernel
theorem dX8_dusks_26 : decode cX8_dusks 26 = .ok (.iconst 1, 1) := by decide +kernel
theorem dX8_dusks_27 : decode cX8_dusks 27 = .ok (.iadd, 1) := by decide +kernel
theorem dX8_dusks_28 : decode cX8_dusks 28 = .ok (.iaload, 1) := by decide +kernel
theorem dX8_dusks_29 : decode cX8_dusks 29 = .ok (.aload_n 0, 1) := by decide +kernel
theorem dX8_dusks_30 : decode cX8_dusks 30 = .ok (.getfield 20, 3) := by decide +kernel
theorem dX8_dusks_33 : decode cX8_dusks 33 = .ok (.iconst 3, 1) := by decide +kernel
theorem dX8_dusks_34 : decode cX8_dusks 34 = .ok (.iload_n 1, 1) := by decide +kernel
theorem dX8_dusks_35 : decode cX8_dusks 35 = .ok (.imul, 1) := by decide +kernel
theorem dX8_dusks_36 : decode cX8_dusks 36 = .ok (.iconst 2, 1) := by decide +kernel
theorem dX8_dusks_37 : decode cX8_dusks 37 = .ok (.iadd, 1) := by decide +kernel
theorem dX8_dusks_38 : decode cX8_dusks 38 = .ok (.iaload, 1) := by decide +kernel
theorem dX8_dusks_39 : decode cX8_dusks 39 = .ok (.invokevirtual 196, 3) := by decide +kernel
theorem dX8_dusks_42 : decode cX8_dusks 42 = .ok (.iinc 1 1, 3) := by decide +kernel
theorem dX8_dusks_45 : decode cX8_dusks 45 = .ok (.goto (-43), 3) := by decide +kernel
theorem dX8_dusks_48 : decode cX8_dusks 48 = .ok (.return_, 1) := by decide +kernel
theorem dX8_leadsTo_0 : decode cX8_leadsTo 0 = .ok (.aload_n 1, 1) := by decide +kernel
theorem dX8_leadsTo_1 : decode cX8_leadsTo 1 = .ok (.iload_n 2, 1) := by decide +kernel
theorem dX8_leadsTo_2 : decode cX8_leadsTo 2 = .ok (.iconst 3, 1) := by decide +kernel
theorem dX8_leadsTo_3 : decode cX8_leadsTo 3 = .ok (.iload_n 3, 1) := by decide +kernel
theorem dX8_leadsTo_4 : decode cX8_leadsTo 4 = .ok (.imul, 1) := by decide +kernel
theorem dX8_leadsTo_5 : decode cX8_leadsTo 5 = .ok (.iadd, 1) := by decide +kernel
theorem dX8_leadsTo_6 : decode cX8_leadsTo 6 = .ok (.iaload, 1) := by decide +kernel
theorem dX8_leadsTo_7 : decode cX8_leadsTo 7 = .ok (.istore 5, 2) := by decide +kernel
theorem dX8_leadsTo_9 : decode cX8_leadsTo 9 = .ok (.aload_n 1, 1) := by decide +kernel
theorem dX8_leadsTo_10 : decode cX8_leadsTo 10 = .ok (.iload_n 2, 1) := by decide +kernel
theorem dX8_leadsTo_11 : decode cX8_leadsTo 11 = .ok (.iconst 3, 1) := by decide +kernel
theorem dX8_leadsTo_12 : decode cX8_leadsTo 12 = .ok (.iload_n 3, 1) := by decide +kernel
theorem dX8_leadsTo_13 : decode cX8_leadsTo 13 = .ok (.imul, 1) := by decide +kernel
theorem dX8_leadsTo_14 : decode cX8_leadsTo 14 = .ok (.iadd, 1) := by decide +kernel
theorem dX8_leadsTo_15 : decode cX8_leadsTo 15 = .ok (.iconst 1, 1) := by decide +kernel
theorem dX8_leadsTo_16 : decode cX8_leadsTo 16 = .ok (.iadd, 1) := by decide +kernel
theorem dX8_leadsTo_17 : decode cX8_leadsTo 17 = .ok (.iaload, 1) := by decide +kernel
theorem dX8_leadsTo_18 : decode cX8_leadsTo 18 = .ok (.istore 6, 2) := by decide +kernel
theorem dX8_leadsTo_20 : decode cX8_leadsTo 20 = .ok (.aload_n 1, 1) := by decide +kernel
theorem dX8_leadsTo_21 : decode cX8_leadsTo 21 = .ok (.iload_n 2, 1) := by decide +kernel
theorem dX8_leadsTo_22 : decode cX8_leadsTo 22 = .ok (.iconst 3, 1) := by decide +kernel
theorem dX8_leadsTo_23 : decode cX8_leadsTo 23 = .ok (.iload_n 3, 1) := by decide +kernel
theorem dX8_leadsTo_24 : decode cX8_leadsTo 24 = .ok (.imul, 1) := by decide +kernel
theorem dX8_leadsTo_25 : decode cX8_leadsTo 25 = .ok (.iadd, 1) := by decide +kernel
theorem dX8_leadsTo_26 : decode cX8_leadsTo 26 = .ok (.iconst 2, 1) := by decide +kernel
theorem dX8_leadsTo_27 : decode cX8_leadsTo 27 = .ok (.iadd, 1) := by decide +kernel
theorem dX8_leadsTo_28 : decode cX8_leadsTo 28 = .ok (.iaload, 1) := by decide +kernel
theorem dX8_leadsTo_29 : decode cX8_leadsTo 29 = .ok (.iconst 1, 1) := by decide +kernel
theorem dX8_leadsTo_30 : decode cX8_leadsTo 30 = .ok (.if_icmp .eq 17, 3) := by decide +kernel
theorem dX8_leadsTo_33 : decode cX8_leadsTo 33 = .ok (.iload 5, 2) := by decide +kernel
theorem dX8_leadsTo_35 : decode cX8_leadsTo 35 = .ok (.iload 4, 2) := by decide +kernel
theorem dX8_leadsTo_37 : decode cX8_leadsTo 37 = .ok (.if_icmp .eq 13, 3) := by decide +kernel
theorem dX8_leadsTo_40 : decode cX8_leadsTo 40 = .ok (.iload 6, 2) := by decide +kernel
theorem dX8_leadsTo_42 : decode cX8_leadsTo 42 = .ok (.iload 4, 2) := by decide +kernel
theorem dX8_leadsTo_44 : decode cX8_leadsTo 44 = .ok (.if_icmp .eq 6, 3) := by decide +kernel
theorem dX8_leadsTo_47 : decode cX8_leadsTo 47 = .ok (.bipush (-4), 2) := by decide +kernel
theorem dX8_leadsTo_49 : decode cX8_leadsTo 49 = .ok (.ireturn, 1) := by decide +kernel
theorem dX8_leadsTo_50 : decode cX8_leadsTo 50 = .ok (.iload 5, 2) := by decide +kernel
theorem dX8_leadsTo_52 : decode cX8_leadsTo 52 = .ok (.iload 4, 2) := by decide +kernel
theorem dX8_leadsTo_54 : decode cX8_leadsTo 54 = .ok (.if_icmp .ne 8, 3) := by decide +kernel
theorem dX8_leadsTo_57 : decode cX8_leadsTo 57 = .ok (.iload 6, 2) := by decide +kernel
theorem dX8_leadsTo_59 : decode cX8_leadsTo 59 = .ok (.goto 5, 3) := by decide +kernel
theorem dX8_leadsTo_62 : decode cX8_leadsTo 62 = .ok (.iload 5, 2) := by decide +kernel
theorem dX8_leadsTo_64 : decode cX8_leadsTo 64 = .ok (.ireturn, 1) := by decide +kernel
set_option maxRecDepth 20000 in
theorem ggX8_leading_X8_leadsTo : GoodIn wsX8_leading wsX8_leadsTo := goodIn_r _ [6] (by decide +kernel) (by decide +kernel)
set_option maxRecDepth 20000 in
theorem gX8_leading_X8_leadsTo : GoodIn wsX8_leading (wsV RX8 200 RX8 yX8_leadsTo wsX8_leadsTo) := goodIn_app (goodIn_of _ (by decide +kernel)) ggX8_leading_X8_leadsTo
theorem dX8_leading_0 : decode cX8_leading 0 = .ok (.iconst 0, 1) := by decide +kernel
theorem dX8_leading_1 : decode cX8_leading 1 = .ok (.istore 4, 2) := by decide +kernel
theorem dX8_leading_3 : decode cX8_leading 3 = .ok (.iconst 0, 1) := by decide +kernel
theorem dX8_leading_4 : decode cX8_leading 4 = .ok (.istore 5, 2) := by decide +kernel
theorem dX8_leading_6 : decode cX8_leading 6 = .ok (.iload 5, 2) := by decide +kernel
theorem dX8_leading_8 : decode cX8_leading 8 = .ok (.aload_n 0, 1) := by decide +kernel
theorem dX8_leading_9 : decode cX8_leading 9 = .ok (.getfield 175, 3) := by decide +kernel
theorem dX8_leading_12 : decode cX8_leading 12 = .ok (.if_icmp .ge 36, 3) := by decide +kernel
theorem dX8_leading_15 : decode cX8_leading 15 = .ok (.iload 4, 2) := by decide +kernel
theorem dX8_leading_17 : decode cX8_leading 17 = .ok (.aload_n 0, 1) := by decide +kernel
theorem dX8_leading_18 : decode cX8_leading 18 = .ok (.aload_n 1, 1) := by decide +kernel
theorem dX8_leading_19 : decode cX8_leading 19 = .ok (.iload_n 2, 1) := by decide +kernel
theorem dX8_leading_20 : decode cX8_leading 20 = .ok (.iload 5, 2) := by decide +kernel
theorem dX8_leading_22 : decode cX8_leading 22 = .ok (.iload_n 3, 1) := by decide +kernel
theorem dX8_leading_23 : decode cX8_leading 23 = .ok (.invokevirtual 200, 3) := by decide +kernel
theorem dX8_leading_26 : decode cX8_leading 26 = .ok (.bipush (-4), 2) := by decide +kernel
theorem dX8_leading_28 : decode cX8_leading 28 = .ok (.if_icmp .eq 10, 3) := by decide +kernel
theorem dX8_leading_31 : decode cX8_leading 31 = .ok (.iconst 1, 1) := by decide +kernel
theorem dX8_leading_32 : decode cX8_leading 32 = .ok (.iload 5, 2) := by decide +kernel
theorem dX8_leading_34 : decode cX8_leading 34 = .ok (.ishl, 1) := by decide +kernel
theorem dX8_leading_35 : decode cX8_leading 35 = .ok (.goto 4, 3) := by decide +kernel
theorem dX8_leading_38 : decode cX8_leading 38 = .ok (.iconst 0, 1) := by decide +kernel
theorem dX8_leading_39 : decode cX8_leading 39 = .ok (.ior, 1) := by decide +kernel
theorem dX8_leading_40 : decode cX8_leading 40 = .ok (.istore 4, 2) := by decide +kernel
theorem dX8_leading_42 : decode cX8_leading 42 = .ok (.iinc 5 1, 3) := by decide +kernel
theorem dX8_leading_45 : decode cX8_leading 45 = .ok (.goto (-39), 3) := by decide +kernel
theorem dX8_leading_48 : decode cX8_leading 48 = .ok (.iload 4, 2) := by decide +kernel
theorem dX8_leading_50 : decode cX8_leading 50 = .ok (.ireturn, 1) := by decide +kernel
theorem dX8_bitsOf_0 : decode cX8_bitsOf 0 = .ok (.iconst 0, 1) := by decide +kernel
theorem dX8_bitsOf_1 : decode cX8_bitsOf 1 = .ok (.istore_n 1, 1) := by decide +kernel
theorem dX8_bitsOf_2 : decode cX8_bitsOf 2 = .ok (.iconst 0, 1) := by decide +kernel
theorem dX8_bitsOf_3 : decode cX8_bitsOf 3 = .ok (.istore_n 2, 1) := by decide +kernel
theorem dX8_bitsOf_4 : decode cX8_bitsOf 4 = .ok (.iload_n 2, 1) := by decide +kernel
theorem dX8_bitsOf_5 : decode cX8_bitsOf 5 = .ok (.bipush 10, 2) := by decide +kernel
theorem dX8_bitsOf_7 : decode cX8_bitsOf 7 = .ok (.if_icmp .ge 17, 3) := by decide +kernel
theorem dX8_bitsOf_10 : decode cX8_bitsOf 10 = .ok (.iload_n 1, 1) := by decide +kernel
theorem dX8_bitsOf_11 : decode cX8_bitsOf 11 = .ok (.iload_n 0, 1) := by decide +kernel
theorem dX8_bitsOf_12 : decode cX8_bitsOf 12 = .ok (.iload_n 2, 1) := by decide +kernel
theorem dX8_bitsOf_13 : decode cX8_bitsOf 13 = .ok (.ishr, 1) := by decide +kernel
theorem dX8_bitsOf_14 : decode cX8_bitsOf 14 = .ok (.iconst 1, 1) := by decide +kernel
theorem dX8_bitsOf_15 : decode cX8_bitsOf 15 = .ok (.iand, 1) := by decide +kernel
theorem dX8_bitsOf_16 : decode cX8_bitsOf 16 = .ok (.iadd, 1) := by decide +kernel
theorem dX8_bitsOf_17 : decode cX8_bitsOf 17 = .ok (.istore_n 1, 1) := by decide +kernel
theorem dX8_bitsOf_18 : decode cX8_bitsOf 18 = .ok (.iinc 2 1, 3) := by decide +kernel
theorem dX8_bitsOf_21 : decode cX8_bitsOf 21 = .ok (.goto (-17), 3) := by decide +kernel
theorem dX8_bitsOf_24 : decode cX8_bitsOf 24 = .ok (.iload_n 1, 1) := by decide +kernel
theorem dX8_bitsOf_25 : decode cX8_bitsOf 25 = .ok (.ireturn, 1) := by decide +kernel
theorem dX8_placeOf_0 : decode cX8_placeOf 0 = .ok (.iload_n 1, 1) := by decide +kernel
theorem dX8_placeOf_1 : decode cX8_placeOf 1 = .ok (.istore_n 2, 1) := by decide +kernel
theorem dX8_placeOf_2 : decode cX8_placeOf 2 = .ok (.iconst 0, 1) := by decide +kernel
theorem dX8_placeOf_3 : decode cX8_placeOf 3 = .ok (.istore_n 3, 1) := by decide +kernel
theorem dX8_placeOf_4 : decode cX8_placeOf 4 = .ok (.iload_n 0, 1) := by decide +kernel
theorem dX8_placeOf_5 : decode cX8_placeOf 5 = .ok (.iload_n 3, 1) := by decide +kernel
theorem dX8_placeOf_6 : decode cX8_placeOf 6 = .ok (.ishr, 1) := by decide +kernel
theorem dX8_placeOf_7 : decode cX8_placeOf 7 = .ok (.iconst 1, 1) := by decide +kernel
theorem dX8_placeOf_8 : decode cX8_placeOf 8 = .ok (.iand, 1) := by decide +kernel
theorem dX8_placeOf_9 : decode cX8_placeOf 9 = .ok (.ifCond .eq 7, 3) := by decide +kernel
theorem dX8_placeOf_12 : decode cX8_placeOf 12 = .ok (.iload_n 2, 1) := by decide +kernel
theorem dX8_placeOf_13 : decode cX8_placeOf 13 = .ok (.ifCond .le 17, 3) := by decide +kernel
theorem dX8_placeOf_16 : decode cX8_placeOf 16 = .ok (.iload_n 2, 1) := by decide +kernel
theorem dX8_placeOf_17 : decode cX8_placeOf 17 = .ok (.iload_n 0, 1) := by decide +kernel
theorem dX8_placeOf_18 : decode cX8_placeOf 18 = .ok (.iload_n 3, 1) := by decide +kernel
theorem dX8_placeOf_19 : decode cX8_placeOf 19 = .ok (.ishr, 1) := by decide +kernel
theorem dX8_placeOf_20 : decode cX8_placeOf 20 = .ok (.iconst 1, 1) := by decide +kernel
theorem dX8_placeOf_21 : decode cX8_placeOf 21 = .ok (.iand, 1) := by decide +kernel
theorem dX8_placeOf_22 : decode cX8_placeOf 22 = .ok (.isub, 1) := by decide +kernel
theorem dX8_placeOf_23 : decode cX8_placeOf 23 = .ok (.istore_n 2, 1) := by decide +kernel
theorem dX8_placeOf_24 : decode cX8_placeOf 24 = .ok (.iinc 3 1, 3) := by decide +kernel
theorem dX8_placeOf_27 : decode cX8_placeOf 27 = .ok (.goto (-23), 3) := by decide +kernel
theorem dX8_placeOf_30 : decode cX8_placeOf 30 = .ok (.iload_n 3, 1) := by decide +kernel
theorem dX8_placeOf_31 : decode cX8_placeOf 31 = .ok (.ireturn, 1) := by decide +kernel
set_option maxRecDepth 20000 in
theorem ggX8_goesTo_X8_leading : GoodIn wsX8_goesTo wsX8_leading := goodIn_r _ [6, 1, 7, 8, 9, 5, 10, 17, 18, 19, 20, 21, 22, 23, 24, 25, 26, 27, 28, 29, 30, 31, 32, 33, 34, 35, 36, 37, 38, 39, 40, 41, 42, 43, 44, 45, 46, 47, 48, 49, 50, 51, 52, 53, 54, 55] (by decide +kernel) (by decide +kernel)
set_option maxRecDepth 20000 in
theorem gX8_goesTo_X8_leading : GoodIn wsX8_goesTo (wsV RX8 204 RX8 yX8_leading wsX8_leading) := goodIn_app (goodIn_of _ (by decide +kernel)) ggX8_goesTo_X8_leading
set_option maxRecDepth 20000 in
theorem ggX8_goesTo_X8_leadsTo : GoodIn wsX8_goesTo wsX8_leadsTo := goodIn_r _ [10] (by decide +kernel) (by decide +kernel)
set_option maxRecDepth 20000 in
theorem gX8_goesTo_X8_leadsTo : GoodIn wsX8_goesTo (wsV RX8 200 RX8 yX8_leadsTo wsX8_leadsTo) := goodIn_app (goodIn_of _ (by decide +kernel)) ggX8_goesTo_X8_leadsTo
set_option maxRecDepth 20000 in
theorem ggX8_goesTo_X8_bitsOf : GoodIn wsX8_goesTo wsX8_bitsOf := goodIn_r _ [13] (by decide +kernel) (by decide +kernel)
set_option maxRecDepth 20000 in
theorem gX8_goesTo_X8_bitsOf : GoodIn wsX8_goesTo (va_wsS RX8 208 yX8_bitsOf wsX8_bitsOf) := goodIn_app (goodIn_of _ (by decide +kernel)) ggX8_goesTo_X8_bitsOf
set_option maxRecDepth 20000 in
theorem ggX8_goesTo_X8_placeOf : GoodIn wsX8_goesTo wsX8_placeOf := goodIn_r _ [16] (by decide +kernel) (by decide +kernel)
set_option maxRecDepth 20000 in
theorem gX8_goesTo_X8_placeOf : GoodIn wsX8_goesTo (va_wsS RX8 211 yX8_placeOf wsX8_placeOf) := goodIn_app (goodIn_of _ (by decide +kernel)) ggX8_goesTo_X8_placeOf
theorem dX8_goesTo_0 : decode cX8_goesTo 0 = .ok (.aload_n 0, 1) := by decide +kernel
theorem dX8_goesTo_1 : decode cX8_goesTo 1 = .ok (.aload_n 1, 1) := by decide +kernel
theorem dX8_goesTo_2 : decode cX8_goesTo 2 = .ok (.iload_n 2, 1) := by decide +kernel
theorem dX8_goesTo_3 : decode cX8_goesTo 3 = .ok (.iload_n 3, 1) := by decide +kernel
theorem dX8_goesTo_4 : decode cX8_goesTo 4 = .ok (.invokevirtual 204, 3) := by decide +kernel
theorem dX8_goesTo_7 : decode cX8_goesTo 7 = .ok (.istore 7, 2) := by decide +kernel
theorem dX8_goesTo_9 : decode cX8_goesTo 9 = .ok (.iload 5, 2) := by decide +kernel
theorem dX8_goesTo_11 : decode cX8_goesTo 11 = .ok (.ifCond .eq 8, 3) := by decide +kernel
theorem dX8_goesTo_14 : decode cX8_goesTo 14 = .ok (.iload 7, 2) := by decide +kernel
theorem dX8_goesTo_16 : decode cX8_goesTo 16 = .ok (.ifCond .ne 5, 3) := by decide +kernel
theorem dX8_goesTo_19 : decode cX8_goesTo 19 = .ok (.iload_n 3, 1) := by decide +kernel
theorem dX8_goesTo_20 : decode cX8_goesTo 20 = .ok (.ireturn, 1) := by decide +kernel
theorem dX8_goesTo_21 : decode cX8_goesTo 21 = .ok (.iload 5, 2) := by decide +kernel
theorem dX8_goesTo_23 : decode cX8_goesTo 23 = .ok (.iconst 2, 1) := by decide +kernel
theorem dX8_goesTo_24 : decode cX8_goesTo 24 = .ok (.if_icmp .ne 62, 3) := by decide +kernel
theorem dX8_goesTo_27 : decode cX8_goesTo 27 = .ok (.iconst 0, 1) := by decide +kernel
theorem dX8_goesTo_28 : decode cX8_goesTo 28 = .ok (.istore 8, 2) := by decide +kernel
theorem dX8_goesTo_30 : decode cX8_goesTo 30 = .ok (.iconst 0, 1) := by decide +kernel
theorem dX8_goesTo_31 : decode cX8_goesTo 31 = .ok (.istore 9, 2) := by decide +kernel
theorem dX8_goesTo_33 : decode cX8_goesTo 33 = .ok (.iload 9, 2) := by decide +kernel
theorem dX8_goesTo_35 : decode cX8_goesTo 35 = .ok (.aload_n 0, 1) := by decide +kernel
theorem dX8_goesTo_36 : decode cX8_goesTo 36 = .ok (.getfield 175, 3) := by decide +kernel
theorem dX8_goesTo_39 : decode cX8_goesTo 39 = .ok (.if_icmp .ge 35, 3) := by decide +kernel
theorem dX8_goesTo_42 : decode cX8_goesTo 42 = .ok (.iload 8, 2) := by decide +kernel
theorem dX8_goesTo_44 : decode cX8_goesTo 44 = .ok (.ifCond .ne 17, 3) := by decide +kernel
theorem dX8_goesTo_47 : decode cX8_goesTo 47 = .ok (.aload_n 0, 1) := by decide +kernel
theorem dX8_goesTo_48 : decode cX8_goesTo 48 = .ok (.aload_n 1, 1) := by decide +kernel
theorem dX8_goesTo_49 : decode cX8_goesTo 49 = .ok (.iload_n 2, 1) := by decide +kernel
theorem dX8_goesTo_50 : decode cX8_goesTo 50 = .ok (.iload 9, 2) := by decide +kernel
theorem dX8_goesTo_52 : decode cX8_goesTo 52 = .ok (.iload_n 3, 1) := by decide +kernel
theorem dX8_goesTo_53 : decode cX8_goesTo 53 = .ok (.invokevirtual 200, 3) := by decide +kernel
theorem dX8_goesTo_56 : decode cX8_goesTo 56 = .ok (.iload 4, 2) := by decide +kernel
theorem dX8_goesTo_58 : decode cX8_goesTo 58 = .ok (.if_icmp .ne 7, 3) := by decide +kernel
theorem dX8_goesTo_61 : decode cX8_goesTo 61 = .ok (.iconst 1, 1) := by decide +kernel
theorem dX8_goesTo_62 : decode cX8_goesTo 62 = .ok (.goto 4, 3) := by decide +kernel
theorem dX8_goesTo_65 : decode cX8_goesTo 65 = .ok (.iconst 0, 1) := by decide +kernel
theorem dX8_goesTo_66 : decode cX8_goesTo 66 = .ok (.istore 8, 2) := by decide +kernel
theorem dX8_goesTo_68 : decode cX8_goesTo 68 = .ok (.iinc 9 1, 3) := by decide +kernel
theorem dX8_goesTo_71 : decode cX8_goesTo 71 = .ok (.goto (-38), 3) := by decide +kernel
theorem dX8_goesTo_74 : decode cX8_goesTo 74 = .ok (.iload 8, 2) := by decide +kernel
theorem dX8_goesTo_76 : decode cX8_goesTo 76 = .ok (.ifCond .eq 8, 3) := by decide +kernel
theorem dX8_goesTo_79 : decode cX8_goesTo 79 = .ok (.iload 4, 2) := by decide +kernel
theorem dX8_goesTo_81 : decode cX8_goesTo 81 = .ok (.goto 4, 3) := by decide +kernel
theorem dX8_goesTo_84 : decode cX8_goesTo 84 = .ok (.iload_n 3, 1) := by decide +kernel
theorem dX8_goesTo_85 : decode cX8_goesTo 85 = .ok (.ireturn, 1) := by decide +kernel
theorem dX8_goesTo_86 : decode cX8_goesTo 86 = .ok (.iload 7, 2) := by decide +kernel
theorem dX8_goesTo_88 : decode cX8_goesTo 88 = .ok (.iload 5, 2) := by decide +kernel
theorem dX8_goesTo_90 : decode cX8_goesTo 90 = .ok (.iconst 1, 1) := by decide +kernel
theorem dX8_goesTo_91 : decode cX8_goesTo 91 = .ok (.if_icmp .ne 7, 3) := by decide +kernel
theorem dX8_goesTo_94 : decode cX8_goesTo 94 = .ok (.iconst 0, 1) := by decide +kernel
theorem dX8_goesTo_95 : decode cX8_goesTo 95 = .ok (.goto 11, 3) := by decide +kernel
theorem dX8_goesTo_98 : decode cX8_goesTo 98 = .ok (.iload 6, 2) := by decide +kernel
theorem dX8_goesTo_100 : decode cX8_goesTo 100 = .ok (.iload 7, 2) := by decide +kernel
theorem dX8_goesTo_102 : decode cX8_goesTo 102 = .ok (.invokestatic 208, 3) := by decide +kernel
theorem dX8_goesTo_105 : decode cX8_goesTo 105 = .ok (.irem, 1) := by decide +kernel
theorem dX8_goesTo_106 : decode cX8_goesTo 106 = .ok (.invokestatic 211, 3) := by decide +kernel
theorem dX8_goesTo_109 : decode cX8_goesTo 109 = .ok (.istore 8, 2) := by decide +kernel
theorem dX8_goesTo_111 : decode cX8_goesTo 111 = .ok (.aload_n 0, 1) := by decide +kernel
theorem dX8_goesTo_112 : decode cX8_goesTo 112 = .ok (.aload_n 1, 1) := by decide +kernel
theorem dX8_goesTo_113 : decode cX8_goesTo 113 = .ok (.iload_n 2, 1) := by decide +kernel
theorem dX8_goesTo_114 : decode cX8_goesTo 114 = .ok (.iload 8, 2) := by decide +kernel
theorem dX8_goesTo_116 : decode cX8_goesTo 116 = .ok (.iload_n 3, 1) := by decide +kernel
theorem dX8_goesTo_117 : decode cX8_goesTo 117 = .ok (.invokevirtual 200, 3) := by decide +kernel
theorem dX8_goesTo_120 : decode cX8_goesTo 120 = .ok (.ireturn, 1) := by decide +kernel
set_option maxRecDepth 20000 in
theorem ggX8_doors_X8_isRoom : GoodIn wsX8_doors wsX8_isRoom := goodIn_r _ [6, 7, 8, 9, 5, 10, 20, 21, 22, 23, 24, 25, 26, 27, 28, 29, 30, 31, 32, 33, 34, 35, 36, 37, 38, 39, 40, 41, 42, 43, 44, 45, 46, 47, 48, 49, 50, 51, 52, 53, 54, 55, 56, 57, 58] (by decide +kernel) (by decide +kernel)
set_option maxRecDepth 20000 in
theorem gX8_doors_X8_isRoom : GoodIn wsX8_doors (wsV RX8 215 RX8 yX8_isRoom wsX8_isRoom) := goodIn_app (goodIn_of _ (by decide +kernel)) ggX8_doors_X8_isRoom
set_option maxRecDepth 20000 in
theorem ggX8_doors_X8_leading : GoodIn wsX8_doors wsX8_leading := goodIn_r _ [14, 15, 16, 17, 18, 5, 19, 20, 21, 22, 23, 24, 25, 26, 27, 28, 29, 30, 31, 32, 33, 34, 35, 36, 37, 38, 39, 40, 41, 42, 43, 44, 45, 46, 47, 48, 49, 50, 51, 52, 53, 54, 55, 56, 57, 58] (by decide +kernel) (by decide +kernel)
set_option maxRecDepth 20000 in
theorem gX8_doors_X8_leading : GoodIn wsX8_doors (wsV RX8 204 RX8 yX8_leading wsX8_leading) := goodIn_app (goodIn_of _ (by decide +kernel)) ggX8_doors_X8_leading
theorem dX8_doors_0 : decode cX8_doors 0 = .ok (.aload_n 0, 1) := by decide +kernel
theorem dX8_doors_1 : decode cX8_doors 1 = .ok (.iload_n 1, 1) := by decide +kernel
theorem dX8_doors_2 : decode cX8_doors 2 = .ok (.invokevirtual 215, 3) := by decide +kernel
theorem dX8_doors_5 : decode cX8_doors 5 = .ok (.ifCond .eq 16, 3) := by decide +kernel
theorem dX8_doors_8 : decode cX8_doors 8 = .ok (.aload_n 0, 1) := by decide +kernel
theorem dX8_doors_9 : decode cX8_doors 9 = .ok (.aload_n 0, 1) := by decide +kernel
theorem dX8_doors_10 : decode cX8_doors 10 = .ok (.getfield 7, 3) := by decide +kernel
theorem dX8_doors_13 : decode cX8_doors 13 = .ok (.iconst 0, 1) := by decide +kernel
theorem dX8_doors_14 : decode cX8_doors 14 = .ok (.iload_n 1, 1) := by decide +kernel
theorem dX8_doors_15 : decode cX8_doors 15 = .ok (.invokevirtual 204, 3) := by decide +kernel
theorem dX8_doors_18 : decode cX8_doors 18 = .ok (.goto 4, 3) := by decide +kernel
theorem dX8_doors_21 : decode cX8_doors 21 = .ok (.iconst (-1), 1) := by decide +kernel
theorem dX8_doors_22 : decode cX8_doors 22 = .ok (.ireturn, 1) := by decide +kernel
theorem dX8_sets_0 : decode cX8_sets 0 = .ok (.iload_n 1, 1) := by decide +kernel
theorem dX8_sets_1 : decode cX8_sets 1 = .ok (.ifCond .ne 5, 3) := by decide +kernel
theorem dX8_sets_4 : decode cX8_sets 4 = .ok (.iconst (-1), 1) := by decide +kernel
theorem dX8_sets_5 : decode cX8_sets 5 = .ok (.ireturn, 1) := by decide +kernel
theorem dX8_sets_6 : decode cX8_sets 6 = .ok (.aload_n 0, 1) := by decide +kernel
theorem dX8_sets_7 : decode cX8_sets 7 = .ok (.getfield 7, 3) := by decide +kernel
theorem dX8_sets_10 : decode cX8_sets 10 = .ok (.iload_n 2, 1) := by decide +kernel
theorem dX8_sets_11 : decode cX8_sets 11 = .ok (.iaload, 1) := by decide +kernel
theorem dX8_sets_12 : decode cX8_sets 12 = .ok (.istore 4, 2) := by decide +kernel
theorem dX8_sets_14 : decode cX8_sets 14 = .ok (.aload_n 0, 1) := by decide +kernel
theorem dX8_sets_15 : decode cX8_sets 15 = .ok (.getfield 7, 3) := by decide +kernel
theorem dX8_sets_18 : decode cX8_sets 18 = .ok (.iload_n 2, 1) := by decide +kernel
theorem dX8_sets_19 : decode cX8_sets 19 = .ok (.iload_n 3, 1) := by decide +kernel
theorem dX8_sets_20 : decode cX8_sets 20 = .ok (.iastore, 1) := by decide +kernel
theorem dX8_sets_21 : decode cX8_sets 21 = .ok (.iload 4, 2) := by decide +kernel
theorem dX8_sets_23 : decode cX8_sets 23 = .ok (.ireturn, 1) := by decide +kernel
set_option maxRecDepth 20000 in
theorem ggX8_bar_X8_isDoor : GoodIn wsX8_bar wsX8_isDoor := goodIn_r _ [5, 6, 7, 8, 4, 9, 15, 16, 17, 18, 19, 20, 21, 22, 23, 24, 25, 26, 27, 28, 29, 30, 31, 32, 33, 34, 35, 36, 37, 38, 39, 40, 41, 42, 43, 44, 45, 46, 47, 48, 49, 50, 51, 52, 53] (by decide +kernel) (by decide +kernel)
set_option maxRecDepth 20000 in
theorem gX8_bar_X8_isDoor : GoodIn wsX8_bar (wsV RX8 190 RX8 yX8_isDoor wsX8_isDoor) := goodIn_app (goodIn_of _ (by decide +kernel)) ggX8_bar_X8_isDoor
set_option maxRecDepth 20000 in
theorem ggX8_bar_X8_sets : GoodIn wsX8_bar wsX8_sets := goodIn_r _ [13, 14, 15, 16, 17, 18, 19, 20, 21, 22, 23, 24, 25, 26, 27, 28, 29, 30, 31, 32, 33, 34, 35, 36, 37, 38, 39, 40, 41, 42, 43, 44, 45, 46, 47, 48, 49, 50, 51, 52, 53] (by decide +kernel) (by decide +kernel)
set_option maxRecDepth 20000 in
theorem gX8_bar_X8_sets : GoodIn wsX8_bar (wsV RX8 218 RX8 yX8_sets wsX8_sets) := goodIn_app (goodIn_of _ (by decide +kernel)) ggX8_bar_X8_sets
theorem dX8_bar_0 : decode cX8_bar 0 = .ok (.aload_n 0, 1) := by decide +kernel
theorem dX8_bar_1 : decode cX8_bar 1 = .ok (.aload_n 0, 1) := by decide +kernel
theorem dX8_bar_2 : decode cX8_bar 2 = .ok (.iload_n 1, 1) := by decide +kernel
theorem dX8_bar_3 : decode cX8_bar 3 = .ok (.invokevirtual 190, 3) := by decide +kernel
theorem dX8_bar_6 : decode cX8_bar 6 = .ok (.iconst 3, 1) := by decide +kernel
theorem dX8_bar_7 : decode cX8_bar 7 = .ok (.iload_n 1, 1) := by decide +kernel
theorem dX8_bar_8 : decode cX8_bar 8 = .ok (.imul, 1) := by decide +kernel
theorem dX8_bar_9 : decode cX8_bar 9 = .ok (.iconst 2, 1) := by decide +kernel
theorem dX8_bar_10 : decode cX8_bar 10 = .ok (.iadd, 1) := by decide +kernel
theorem dX8_bar_11 : decode cX8_bar 11 = .ok (.iload_n 2, 1) := by decide +kernel
theorem dX8_bar_12 : decode cX8_bar 12 = .ok (.ifCond .eq 7, 3) := by decide +kernel
theorem dX8_bar_15 : decode cX8_bar 15 = .ok (.iconst 1, 1) := by decide +kernel
theorem dX8_bar_16 : decode cX8_bar 16 = .ok (.goto 4, 3) := by decide +kernel
theorem dX8_bar_19 : decode cX8_bar 19 = .ok (.iconst 0, 1) := by decide +kernel
theorem dX8_bar_20 : decode cX8_bar 20 = .ok (.invokevirtual 218, 3) := by decide +kernel
theorem dX8_bar_23 : decode cX8_bar 23 = .ok (.ireturn, 1) := by decide +kernel
set_option maxRecDepth 20000 in
theorem ggX8_period_X8_in : GoodIn wsX8_period wsX8_in := goodIn_r _ [5] (by decide +kernel) (by decide +kernel)
set_option maxRecDepth 20000 in
theorem gX8_period_X8_in : GoodIn wsX8_period (va_wsS RX8 72 yX8_in wsX8_in) := goodIn_app (goodIn_of _ (by decide +kernel)) ggX8_period_X8_in
set_option maxRecDepth 20000 in
theorem ggX8_period_X8_sets : GoodIn wsX8_period wsX8_sets := goodIn_r _ [9, 10, 11, 12, 13, 14, 15, 16, 17, 18, 19, 20, 21, 22, 23, 24, 25, 26, 27, 28, 29, 30, 31, 32, 33, 34, 35, 36, 37, 38, 39, 40, 41, 42, 43, 44, 45, 46, 47, 48, 49] (by decide +kernel) (by decide +kernel)
set_option maxRecDepth 20000 in
theorem gX8_period_X8_sets : GoodIn wsX8_period (wsV RX8 218 RX8 yX8_sets wsX8_sets) := goodIn_app (goodIn_of _ (by decide +kernel)) ggX8_period_X8_sets
theorem dX8_period_0 : decode cX8_period 0 = .ok (.iload_n 1, 1) := by decide +kernel
theorem dX8_period_1 : decode cX8_period 1 = .ok (.i2l, 1) := by decide +kernel
theorem dX8_period_2 : decode cX8_period 2 = .ok (.lconst 1, 1) := by decide +kernel
theorem dX8_period_3 : decode cX8_period 3 = .ok (.ldc2_w 222, 3) := by decide +kernel
theorem dX8_period_6 : decode cX8_period 6 = .ok (.invokestatic 72, 3) := by decide +kernel
theorem dX8_period_9 : decode cX8_period 9 = .ok (.ifCond .ne 5, 3) := by decide +kernel
theorem dX8_period_12 : decode cX8_period 12 = .ok (.iconst (-1), 1) := by decide +kernel
theorem dX8_period_13 : decode cX8_period 13 = .ok (.ireturn, 1) := by decide +kernel
theorem dX8_period_14 : decode cX8_period 14 = .ok (.iconst 1, 1) := by decide +kernel
theorem dX8_period_15 : decode cX8_period 15 = .ok (.aload_n 0, 1) := by decide +kernel
theorem dX8_period_16 : decode cX8_period 16 = .ok (.iconst 1, 1) := by decide +kernel
theorem dX8_period_17 : decode cX8_period 17 = .ok (.bipush 30, 2) := by decide +kernel
theorem dX8_period_19 : decode cX8_period 19 = .ok (.iload_n 1, 1) := by decide +kernel
theorem dX8_period_20 : decode cX8_period 20 = .ok (.iconst 1, 1) := by decide +kernel
theorem dX8_period_21 : decode cX8_period 21 = .ok (.isub, 1) := by decide +kernel
theorem dX8_period_22 : decode cX8_period 22 = .ok (.invokevirtual 218, 3) := by decide +kernel
theorem dX8_period_25 : decode cX8_period 25 = .ok (.iadd, 1) := by decide +kernel
theorem dX8_period_26 : decode cX8_period 26 = .ok (.ireturn, 1) := by decide +kernel
set_option maxRecDepth 20000 in
theorem ggX8_put_X8_isRoom : GoodIn wsX8_put wsX8_isRoom := goodIn_r _ [6, 7, 8, 9, 5, 10, 19, 20, 21, 22, 23, 24, 25, 26, 27, 28, 29, 30, 31, 32, 33, 34, 35, 36, 37, 38, 39, 40, 41, 42, 43, 44, 45, 46, 47, 48, 49, 50, 51, 52, 53, 54, 55, 56, 57] (by decide +kernel) (by decide +kernel)
set_option maxRecDepth 20000 in
theorem gX8_put_X8_isRoom : GoodIn wsX8_put (wsV RX8 215 RX8 yX8_isRoom wsX8_isRoom) := goodIn_app (goodIn_of _ (by decide +kernel)) ggX8_put_X8_isRoom
set_option maxRecDepth 20000 in
theorem ggX8_put_X8_beastNow : GoodIn wsX8_put wsX8_beastNow := goodIn_r _ [14, 1, 19, 20, 21, 22, 23, 24, 25, 26, 27, 28, 29, 30, 31, 32, 33, 34, 35, 36, 37, 38, 39, 40, 41, 42, 43, 44, 45, 46, 47, 48, 49, 50, 51, 52, 53, 54, 55, 56, 57] (by decide +kernel) (by decide +kernel)
set_option maxRecDepth 20000 in
theorem gX8_put_X8_beastNow : GoodIn wsX8_put (wsV RX8 187 RX8 yX8_beastNow wsX8_beastNow) := goodIn_app (goodIn_of _ (by decide +kernel)) ggX8_put_X8_beastNow
set_option maxRecDepth 20000 in
theorem ggX8_put_X8_sets : GoodIn wsX8_put wsX8_sets := goodIn_r _ [18, 1, 19, 20, 21, 22, 23, 24, 25, 26, 27, 28, 29, 30, 31, 32, 33, 34, 35, 36, 37, 38, 39, 40, 41, 42, 43, 44, 45, 46, 47, 48, 49, 50, 51, 52, 53, 54, 55, 56, 57] (by decide +kernel) (by decide +kernel)
set_option maxRecDepth 20000 in
theorem gX8_put_X8_sets : GoodIn wsX8_put (wsV RX8 218 RX8 yX8_sets wsX8_sets) := goodIn_app (goodIn_of _ (by decide +kernel)) ggX8_put_X8_sets
theorem dX8_put_0 : decode cX8_put 0 = .ok (.aload_n 0, 1) := by decide +kernel
theorem dX8_put_1 : decode cX8_put 1 = .ok (.iload_n 1, 1) := by decide +kernel
theorem dX8_put_2 : decode cX8_put 2 = .ok (.invokevirtual 215, 3) := by decide +kernel
theorem dX8_put_5 : decode cX8_put 5 = .ok (.ifCond .ne 5, 3) := by decide +kernel
theorem dX8_put_8 : decode cX8_put 8 = .ok (.iconst (-1), 1) := by decide +kernel
theorem dX8_put_9 : decode cX8_put 9 = .ok (.ireturn, 1) := by decide +kernel
theorem dX8_put_10 : decode cX8_put 10 = .ok (.aload_n 0, 1) := by decide +kernel
theorem dX8_put_11 : decode cX8_put 11 = .ok (.invokevirtual 187, 3) := by decide +kernel
theorem dX8_put_14 : decode cX8_put 14 = .ok (.iload_n 1, 1) := by decide +kernel
theorem dX8_put_15 : decode cX8_put 15 = .ok (.if_icmp .ne 6, 3) := by decide +kernel
theorem dX8_put_18 : decode cX8_put 18 = .ok (.bipush (-2), 2) := by decide +kernel
theorem dX8_put_20 : decode cX8_put 20 = .ok (.ireturn, 1) := by decide +kernel
theorem dX8_put_21 : decode cX8_put 21 = .ok (.aload_n 0, 1) := by decide +kernel
theorem dX8_put_22 : decode cX8_put 22 = .ok (.getfield 7, 3) := by decide +kernel
theorem dX8_put_25 : decode cX8_put 25 = .ok (.bipush 48, 2) := by decide +kernel
theorem dX8_put_27 : decode cX8_put 27 = .ok (.iconst 0, 1) := by decide +kernel
theorem dX8_put_28 : decode cX8_put 28 = .ok (.iastore, 1) := by decide +kernel
theorem dX8_put_29 : decode cX8_put 29 = .ok (.aload_n 0, 1) := by decide +kernel
theorem dX8_put_30 : decode cX8_put 30 = .ok (.iconst 1, 1) := by decide +kernel
theorem dX8_put_31 : decode cX8_put 31 = .ok (.bipush 31, 2) := by decide +kernel
theorem dX8_put_33 : decode cX8_put 33 = .ok (.iload_n 1, 1) := by decide +kernel
theorem dX8_put_34 : decode cX8_put 34 = .ok (.invokevirtual 218, 3) := by decide +kernel
theorem dX8_put_37 : decode cX8_put 37 = .ok (.ireturn, 1) := by decide +kernel
set_option maxRecDepth 20000 in
theorem ggX8_lurk_X8_isRoom : GoodIn wsX8_lurk wsX8_isRoom := goodIn_r _ [7, 8, 9, 10, 6, 11, 16, 17, 18, 19, 20, 21, 22, 23, 24, 25, 26, 27, 28, 29, 30, 31, 32, 33, 34, 35, 36, 37, 38, 39, 40, 41, 42, 43, 44, 45, 46, 47, 48, 49, 50, 51, 52, 53, 54] (by decide +kernel) (by decide +kernel)
set_option maxRecDepth 20000 in
theorem gX8_lurk_X8_isRoom : GoodIn wsX8_lurk (wsV RX8 215 RX8 yX8_isRoom wsX8_isRoom) := goodIn_app (goodIn_of _ (by decide +kernel)) ggX8_lurk_X8_isRoom
set_option maxRecDepth 20000 in
theorem ggX8_lurk_X8_in : GoodIn wsX8_lurk wsX8_in := goodIn_r _ [11] (by decide +kernel) (by decide +kernel)
set_option maxRecDepth 20000 in
theorem gX8_lurk_X8_in : GoodIn wsX8_lurk (va_wsS RX8 72 yX8_in wsX8_in) := goodIn_app (goodIn_of _ (by decide +kernel)) ggX8_lurk_X8_in
set_option maxRecDepth 20000 in
theorem ggX8_lurk_X8_beastNow : GoodIn wsX8_lurk wsX8_beastNow := goodIn_r _ [15, 2, 16, 17, 18, 19, 20, 21, 22, 23, 24, 25, 26, 27, 28, 29, 30, 31, 32, 33, 34, 35, 36, 37, 38, 39, 40, 41, 42, 43, 44, 45, 46, 47, 48, 49, 50, 51, 52, 53, 54] (by decide +kernel) (by decide +kernel)
set_option maxRecDepth 20000 in
theorem gX8_lurk_X8_beastNow : GoodIn wsX8_lurk (wsV RX8 187 RX8 yX8_beastNow wsX8_beastNow) := goodIn_app (goodIn_of _ (by decide +kernel)) ggX8_lurk_X8_beastNow
theorem dX8_lurk_0 : decode cX8_lurk 0 = .ok (.aload_n 0, 1) := by decide +kernel
theorem dX8_lurk_1 : decode cX8_lurk 1 = .ok (.iload_n 1, 1) := by decide +kernel
theorem dX8_lurk_2 : decode cX8_lurk 2 = .ok (.invokevirtual 215, 3) := by decide +kernel
theorem dX8_lurk_5 : decode cX8_lurk 5 = .ok (.ifCond .ne 9, 3) := by decide +kernel
theorem dX8_lurk_8 : decode cX8_lurk 8 = .ok (.iload_n 1, 1) := by decide +kernel
theorem dX8_lurk_9 : decode cX8_lurk 9 = .ok (.bipush (-4), 2) := by decide +kernel
theorem dX8_lurk_11 : decode cX8_lurk 11 = .ok (.if_icmp .ne 15, 3) := by decide +kernel
theorem dX8_lurk_14 : decode cX8_lurk 14 = .ok (.iload_n 2, 1) := by decide +kernel
theorem dX8_lurk_15 : decode cX8_lurk 15 = .ok (.i2l, 1) := by decide +kernel
theorem dX8_lurk_16 : decode cX8_lurk 16 = .ok (.lconst 0, 1) := by decide +kernel
theorem dX8_lurk_17 : decode cX8_lurk 17 = .ok (.ldc2_w 150, 3) := by decide +kernel
theorem dX8_lurk_20 : decode cX8_lurk 20 = .ok (.invokestatic 72, 3) := by decide +kernel
theorem dX8_lurk_23 : decode cX8_lurk 23 = .ok (.ifCond .ne 5, 3) := by decide +kernel
theorem dX8_lurk_26 : decode cX8_lurk 26 = .ok (.iconst (-1), 1) := by decide +kernel
theorem dX8_lurk_27 : decode cX8_lurk 27 = .ok (.ireturn, 1) := by decide +kernel
theorem dX8_lurk_28 : decode cX8_lurk 28 = .ok (.iload_n 1, 1) := by decide +kernel
theorem dX8_lurk_29 : decode cX8_lurk 29 = .ok (.aload_n 0, 1) := by decide +kernel
theorem dX8_lurk_30 : decode cX8_lurk 30 = .ok (.getfield 7, 3) := by decide +kernel
theorem dX8_lurk_33 : decode cX8_lurk 33 = .ok (.bipush 31, 2) := by decide +kernel
theorem dX8_lurk_35 : decode cX8_lurk 35 = .ok (.iaload, 1) := by decide +kernel
theorem dX8_lurk_36 : decode cX8_lurk 36 = .ok (.if_icmp .ne 6, 3) := by decide +kernel
theorem dX8_lurk_39 : decode cX8_lurk 39 = .ok (.bipush (-2), 2) := by decide +kernel
theorem dX8_lurk_41 : decode cX8_lurk 41 = .ok (.ireturn, 1) := by decide +kernel
theorem dX8_lurk_42 : decode cX8_lurk 42 = .ok (.aload_n 0, 1) := by decide +kernel
theorem dX8_lurk_43 : decode cX8_lurk 43 = .ok (.invokevirtual 187, 3) := by decide +kernel
theorem dX8_lurk_46 : decode cX8_lurk 46 = .ok (.istore_n 3, 1) := by decide +kernel
theorem dX8_lurk_47 : decode cX8_lurk 47 = .ok (.aload_n 0, 1) := by decide +kernel
theorem dX8_lurk_48 : decode cX8_lurk 48 = .ok (.getfield 7, 3) := by decide +kernel
theorem dX8_lurk_51 : decode cX8_lurk 51 = .ok (.bipush 32, 2) := by decide +kernel
theorem dX8_lurk_53 : decode cX8_lurk 53 = .ok (.iload_n 1, 1) := by decide +kernel
theorem dX8_lurk_54 : decode cX8_lurk 54 = .ok (.bipush (-4), 2) := by decide +kernel
theorem dX8_lurk_56 : decode cX8_lurk 56 = .ok (.if_icmp .ne 7, 3) := by decide +kernel
theorem dX8_lurk_59 : decode cX8_lurk 59 = .ok (.iconst 0, 1) := by decide +kernel
theorem dX8_lurk_60 : decode cX8_lurk 60 = .ok (.goto 6, 3) := by decide +kernel
theorem dX8_lurk_63 : decode cX8_lurk 63 = .ok (.iload_n 1, 1) := by decide +kernel
theorem dX8_lurk_64 : decode cX8_lurk 64 = .ok (.iconst 1, 1) := by decide +kernel
theorem dX8_lurk_65 : decode cX8_lurk 65 = .ok (.iadd, 1) := by decide +kernel
theorem dX8_lurk_66 : decode cX8_lurk 66 = .ok (.iastore, 1) := by decide +kernel
theorem dX8_lurk_67 : decode cX8_lurk 67 = .ok (.aload_n 0, 1) := by decide +kernel
theorem dX8_lurk_68 : decode cX8_lurk 68 = .ok (.getfield 7, 3) := by decide +kernel
theorem dX8_lurk_71 : decode cX8_lurk 71 = .ok (.bipush 33, 2) := by decide +kernel
theorem dX8_lurk_73 : decode cX8_lurk 73 = .ok (.iload_n 2, 1) := by decide +kernel
theorem dX8_lurk_74 : decode cX8_lurk 74 = .ok (.iastore, 1) := by decide +kernel
theorem dX8_lurk_75 : decode cX8_lurk 75 = .ok (.iload_n 3, 1) := by decide +kernel
theorem dX8_lurk_76 : decode cX8_lurk 76 = .ok (.ireturn, 1) := by decide +kernel
set_option maxRecDepth 20000 in
theorem ggX8_bite_X8_in : GoodIn wsX8_bite wsX8_in := goodIn_r _ [5] (by decide +kernel) (by decide +kernel)
set_option maxRecDepth 20000 in
theorem gX8_bite_X8_in : GoodIn wsX8_bite (va_wsS RX8 72 yX8_in wsX8_in) := goodIn_app (goodIn_of _ (by decide +kernel)) ggX8_bite_X8_in
set_option maxRecDepth 20000 in
theorem ggX8_bite_X8_sets : GoodIn wsX8_bite wsX8_sets := goodIn_r _ [9, 1, 10, 11, 12, 13, 14, 15, 16, 17, 18, 19, 20, 21, 22, 23, 24, 25, 26, 27, 28, 29, 30, 31, 32, 33, 34, 35, 36, 37, 38, 39, 40, 41, 42, 43, 44, 45, 46, 47, 48] (by decide +kernel) (by decide +kernel)
set_option maxRecDepth 20000 in
theorem gX8_bite_X8_sets : GoodIn wsX8_bite (wsV RX8 218 RX8 yX8_sets wsX8_sets) := goodIn_app (goodIn_of _ (by decide +kernel)) ggX8_bite_X8_sets
theorem dX8_bite_0 : decode cX8_bite 0 = .ok (.aload_n 0, 1) := by decide +kernel
theorem dX8_bite_1 : decode cX8_bite 1 = .ok (.iload_n 1, 1) := by decide +kernel
theorem dX8_bite_2 : decode cX8_bite 2 = .ok (.i2l, 1) := by decide +kernel
theorem dX8_bite_3 : decode cX8_bite 3 = .ok (.lconst 0, 1) := by decide +kernel
theorem dX8_bite_4 : decode cX8_bite 4 = .ok (.aload_n 0, 1) := by decide +kernel
theorem dX8_bite_5 : decode cX8_bite 5 = .ok (.getfield 7, 3) := by decide +kernel
theorem dX8_bite_8 : decode cX8_bite 8 = .ok (.bipush 46, 2) := by decide +kernel
theorem dX8_bite_10 : decode cX8_bite 10 = .ok (.iaload, 1) := by decide +kernel
theorem dX8_bite_11 : decode cX8_bite 11 = .ok (.i2l, 1) := by decide +kernel
theorem dX8_bite_12 : decode cX8_bite 12 = .ok (.invokestatic 72, 3) := by decide +kernel
theorem dX8_bite_15 : decode cX8_bite 15 = .ok (.bipush 46, 2) := by decide +kernel
theorem dX8_bite_17 : decode cX8_bite 17 = .ok (.iload_n 1, 1) := by decide +kernel
theorem dX8_bite_18 : decode cX8_bite 18 = .ok (.invokevirtual 218, 3) := by decide +kernel
theorem dX8_bite_21 : decode cX8_bite 21 = .ok (.ireturn, 1) := by decide +kernel
set_option maxRecDepth 20000 in
theorem ggX8_goes_X8_isDoor : GoodIn wsX8_goes wsX8_isDoor := goodIn_r _ [6, 7, 8, 9, 5, 10, 54, 55, 56, 57, 58, 59, 60, 61, 62, 63, 64, 65, 66, 67, 68, 69, 70, 71, 72, 73, 74, 75, 76, 77, 78, 79, 80, 81, 82, 83, 84, 85, 86, 87, 88, 89, 90, 91, 92] (by decide +kernel) (by decide +kernel)
set_option maxRecDepth 20000 in
theorem gX8_goes_X8_isDoor : GoodIn wsX8_goes (wsV RX8 190 RX8 yX8_isDoor wsX8_isDoor) := goodIn_app (goodIn_of _ (by decide +kernel)) ggX8_goes_X8_isDoor
set_option maxRecDepth 20000 in
theorem ggX8_goes_X8_leadsTo : GoodIn wsX8_goes wsX8_leadsTo := goodIn_r _ [14] (by decide +kernel) (by decide +kernel)
set_option maxRecDepth 20000 in
theorem gX8_goes_X8_leadsTo : GoodIn wsX8_goes (wsV RX8 200 RX8 yX8_leadsTo wsX8_leadsTo) := goodIn_app (goodIn_of _ (by decide +kernel)) ggX8_goes_X8_leadsTo
set_option maxRecDepth 20000 in
theorem ggX8_goes_X8_stepsBy : GoodIn wsX8_goes wsX8_stepsBy := goodIn_r _ [18, 1, 19, 20, 21, 22, 23, 5, 24, 25, 26, 27, 28, 7, 29, 30, 31, 32, 11, 12, 13, 14, 33, 34, 35, 36, 37, 38, 39, 40, 41, 42, 43, 44, 45, 46, 47, 48, 49, 50, 51, 52, 53, 54, 55, 56, 57, 58, 59, 60, 61, 62, 63, 64, 65, 66, 67, 68, 69, 70, 71, 72, 73, 74, 75, 76, 77, 78, 79, 80, 81, 82, 83, 84, 85, 86, 87, 88, 89, 90, 91, 92] (by decide +kernel) (by decide +kernel)
set_option maxRecDepth 20000 in
theorem gX8_goes_X8_stepsBy : GoodIn wsX8_goes (wsV RX8 224 RX8 yX8_stepsBy wsX8_stepsBy) := goodIn_app (goodIn_of _ (by decide +kernel)) ggX8_goes_X8_stepsBy
theorem dX8_goes_0 : decode cX8_goes 0 = .ok (.aload_n 0, 1) := by decide +kernel
theorem dX8_goes_1 : decode cX8_goes 1 = .ok (.iload_n 1, 1) := by decide +kernel
theorem dX8_goes_2 : decode cX8_goes 2 = .ok (.invokevirtual 190, 3) := by decide +kernel
theorem dX8_goes_5 : decode cX8_goes 5 = .ok (.ifCond .ne 11, 3) := by decide +kernel
theorem dX8_goes_8 : decode cX8_goes 8 = .ok (.iload_n 1, 1) := by decide +kernel
theorem dX8_goes_9 : decode cX8_goes 9 = .ok (.bipush 10, 2) := by decide +kernel
theorem dX8_goes_11 : decode cX8_goes 11 = .ok (.if_icmp .eq 5, 3) := by decide +kernel
theorem dX8_goes_14 : decode cX8_goes 14 = .ok (.iconst (-1), 1) := by decide +kernel
theorem dX8_goes_15 : decode cX8_goes 15 = .ok (.ireturn, 1) := by decide +kernel
theorem dX8_goes_16 : decode cX8_goes 16 = .ok (.aload_n 0, 1) := by decide +kernel
theorem dX8_goes_17 : decode cX8_goes 17 = .ok (.getfield 7, 3) := by decide +kernel
theorem dX8_goes_20 : decode cX8_goes 20 = .ok (.bipush 31, 2) := by decide +kernel
theorem dX8_goes_22 : decode cX8_goes 22 = .ok (.iaload, 1) := by decide +kernel
theorem dX8_goes_23 : decode cX8_goes 23 = .ok (.istore_n 2, 1) := by decide +kernel
theorem dX8_goes_24 : decode cX8_goes 24 = .ok (.iload_n 1, 1) := by decide +kernel
theorem dX8_goes_25 : decode cX8_goes 25 = .ok (.bipush 10, 2) := by decide +kernel
theorem dX8_goes_27 : decode cX8_goes 27 = .ok (.if_icmp .ne 7, 3) := by decide +kernel
theorem dX8_goes_30 : decode cX8_goes 30 = .ok (.iload_n 2, 1) := by decide +kernel
theorem dX8_goes_31 : decode cX8_goes 31 = .ok (.goto 14, 3) := by decide +kernel
theorem dX8_goes_34 : decode cX8_goes 34 = .ok (.aload_n 0, 1) := by decide +kernel
theorem dX8_goes_35 : decode cX8_goes 35 = .ok (.aload_n 0, 1) := by decide +kernel
theorem dX8_goes_36 : decode cX8_goes 36 = .ok (.getfield 7, 3) := by decide +kernel
theorem dX8_goes_39 : decode cX8_goes 39 = .ok (.iconst 0, 1) := by decide +kernel
theorem dX8_goes_40 : decode cX8_goes 40 = .ok (.iload_n 1, 1) := by decide +kernel
theorem dX8_goes_41 : decode cX8_goes 41 = .ok (.iload_n 2, 1) := by decide +kernel
theorem dX8_goes_42 : decode cX8_goes 42 = .ok (.invokevirtual 200, 3) := by decide +kernel
theorem dX8_goes_45 : decode cX8_goes 45 = .ok (.istore_n 3, 1) := by decide +kernel
theorem dX8_goes_46 : decode cX8_goes 46 = .ok (.aload_n 0, 1) := by decide +kernel
theorem dX8_goes_47 : decode cX8_goes 47 = .ok (.getfield 7, 3) := by decide +kernel
theorem dX8_goes_50 : decode cX8_goes 50 = .ok (.bipush 48, 2) := by decide +kernel
theorem dX8_goes_52 : decode cX8_goes 52 = .ok (.iaload, 1) := by decide +kernel
theorem dX8_goes_53 : decode cX8_goes 53 = .ok (.iconst 1, 1) := by decide +kernel
theorem dX8_goes_54 : decode cX8_goes 54 = .ok (.if_icmp .eq 9, 3) := by decide +kernel
theorem dX8_goes_57 : decode cX8_goes 57 = .ok (.iload_n 3, 1) := by decide +kernel
theorem dX8_goes_58 : decode cX8_goes 58 = .ok (.bipush (-4), 2) := by decide +kernel
theorem dX8_goes_60 : decode cX8_goes 60 = .ok (.if_icmp .ne 6, 3) := by decide +kernel
theorem dX8_goes_63 : decode cX8_goes 63 = .ok (.bipush (-2), 2) := by decide +kernel
theorem dX8_goes_65 : decode cX8_goes 65 = .ok (.ireturn, 1) := by decide +kernel
theorem dX8_goes_66 : decode cX8_goes 66 = .ok (.aload_n 0, 1) := by decide +kernel
theorem dX8_goes_67 : decode cX8_goes 67 = .ok (.getfield 7, 3) := by decide +kernel
theorem dX8_goes_70 : decode cX8_goes 70 = .ok (.bipush 47, 2) := by decide +kernel
theorem dX8_goes_72 : decode cX8_goes 72 = .ok (.iaload, 1) := by decide +kernel
theorem dX8_goes_73 : decode cX8_goes 73 = .ok (.sipush 999, 3) := by decide +kernel
theorem dX8_goes_76 : decode cX8_goes 76 = .ok (.if_icmp .ne 8, 3) := by decide +kernel
theorem dX8_goes_79 : decode cX8_goes 79 = .ok (.bipush (-3), 2) := by decide +kernel
theorem dX8_goes_81 : decode cX8_goes 81 = .ok (.goto 9, 3) := by decide +kernel
theorem dX8_goes_84 : decode cX8_goes 84 = .ok (.aload_n 0, 1) := by decide +kernel
theorem dX8_goes_85 : decode cX8_goes 85 = .ok (.iload_n 1, 1) := by decide +kernel
theorem dX8_goes_86 : decode cX8_goes 86 = .ok (.iload_n 3, 1) := by decide +kernel
theorem dX8_goes_87 : decode cX8_goes 87 = .ok (.invokevirtual 224, 3) := by decide +kernel
theorem dX8_goes_90 : decode cX8_goes 90 = .ok (.ireturn, 1) := by decide +kernel
set_option maxRecDepth 20000 in
theorem ggX8_stepsBy_X8_beastNow : GoodIn wsX8_stepsBy wsX8_beastNow := goodIn_r _ [8, 1, 43, 44, 45, 46, 47, 48, 49, 50, 51, 52, 53, 54, 55, 56, 57, 58, 59, 60, 61, 62, 63, 64, 65, 66, 67, 68, 69, 70, 71, 72, 73, 74, 75, 76, 77, 78, 79, 80, 81] (by decide +kernel) (by decide +kernel)
set_option maxRecDepth 20000 in
theorem gX8_stepsBy_X8_beastNow : GoodIn wsX8_stepsBy (wsV RX8 187 RX8 yX8_beastNow wsX8_beastNow) := goodIn_app (goodIn_of _ (by decide +kernel)) ggX8_stepsBy_X8_beastNow
set_option maxRecDepth 20000 in
theorem ggX8_stepsBy_X8_goesTo : GoodIn wsX8_stepsBy wsX8_goesTo := goodIn_r _ [12, 13, 14, 15, 16, 7, 17, 18, 19, 20, 21, 22, 23, 24, 25, 26, 27, 43, 44, 45, 46, 47, 48, 49, 50, 51, 52, 53, 54, 55, 56, 57, 58, 59, 60, 61, 62, 63, 64, 65, 66, 67, 68, 69, 70, 71, 72, 73, 74, 75, 76, 77, 78, 79, 80, 81] (by decide +kernel) (by decide +kernel)
set_option maxRecDepth 20000 in
theorem gX8_stepsBy_X8_goesTo : GoodIn wsX8_stepsBy (wsV RX8 227 RX8 yX8_goesTo wsX8_goesTo) := goodIn_app (goodIn_of _ (by decide +kernel)) ggX8_stepsBy_X8_goesTo
set_option maxRecDepth 20000 in
theorem ggX8_stepsBy_X8_worksNow : GoodIn wsX8_stepsBy wsX8_worksNow := goodIn_r _ [31, 3, 1, 43, 44, 45, 46, 47, 48, 49, 50, 51, 52, 53, 54, 55, 56, 57, 58, 59, 60, 61, 62, 63, 64, 65, 66, 67, 68, 69, 70, 71, 72, 73, 74, 75, 76, 77, 78, 79, 80, 81] (by decide +kernel) (by decide +kernel)
set_option maxRecDepth 20000 in
theorem gX8_stepsBy_X8_worksNow : GoodIn wsX8_stepsBy (wsV RX8 231 RX8 yX8_worksNow wsX8_worksNow) := goodIn_app (goodIn_of _ (by decide +kernel)) ggX8_stepsBy_X8_worksNow
set_option maxRecDepth 20000 in
theorem ggX8_stepsBy_X8_dusks : GoodIn wsX8_stepsBy wsX8_dusks := goodIn_r _ [35, 36, 37, 38, 39, 40, 7, 41, 3, 42, 43, 44, 45, 46, 47, 48, 49, 50, 51, 52, 53, 54, 55, 56, 57, 58, 59, 60, 61, 62, 63, 64, 65, 66, 67, 68, 69, 70, 71, 72, 73, 74, 75, 76, 77, 78, 79, 80, 81] (by decide +kernel) (by decide +kernel)
set_option maxRecDepth 20000 in
theorem gX8_stepsBy_X8_dusks : GoodIn wsX8_stepsBy (wsV RX8 234 RX8 yX8_dusks wsX8_dusks) := goodIn_app (goodIn_of _ (by decide +kernel)) ggX8_stepsBy_X8_dusks
theorem dX8_stepsBy_0 : decode cX8_stepsBy 0 = .ok (.iload_n 1, 1) := by decide +kernel
theorem dX8_stepsBy_1 : decode cX8_stepsBy 1 = .ok (.bipush 10, 2) := by decide +kernel
theorem dX8_stepsBy_3 : decode cX8_stepsBy 3 = .ok (.if_icmp .eq 44, 3) := by decide +kernel
theorem dX8_stepsBy_6 : decode cX8_stepsBy 6 = .ok (.aload_n 0, 1) := by decide +kernel
theorem dX8_stepsBy_7 : decode cX8_stepsBy 7 = .ok (.getfield 7, 3) := by decide +kernel
theorem dX8_stepsBy_10 : decode cX8_stepsBy 10 = .ok (.bipush 46, 2) := by decide +kernel
theorem dX8_stepsBy_12 : decode cX8_stepsBy 12 = .ok (.iaload, 1) := by decide +kernel
theorem dX8_stepsBy_13 : decode cX8_stepsBy 13 = .ok (.aload_n 0, 1) := by decide +kernel
theorem dX8_stepsBy_14 : decode cX8_stepsBy 14 = .ok (.getfield 17, 3) := by decide +kernel
theorem dX8_stepsBy_17 : decode cX8_stepsBy 17 = .ok (.if_icmp .ge 30, 3) := by decide +kernel
theorem dX8_stepsBy_20 : decode cX8_stepsBy 20 = .ok (.aload_n 0, 1) := by decide +kernel
theorem dX8_stepsBy_21 : decode cX8_stepsBy 21 = .ok (.getfield 7, 3) := by decide +kernel
theorem dX8_stepsBy_24 : decode cX8_stepsBy 24 = .ok (.bipush 34, 2) := by decide +kernel
theorem dX8_stepsBy_26 : decode cX8_stepsBy 26 = .ok (.aload_n 0, 1) := by decide +kernel
theorem dX8_stepsBy_27 : decode cX8_stepsBy 27 = .ok (.getfield 7, 3) := by decide +kernel
theorem dX8_stepsBy_30 : decode cX8_stepsBy 30 = .ok (.bipush 46, 2) := by decide +kernel
theorem dX8_stepsBy_32 : decode cX8_stepsBy 32 = .ok (.iaload, 1) := by decide +kernel
theorem dX8_stepsBy_33 : decode cX8_stepsBy 33 = .ok (.iadd, 1) := by decide +kernel
theorem dX8_stepsBy_34 : decode cX8_stepsBy 34 = .ok (.iload_n 1, 1) := by decide +kernel
theorem dX8_stepsBy_35 : decode cX8_stepsBy 35 = .ok (.iastore, 1) := by decide +kernel
theorem dX8_stepsBy_36 : decode cX8_stepsBy 36 = .ok (.aload_n 0, 1) := by decide +kernel
theorem dX8_stepsBy_37 : decode cX8_stepsBy 37 = .ok (.getfield 7, 3) := by decide +kernel
theorem dX8_stepsBy_40 : decode cX8_stepsBy 40 = .ok (.bipush 46, 2) := by decide +kernel
theorem dX8_stepsBy_42 : decode cX8_stepsBy 42 = .ok (.dup2, 1) := by decide +kernel
theorem dX8_stepsBy_43 : decode cX8_stepsBy 43 = .ok (.iaload, 1) := by decide +kernel
theorem dX8_stepsBy_44 : decode cX8_stepsBy 44 = .ok (.iconst 1, 1) := by decide +kernel
theorem dX8_stepsBy_45 : decode cX8_stepsBy 45 = .ok (.iadd, 1) := by decide +kernel
theorem dX8_stepsBy_46 : decode cX8_stepsBy 46 = .ok (.iastore, 1) := by decide +kernel
theorem dX8_stepsBy_47 : decode cX8_stepsBy 47 = .ok (.aload_n 0, 1) := by decide +kernel
theorem dX8_stepsBy_48 : decode cX8_stepsBy 48 = .ok (.invokevirtual 187, 3) := by decide +kernel
theorem dX8_stepsBy_51 : decode cX8_stepsBy 51 = .ok (.istore_n 3, 1) := by decide +kernel
theorem dX8_stepsBy_52 : decode cX8_stepsBy 52 = .ok (.iload_n 3, 1) := by decide +kernel
theorem dX8_stepsBy_53 : decode cX8_stepsBy 53 = .ok (.bipush (-4), 2) := by decide +kernel
theorem dX8_stepsBy_55 : decode cX8_stepsBy 55 = .ok (.if_icmp .eq 44, 3) := by decide +kernel
theorem dX8_stepsBy_58 : decode cX8_stepsBy 58 = .ok (.iload_n 3, 1) := by decide +kernel
theorem dX8_stepsBy_59 : decode cX8_stepsBy 59 = .ok (.iload_n 2, 1) := by decide +kernel
theorem dX8_stepsBy_60 : decode cX8_stepsBy 60 = .ok (.if_icmp .eq 39, 3) := by decide +kernel
theorem dX8_stepsBy_63 : decode cX8_stepsBy 63 = .ok (.aload_n 0, 1) := by decide +kernel
theorem dX8_stepsBy_64 : decode cX8_stepsBy 64 = .ok (.aload_n 0, 1) := by decide +kernel
theorem dX8_stepsBy_65 : decode cX8_stepsBy 65 = .ok (.getfield 7, 3) := by decide +kernel
theorem dX8_stepsBy_68 : decode cX8_stepsBy 68 = .ok (.iconst 0, 1) := by decide +kernel
theorem dX8_stepsBy_69 : decode cX8_stepsBy 69 = .ok (.iload_n 3, 1) := by decide +kernel
theorem dX8_stepsBy_70 : decode cX8_stepsBy 70 = .ok (.iload_n 2, 1) := by decide +kernel
