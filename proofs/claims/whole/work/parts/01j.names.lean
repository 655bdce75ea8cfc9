theorem dX8_stepsBy_71 : decode cX8_stepsBy 71 = .ok (.aload_n 0, 1) := by decide +kernel
theorem dX8_stepsBy_72 : decode cX8_stepsBy 72 = .ok (.getfield 7, 3) := by decide +kernel
theorem dX8_stepsBy_75 : decode cX8_stepsBy 75 = .ok (.bipush 33, 2) := by decide +kernel
theorem dX8_stepsBy_77 : decode cX8_stepsBy 77 = .ok (.iaload, 1) := by decide +kernel
theorem dX8_stepsBy_78 : decode cX8_stepsBy 78 = .ok (.aload_n 0, 1) := by decide +kernel
theorem dX8_stepsBy_79 : decode cX8_stepsBy 79 = .ok (.getfield 7, 3) := by decide +kernel
theorem dX8_stepsBy_82 : decode cX8_stepsBy 82 = .ok (.bipush 47, 2) := by decide +kernel
theorem dX8_stepsBy_84 : decode cX8_stepsBy 84 = .ok (.iaload, 1) := by decide +kernel
theorem dX8_stepsBy_85 : decode cX8_stepsBy 85 = .ok (.invokevirtual 227, 3) := by decide +kernel
theorem dX8_stepsBy_88 : decode cX8_stepsBy 88 = .ok (.istore_n 3, 1) := by decide +kernel
theorem dX8_stepsBy_89 : decode cX8_stepsBy 89 = .ok (.aload_n 0, 1) := by decide +kernel
theorem dX8_stepsBy_90 : decode cX8_stepsBy 90 = .ok (.getfield 7, 3) := by decide +kernel
theorem dX8_stepsBy_93 : decode cX8_stepsBy 93 = .ok (.bipush 32, 2) := by decide +kernel
theorem dX8_stepsBy_95 : decode cX8_stepsBy 95 = .ok (.iload_n 3, 1) := by decide +kernel
theorem dX8_stepsBy_96 : decode cX8_stepsBy 96 = .ok (.iconst 1, 1) := by decide +kernel
theorem dX8_stepsBy_97 : decode cX8_stepsBy 97 = .ok (.iadd, 1) := by decide +kernel
theorem dX8_stepsBy_98 : decode cX8_stepsBy 98 = .ok (.iastore, 1) := by decide +kernel
theorem dX8_stepsBy_99 : decode cX8_stepsBy 99 = .ok (.aload_n 0, 1) := by decide +kernel
theorem dX8_stepsBy_100 : decode cX8_stepsBy 100 = .ok (.getfield 7, 3) := by decide +kernel
theorem dX8_stepsBy_103 : decode cX8_stepsBy 103 = .ok (.bipush 31, 2) := by decide +kernel
theorem dX8_stepsBy_105 : decode cX8_stepsBy 105 = .ok (.iload_n 2, 1) := by decide +kernel
theorem dX8_stepsBy_106 : decode cX8_stepsBy 106 = .ok (.iastore, 1) := by decide +kernel
theorem dX8_stepsBy_107 : decode cX8_stepsBy 107 = .ok (.aload_n 0, 1) := by decide +kernel
theorem dX8_stepsBy_108 : decode cX8_stepsBy 108 = .ok (.getfield 7, 3) := by decide +kernel
theorem dX8_stepsBy_111 : decode cX8_stepsBy 111 = .ok (.bipush 48, 2) := by decide +kernel
theorem dX8_stepsBy_113 : decode cX8_stepsBy 113 = .ok (.iload_n 3, 1) := by decide +kernel
theorem dX8_stepsBy_114 : decode cX8_stepsBy 114 = .ok (.iload_n 2, 1) := by decide +kernel
theorem dX8_stepsBy_115 : decode cX8_stepsBy 115 = .ok (.if_icmp .ne 7, 3) := by decide +kernel
theorem dX8_stepsBy_118 : decode cX8_stepsBy 118 = .ok (.iconst 1, 1) := by decide +kernel
theorem dX8_stepsBy_119 : decode cX8_stepsBy 119 = .ok (.goto 4, 3) := by decide +kernel
theorem dX8_stepsBy_122 : decode cX8_stepsBy 122 = .ok (.iconst 0, 1) := by decide +kernel
theorem dX8_stepsBy_123 : decode cX8_stepsBy 123 = .ok (.iastore, 1) := by decide +kernel
theorem dX8_stepsBy_124 : decode cX8_stepsBy 124 = .ok (.aload_n 0, 1) := by decide +kernel
theorem dX8_stepsBy_125 : decode cX8_stepsBy 125 = .ok (.getfield 7, 3) := by decide +kernel
theorem dX8_stepsBy_128 : decode cX8_stepsBy 128 = .ok (.bipush 47, 2) := by decide +kernel
theorem dX8_stepsBy_130 : decode cX8_stepsBy 130 = .ok (.dup2, 1) := by decide +kernel
theorem dX8_stepsBy_131 : decode cX8_stepsBy 131 = .ok (.iaload, 1) := by decide +kernel
theorem dX8_stepsBy_132 : decode cX8_stepsBy 132 = .ok (.iconst 1, 1) := by decide +kernel
theorem dX8_stepsBy_133 : decode cX8_stepsBy 133 = .ok (.iadd, 1) := by decide +kernel
theorem dX8_stepsBy_134 : decode cX8_stepsBy 134 = .ok (.iastore, 1) := by decide +kernel
theorem dX8_stepsBy_135 : decode cX8_stepsBy 135 = .ok (.aload_n 0, 1) := by decide +kernel
theorem dX8_stepsBy_136 : decode cX8_stepsBy 136 = .ok (.getfield 7, 3) := by decide +kernel
theorem dX8_stepsBy_139 : decode cX8_stepsBy 139 = .ok (.bipush 47, 2) := by decide +kernel
theorem dX8_stepsBy_141 : decode cX8_stepsBy 141 = .ok (.iaload, 1) := by decide +kernel
theorem dX8_stepsBy_142 : decode cX8_stepsBy 142 = .ok (.aload_n 0, 1) := by decide +kernel
theorem dX8_stepsBy_143 : decode cX8_stepsBy 143 = .ok (.getfield 7, 3) := by decide +kernel
theorem dX8_stepsBy_146 : decode cX8_stepsBy 146 = .ok (.bipush 30, 2) := by decide +kernel
theorem dX8_stepsBy_148 : decode cX8_stepsBy 148 = .ok (.iaload, 1) := by decide +kernel
theorem dX8_stepsBy_149 : decode cX8_stepsBy 149 = .ok (.iconst 1, 1) := by decide +kernel
theorem dX8_stepsBy_150 : decode cX8_stepsBy 150 = .ok (.iadd, 1) := by decide +kernel
theorem dX8_stepsBy_151 : decode cX8_stepsBy 151 = .ok (.irem, 1) := by decide +kernel
theorem dX8_stepsBy_152 : decode cX8_stepsBy 152 = .ok (.ifCond .ne 41, 3) := by decide +kernel
theorem dX8_stepsBy_155 : decode cX8_stepsBy 155 = .ok (.aload_n 0, 1) := by decide +kernel
theorem dX8_stepsBy_156 : decode cX8_stepsBy 156 = .ok (.invokevirtual 231, 3) := by decide +kernel
theorem dX8_stepsBy_159 : decode cX8_stepsBy 159 = .ok (.aload_n 0, 1) := by decide +kernel
theorem dX8_stepsBy_160 : decode cX8_stepsBy 160 = .ok (.invokevirtual 234, 3) := by decide +kernel
theorem dX8_stepsBy_163 : decode cX8_stepsBy 163 = .ok (.iconst 0, 1) := by decide +kernel
theorem dX8_stepsBy_164 : decode cX8_stepsBy 164 = .ok (.istore 4, 2) := by decide +kernel
theorem dX8_stepsBy_166 : decode cX8_stepsBy 166 = .ok (.iload 4, 2) := by decide +kernel
theorem dX8_stepsBy_168 : decode cX8_stepsBy 168 = .ok (.bipush 30, 2) := by decide +kernel
theorem dX8_stepsBy_170 : decode cX8_stepsBy 170 = .ok (.if_icmp .ge 23, 3) := by decide +kernel
theorem dX8_stepsBy_173 : decode cX8_stepsBy 173 = .ok (.aload_n 0, 1) := by decide +kernel
theorem dX8_stepsBy_174 : decode cX8_stepsBy 174 = .ok (.getfield 7, 3) := by decide +kernel
theorem dX8_stepsBy_177 : decode cX8_stepsBy 177 = .ok (.iload 4, 2) := by decide +kernel
theorem dX8_stepsBy_179 : decode cX8_stepsBy 179 = .ok (.aload_n 0, 1) := by decide +kernel
theorem dX8_stepsBy_180 : decode cX8_stepsBy 180 = .ok (.getfield 38, 3) := by decide +kernel
theorem dX8_stepsBy_183 : decode cX8_stepsBy 183 = .ok (.iload 4, 2) := by decide +kernel
theorem dX8_stepsBy_185 : decode cX8_stepsBy 185 = .ok (.iaload, 1) := by decide +kernel
theorem dX8_stepsBy_186 : decode cX8_stepsBy 186 = .ok (.iastore, 1) := by decide +kernel
theorem dX8_stepsBy_187 : decode cX8_stepsBy 187 = .ok (.iinc 4 1, 3) := by decide +kernel
theorem dX8_stepsBy_190 : decode cX8_stepsBy 190 = .ok (.goto (-24), 3) := by decide +kernel
theorem dX8_stepsBy_193 : decode cX8_stepsBy 193 = .ok (.iload_n 2, 1) := by decide +kernel
theorem dX8_stepsBy_194 : decode cX8_stepsBy 194 = .ok (.iload_n 3, 1) := by decide +kernel
theorem dX8_stepsBy_195 : decode cX8_stepsBy 195 = .ok (.iload_n 2, 1) := by decide +kernel
theorem dX8_stepsBy_196 : decode cX8_stepsBy 196 = .ok (.if_icmp .ne 8, 3) := by decide +kernel
theorem dX8_stepsBy_199 : decode cX8_stepsBy 199 = .ok (.bipush 10, 2) := by decide +kernel
theorem dX8_stepsBy_201 : decode cX8_stepsBy 201 = .ok (.goto 4, 3) := by decide +kernel
theorem dX8_stepsBy_204 : decode cX8_stepsBy 204 = .ok (.iconst 0, 1) := by decide +kernel
theorem dX8_stepsBy_205 : decode cX8_stepsBy 205 = .ok (.iadd, 1) := by decide +kernel
theorem dX8_stepsBy_206 : decode cX8_stepsBy 206 = .ok (.ireturn, 1) := by decide +kernel
set_option maxRecDepth 20000 in
theorem ggX8_go_X8_goes : GoodIn wsX8_go wsX8_goes := goodIn_r _ [5, 6, 7, 8, 9, 4, 10, 11, 12, 13, 14, 15, 16, 17, 18, 19, 20, 21, 22, 23, 24, 25, 26, 27, 28, 29, 30, 31, 32, 33, 34, 35, 36, 37, 38, 39, 40, 41, 42, 43, 44, 45, 46, 47, 48, 49, 50, 51, 52, 53, 54, 55, 56, 57, 58, 59, 60, 61, 62, 63, 64, 65, 66, 67, 68, 69, 70, 71, 72, 73, 74, 75, 76, 77, 78, 79, 80, 81, 82, 83, 84, 85, 86, 87, 88, 89, 90, 91, 92, 93, 94, 95, 96] (by decide +kernel) (by decide +kernel)
set_option maxRecDepth 20000 in
theorem gX8_go_X8_goes : GoodIn wsX8_go (wsV RX8 237 RX8 yX8_goes wsX8_goes) := goodIn_app (goodIn_of _ (by decide +kernel)) ggX8_go_X8_goes
theorem dX8_go_0 : decode cX8_go 0 = .ok (.aload_n 0, 1) := by decide +kernel
theorem dX8_go_1 : decode cX8_go 1 = .ok (.iload_n 1, 1) := by decide +kernel
theorem dX8_go_2 : decode cX8_go 2 = .ok (.invokevirtual 237, 3) := by decide +kernel
theorem dX8_go_5 : decode cX8_go 5 = .ok (.ireturn, 1) := by decide +kernel
set_option maxRecDepth 20000 in
theorem ggX8_dusk_X8_in : GoodIn wsX8_dusk wsX8_in := goodIn_r _ [7] (by decide +kernel) (by decide +kernel)
set_option maxRecDepth 20000 in
theorem gX8_dusk_X8_in : GoodIn wsX8_dusk (va_wsS RX8 72 yX8_in wsX8_in) := goodIn_app (goodIn_of _ (by decide +kernel)) ggX8_dusk_X8_in
set_option maxRecDepth 20000 in
theorem ggX8_dusk_X8_isDoor : GoodIn wsX8_dusk wsX8_isDoor := goodIn_r _ [11, 12, 4, 5, 6, 7, 29, 30, 31, 32, 33, 34, 35, 36, 37, 38, 39, 40, 41, 42, 43, 44, 45, 46, 47, 48, 49, 50, 51, 52, 53, 54, 55, 56, 57, 58, 59, 60, 61, 62, 63, 64, 65, 66, 67] (by decide +kernel) (by decide +kernel)
set_option maxRecDepth 20000 in
theorem gX8_dusk_X8_isDoor : GoodIn wsX8_dusk (wsV RX8 190 RX8 yX8_isDoor wsX8_isDoor) := goodIn_app (goodIn_of _ (by decide +kernel)) ggX8_dusk_X8_isDoor
set_option maxRecDepth 20000 in
theorem ggX8_dusk_X8_worksNow : GoodIn wsX8_dusk wsX8_worksNow := goodIn_r _ [16, 3, 17, 29, 30, 31, 32, 33, 34, 35, 36, 37, 38, 39, 40, 41, 42, 43, 44, 45, 46, 47, 48, 49, 50, 51, 52, 53, 54, 55, 56, 57, 58, 59, 60, 61, 62, 63, 64, 65, 66, 67] (by decide +kernel) (by decide +kernel)
set_option maxRecDepth 20000 in
theorem gX8_dusk_X8_worksNow : GoodIn wsX8_dusk (wsV RX8 231 RX8 yX8_worksNow wsX8_worksNow) := goodIn_app (goodIn_of _ (by decide +kernel)) ggX8_dusk_X8_worksNow
set_option maxRecDepth 20000 in
theorem ggX8_dusk_X8_dusks : GoodIn wsX8_dusk wsX8_dusks := goodIn_r _ [21, 22, 23, 24, 25, 26, 6, 27, 3, 28, 29, 30, 31, 32, 33, 34, 35, 36, 37, 38, 39, 40, 41, 42, 43, 44, 45, 46, 47, 48, 49, 50, 51, 52, 53, 54, 55, 56, 57, 58, 59, 60, 61, 62, 63, 64, 65, 66, 67] (by decide +kernel) (by decide +kernel)
set_option maxRecDepth 20000 in
theorem gX8_dusk_X8_dusks : GoodIn wsX8_dusk (wsV RX8 234 RX8 yX8_dusks wsX8_dusks) := goodIn_app (goodIn_of _ (by decide +kernel)) ggX8_dusk_X8_dusks
theorem dX8_dusk_0 : decode cX8_dusk 0 = .ok (.iload_n 1, 1) := by decide +kernel
theorem dX8_dusk_1 : decode cX8_dusk 1 = .ok (.i2l, 1) := by decide +kernel
theorem dX8_dusk_2 : decode cX8_dusk 2 = .ok (.lconst 0, 1) := by decide +kernel
theorem dX8_dusk_3 : decode cX8_dusk 3 = .ok (.ldc2_w 240, 3) := by decide +kernel
theorem dX8_dusk_6 : decode cX8_dusk 6 = .ok (.invokestatic 72, 3) := by decide +kernel
theorem dX8_dusk_9 : decode cX8_dusk 9 = .ok (.ifCond .eq 23, 3) := by decide +kernel
theorem dX8_dusk_12 : decode cX8_dusk 12 = .ok (.aload_n 0, 1) := by decide +kernel
theorem dX8_dusk_13 : decode cX8_dusk 13 = .ok (.iload_n 2, 1) := by decide +kernel
theorem dX8_dusk_14 : decode cX8_dusk 14 = .ok (.invokevirtual 190, 3) := by decide +kernel
theorem dX8_dusk_17 : decode cX8_dusk 17 = .ok (.ifCond .eq 15, 3) := by decide +kernel
theorem dX8_dusk_20 : decode cX8_dusk 20 = .ok (.iload_n 3, 1) := by decide +kernel
theorem dX8_dusk_21 : decode cX8_dusk 21 = .ok (.i2l, 1) := by decide +kernel
theorem dX8_dusk_22 : decode cX8_dusk 22 = .ok (.lconst 0, 1) := by decide +kernel
theorem dX8_dusk_23 : decode cX8_dusk 23 = .ok (.ldc2_w 194, 3) := by decide +kernel
theorem dX8_dusk_26 : decode cX8_dusk 26 = .ok (.invokestatic 72, 3) := by decide +kernel
theorem dX8_dusk_29 : decode cX8_dusk 29 = .ok (.ifCond .ne 5, 3) := by decide +kernel
theorem dX8_dusk_32 : decode cX8_dusk 32 = .ok (.iconst (-1), 1) := by decide +kernel
theorem dX8_dusk_33 : decode cX8_dusk 33 = .ok (.ireturn, 1) := by decide +kernel
theorem dX8_dusk_34 : decode cX8_dusk 34 = .ok (.aload_n 0, 1) := by decide +kernel
theorem dX8_dusk_35 : decode cX8_dusk 35 = .ok (.invokevirtual 231, 3) := by decide +kernel
theorem dX8_dusk_38 : decode cX8_dusk 38 = .ok (.iconst 0, 1) := by decide +kernel
theorem dX8_dusk_39 : decode cX8_dusk 39 = .ok (.istore 4, 2) := by decide +kernel
theorem dX8_dusk_41 : decode cX8_dusk 41 = .ok (.iload 4, 2) := by decide +kernel
theorem dX8_dusk_43 : decode cX8_dusk 43 = .ok (.iload_n 1, 1) := by decide +kernel
theorem dX8_dusk_44 : decode cX8_dusk 44 = .ok (.if_icmp .ge 13, 3) := by decide +kernel
theorem dX8_dusk_47 : decode cX8_dusk 47 = .ok (.aload_n 0, 1) := by decide +kernel
theorem dX8_dusk_48 : decode cX8_dusk 48 = .ok (.invokevirtual 234, 3) := by decide +kernel
theorem dX8_dusk_51 : decode cX8_dusk 51 = .ok (.iinc 4 1, 3) := by decide +kernel
theorem dX8_dusk_54 : decode cX8_dusk 54 = .ok (.goto (-13), 3) := by decide +kernel
theorem dX8_dusk_57 : decode cX8_dusk 57 = .ok (.aload_n 0, 1) := by decide +kernel
theorem dX8_dusk_58 : decode cX8_dusk 58 = .ok (.getfield 38, 3) := by decide +kernel
theorem dX8_dusk_61 : decode cX8_dusk 61 = .ok (.iconst 3, 1) := by decide +kernel
theorem dX8_dusk_62 : decode cX8_dusk 62 = .ok (.iload_n 2, 1) := by decide +kernel
theorem dX8_dusk_63 : decode cX8_dusk 63 = .ok (.imul, 1) := by decide +kernel
theorem dX8_dusk_64 : decode cX8_dusk 64 = .ok (.iload_n 3, 1) := by decide +kernel
theorem dX8_dusk_65 : decode cX8_dusk 65 = .ok (.iadd, 1) := by decide +kernel
theorem dX8_dusk_66 : decode cX8_dusk 66 = .ok (.iaload, 1) := by decide +kernel
theorem dX8_dusk_67 : decode cX8_dusk 67 = .ok (.ireturn, 1) := by decide +kernel
set_option maxRecDepth 20000 in
theorem ggX8_again_X8_worksNow : GoodIn wsX8_again wsX8_worksNow := goodIn_r _ [8, 2, 3, 20, 21, 22, 23, 24, 25, 26, 27, 28, 29, 30, 31, 32, 33, 34, 35, 36, 37, 38, 39, 40, 41, 42, 43, 44, 45, 46, 47, 48, 49, 50, 51, 52, 53, 54, 55, 56, 57, 58] (by decide +kernel) (by decide +kernel)
set_option maxRecDepth 20000 in
theorem gX8_again_X8_worksNow : GoodIn wsX8_again (wsV RX8 231 RX8 yX8_worksNow wsX8_worksNow) := goodIn_app (goodIn_of _ (by decide +kernel)) ggX8_again_X8_worksNow
set_option maxRecDepth 20000 in
theorem ggX8_again_X8_dusks : GoodIn wsX8_again wsX8_dusks := goodIn_r _ [12, 13, 14, 15, 16, 17, 7, 18, 2, 19, 20, 21, 22, 23, 24, 25, 26, 27, 28, 29, 30, 31, 32, 33, 34, 35, 36, 37, 38, 39, 40, 41, 42, 43, 44, 45, 46, 47, 48, 49, 50, 51, 52, 53, 54, 55, 56, 57, 58] (by decide +kernel) (by decide +kernel)
set_option maxRecDepth 20000 in
theorem gX8_again_X8_dusks : GoodIn wsX8_again (wsV RX8 234 RX8 yX8_dusks wsX8_dusks) := goodIn_app (goodIn_of _ (by decide +kernel)) ggX8_again_X8_dusks
theorem dX8_again_0 : decode cX8_again 0 = .ok (.aload_n 0, 1) := by decide +kernel
theorem dX8_again_1 : decode cX8_again 1 = .ok (.invokevirtual 231, 3) := by decide +kernel
theorem dX8_again_4 : decode cX8_again 4 = .ok (.iconst 1, 1) := by decide +kernel
theorem dX8_again_5 : decode cX8_again 5 = .ok (.istore_n 1, 1) := by decide +kernel
theorem dX8_again_6 : decode cX8_again 6 = .ok (.iload_n 1, 1) := by decide +kernel
theorem dX8_again_7 : decode cX8_again 7 = .ok (.bipush 60, 2) := by decide +kernel
theorem dX8_again_9 : decode cX8_again 9 = .ok (.if_icmp .gt 64, 3) := by decide +kernel
theorem dX8_again_12 : decode cX8_again 12 = .ok (.aload_n 0, 1) := by decide +kernel
theorem dX8_again_13 : decode cX8_again 13 = .ok (.invokevirtual 234, 3) := by decide +kernel
theorem dX8_again_16 : decode cX8_again 16 = .ok (.iconst 1, 1) := by decide +kernel
theorem dX8_again_17 : decode cX8_again 17 = .ok (.istore_n 2, 1) := by decide +kernel
theorem dX8_again_18 : decode cX8_again 18 = .ok (.iconst 0, 1) := by decide +kernel
theorem dX8_again_19 : decode cX8_again 19 = .ok (.istore_n 3, 1) := by decide +kernel
theorem dX8_again_20 : decode cX8_again 20 = .ok (.iload_n 3, 1) := by decide +kernel
theorem dX8_again_21 : decode cX8_again 21 = .ok (.iconst 3, 1) := by decide +kernel
theorem dX8_again_22 : decode cX8_again 22 = .ok (.aload_n 0, 1) := by decide +kernel
theorem dX8_again_23 : decode cX8_again 23 = .ok (.getfield 175, 3) := by decide +kernel
theorem dX8_again_26 : decode cX8_again 26 = .ok (.imul, 1) := by decide +kernel
theorem dX8_again_27 : decode cX8_again 27 = .ok (.if_icmp .ge 34, 3) := by decide +kernel
theorem dX8_again_30 : decode cX8_again 30 = .ok (.iload_n 2, 1) := by decide +kernel
theorem dX8_again_31 : decode cX8_again 31 = .ok (.ifCond .eq 22, 3) := by decide +kernel
theorem dX8_again_34 : decode cX8_again 34 = .ok (.aload_n 0, 1) := by decide +kernel
theorem dX8_again_35 : decode cX8_again 35 = .ok (.getfield 38, 3) := by decide +kernel
theorem dX8_again_38 : decode cX8_again 38 = .ok (.iload_n 3, 1) := by decide +kernel
theorem dX8_again_39 : decode cX8_again 39 = .ok (.iaload, 1) := by decide +kernel
theorem dX8_again_40 : decode cX8_again 40 = .ok (.aload_n 0, 1) := by decide +kernel
theorem dX8_again_41 : decode cX8_again 41 = .ok (.getfield 7, 3) := by decide +kernel
theorem dX8_again_44 : decode cX8_again 44 = .ok (.iload_n 3, 1) := by decide +kernel
theorem dX8_again_45 : decode cX8_again 45 = .ok (.iaload, 1) := by decide +kernel
theorem dX8_again_46 : decode cX8_again 46 = .ok (.if_icmp .ne 7, 3) := by decide +kernel
theorem dX8_again_49 : decode cX8_again 49 = .ok (.iconst 1, 1) := by decide +kernel
theorem dX8_again_50 : decode cX8_again 50 = .ok (.goto 4, 3) := by decide +kernel
theorem dX8_again_53 : decode cX8_again 53 = .ok (.iconst 0, 1) := by decide +kernel
theorem dX8_again_54 : decode cX8_again 54 = .ok (.istore_n 2, 1) := by decide +kernel
theorem dX8_again_55 : decode cX8_again 55 = .ok (.iinc 3 1, 3) := by decide +kernel
theorem dX8_again_58 : decode cX8_again 58 = .ok (.goto (-38), 3) := by decide +kernel
theorem dX8_again_61 : decode cX8_again 61 = .ok (.iload_n 2, 1) := by decide +kernel
theorem dX8_again_62 : decode cX8_again 62 = .ok (.ifCond .eq 5, 3) := by decide +kernel
theorem dX8_again_65 : decode cX8_again 65 = .ok (.iload_n 1, 1) := by decide +kernel
theorem dX8_again_66 : decode cX8_again 66 = .ok (.ireturn, 1) := by decide +kernel
theorem dX8_again_67 : decode cX8_again 67 = .ok (.iinc 1 1, 3) := by decide +kernel
theorem dX8_again_70 : decode cX8_again 70 = .ok (.goto (-64), 3) := by decide +kernel
theorem dX8_again_73 : decode cX8_again 73 = .ok (.bipush (-4), 2) := by decide +kernel
theorem dX8_again_75 : decode cX8_again 75 = .ok (.ireturn, 1) := by decide +kernel
theorem dX8_thread_0 : decode cX8_thread 0 = .ok (.iload_n 1, 1) := by decide +kernel
theorem dX8_thread_1 : decode cX8_thread 1 = .ok (.ifCond .ge 7, 3) := by decide +kernel
theorem dX8_thread_4 : decode cX8_thread 4 = .ok (.iconst (-1), 1) := by decide +kernel
theorem dX8_thread_5 : decode cX8_thread 5 = .ok (.goto 28, 3) := by decide +kernel
theorem dX8_thread_8 : decode cX8_thread 8 = .ok (.iload_n 1, 1) := by decide +kernel
theorem dX8_thread_9 : decode cX8_thread 9 = .ok (.aload_n 0, 1) := by decide +kernel
theorem dX8_thread_10 : decode cX8_thread 10 = .ok (.getfield 7, 3) := by decide +kernel
theorem dX8_thread_13 : decode cX8_thread 13 = .ok (.bipush 46, 2) := by decide +kernel
theorem dX8_thread_15 : decode cX8_thread 15 = .ok (.iaload, 1) := by decide +kernel
theorem dX8_thread_16 : decode cX8_thread 16 = .ok (.if_icmp .ge 15, 3) := by decide +kernel
theorem dX8_thread_19 : decode cX8_thread 19 = .ok (.aload_n 0, 1) := by decide +kernel
theorem dX8_thread_20 : decode cX8_thread 20 = .ok (.getfield 7, 3) := by decide +kernel
theorem dX8_thread_23 : decode cX8_thread 23 = .ok (.bipush 34, 2) := by decide +kernel
theorem dX8_thread_25 : decode cX8_thread 25 = .ok (.iload_n 1, 1) := by decide +kernel
theorem dX8_thread_26 : decode cX8_thread 26 = .ok (.iadd, 1) := by decide +kernel
theorem dX8_thread_27 : decode cX8_thread 27 = .ok (.iaload, 1) := by decide +kernel
theorem dX8_thread_28 : decode cX8_thread 28 = .ok (.goto 5, 3) := by decide +kernel
theorem dX8_thread_31 : decode cX8_thread 31 = .ok (.bipush (-4), 2) := by decide +kernel
theorem dX8_thread_33 : decode cX8_thread 33 = .ok (.ireturn, 1) := by decide +kernel
set_option maxRecDepth 20000 in
theorem ggX8_leads_X8_in : GoodIn wsX8_leads wsX8_in := goodIn_r _ [5] (by decide +kernel) (by decide +kernel)
set_option maxRecDepth 20000 in
theorem gX8_leads_X8_in : GoodIn wsX8_leads (va_wsS RX8 72 yX8_in wsX8_in) := goodIn_app (goodIn_of _ (by decide +kernel)) ggX8_leads_X8_in
set_option maxRecDepth 20000 in
theorem ggX8_leads_X8_leadsTo : GoodIn wsX8_leads wsX8_leadsTo := goodIn_r _ [9] (by decide +kernel) (by decide +kernel)
set_option maxRecDepth 20000 in
theorem gX8_leads_X8_leadsTo : GoodIn wsX8_leads (wsV RX8 200 RX8 yX8_leadsTo wsX8_leadsTo) := goodIn_app (goodIn_of _ (by decide +kernel)) ggX8_leads_X8_leadsTo
theorem dX8_leads_0 : decode cX8_leads 0 = .ok (.iload_n 1, 1) := by decide +kernel
theorem dX8_leads_1 : decode cX8_leads 1 = .ok (.i2l, 1) := by decide +kernel
theorem dX8_leads_2 : decode cX8_leads 2 = .ok (.lconst 0, 1) := by decide +kernel
theorem dX8_leads_3 : decode cX8_leads 3 = .ok (.lconst 1, 1) := by decide +kernel
theorem dX8_leads_4 : decode cX8_leads 4 = .ok (.invokestatic 72, 3) := by decide +kernel
theorem dX8_leads_7 : decode cX8_leads 7 = .ok (.ifCond .ne 5, 3) := by decide +kernel
theorem dX8_leads_10 : decode cX8_leads 10 = .ok (.iconst (-1), 1) := by decide +kernel
theorem dX8_leads_11 : decode cX8_leads 11 = .ok (.ireturn, 1) := by decide +kernel
theorem dX8_leads_12 : decode cX8_leads 12 = .ok (.aload_n 0, 1) := by decide +kernel
theorem dX8_leads_13 : decode cX8_leads 13 = .ok (.getfield 7, 3) := by decide +kernel
theorem dX8_leads_16 : decode cX8_leads 16 = .ok (.bipush 31, 2) := by decide +kernel
theorem dX8_leads_18 : decode cX8_leads 18 = .ok (.iaload, 1) := by decide +kernel
theorem dX8_leads_19 : decode cX8_leads 19 = .ok (.istore_n 2, 1) := by decide +kernel
theorem dX8_leads_20 : decode cX8_leads 20 = .ok (.aload_n 0, 1) := by decide +kernel
theorem dX8_leads_21 : decode cX8_leads 21 = .ok (.getfield 7, 3) := by decide +kernel
theorem dX8_leads_24 : decode cX8_leads 24 = .ok (.bipush 46, 2) := by decide +kernel
theorem dX8_leads_26 : decode cX8_leads 26 = .ok (.iaload, 1) := by decide +kernel
theorem dX8_leads_27 : decode cX8_leads 27 = .ok (.iconst 1, 1) := by decide +kernel
theorem dX8_leads_28 : decode cX8_leads 28 = .ok (.isub, 1) := by decide +kernel
theorem dX8_leads_29 : decode cX8_leads 29 = .ok (.istore_n 3, 1) := by decide +kernel
theorem dX8_leads_30 : decode cX8_leads 30 = .ok (.iload_n 3, 1) := by decide +kernel
theorem dX8_leads_31 : decode cX8_leads 31 = .ok (.ifCond .lt 50, 3) := by decide +kernel
theorem dX8_leads_34 : decode cX8_leads 34 = .ok (.aload_n 0, 1) := by decide +kernel
theorem dX8_leads_35 : decode cX8_leads 35 = .ok (.aload_n 0, 1) := by decide +kernel
theorem dX8_leads_36 : decode cX8_leads 36 = .ok (.getfield 7, 3) := by decide +kernel
theorem dX8_leads_39 : decode cX8_leads 39 = .ok (.iconst 0, 1) := by decide +kernel
theorem dX8_leads_40 : decode cX8_leads 40 = .ok (.aload_n 0, 1) := by decide +kernel
theorem dX8_leads_41 : decode cX8_leads 41 = .ok (.getfield 7, 3) := by decide +kernel
theorem dX8_leads_44 : decode cX8_leads 44 = .ok (.bipush 34, 2) := by decide +kernel
theorem dX8_leads_46 : decode cX8_leads 46 = .ok (.iload_n 3, 1) := by decide +kernel
theorem dX8_leads_47 : decode cX8_leads 47 = .ok (.iadd, 1) := by decide +kernel
theorem dX8_leads_48 : decode cX8_leads 48 = .ok (.iaload, 1) := by decide +kernel
theorem dX8_leads_49 : decode cX8_leads 49 = .ok (.iload_n 2, 1) := by decide +kernel
theorem dX8_leads_50 : decode cX8_leads 50 = .ok (.invokevirtual 200, 3) := by decide +kernel
theorem dX8_leads_53 : decode cX8_leads 53 = .ok (.istore 4, 2) := by decide +kernel
theorem dX8_leads_55 : decode cX8_leads 55 = .ok (.iload 4, 2) := by decide +kernel
theorem dX8_leads_57 : decode cX8_leads 57 = .ok (.bipush (-4), 2) := by decide +kernel
theorem dX8_leads_59 : decode cX8_leads 59 = .ok (.if_icmp .ne 13, 3) := by decide +kernel
theorem dX8_leads_62 : decode cX8_leads 62 = .ok (.iload_n 1, 1) := by decide +kernel
theorem dX8_leads_63 : decode cX8_leads 63 = .ok (.ifCond .ne 7, 3) := by decide +kernel
theorem dX8_leads_66 : decode cX8_leads 66 = .ok (.iload_n 2, 1) := by decide +kernel
theorem dX8_leads_67 : decode cX8_leads 67 = .ok (.goto 4, 3) := by decide +kernel
theorem dX8_leads_70 : decode cX8_leads 70 = .ok (.iload_n 3, 1) := by decide +kernel
theorem dX8_leads_71 : decode cX8_leads 71 = .ok (.ireturn, 1) := by decide +kernel
theorem dX8_leads_72 : decode cX8_leads 72 = .ok (.iload 4, 2) := by decide +kernel
theorem dX8_leads_74 : decode cX8_leads 74 = .ok (.istore_n 2, 1) := by decide +kernel
theorem dX8_leads_75 : decode cX8_leads 75 = .ok (.iinc 3 (-1), 3) := by decide +kernel
theorem dX8_leads_78 : decode cX8_leads 78 = .ok (.goto (-48), 3) := by decide +kernel
theorem dX8_leads_81 : decode cX8_leads 81 = .ok (.iload_n 1, 1) := by decide +kernel
theorem dX8_leads_82 : decode cX8_leads 82 = .ok (.ifCond .ne 7, 3) := by decide +kernel
theorem dX8_leads_85 : decode cX8_leads 85 = .ok (.iload_n 2, 1) := by decide +kernel
theorem dX8_leads_86 : decode cX8_leads 86 = .ok (.goto 5, 3) := by decide +kernel
theorem dX8_leads_89 : decode cX8_leads 89 = .ok (.bipush (-4), 2) := by decide +kernel
theorem dX8_leads_91 : decode cX8_leads 91 = .ok (.ireturn, 1) := by decide +kernel
theorem dX8_at_0 : decode cX8_at 0 = .ok (.bipush 56, 2) := by decide +kernel
theorem dX8_at_2 : decode cX8_at 2 = .ok (.iload_n 0, 1) := by decide +kernel
theorem dX8_at_3 : decode cX8_at 3 = .ok (.imul, 1) := by decide +kernel
theorem dX8_at_4 : decode cX8_at 4 = .ok (.bipush 8, 2) := by decide +kernel
theorem dX8_at_6 : decode cX8_at 6 = .ok (.iload_n 1, 1) := by decide +kernel
theorem dX8_at_7 : decode cX8_at 7 = .ok (.imul, 1) := by decide +kernel
theorem dX8_at_8 : decode cX8_at 8 = .ok (.iadd, 1) := by decide +kernel
theorem dX8_at_9 : decode cX8_at 9 = .ok (.iload_n 2, 1) := by decide +kernel
theorem dX8_at_10 : decode cX8_at 10 = .ok (.bipush (-4), 2) := by decide +kernel
theorem dX8_at_12 : decode cX8_at 12 = .ok (.if_icmp .ne 7, 3) := by decide +kernel
theorem dX8_at_15 : decode cX8_at 15 = .ok (.iconst 0, 1) := by decide +kernel
theorem dX8_at_16 : decode cX8_at 16 = .ok (.goto 6, 3) := by decide +kernel
theorem dX8_at_19 : decode cX8_at 19 = .ok (.iload_n 2, 1) := by decide +kernel
theorem dX8_at_20 : decode cX8_at 20 = .ok (.iconst 1, 1) := by decide +kernel
theorem dX8_at_21 : decode cX8_at 21 = .ok (.iadd, 1) := by decide +kernel
theorem dX8_at_22 : decode cX8_at 22 = .ok (.iadd, 1) := by decide +kernel
theorem dX8_at_23 : decode cX8_at 23 = .ok (.ireturn, 1) := by decide +kernel
set_option maxRecDepth 20000 in
theorem ggX8_layPages_X8_worksNow : GoodIn wsX8_layPages wsX8_worksNow := goodIn_r _ [8, 2, 3, 20, 21, 22, 23, 24, 25, 26, 27, 28, 29, 30, 31, 32, 33, 34, 35, 36, 37, 38, 39, 40, 41, 42, 43, 44, 45, 46, 47, 48, 49, 50, 51, 52, 53, 54, 55, 56, 57, 58] (by decide +kernel) (by decide +kernel)
set_option maxRecDepth 20000 in
theorem gX8_layPages_X8_worksNow : GoodIn wsX8_layPages (wsV RX8 231 RX8 yX8_worksNow wsX8_worksNow) := goodIn_app (goodIn_of _ (by decide +kernel)) ggX8_layPages_X8_worksNow
set_option maxRecDepth 20000 in
theorem ggX8_layPages_X8_dusks : GoodIn wsX8_layPages wsX8_dusks := goodIn_r _ [12, 13, 14, 15, 16, 17, 7, 18, 2, 19, 20, 21, 22, 23, 24, 25, 26, 27, 28, 29, 30, 31, 32, 33, 34, 35, 36, 37, 38, 39, 40, 41, 42, 43, 44, 45, 46, 47, 48, 49, 50, 51, 52, 53, 54, 55, 56, 57, 58] (by decide +kernel) (by decide +kernel)
set_option maxRecDepth 20000 in
theorem gX8_layPages_X8_dusks : GoodIn wsX8_layPages (wsV RX8 234 RX8 yX8_dusks wsX8_dusks) := goodIn_app (goodIn_of _ (by decide +kernel)) ggX8_layPages_X8_dusks
theorem dX8_layPages_0 : decode cX8_layPages 0 = .ok (.aload_n 0, 1) := by decide +kernel
theorem dX8_layPages_1 : decode cX8_layPages 1 = .ok (.invokevirtual 231, 3) := by decide +kernel
theorem dX8_layPages_4 : decode cX8_layPages 4 = .ok (.iconst 0, 1) := by decide +kernel
theorem dX8_layPages_5 : decode cX8_layPages 5 = .ok (.istore_n 1, 1) := by decide +kernel
theorem dX8_layPages_6 : decode cX8_layPages 6 = .ok (.iload_n 1, 1) := by decide +kernel
theorem dX8_layPages_7 : decode cX8_layPages 7 = .ok (.bipush 24, 2) := by decide +kernel
theorem dX8_layPages_9 : decode cX8_layPages 9 = .ok (.if_icmp .gt 68, 3) := by decide +kernel
theorem dX8_layPages_12 : decode cX8_layPages 12 = .ok (.iconst 0, 1) := by decide +kernel
theorem dX8_layPages_13 : decode cX8_layPages 13 = .ok (.istore_n 2, 1) := by decide +kernel
theorem dX8_layPages_14 : decode cX8_layPages 14 = .ok (.iload_n 2, 1) := by decide +kernel
theorem dX8_layPages_15 : decode cX8_layPages 15 = .ok (.bipush 30, 2) := by decide +kernel
theorem dX8_layPages_17 : decode cX8_layPages 17 = .ok (.if_icmp .ge 26, 3) := by decide +kernel
theorem dX8_layPages_20 : decode cX8_layPages 20 = .ok (.aload_n 0, 1) := by decide +kernel
theorem dX8_layPages_21 : decode cX8_layPages 21 = .ok (.getfield 41, 3) := by decide +kernel
theorem dX8_layPages_24 : decode cX8_layPages 24 = .ok (.bipush 30, 2) := by decide +kernel
theorem dX8_layPages_26 : decode cX8_layPages 26 = .ok (.iload_n 1, 1) := by decide +kernel
theorem dX8_layPages_27 : decode cX8_layPages 27 = .ok (.imul, 1) := by decide +kernel
theorem dX8_layPages_28 : decode cX8_layPages 28 = .ok (.iload_n 2, 1) := by decide +kernel
theorem dX8_layPages_29 : decode cX8_layPages 29 = .ok (.iadd, 1) := by decide +kernel
theorem dX8_layPages_30 : decode cX8_layPages 30 = .ok (.aload_n 0, 1) := by decide +kernel
theorem dX8_layPages_31 : decode cX8_layPages 31 = .ok (.getfield 38, 3) := by decide +kernel
theorem dX8_layPages_34 : decode cX8_layPages 34 = .ok (.iload_n 2, 1) := by decide +kernel
theorem dX8_layPages_35 : decode cX8_layPages 35 = .ok (.iaload, 1) := by decide +kernel
theorem dX8_layPages_36 : decode cX8_layPages 36 = .ok (.iastore, 1) := by decide +kernel
theorem dX8_layPages_37 : decode cX8_layPages 37 = .ok (.iinc 2 1, 3) := by decide +kernel
theorem dX8_layPages_40 : decode cX8_layPages 40 = .ok (.goto (-26), 3) := by decide +kernel
theorem dX8_layPages_43 : decode cX8_layPages 43 = .ok (.aload_n 0, 1) := by decide +kernel
theorem dX8_layPages_44 : decode cX8_layPages 44 = .ok (.getfield 7, 3) := by decide +kernel
theorem dX8_layPages_47 : decode cX8_layPages 47 = .ok (.bipush 47, 2) := by decide +kernel
theorem dX8_layPages_49 : decode cX8_layPages 49 = .ok (.iaload, 1) := by decide +kernel
theorem dX8_layPages_50 : decode cX8_layPages 50 = .ok (.iload_n 1, 1) := by decide +kernel
theorem dX8_layPages_51 : decode cX8_layPages 51 = .ok (.iadd, 1) := by decide +kernel
theorem dX8_layPages_52 : decode cX8_layPages 52 = .ok (.iconst 1, 1) := by decide +kernel
theorem dX8_layPages_53 : decode cX8_layPages 53 = .ok (.iadd, 1) := by decide +kernel
theorem dX8_layPages_54 : decode cX8_layPages 54 = .ok (.aload_n 0, 1) := by decide +kernel
theorem dX8_layPages_55 : decode cX8_layPages 55 = .ok (.getfield 7, 3) := by decide +kernel
theorem dX8_layPages_58 : decode cX8_layPages 58 = .ok (.bipush 30, 2) := by decide +kernel
theorem dX8_layPages_60 : decode cX8_layPages 60 = .ok (.iaload, 1) := by decide +kernel
theorem dX8_layPages_61 : decode cX8_layPages 61 = .ok (.iconst 1, 1) := by decide +kernel
theorem dX8_layPages_62 : decode cX8_layPages 62 = .ok (.iadd, 1) := by decide +kernel
theorem dX8_layPages_63 : decode cX8_layPages 63 = .ok (.irem, 1) := by decide +kernel
theorem dX8_layPages_64 : decode cX8_layPages 64 = .ok (.ifCond .ne 7, 3) := by decide +kernel
theorem dX8_layPages_67 : decode cX8_layPages 67 = .ok (.aload_n 0, 1) := by decide +kernel
theorem dX8_layPages_68 : decode cX8_layPages 68 = .ok (.invokevirtual 234, 3) := by decide +kernel
theorem dX8_layPages_71 : decode cX8_layPages 71 = .ok (.iinc 1 1, 3) := by decide +kernel
theorem dX8_layPages_74 : decode cX8_layPages 74 = .ok (.goto (-68), 3) := by decide +kernel
theorem dX8_layPages_77 : decode cX8_layPages 77 = .ok (.return_, 1) := by decide +kernel
set_option maxRecDepth 20000 in
theorem ggX8_after_X8_isDoor : GoodIn wsX8_after wsX8_isDoor := goodIn_r _ [7, 8, 9, 10, 6, 11, 30, 31, 32, 33, 34, 35, 36, 37, 38, 39, 40, 41, 42, 43, 44, 45, 46, 47, 48, 49, 50, 51, 52, 53, 54, 55, 56, 57, 58, 59, 60, 61, 62, 63, 64, 65, 66, 67, 68] (by decide +kernel) (by decide +kernel)
set_option maxRecDepth 20000 in
theorem gX8_after_X8_isDoor : GoodIn wsX8_after (wsV RX8 190 RX8 yX8_isDoor wsX8_isDoor) := goodIn_app (goodIn_of _ (by decide +kernel)) ggX8_after_X8_isDoor
set_option maxRecDepth 20000 in
theorem ggX8_after_X8_leadsTo : GoodIn wsX8_after wsX8_leadsTo := goodIn_r _ [15] (by decide +kernel) (by decide +kernel)
set_option maxRecDepth 20000 in
theorem gX8_after_X8_leadsTo : GoodIn wsX8_after (wsV RX8 200 RX8 yX8_leadsTo wsX8_leadsTo) := goodIn_app (goodIn_of _ (by decide +kernel)) ggX8_after_X8_leadsTo
set_option maxRecDepth 20000 in
theorem ggX8_after_X8_goesTo : GoodIn wsX8_after wsX8_goesTo := goodIn_r _ [19, 8, 20, 21, 22, 6, 23, 12, 13, 14, 15, 24, 25, 26, 27, 28, 29, 30, 31, 32, 33, 34, 35, 36, 37, 38, 39, 40, 41, 42, 43, 44, 45, 46, 47, 48, 49, 50, 51, 52, 53, 54, 55, 56, 57, 58, 59, 60, 61, 62, 63, 64, 65, 66, 67, 68] (by decide +kernel) (by decide +kernel)
set_option maxRecDepth 20000 in
theorem gX8_after_X8_goesTo : GoodIn wsX8_after (wsV RX8 227 RX8 yX8_goesTo wsX8_goesTo) := goodIn_app (goodIn_of _ (by decide +kernel)) ggX8_after_X8_goesTo
theorem dX8_after_0 : decode cX8_after 0 = .ok (.iload 4, 2) := by decide +kernel
theorem dX8_after_2 : decode cX8_after 2 = .ok (.bipush 10, 2) := by decide +kernel
theorem dX8_after_4 : decode cX8_after 4 = .ok (.if_icmp .ne 7, 3) := by decide +kernel
theorem dX8_after_7 : decode cX8_after 7 = .ok (.iload_n 2, 1) := by decide +kernel
theorem dX8_after_8 : decode cX8_after 8 = .ok (.goto 32, 3) := by decide +kernel
theorem dX8_after_11 : decode cX8_after 11 = .ok (.aload_n 0, 1) := by decide +kernel
theorem dX8_after_12 : decode cX8_after 12 = .ok (.iload 4, 2) := by decide +kernel
theorem dX8_after_14 : decode cX8_after 14 = .ok (.invokevirtual 190, 3) := by decide +kernel
theorem dX8_after_17 : decode cX8_after 17 = .ok (.ifCond .eq 21, 3) := by decide +kernel
theorem dX8_after_20 : decode cX8_after 20 = .ok (.aload_n 0, 1) := by decide +kernel
theorem dX8_after_21 : decode cX8_after 21 = .ok (.aload_n 0, 1) := by decide +kernel
theorem dX8_after_22 : decode cX8_after 22 = .ok (.getfield 41, 3) := by decide +kernel
theorem dX8_after_25 : decode cX8_after 25 = .ok (.bipush 30, 2) := by decide +kernel
theorem dX8_after_27 : decode cX8_after 27 = .ok (.iload_n 1, 1) := by decide +kernel
theorem dX8_after_28 : decode cX8_after 28 = .ok (.imul, 1) := by decide +kernel
theorem dX8_after_29 : decode cX8_after 29 = .ok (.iload 4, 2) := by decide +kernel
theorem dX8_after_31 : decode cX8_after 31 = .ok (.iload_n 2, 1) := by decide +kernel
theorem dX8_after_32 : decode cX8_after 32 = .ok (.invokevirtual 200, 3) := by decide +kernel
theorem dX8_after_35 : decode cX8_after 35 = .ok (.goto 5, 3) := by decide +kernel
theorem dX8_after_38 : decode cX8_after 38 = .ok (.bipush (-4), 2) := by decide +kernel
theorem dX8_after_40 : decode cX8_after 40 = .ok (.istore 5, 2) := by decide +kernel
theorem dX8_after_42 : decode cX8_after 42 = .ok (.iload 5, 2) := by decide +kernel
theorem dX8_after_44 : decode cX8_after 44 = .ok (.bipush (-4), 2) := by decide +kernel
theorem dX8_after_46 : decode cX8_after 46 = .ok (.if_icmp .eq 9, 3) := by decide +kernel
theorem dX8_after_49 : decode cX8_after 49 = .ok (.iload_n 3, 1) := by decide +kernel
theorem dX8_after_50 : decode cX8_after 50 = .ok (.iload 5, 2) := by decide +kernel
theorem dX8_after_52 : decode cX8_after 52 = .ok (.if_icmp .ne 6, 3) := by decide +kernel
theorem dX8_after_55 : decode cX8_after 55 = .ok (.bipush (-4), 2) := by decide +kernel
theorem dX8_after_57 : decode cX8_after 57 = .ok (.ireturn, 1) := by decide +kernel
theorem dX8_after_58 : decode cX8_after 58 = .ok (.iload_n 3, 1) := by decide +kernel
theorem dX8_after_59 : decode cX8_after 59 = .ok (.bipush (-4), 2) := by decide +kernel
theorem dX8_after_61 : decode cX8_after 61 = .ok (.if_icmp .ne 8, 3) := by decide +kernel
theorem dX8_after_64 : decode cX8_after 64 = .ok (.bipush (-4), 2) := by decide +kernel
theorem dX8_after_66 : decode cX8_after 66 = .ok (.goto 34, 3) := by decide +kernel
theorem dX8_after_69 : decode cX8_after 69 = .ok (.aload_n 0, 1) := by decide +kernel
theorem dX8_after_70 : decode cX8_after 70 = .ok (.aload_n 0, 1) := by decide +kernel
theorem dX8_after_71 : decode cX8_after 71 = .ok (.getfield 41, 3) := by decide +kernel
theorem dX8_after_74 : decode cX8_after 74 = .ok (.bipush 30, 2) := by decide +kernel
theorem dX8_after_76 : decode cX8_after 76 = .ok (.iload_n 1, 1) := by decide +kernel
theorem dX8_after_77 : decode cX8_after 77 = .ok (.imul, 1) := by decide +kernel
theorem dX8_after_78 : decode cX8_after 78 = .ok (.iload_n 3, 1) := by decide +kernel
theorem dX8_after_79 : decode cX8_after 79 = .ok (.iload 5, 2) := by decide +kernel
theorem dX8_after_81 : decode cX8_after 81 = .ok (.aload_n 0, 1) := by decide +kernel
theorem dX8_after_82 : decode cX8_after 82 = .ok (.getfield 7, 3) := by decide +kernel
theorem dX8_after_85 : decode cX8_after 85 = .ok (.bipush 33, 2) := by decide +kernel
theorem dX8_after_87 : decode cX8_after 87 = .ok (.iaload, 1) := by decide +kernel
theorem dX8_after_88 : decode cX8_after 88 = .ok (.aload_n 0, 1) := by decide +kernel
theorem dX8_after_89 : decode cX8_after 89 = .ok (.getfield 7, 3) := by decide +kernel
theorem dX8_after_92 : decode cX8_after 92 = .ok (.bipush 47, 2) := by decide +kernel
theorem dX8_after_94 : decode cX8_after 94 = .ok (.iaload, 1) := by decide +kernel
theorem dX8_after_95 : decode cX8_after 95 = .ok (.iload_n 1, 1) := by decide +kernel
theorem dX8_after_96 : decode cX8_after 96 = .ok (.iadd, 1) := by decide +kernel
theorem dX8_after_97 : decode cX8_after 97 = .ok (.invokevirtual 227, 3) := by decide +kernel
theorem dX8_after_100 : decode cX8_after 100 = .ok (.istore 6, 2) := by decide +kernel
theorem dX8_after_102 : decode cX8_after 102 = .ok (.iload 6, 2) := by decide +kernel
theorem dX8_after_104 : decode cX8_after 104 = .ok (.iload 5, 2) := by decide +kernel
theorem dX8_after_106 : decode cX8_after 106 = .ok (.if_icmp .ne 8, 3) := by decide +kernel
theorem dX8_after_109 : decode cX8_after 109 = .ok (.bipush (-4), 2) := by decide +kernel
theorem dX8_after_111 : decode cX8_after 111 = .ok (.goto 24, 3) := by decide +kernel
theorem dX8_after_114 : decode cX8_after 114 = .ok (.iload 5, 2) := by decide +kernel
theorem dX8_after_116 : decode cX8_after 116 = .ok (.bipush 10, 2) := by decide +kernel
theorem dX8_after_118 : decode cX8_after 118 = .ok (.iload 6, 2) := by decide +kernel
theorem dX8_after_120 : decode cX8_after 120 = .ok (.bipush (-4), 2) := by decide +kernel
theorem dX8_after_122 : decode cX8_after 122 = .ok (.if_icmp .ne 7, 3) := by decide +kernel
theorem dX8_after_125 : decode cX8_after 125 = .ok (.iconst 0, 1) := by decide +kernel
theorem dX8_after_126 : decode cX8_after 126 = .ok (.goto 7, 3) := by decide +kernel
theorem dX8_after_129 : decode cX8_after 129 = .ok (.iload 6, 2) := by decide +kernel
theorem dX8_after_131 : decode cX8_after 131 = .ok (.iconst 1, 1) := by decide +kernel
theorem dX8_after_132 : decode cX8_after 132 = .ok (.iadd, 1) := by decide +kernel
theorem dX8_after_133 : decode cX8_after 133 = .ok (.imul, 1) := by decide +kernel
theorem dX8_after_134 : decode cX8_after 134 = .ok (.iadd, 1) := by decide +kernel
theorem dX8_after_135 : decode cX8_after 135 = .ok (.ireturn, 1) := by decide +kernel
set_option maxRecDepth 20000 in
theorem ggX8_layAlive_X8_layPages : GoodIn wsX8_layAlive wsX8_layPages := goodIn_r _ [7, 8, 9, 2, 10, 11, 12, 6, 13, 14, 15, 16, 17, 18, 19, 20, 21, 22, 23, 24, 62, 63, 64, 65, 66, 67, 68, 69, 70, 71, 72, 73, 74, 75, 76, 77, 78, 79, 80, 81, 82, 83, 84, 85, 86, 87, 88, 89, 90, 91, 92, 93, 94, 95, 96, 97, 98, 99, 100] (by decide +kernel) (by decide +kernel)
set_option maxRecDepth 20000 in
theorem gX8_layAlive_X8_layPages : GoodIn wsX8_layAlive (wsV RX8 242 RX8 yX8_layPages wsX8_layPages) := goodIn_app (goodIn_of _ (by decide +kernel)) ggX8_layAlive_X8_layPages
set_option maxRecDepth 20000 in
theorem ggX8_layAlive_X8_beastNow : GoodIn wsX8_layAlive wsX8_beastNow := goodIn_r _ [28, 2, 62, 63, 64, 65, 66, 67, 68, 69, 70, 71, 72, 73, 74, 75, 76, 77, 78, 79, 80, 81, 82, 83, 84, 85, 86, 87, 88, 89, 90, 91, 92, 93, 94, 95, 96, 97, 98, 99, 100] (by decide +kernel) (by decide +kernel)
set_option maxRecDepth 20000 in
theorem gX8_layAlive_X8_beastNow : GoodIn wsX8_layAlive (wsV RX8 187 RX8 yX8_beastNow wsX8_beastNow) := goodIn_app (goodIn_of _ (by decide +kernel)) ggX8_layAlive_X8_beastNow
set_option maxRecDepth 20000 in
theorem ggX8_layAlive_X8_at : GoodIn wsX8_layAlive wsX8_at := goodIn_r _ [31] (by decide +kernel) (by decide +kernel)
set_option maxRecDepth 20000 in
theorem gX8_layAlive_X8_at : GoodIn wsX8_layAlive (va_wsS RX8 245 yX8_at wsX8_at) := goodIn_app (goodIn_of _ (by decide +kernel)) ggX8_layAlive_X8_at
set_option maxRecDepth 20000 in
theorem ggX8_layAlive_X8_after : GoodIn wsX8_layAlive wsX8_after := goodIn_r _ [35, 8, 2, 36, 37, 38, 6, 39, 40, 41, 42, 43, 44, 45, 46, 47, 48, 49, 50, 51, 52, 53, 54, 55, 56, 57, 58, 59, 60, 61, 62, 63, 64, 65, 66, 67, 68, 69, 70, 71, 72, 73, 74, 75, 76, 77, 78, 79, 80, 81, 82, 83, 84, 85, 86, 87, 88, 89, 90, 91, 92, 93, 94, 95, 96, 97, 98, 99, 100] (by decide +kernel) (by decide +kernel)
set_option maxRecDepth 20000 in
theorem gX8_layAlive_X8_after : GoodIn wsX8_layAlive (wsV RX8 248 RX8 yX8_after wsX8_after) := goodIn_app (goodIn_of _ (by decide +kernel)) ggX8_layAlive_X8_after
theorem dX8_layAlive_0 : decode cX8_layAlive 0 = .ok (.aload_n 0, 1) := by decide +kernel
theorem dX8_layAlive_1 : decode cX8_layAlive 1 = .ok (.invokevirtual 242, 3) := by decide +kernel
theorem dX8_layAlive_4 : decode cX8_layAlive 4 = .ok (.iconst 0, 1) := by decide +kernel
theorem dX8_layAlive_5 : decode cX8_layAlive 5 = .ok (.istore_n 1, 1) := by decide +kernel
theorem dX8_layAlive_6 : decode cX8_layAlive 6 = .ok (.iload_n 1, 1) := by decide +kernel
theorem dX8_layAlive_7 : decode cX8_layAlive 7 = .ok (.sipush 1400, 3) := by decide +kernel
theorem dX8_layAlive_10 : decode cX8_layAlive 10 = .ok (.if_icmp .ge 16, 3) := by decide +kernel
theorem dX8_layAlive_13 : decode cX8_layAlive 13 = .ok (.aload_n 0, 1) := by decide +kernel
theorem dX8_layAlive_14 : decode cX8_layAlive 14 = .ok (.getfield 44, 3) := by decide +kernel
theorem dX8_layAlive_17 : decode cX8_layAlive 17 = .ok (.iload_n 1, 1) := by decide +kernel
theorem dX8_layAlive_18 : decode cX8_layAlive 18 = .ok (.iconst 0, 1) := by decide +kernel
theorem dX8_layAlive_19 : decode cX8_layAlive 19 = .ok (.iastore, 1) := by decide +kernel
theorem dX8_layAlive_20 : decode cX8_layAlive 20 = .ok (.iinc 1 1, 3) := by decide +kernel
theorem dX8_layAlive_23 : decode cX8_layAlive 23 = .ok (.goto (-17), 3) := by decide +kernel
theorem dX8_layAlive_26 : decode cX8_layAlive 26 = .ok (.aload_n 0, 1) := by decide +kernel
theorem dX8_layAlive_27 : decode cX8_layAlive 27 = .ok (.getfield 44, 3) := by decide +kernel
theorem dX8_layAlive_30 : decode cX8_layAlive 30 = .ok (.iconst 0, 1) := by decide +kernel
theorem dX8_layAlive_31 : decode cX8_layAlive 31 = .ok (.aload_n 0, 1) := by decide +kernel
theorem dX8_layAlive_32 : decode cX8_layAlive 32 = .ok (.getfield 7, 3) := by decide +kernel
theorem dX8_layAlive_35 : decode cX8_layAlive 35 = .ok (.bipush 31, 2) := by decide +kernel
theorem dX8_layAlive_37 : decode cX8_layAlive 37 = .ok (.iaload, 1) := by decide +kernel
theorem dX8_layAlive_38 : decode cX8_layAlive 38 = .ok (.aload_n 0, 1) := by decide +kernel
theorem dX8_layAlive_39 : decode cX8_layAlive 39 = .ok (.invokevirtual 187, 3) := by decide +kernel
theorem dX8_layAlive_42 : decode cX8_layAlive 42 = .ok (.invokestatic 245, 3) := by decide +kernel
theorem dX8_layAlive_45 : decode cX8_layAlive 45 = .ok (.iconst 1, 1) := by decide +kernel
theorem dX8_layAlive_46 : decode cX8_layAlive 46 = .ok (.iastore, 1) := by decide +kernel
theorem dX8_layAlive_47 : decode cX8_layAlive 47 = .ok (.iconst 0, 1) := by decide +kernel
theorem dX8_layAlive_48 : decode cX8_layAlive 48 = .ok (.istore_n 1, 1) := by decide +kernel
theorem dX8_layAlive_49 : decode cX8_layAlive 49 = .ok (.iload_n 1, 1) := by decide +kernel
theorem dX8_layAlive_50 : decode cX8_layAlive 50 = .ok (.sipush 1344, 3) := by decide +kernel
theorem dX8_layAlive_53 : decode cX8_layAlive 53 = .ok (.if_icmp .ge 114, 3) := by decide +kernel
theorem dX8_layAlive_56 : decode cX8_layAlive 56 = .ok (.iload_n 1, 1) := by decide +kernel
theorem dX8_layAlive_57 : decode cX8_layAlive 57 = .ok (.bipush 56, 2) := by decide +kernel
theorem dX8_layAlive_59 : decode cX8_layAlive 59 = .ok (.idiv, 1) := by decide +kernel
theorem dX8_layAlive_60 : decode cX8_layAlive 60 = .ok (.istore_n 2, 1) := by decide +kernel
theorem dX8_layAlive_61 : decode cX8_layAlive 61 = .ok (.iload_n 1, 1) := by decide +kernel
theorem dX8_layAlive_62 : decode cX8_layAlive 62 = .ok (.bipush 56, 2) := by decide +kernel
theorem dX8_layAlive_64 : decode cX8_layAlive 64 = .ok (.irem, 1) := by decide +kernel
theorem dX8_layAlive_65 : decode cX8_layAlive 65 = .ok (.bipush 8, 2) := by decide +kernel
theorem dX8_layAlive_67 : decode cX8_layAlive 67 = .ok (.idiv, 1) := by decide +kernel
theorem dX8_layAlive_68 : decode cX8_layAlive 68 = .ok (.istore_n 3, 1) := by decide +kernel
theorem dX8_layAlive_69 : decode cX8_layAlive 69 = .ok (.iload_n 1, 1) := by decide +kernel
theorem dX8_layAlive_70 : decode cX8_layAlive 70 = .ok (.bipush 8, 2) := by decide +kernel
theorem dX8_layAlive_72 : decode cX8_layAlive 72 = .ok (.irem, 1) := by decide +kernel
theorem dX8_layAlive_73 : decode cX8_layAlive 73 = .ok (.ifCond .ne 8, 3) := by decide +kernel
theorem dX8_layAlive_76 : decode cX8_layAlive 76 = .ok (.bipush (-4), 2) := by decide +kernel
theorem dX8_layAlive_78 : decode cX8_layAlive 78 = .ok (.goto 9, 3) := by decide +kernel
theorem dX8_layAlive_81 : decode cX8_layAlive 81 = .ok (.iload_n 1, 1) := by decide +kernel
theorem dX8_layAlive_82 : decode cX8_layAlive 82 = .ok (.bipush 8, 2) := by decide +kernel
theorem dX8_layAlive_84 : decode cX8_layAlive 84 = .ok (.irem, 1) := by decide +kernel
theorem dX8_layAlive_85 : decode cX8_layAlive 85 = .ok (.iconst 1, 1) := by decide +kernel
theorem dX8_layAlive_86 : decode cX8_layAlive 86 = .ok (.isub, 1) := by decide +kernel
theorem dX8_layAlive_87 : decode cX8_layAlive 87 = .ok (.istore 4, 2) := by decide +kernel
theorem dX8_layAlive_89 : decode cX8_layAlive 89 = .ok (.iconst 0, 1) := by decide +kernel
theorem dX8_layAlive_90 : decode cX8_layAlive 90 = .ok (.istore 5, 2) := by decide +kernel
theorem dX8_layAlive_92 : decode cX8_layAlive 92 = .ok (.iload 5, 2) := by decide +kernel
theorem dX8_layAlive_94 : decode cX8_layAlive 94 = .ok (.bipush 10, 2) := by decide +kernel
theorem dX8_layAlive_96 : decode cX8_layAlive 96 = .ok (.if_icmp .gt 65, 3) := by decide +kernel
theorem dX8_layAlive_99 : decode cX8_layAlive 99 = .ok (.aload_n 0, 1) := by decide +kernel
theorem dX8_layAlive_100 : decode cX8_layAlive 100 = .ok (.getfield 44, 3) := by decide +kernel
theorem dX8_layAlive_103 : decode cX8_layAlive 103 = .ok (.iload_n 1, 1) := by decide +kernel
theorem dX8_layAlive_104 : decode cX8_layAlive 104 = .ok (.iaload, 1) := by decide +kernel
theorem dX8_layAlive_105 : decode cX8_layAlive 105 = .ok (.iconst 1, 1) := by decide +kernel
theorem dX8_layAlive_106 : decode cX8_layAlive 106 = .ok (.if_icmp .ne 55, 3) := by decide +kernel
theorem dX8_layAlive_109 : decode cX8_layAlive 109 = .ok (.aload_n 0, 1) := by decide +kernel
theorem dX8_layAlive_110 : decode cX8_layAlive 110 = .ok (.iload_n 2, 1) := by decide +kernel
theorem dX8_layAlive_111 : decode cX8_layAlive 111 = .ok (.iload_n 3, 1) := by decide +kernel
theorem dX8_layAlive_112 : decode cX8_layAlive 112 = .ok (.iload 4, 2) := by decide +kernel
theorem dX8_layAlive_114 : decode cX8_layAlive 114 = .ok (.iload 5, 2) := by decide +kernel
theorem dX8_layAlive_116 : decode cX8_layAlive 116 = .ok (.invokevirtual 248, 3) := by decide +kernel
theorem dX8_layAlive_119 : decode cX8_layAlive 119 = .ok (.istore 6, 2) := by decide +kernel
theorem dX8_layAlive_121 : decode cX8_layAlive 121 = .ok (.iload 6, 2) := by decide +kernel
theorem dX8_layAlive_123 : decode cX8_layAlive 123 = .ok (.bipush (-4), 2) := by decide +kernel
theorem dX8_layAlive_125 : decode cX8_layAlive 125 = .ok (.if_icmp .eq 30, 3) := by decide +kernel
theorem dX8_layAlive_128 : decode cX8_layAlive 128 = .ok (.aload_n 0, 1) := by decide +kernel
theorem dX8_layAlive_129 : decode cX8_layAlive 129 = .ok (.getfield 44, 3) := by decide +kernel
theorem dX8_layAlive_132 : decode cX8_layAlive 132 = .ok (.bipush 56, 2) := by decide +kernel
theorem dX8_layAlive_134 : decode cX8_layAlive 134 = .ok (.iload_n 2, 1) := by decide +kernel
theorem dX8_layAlive_135 : decode cX8_layAlive 135 = .ok (.iconst 1, 1) := by decide +kernel
theorem dX8_layAlive_136 : decode cX8_layAlive 136 = .ok (.iadd, 1) := by decide +kernel
theorem dX8_layAlive_137 : decode cX8_layAlive 137 = .ok (.imul, 1) := by decide +kernel
theorem dX8_layAlive_138 : decode cX8_layAlive 138 = .ok (.bipush 8, 2) := by decide +kernel
theorem dX8_layAlive_140 : decode cX8_layAlive 140 = .ok (.iload 6, 2) := by decide +kernel
theorem dX8_layAlive_142 : decode cX8_layAlive 142 = .ok (.bipush 10, 2) := by decide +kernel
theorem dX8_layAlive_144 : decode cX8_layAlive 144 = .ok (.irem, 1) := by decide +kernel
theorem dX8_layAlive_145 : decode cX8_layAlive 145 = .ok (.imul, 1) := by decide +kernel
theorem dX8_layAlive_146 : decode cX8_layAlive 146 = .ok (.iadd, 1) := by decide +kernel
theorem dX8_layAlive_147 : decode cX8_layAlive 147 = .ok (.iload 6, 2) := by decide +kernel
theorem dX8_layAlive_149 : decode cX8_layAlive 149 = .ok (.bipush 10, 2) := by decide +kernel
theorem dX8_layAlive_151 : decode cX8_layAlive 151 = .ok (.idiv, 1) := by decide +kernel
theorem dX8_layAlive_152 : decode cX8_layAlive 152 = .ok (.iadd, 1) := by decide +kernel
theorem dX8_layAlive_153 : decode cX8_layAlive 153 = .ok (.iconst 1, 1) := by decide +kernel
theorem dX8_layAlive_154 : decode cX8_layAlive 154 = .ok (.iastore, 1) := by decide +kernel
theorem dX8_layAlive_155 : decode cX8_layAlive 155 = .ok (.iinc 5 1, 3) := by decide +kernel
theorem dX8_layAlive_158 : decode cX8_layAlive 158 = .ok (.goto (-66), 3) := by decide +kernel
theorem dX8_layAlive_161 : decode cX8_layAlive 161 = .ok (.iinc 1 1, 3) := by decide +kernel
theorem dX8_layAlive_164 : decode cX8_layAlive 164 = .ok (.goto (-115), 3) := by decide +kernel
theorem dX8_layAlive_167 : decode cX8_layAlive 167 = .ok (.return_, 1) := by decide +kernel
theorem dX8_isThere_0 : decode cX8_isThere 0 = .ok (.iconst 0, 1) := by decide +kernel
theorem dX8_isThere_1 : decode cX8_isThere 1 = .ok (.istore_n 3, 1) := by decide +kernel
theorem dX8_isThere_2 : decode cX8_isThere 2 = .ok (.iconst 0, 1) := by decide +kernel
theorem dX8_isThere_3 : decode cX8_isThere 3 = .ok (.istore 4, 2) := by decide +kernel
theorem dX8_isThere_5 : decode cX8_isThere 5 = .ok (.iload 4, 2) := by decide +kernel
theorem dX8_isThere_7 : decode cX8_isThere 7 = .ok (.bipush 8, 2) := by decide +kernel
theorem dX8_isThere_9 : decode cX8_isThere 9 = .ok (.if_icmp .ge 40, 3) := by decide +kernel
theorem dX8_isThere_12 : decode cX8_isThere 12 = .ok (.iload_n 3, 1) := by decide +kernel
theorem dX8_isThere_13 : decode cX8_isThere 13 = .ok (.ifCond .ne 24, 3) := by decide +kernel
theorem dX8_isThere_16 : decode cX8_isThere 16 = .ok (.aload_n 0, 1) := by decide +kernel
theorem dX8_isThere_17 : decode cX8_isThere 17 = .ok (.getfield 44, 3) := by decide +kernel
theorem dX8_isThere_20 : decode cX8_isThere 20 = .ok (.bipush 56, 2) := by decide +kernel
theorem dX8_isThere_22 : decode cX8_isThere 22 = .ok (.iload_n 1, 1) := by decide +kernel
theorem dX8_isThere_23 : decode cX8_isThere 23 = .ok (.imul, 1) := by decide +kernel
theorem dX8_isThere_24 : decode cX8_isThere 24 = .ok (.bipush 8, 2) := by decide +kernel
theorem dX8_isThere_26 : decode cX8_isThere 26 = .ok (.iload_n 2, 1) := by decide +kernel
theorem dX8_isThere_27 : decode cX8_isThere 27 = .ok (.imul, 1) := by decide +kernel
theorem dX8_isThere_28 : decode cX8_isThere 28 = .ok (.iadd, 1) := by decide +kernel
theorem dX8_isThere_29 : decode cX8_isThere 29 = .ok (.iload 4, 2) := by decide +kernel
theorem dX8_isThere_31 : decode cX8_isThere 31 = .ok (.iadd, 1) := by decide +kernel
theorem dX8_isThere_32 : decode cX8_isThere 32 = .ok (.iaload, 1) := by decide +kernel
theorem dX8_isThere_33 : decode cX8_isThere 33 = .ok (.iconst 1, 1) := by decide +kernel
theorem dX8_isThere_34 : decode cX8_isThere 34 = .ok (.if_icmp .ne 7, 3) := by decide +kernel
theorem dX8_isThere_37 : decode cX8_isThere 37 = .ok (.iconst 1, 1) := by decide +kernel
theorem dX8_isThere_38 : decode cX8_isThere 38 = .ok (.goto 4, 3) := by decide +kernel
theorem dX8_isThere_41 : decode cX8_isThere 41 = .ok (.iconst 0, 1) := by decide +kernel
theorem dX8_isThere_42 : decode cX8_isThere 42 = .ok (.istore_n 3, 1) := by decide +kernel
theorem dX8_isThere_43 : decode cX8_isThere 43 = .ok (.iinc 4 1, 3) := by decide +kernel
theorem dX8_isThere_46 : decode cX8_isThere 46 = .ok (.goto (-41), 3) := by decide +kernel
theorem dX8_isThere_49 : decode cX8_isThere 49 = .ok (.iload_n 3, 1) := by decide +kernel
theorem dX8_isThere_50 : decode cX8_isThere 50 = .ok (.ireturn, 1) := by decide +kernel
set_option maxRecDepth 20000 in
theorem ggX8_layBack_X8_after : GoodIn wsX8_layBack wsX8_after := goodIn_r _ [6, 7, 8, 9, 10, 11, 5, 12, 13, 14, 15, 16, 17, 18, 19, 20, 21, 22, 23, 24, 25, 26, 27, 28, 29, 30, 31, 32, 33, 34, 35, 36, 37, 38, 39, 40, 41, 42, 43, 44, 45, 46, 47, 48, 49, 50, 51, 52, 53, 54, 55, 56, 57, 58, 59, 60, 61, 62, 63, 64, 65, 66, 67, 68, 69, 70, 71, 72, 73] (by decide +kernel) (by decide +kernel)
set_option maxRecDepth 20000 in
theorem gX8_layBack_X8_after : GoodIn wsX8_layBack (wsV RX8 248 RX8 yX8_after wsX8_after) := goodIn_app (goodIn_of _ (by decide +kernel)) ggX8_layBack_X8_after
theorem dX8_layBack_0 : decode cX8_layBack 0 = .ok (.iconst 0, 1) := by decide +kernel
theorem dX8_layBack_1 : decode cX8_layBack 1 = .ok (.istore_n 3, 1) := by decide +kernel
theorem dX8_layBack_2 : decode cX8_layBack 2 = .ok (.iload_n 3, 1) := by decide +kernel
theorem dX8_layBack_3 : decode cX8_layBack 3 = .ok (.bipush 56, 2) := by decide +kernel
theorem dX8_layBack_5 : decode cX8_layBack 5 = .ok (.if_icmp .ge 33, 3) := by decide +kernel
theorem dX8_layBack_8 : decode cX8_layBack 8 = .ok (.aload_n 0, 1) := by decide +kernel
theorem dX8_layBack_9 : decode cX8_layBack 9 = .ok (.getfield 47, 3) := by decide +kernel
theorem dX8_layBack_12 : decode cX8_layBack 12 = .ok (.bipush 56, 2) := by decide +kernel
theorem dX8_layBack_14 : decode cX8_layBack 14 = .ok (.iload_n 1, 1) := by decide +kernel
theorem dX8_layBack_15 : decode cX8_layBack 15 = .ok (.imul, 1) := by decide +kernel
theorem dX8_layBack_16 : decode cX8_layBack 16 = .ok (.iload_n 3, 1) := by decide +kernel
theorem dX8_layBack_17 : decode cX8_layBack 17 = .ok (.iadd, 1) := by decide +kernel
theorem dX8_layBack_18 : decode cX8_layBack 18 = .ok (.iload_n 3, 1) := by decide +kernel
theorem dX8_layBack_19 : decode cX8_layBack 19 = .ok (.bipush 8, 2) := by decide +kernel
theorem dX8_layBack_21 : decode cX8_layBack 21 = .ok (.idiv, 1) := by decide +kernel
theorem dX8_layBack_22 : decode cX8_layBack 22 = .ok (.iload_n 2, 1) := by decide +kernel
theorem dX8_layBack_23 : decode cX8_layBack 23 = .ok (.if_icmp .ne 7, 3) := by decide +kernel
theorem dX8_layBack_26 : decode cX8_layBack 26 = .ok (.iconst 1, 1) := by decide +kernel
theorem dX8_layBack_27 : decode cX8_layBack 27 = .ok (.goto 4, 3) := by decide +kernel
theorem dX8_layBack_30 : decode cX8_layBack 30 = .ok (.iconst 0, 1) := by decide +kernel
theorem dX8_layBack_31 : decode cX8_layBack 31 = .ok (.iastore, 1) := by decide +kernel
theorem dX8_layBack_32 : decode cX8_layBack 32 = .ok (.iinc 3 1, 3) := by decide +kernel
theorem dX8_layBack_35 : decode cX8_layBack 35 = .ok (.goto (-33), 3) := by decide +kernel
theorem dX8_layBack_38 : decode cX8_layBack 38 = .ok (.bipush 56, 2) := by decide +kernel
theorem dX8_layBack_40 : decode cX8_layBack 40 = .ok (.iload_n 1, 1) := by decide +kernel
theorem dX8_layBack_41 : decode cX8_layBack 41 = .ok (.imul, 1) := by decide +kernel
theorem dX8_layBack_42 : decode cX8_layBack 42 = .ok (.iconst 1, 1) := by decide +kernel
theorem dX8_layBack_43 : decode cX8_layBack 43 = .ok (.isub, 1) := by decide +kernel
theorem dX8_layBack_44 : decode cX8_layBack 44 = .ok (.istore_n 3, 1) := by decide +kernel
theorem dX8_layBack_45 : decode cX8_layBack 45 = .ok (.iload_n 3, 1) := by decide +kernel
theorem dX8_layBack_46 : decode cX8_layBack 46 = .ok (.ifCond .lt 118, 3) := by decide +kernel
theorem dX8_layBack_49 : decode cX8_layBack 49 = .ok (.iload_n 3, 1) := by decide +kernel
theorem dX8_layBack_50 : decode cX8_layBack 50 = .ok (.bipush 56, 2) := by decide +kernel
theorem dX8_layBack_52 : decode cX8_layBack 52 = .ok (.idiv, 1) := by decide +kernel
theorem dX8_layBack_53 : decode cX8_layBack 53 = .ok (.istore 4, 2) := by decide +kernel
theorem dX8_layBack_55 : decode cX8_layBack 55 = .ok (.aload_n 0, 1) := by decide +kernel
theorem dX8_layBack_56 : decode cX8_layBack 56 = .ok (.getfield 47, 3) := by decide +kernel
theorem dX8_layBack_59 : decode cX8_layBack 59 = .ok (.iload_n 3, 1) := by decide +kernel
theorem dX8_layBack_60 : decode cX8_layBack 60 = .ok (.iconst 0, 1) := by decide +kernel
theorem dX8_layBack_61 : decode cX8_layBack 61 = .ok (.iastore, 1) := by decide +kernel
theorem dX8_layBack_62 : decode cX8_layBack 62 = .ok (.iconst 0, 1) := by decide +kernel
theorem dX8_layBack_63 : decode cX8_layBack 63 = .ok (.istore 5, 2) := by decide +kernel
theorem dX8_layBack_65 : decode cX8_layBack 65 = .ok (.iload 5, 2) := by decide +kernel
theorem dX8_layBack_67 : decode cX8_layBack 67 = .ok (.bipush 10, 2) := by decide +kernel
theorem dX8_layBack_69 : decode cX8_layBack 69 = .ok (.if_icmp .gt 89, 3) := by decide +kernel
theorem dX8_layBack_72 : decode cX8_layBack 72 = .ok (.aload_n 0, 1) := by decide +kernel
theorem dX8_layBack_73 : decode cX8_layBack 73 = .ok (.iload 4, 2) := by decide +kernel
theorem dX8_layBack_75 : decode cX8_layBack 75 = .ok (.iload_n 3, 1) := by decide +kernel
theorem dX8_layBack_76 : decode cX8_layBack 76 = .ok (.bipush 56, 2) := by decide +kernel
theorem dX8_layBack_78 : decode cX8_layBack 78 = .ok (.irem, 1) := by decide +kernel
theorem dX8_layBack_79 : decode cX8_layBack 79 = .ok (.bipush 8, 2) := by decide +kernel
theorem dX8_layBack_81 : decode cX8_layBack 81 = .ok (.idiv, 1) := by decide +kernel
theorem dX8_layBack_82 : decode cX8_layBack 82 = .ok (.iload_n 3, 1) := by decide +kernel
theorem dX8_layBack_83 : decode cX8_layBack 83 = .ok (.bipush 8, 2) := by decide +kernel
theorem dX8_layBack_85 : decode cX8_layBack 85 = .ok (.irem, 1) := by decide +kernel
theorem dX8_layBack_86 : decode cX8_layBack 86 = .ok (.ifCond .ne 8, 3) := by decide +kernel
theorem dX8_layBack_89 : decode cX8_layBack 89 = .ok (.bipush (-4), 2) := by decide +kernel
theorem dX8_layBack_91 : decode cX8_layBack 91 = .ok (.goto 9, 3) := by decide +kernel
theorem dX8_layBack_94 : decode cX8_layBack 94 = .ok (.iload_n 3, 1) := by decide +kernel
theorem dX8_layBack_95 : decode cX8_layBack 95 = .ok (.bipush 8, 2) := by decide +kernel
theorem dX8_layBack_97 : decode cX8_layBack 97 = .ok (.irem, 1) := by decide +kernel
theorem dX8_layBack_98 : decode cX8_layBack 98 = .ok (.iconst 1, 1) := by decide +kernel
theorem dX8_layBack_99 : decode cX8_layBack 99 = .ok (.isub, 1) := by decide +kernel
theorem dX8_layBack_100 : decode cX8_layBack 100 = .ok (.iload 5, 2) := by decide +kernel
theorem dX8_layBack_102 : decode cX8_layBack 102 = .ok (.invokevirtual 248, 3) := by decide +kernel
theorem dX8_layBack_105 : decode cX8_layBack 105 = .ok (.istore 6, 2) := by decide +kernel
theorem dX8_layBack_107 : decode cX8_layBack 107 = .ok (.iload 6, 2) := by decide +kernel
theorem dX8_layBack_109 : decode cX8_layBack 109 = .ok (.bipush (-4), 2) := by decide +kernel
theorem dX8_layBack_111 : decode cX8_layBack 111 = .ok (.if_icmp .eq 41, 3) := by decide +kernel
theorem dX8_layBack_114 : decode cX8_layBack 114 = .ok (.aload_n 0, 1) := by decide +kernel
theorem dX8_layBack_115 : decode cX8_layBack 115 = .ok (.getfield 47, 3) := by decide +kernel
theorem dX8_layBack_118 : decode cX8_layBack 118 = .ok (.bipush 56, 2) := by decide +kernel
theorem dX8_layBack_120 : decode cX8_layBack 120 = .ok (.iload 4, 2) := by decide +kernel
theorem dX8_layBack_122 : decode cX8_layBack 122 = .ok (.iconst 1, 1) := by decide +kernel
theorem dX8_layBack_123 : decode cX8_layBack 123 = .ok (.iadd, 1) := by decide +kernel
theorem dX8_layBack_124 : decode cX8_layBack 124 = .ok (.imul, 1) := by decide +kernel
theorem dX8_layBack_125 : decode cX8_layBack 125 = .ok (.bipush 8, 2) := by decide +kernel
theorem dX8_layBack_127 : decode cX8_layBack 127 = .ok (.iload 6, 2) := by decide +kernel
theorem dX8_layBack_129 : decode cX8_layBack 129 = .ok (.bipush 10, 2) := by decide +kernel
theorem dX8_layBack_131 : decode cX8_layBack 131 = .ok (.irem, 1) := by decide +kernel
theorem dX8_layBack_132 : decode cX8_layBack 132 = .ok (.imul, 1) := by decide +kernel
theorem dX8_layBack_133 : decode cX8_layBack 133 = .ok (.iadd, 1) := by decide +kernel
theorem dX8_layBack_134 : decode cX8_layBack 134 = .ok (.iload 6, 2) := by decide +kernel
theorem dX8_layBack_136 : decode cX8_layBack 136 = .ok (.bipush 10, 2) := by decide +kernel
theorem dX8_layBack_138 : decode cX8_layBack 138 = .ok (.idiv, 1) := by decide +kernel
theorem dX8_layBack_139 : decode cX8_layBack 139 = .ok (.iadd, 1) := by decide +kernel
theorem dX8_layBack_140 : decode cX8_layBack 140 = .ok (.iaload, 1) := by decide +kernel
theorem dX8_layBack_141 : decode cX8_layBack 141 = .ok (.iconst 1, 1) := by decide +kernel
theorem dX8_layBack_142 : decode cX8_layBack 142 = .ok (.if_icmp .ne 10, 3) := by decide +kernel
theorem dX8_layBack_145 : decode cX8_layBack 145 = .ok (.aload_n 0, 1) := by decide +kernel
theorem dX8_layBack_146 : decode cX8_layBack 146 = .ok (.getfield 47, 3) := by decide +kernel
theorem dX8_layBack_149 : decode cX8_layBack 149 = .ok (.iload_n 3, 1) := by decide +kernel
theorem dX8_layBack_150 : decode cX8_layBack 150 = .ok (.iconst 1, 1) := by decide +kernel
theorem dX8_layBack_151 : decode cX8_layBack 151 = .ok (.iastore, 1) := by decide +kernel
theorem dX8_layBack_152 : decode cX8_layBack 152 = .ok (.iinc 5 1, 3) := by decide +kernel
theorem dX8_layBack_155 : decode cX8_layBack 155 = .ok (.goto (-90), 3) := by decide +kernel
theorem dX8_layBack_158 : decode cX8_layBack 158 = .ok (.iinc 3 (-1), 3) := by decide +kernel
theorem dX8_layBack_161 : decode cX8_layBack 161 = .ok (.goto (-116), 3) := by decide +kernel
theorem dX8_layBack_164 : decode cX8_layBack 164 = .ok (.return_, 1) := by decide +kernel
set_option maxRecDepth 20000 in
theorem ggX8_soonest_X8_isRoom : GoodIn wsX8_soonest wsX8_isRoom := goodIn_r _ [9, 10, 11, 12, 8, 13, 81, 82, 83, 84, 85, 86, 87, 88, 89, 90, 91, 92, 93, 94, 95, 96, 97, 98, 99, 100, 101, 102, 103, 104, 105, 106, 107, 108, 109, 110, 111, 112, 113, 114, 115, 116, 117, 118, 119] (by decide +kernel) (by decide +kernel)
set_option maxRecDepth 20000 in
theorem gX8_soonest_X8_isRoom : GoodIn wsX8_soonest (wsV RX8 215 RX8 yX8_isRoom wsX8_isRoom) := goodIn_app (goodIn_of _ (by decide +kernel)) ggX8_soonest_X8_isRoom
set_option maxRecDepth 20000 in
theorem ggX8_soonest_X8_in : GoodIn wsX8_soonest wsX8_in := goodIn_r _ [13] (by decide +kernel) (by decide +kernel)
set_option maxRecDepth 20000 in
theorem gX8_soonest_X8_in : GoodIn wsX8_soonest (va_wsS RX8 72 yX8_in wsX8_in) := goodIn_app (goodIn_of _ (by decide +kernel)) ggX8_soonest_X8_in
set_option maxRecDepth 20000 in
theorem ggX8_soonest_X8_layAlive : GoodIn wsX8_soonest wsX8_layAlive := goodIn_r _ [17, 18, 3, 19, 20, 21, 8, 22, 23, 24, 25, 26, 27, 28, 29, 30, 31, 32, 33, 34, 35, 36, 37, 38, 10, 39, 40, 41, 42, 43, 44, 45, 46, 47, 48, 49, 50, 51, 52, 53, 54, 11, 12, 13, 55, 56, 57, 58, 59, 60, 61, 62, 63, 64, 65, 66, 67, 68, 69, 70, 71, 72, 81, 82, 83, 84, 85, 86, 87, 88, 89, 90, 91, 92, 93, 94, 95, 96, 97, 98, 99, 100, 101, 102, 103, 104, 105, 106, 107, 108, 109, 110, 111, 112, 113, 114, 115, 116, 117, 118, 119] (by decide +kernel) (by decide +kernel)
set_option maxRecDepth 20000 in
theorem gX8_soonest_X8_layAlive : GoodIn wsX8_soonest (wsV RX8 256 RX8 yX8_layAlive wsX8_layAlive) := goodIn_app (goodIn_of _ (by decide +kernel)) ggX8_soonest_X8_layAlive
set_option maxRecDepth 20000 in
theorem ggX8_soonest_X8_isThere : GoodIn wsX8_soonest wsX8_isThere := goodIn_r _ [76, 18, 81, 82, 83, 84, 85, 86, 87, 88, 89, 90, 91, 92, 93, 94, 95, 96, 97, 98, 99, 100, 101, 102, 103, 104, 105, 106, 107, 108, 109, 110, 111, 112, 113, 114, 115, 116, 117, 118, 119] (by decide +kernel) (by decide +kernel)
set_option maxRecDepth 20000 in
theorem gX8_soonest_X8_isThere : GoodIn wsX8_soonest (wsV RX8 259 RX8 yX8_isThere wsX8_isThere) := goodIn_app (goodIn_of _ (by decide +kernel)) ggX8_soonest_X8_isThere
set_option maxRecDepth 20000 in
theorem ggX8_soonest_X8_layBack : GoodIn wsX8_soonest wsX8_layBack := goodIn_r _ [80, 4, 46, 47, 48, 8, 49, 23, 3, 50, 51, 52, 53, 54, 11, 12, 13, 55, 56, 57, 58, 59, 60, 61, 62, 63, 64, 65, 66, 67, 68, 69, 70, 71, 72, 81, 82, 83, 84, 85, 86, 87, 88, 89, 90, 91, 92, 93, 94, 95, 96, 97, 98, 99, 100, 101, 102, 103, 104, 105, 106, 107, 108, 109, 110, 111, 112, 113, 114, 115, 116, 117, 118, 119] (by decide +kernel) (by decide +kernel)
set_option maxRecDepth 20000 in
theorem gX8_soonest_X8_layBack : GoodIn wsX8_soonest (wsV RX8 263 RX8 yX8_layBack wsX8_layBack) := goodIn_app (goodIn_of _ (by decide +kernel)) ggX8_soonest_X8_layBack
set_option maxRecDepth 20000 in
theorem ggX8_soonest_X8_beastNow : GoodIn wsX8_soonest wsX8_beastNow := goodIn_r _ [42, 3, 81, 82, 83, 84, 85, 86, 87, 88, 89, 90, 91, 92, 93, 94, 95, 96, 97, 98, 99, 100, 101, 102, 103, 104, 105, 106, 107, 108, 109, 110, 111, 112, 113, 114, 115, 116, 117, 118, 119] (by decide +kernel) (by decide +kernel)
set_option maxRecDepth 20000 in
theorem gX8_soonest_X8_beastNow : GoodIn wsX8_soonest (wsV RX8 187 RX8 yX8_beastNow wsX8_beastNow) := goodIn_app (goodIn_of _ (by decide +kernel)) ggX8_soonest_X8_beastNow
set_option maxRecDepth 20000 in
theorem ggX8_soonest_X8_after : GoodIn wsX8_soonest wsX8_after := goodIn_r _ [49, 23, 3, 50, 51, 52, 8, 53, 54, 11, 12, 13, 55, 56, 57, 58, 59, 60, 61, 62, 63, 64, 65, 66, 67, 68, 69, 70, 71, 72, 81, 82, 83, 84, 85, 86, 87, 88, 89, 90, 91, 92, 93, 94, 95, 96, 97, 98, 99, 100, 101, 102, 103, 104, 105, 106, 107, 108, 109, 110, 111, 112, 113, 114, 115, 116, 117, 118, 119] (by decide +kernel) (by decide +kernel)
set_option maxRecDepth 20000 in
theorem gX8_soonest_X8_after : GoodIn wsX8_soonest (wsV RX8 248 RX8 yX8_after wsX8_after) := goodIn_app (goodIn_of _ (by decide +kernel)) ggX8_soonest_X8_after
theorem dX8_soonest_0 : decode cX8_soonest 0 = .ok (.aload_n 0, 1) := by decide +kernel
theorem dX8_soonest_1 : decode cX8_soonest 1 = .ok (.iload_n 1, 1) := by decide +kernel
theorem dX8_soonest_2 : decode cX8_soonest 2 = .ok (.invokevirtual 215, 3) := by decide +kernel
theorem dX8_soonest_5 : decode cX8_soonest 5 = .ok (.ifCond .eq 21, 3) := by decide +kernel
theorem dX8_soonest_8 : decode cX8_soonest 8 = .ok (.iload_n 2, 1) := by decide +kernel
theorem dX8_soonest_9 : decode cX8_soonest 9 = .ok (.ifCond .eq 19, 3) := by decide +kernel
theorem dX8_soonest_12 : decode cX8_soonest 12 = .ok (.iload_n 2, 1) := by decide +kernel
theorem dX8_soonest_13 : decode cX8_soonest 13 = .ok (.i2l, 1) := by decide +kernel
theorem dX8_soonest_14 : decode cX8_soonest 14 = .ok (.ldc2_w 252, 3) := by decide +kernel
theorem dX8_soonest_17 : decode cX8_soonest 17 = .ok (.ldc2_w 254, 3) := by decide +kernel
theorem dX8_soonest_20 : decode cX8_soonest 20 = .ok (.invokestatic 72, 3) := by decide +kernel
theorem dX8_soonest_23 : decode cX8_soonest 23 = .ok (.ifCond .ne 5, 3) := by decide +kernel
theorem dX8_soonest_26 : decode cX8_soonest 26 = .ok (.iconst (-1), 1) := by decide +kernel
theorem dX8_soonest_27 : decode cX8_soonest 27 = .ok (.ireturn, 1) := by decide +kernel
theorem dX8_soonest_28 : decode cX8_soonest 28 = .ok (.aload_n 0, 1) := by decide +kernel
theorem dX8_soonest_29 : decode cX8_soonest 29 = .ok (.getfield 7, 3) := by decide +kernel
theorem dX8_soonest_32 : decode cX8_soonest 32 = .ok (.bipush 48, 2) := by decide +kernel
theorem dX8_soonest_34 : decode cX8_soonest 34 = .ok (.iaload, 1) := by decide +kernel
theorem dX8_soonest_35 : decode cX8_soonest 35 = .ok (.iconst 1, 1) := by decide +kernel
theorem dX8_soonest_36 : decode cX8_soonest 36 = .ok (.if_icmp .ne 6, 3) := by decide +kernel
theorem dX8_soonest_39 : decode cX8_soonest 39 = .ok (.bipush (-2), 2) := by decide +kernel
theorem dX8_soonest_41 : decode cX8_soonest 41 = .ok (.ireturn, 1) := by decide +kernel
theorem dX8_soonest_42 : decode cX8_soonest 42 = .ok (.aload_n 0, 1) := by decide +kernel
theorem dX8_soonest_43 : decode cX8_soonest 43 = .ok (.invokevirtual 256, 3) := by decide +kernel
theorem dX8_soonest_46 : decode cX8_soonest 46 = .ok (.iconst 0, 1) := by decide +kernel
theorem dX8_soonest_47 : decode cX8_soonest 47 = .ok (.istore_n 3, 1) := by decide +kernel
theorem dX8_soonest_48 : decode cX8_soonest 48 = .ok (.iload_n 3, 1) := by decide +kernel
theorem dX8_soonest_49 : decode cX8_soonest 49 = .ok (.bipush 24, 2) := by decide +kernel
theorem dX8_soonest_51 : decode cX8_soonest 51 = .ok (.if_icmp .gt 18, 3) := by decide +kernel
theorem dX8_soonest_54 : decode cX8_soonest 54 = .ok (.aload_n 0, 1) := by decide +kernel
theorem dX8_soonest_55 : decode cX8_soonest 55 = .ok (.iload_n 3, 1) := by decide +kernel
theorem dX8_soonest_56 : decode cX8_soonest 56 = .ok (.iload_n 1, 1) := by decide +kernel
theorem dX8_soonest_57 : decode cX8_soonest 57 = .ok (.invokevirtual 259, 3) := by decide +kernel
theorem dX8_soonest_60 : decode cX8_soonest 60 = .ok (.ifCond .ne 9, 3) := by decide +kernel
theorem dX8_soonest_63 : decode cX8_soonest 63 = .ok (.iinc 3 1, 3) := by decide +kernel
theorem dX8_soonest_66 : decode cX8_soonest 66 = .ok (.goto (-18), 3) := by decide +kernel
theorem dX8_soonest_69 : decode cX8_soonest 69 = .ok (.iload_n 3, 1) := by decide +kernel
theorem dX8_soonest_70 : decode cX8_soonest 70 = .ok (.bipush 24, 2) := by decide +kernel
theorem dX8_soonest_72 : decode cX8_soonest 72 = .ok (.if_icmp .gt 11, 3) := by decide +kernel
theorem dX8_soonest_75 : decode cX8_soonest 75 = .ok (.iload_n 2, 1) := by decide +kernel
theorem dX8_soonest_76 : decode cX8_soonest 76 = .ok (.bipush 10, 2) := by decide +kernel
theorem dX8_soonest_78 : decode cX8_soonest 78 = .ok (.isub, 1) := by decide +kernel
theorem dX8_soonest_79 : decode cX8_soonest 79 = .ok (.iload_n 3, 1) := by decide +kernel
theorem dX8_soonest_80 : decode cX8_soonest 80 = .ok (.if_icmp .lt 6, 3) := by decide +kernel
theorem dX8_soonest_83 : decode cX8_soonest 83 = .ok (.bipush (-4), 2) := by decide +kernel
theorem dX8_soonest_85 : decode cX8_soonest 85 = .ok (.ireturn, 1) := by decide +kernel
theorem dX8_soonest_86 : decode cX8_soonest 86 = .ok (.iload_n 2, 1) := by decide +kernel
theorem dX8_soonest_87 : decode cX8_soonest 87 = .ok (.ifCond .ne 5, 3) := by decide +kernel
theorem dX8_soonest_90 : decode cX8_soonest 90 = .ok (.iload_n 3, 1) := by decide +kernel
theorem dX8_soonest_91 : decode cX8_soonest 91 = .ok (.ireturn, 1) := by decide +kernel
theorem dX8_soonest_92 : decode cX8_soonest 92 = .ok (.aload_n 0, 1) := by decide +kernel
theorem dX8_soonest_93 : decode cX8_soonest 93 = .ok (.iload_n 3, 1) := by decide +kernel
theorem dX8_soonest_94 : decode cX8_soonest 94 = .ok (.iload_n 1, 1) := by decide +kernel
theorem dX8_soonest_95 : decode cX8_soonest 95 = .ok (.invokevirtual 263, 3) := by decide +kernel
theorem dX8_soonest_98 : decode cX8_soonest 98 = .ok (.aload_n 0, 1) := by decide +kernel
theorem dX8_soonest_99 : decode cX8_soonest 99 = .ok (.getfield 7, 3) := by decide +kernel
theorem dX8_soonest_102 : decode cX8_soonest 102 = .ok (.bipush 31, 2) := by decide +kernel
theorem dX8_soonest_104 : decode cX8_soonest 104 = .ok (.iaload, 1) := by decide +kernel
theorem dX8_soonest_105 : decode cX8_soonest 105 = .ok (.istore 4, 2) := by decide +kernel
theorem dX8_soonest_107 : decode cX8_soonest 107 = .ok (.aload_n 0, 1) := by decide +kernel
theorem dX8_soonest_108 : decode cX8_soonest 108 = .ok (.invokevirtual 187, 3) := by decide +kernel
theorem dX8_soonest_111 : decode cX8_soonest 111 = .ok (.istore 5, 2) := by decide +kernel
theorem dX8_soonest_113 : decode cX8_soonest 113 = .ok (.iconst 0, 1) := by decide +kernel
theorem dX8_soonest_114 : decode cX8_soonest 114 = .ok (.istore 6, 2) := by decide +kernel
theorem dX8_soonest_116 : decode cX8_soonest 116 = .ok (.iconst 0, 1) := by decide +kernel
theorem dX8_soonest_117 : decode cX8_soonest 117 = .ok (.istore 7, 2) := by decide +kernel
theorem dX8_soonest_119 : decode cX8_soonest 119 = .ok (.iload 7, 2) := by decide +kernel
theorem dX8_soonest_121 : decode cX8_soonest 121 = .ok (.iload_n 2, 1) := by decide +kernel
theorem dX8_soonest_122 : decode cX8_soonest 122 = .ok (.bipush 10, 2) := by decide +kernel
theorem dX8_soonest_124 : decode cX8_soonest 124 = .ok (.isub, 1) := by decide +kernel
theorem dX8_soonest_125 : decode cX8_soonest 125 = .ok (.if_icmp .gt 112, 3) := by decide +kernel
theorem dX8_soonest_128 : decode cX8_soonest 128 = .ok (.iconst 0, 1) := by decide +kernel
theorem dX8_soonest_129 : decode cX8_soonest 129 = .ok (.istore 6, 2) := by decide +kernel
theorem dX8_soonest_131 : decode cX8_soonest 131 = .ok (.aload_n 0, 1) := by decide +kernel
theorem dX8_soonest_132 : decode cX8_soonest 132 = .ok (.iload 7, 2) := by decide +kernel
theorem dX8_soonest_134 : decode cX8_soonest 134 = .ok (.iload 4, 2) := by decide +kernel
theorem dX8_soonest_136 : decode cX8_soonest 136 = .ok (.iload 5, 2) := by decide +kernel
theorem dX8_soonest_138 : decode cX8_soonest 138 = .ok (.iload 6, 2) := by decide +kernel
theorem dX8_soonest_140 : decode cX8_soonest 140 = .ok (.invokevirtual 248, 3) := by decide +kernel
theorem dX8_soonest_143 : decode cX8_soonest 143 = .ok (.istore 8, 2) := by decide +kernel
theorem dX8_soonest_145 : decode cX8_soonest 145 = .ok (.iload 8, 2) := by decide +kernel
theorem dX8_soonest_147 : decode cX8_soonest 147 = .ok (.bipush (-4), 2) := by decide +kernel
theorem dX8_soonest_149 : decode cX8_soonest 149 = .ok (.if_icmp .eq 33, 3) := by decide +kernel
theorem dX8_soonest_152 : decode cX8_soonest 152 = .ok (.aload_n 0, 1) := by decide +kernel
theorem dX8_soonest_153 : decode cX8_soonest 153 = .ok (.getfield 47, 3) := by decide +kernel
theorem dX8_soonest_156 : decode cX8_soonest 156 = .ok (.bipush 56, 2) := by decide +kernel
theorem dX8_soonest_158 : decode cX8_soonest 158 = .ok (.iload 7, 2) := by decide +kernel
theorem dX8_soonest_160 : decode cX8_soonest 160 = .ok (.iconst 1, 1) := by decide +kernel
theorem dX8_soonest_161 : decode cX8_soonest 161 = .ok (.iadd, 1) := by decide +kernel
theorem dX8_soonest_162 : decode cX8_soonest 162 = .ok (.imul, 1) := by decide +kernel
theorem dX8_soonest_163 : decode cX8_soonest 163 = .ok (.bipush 8, 2) := by decide +kernel
theorem dX8_soonest_165 : decode cX8_soonest 165 = .ok (.iload 8, 2) := by decide +kernel
theorem dX8_soonest_167 : decode cX8_soonest 167 = .ok (.bipush 10, 2) := by decide +kernel
theorem dX8_soonest_169 : decode cX8_soonest 169 = .ok (.irem, 1) := by decide +kernel
theorem dX8_soonest_170 : decode cX8_soonest 170 = .ok (.imul, 1) := by decide +kernel
theorem dX8_soonest_171 : decode cX8_soonest 171 = .ok (.iadd, 1) := by decide +kernel
theorem dX8_soonest_172 : decode cX8_soonest 172 = .ok (.iload 8, 2) := by decide +kernel
theorem dX8_soonest_174 : decode cX8_soonest 174 = .ok (.bipush 10, 2) := by decide +kernel
theorem dX8_soonest_176 : decode cX8_soonest 176 = .ok (.idiv, 1) := by decide +kernel
theorem dX8_soonest_177 : decode cX8_soonest 177 = .ok (.iadd, 1) := by decide +kernel
theorem dX8_soonest_178 : decode cX8_soonest 178 = .ok (.iaload, 1) := by decide +kernel
theorem dX8_soonest_179 : decode cX8_soonest 179 = .ok (.ifCond .ne 23, 3) := by decide +kernel
theorem dX8_soonest_182 : decode cX8_soonest 182 = .ok (.iinc 6 1, 3) := by decide +kernel
theorem dX8_soonest_185 : decode cX8_soonest 185 = .ok (.aload_n 0, 1) := by decide +kernel
theorem dX8_soonest_186 : decode cX8_soonest 186 = .ok (.iload 7, 2) := by decide +kernel
theorem dX8_soonest_188 : decode cX8_soonest 188 = .ok (.iload 4, 2) := by decide +kernel
theorem dX8_soonest_190 : decode cX8_soonest 190 = .ok (.iload 5, 2) := by decide +kernel
theorem dX8_soonest_192 : decode cX8_soonest 192 = .ok (.iload 6, 2) := by decide +kernel
theorem dX8_soonest_194 : decode cX8_soonest 194 = .ok (.invokevirtual 248, 3) := by decide +kernel
theorem dX8_soonest_197 : decode cX8_soonest 197 = .ok (.istore 8, 2) := by decide +kernel
theorem dX8_soonest_199 : decode cX8_soonest 199 = .ok (.goto (-54), 3) := by decide +kernel
theorem dX8_soonest_202 : decode cX8_soonest 202 = .ok (.iload 8, 2) := by decide +kernel
theorem dX8_soonest_204 : decode cX8_soonest 204 = .ok (.bipush 10, 2) := by decide +kernel
theorem dX8_soonest_206 : decode cX8_soonest 206 = .ok (.irem, 1) := by decide +kernel
theorem dX8_soonest_207 : decode cX8_soonest 207 = .ok (.istore 4, 2) := by decide +kernel
theorem dX8_soonest_209 : decode cX8_soonest 209 = .ok (.iload 8, 2) := by decide +kernel
theorem dX8_soonest_211 : decode cX8_soonest 211 = .ok (.bipush 10, 2) := by decide +kernel
theorem dX8_soonest_213 : decode cX8_soonest 213 = .ok (.idiv, 1) := by decide +kernel
theorem dX8_soonest_214 : decode cX8_soonest 214 = .ok (.ifCond .ne 8, 3) := by decide +kernel
theorem dX8_soonest_217 : decode cX8_soonest 217 = .ok (.bipush (-4), 2) := by decide +kernel
theorem dX8_soonest_219 : decode cX8_soonest 219 = .ok (.goto 10, 3) := by decide +kernel
theorem dX8_soonest_222 : decode cX8_soonest 222 = .ok (.iload 8, 2) := by decide +kernel
theorem dX8_soonest_224 : decode cX8_soonest 224 = .ok (.bipush 10, 2) := by decide +kernel
theorem dX8_soonest_226 : decode cX8_soonest 226 = .ok (.idiv, 1) := by decide +kernel
theorem dX8_soonest_227 : decode cX8_soonest 227 = .ok (.iconst 1, 1) := by decide +kernel
theorem dX8_soonest_228 : decode cX8_soonest 228 = .ok (.isub, 1) := by decide +kernel
theorem dX8_soonest_229 : decode cX8_soonest 229 = .ok (.istore 5, 2) := by decide +kernel
theorem dX8_soonest_231 : decode cX8_soonest 231 = .ok (.iinc 7 1, 3) := by decide +kernel
theorem dX8_soonest_234 : decode cX8_soonest 234 = .ok (.goto (-115), 3) := by decide +kernel
theorem dX8_soonest_237 : decode cX8_soonest 237 = .ok (.iload 6, 2) := by decide +kernel
theorem dX8_soonest_239 : decode cX8_soonest 239 = .ok (.ireturn, 1) := by decide +kernel
set_option maxRecDepth 20000 in
theorem ggX8_alive_X8_in : GoodIn wsX8_alive wsX8_in := goodIn_r _ [6] (by decide +kernel) (by decide +kernel)
set_option maxRecDepth 20000 in
theorem gX8_alive_X8_in : GoodIn wsX8_alive (va_wsS RX8 72 yX8_in wsX8_in) := goodIn_app (goodIn_of _ (by decide +kernel)) ggX8_alive_X8_in
set_option maxRecDepth 20000 in
theorem ggX8_alive_X8_layAlive : GoodIn wsX8_alive wsX8_layAlive := goodIn_r _ [10, 11, 2, 12, 13, 14, 5, 15, 16, 17, 18, 19, 20, 21, 22, 23, 24, 25, 26, 27, 28, 29, 30, 31, 32, 33, 34, 35, 36, 37, 38, 39, 40, 41, 42, 43, 44, 45, 46, 47, 48, 3, 4, 6, 49, 50, 51, 52, 53, 54, 55, 56, 57, 58, 59, 60, 61, 62, 63, 64, 65, 66, 71, 72, 73, 74, 75, 76, 77, 78, 79, 80, 81, 82, 83, 84, 85, 86, 87, 88, 89, 90, 91, 92, 93, 94, 95, 96, 97, 98, 99, 100, 101, 102, 103, 104, 105, 106, 107, 108, 109] (by decide +kernel) (by decide +kernel)
set_option maxRecDepth 20000 in
theorem gX8_alive_X8_layAlive : GoodIn wsX8_alive (wsV RX8 256 RX8 yX8_layAlive wsX8_layAlive) := goodIn_app (goodIn_of _ (by decide +kernel)) ggX8_alive_X8_layAlive
set_option maxRecDepth 20000 in
theorem ggX8_alive_X8_isThere : GoodIn wsX8_alive wsX8_isThere := goodIn_r _ [70, 11, 71, 72, 73, 74, 75, 76, 77, 78, 79, 80, 81, 82, 83, 84, 85, 86, 87, 88, 89, 90, 91, 92, 93, 94, 95, 96, 97, 98, 99, 100, 101, 102, 103, 104, 105, 106, 107, 108, 109] (by decide +kernel) (by decide +kernel)
set_option maxRecDepth 20000 in
theorem gX8_alive_X8_isThere : GoodIn wsX8_alive (wsV RX8 259 RX8 yX8_isThere wsX8_isThere) := goodIn_app (goodIn_of _ (by decide +kernel)) ggX8_alive_X8_isThere
theorem dX8_alive_0 : decode cX8_alive 0 = .ok (.iload_n 1, 1) := by decide +kernel
theorem dX8_alive_1 : decode cX8_alive 1 = .ok (.i2l, 1) := by decide +kernel
theorem dX8_alive_2 : decode cX8_alive 2 = .ok (.lconst 0, 1) := by decide +kernel
theorem dX8_alive_3 : decode cX8_alive 3 = .ok (.ldc2_w 267, 3) := by decide +kernel
theorem dX8_alive_6 : decode cX8_alive 6 = .ok (.invokestatic 72, 3) := by decide +kernel
theorem dX8_alive_9 : decode cX8_alive 9 = .ok (.ifCond .ne 5, 3) := by decide +kernel
theorem dX8_alive_12 : decode cX8_alive 12 = .ok (.iconst (-1), 1) := by decide +kernel
theorem dX8_alive_13 : decode cX8_alive 13 = .ok (.ireturn, 1) := by decide +kernel
theorem dX8_alive_14 : decode cX8_alive 14 = .ok (.aload_n 0, 1) := by decide +kernel
theorem dX8_alive_15 : decode cX8_alive 15 = .ok (.getfield 7, 3) := by decide +kernel
theorem dX8_alive_18 : decode cX8_alive 18 = .ok (.bipush 48, 2) := by decide +kernel
theorem dX8_alive_20 : decode cX8_alive 20 = .ok (.iaload, 1) := by decide +kernel
theorem dX8_alive_21 : decode cX8_alive 21 = .ok (.iconst 1, 1) := by decide +kernel
theorem dX8_alive_22 : decode cX8_alive 22 = .ok (.if_icmp .ne 6, 3) := by decide +kernel
theorem dX8_alive_25 : decode cX8_alive 25 = .ok (.bipush (-2), 2) := by decide +kernel
theorem dX8_alive_27 : decode cX8_alive 27 = .ok (.ireturn, 1) := by decide +kernel
theorem dX8_alive_28 : decode cX8_alive 28 = .ok (.aload_n 0, 1) := by decide +kernel
theorem dX8_alive_29 : decode cX8_alive 29 = .ok (.invokevirtual 256, 3) := by decide +kernel
theorem dX8_alive_32 : decode cX8_alive 32 = .ok (.iconst 0, 1) := by decide +kernel
theorem dX8_alive_33 : decode cX8_alive 33 = .ok (.istore_n 2, 1) := by decide +kernel
theorem dX8_alive_34 : decode cX8_alive 34 = .ok (.iconst 0, 1) := by decide +kernel
theorem dX8_alive_35 : decode cX8_alive 35 = .ok (.istore_n 3, 1) := by decide +kernel
theorem dX8_alive_36 : decode cX8_alive 36 = .ok (.iload_n 3, 1) := by decide +kernel
theorem dX8_alive_37 : decode cX8_alive 37 = .ok (.bipush 7, 2) := by decide +kernel
theorem dX8_alive_39 : decode cX8_alive 39 = .ok (.if_icmp .ge 28, 3) := by decide +kernel
theorem dX8_alive_42 : decode cX8_alive 42 = .ok (.iload_n 2, 1) := by decide +kernel
theorem dX8_alive_43 : decode cX8_alive 43 = .ok (.aload_n 0, 1) := by decide +kernel
theorem dX8_alive_44 : decode cX8_alive 44 = .ok (.iload_n 1, 1) := by decide +kernel
theorem dX8_alive_45 : decode cX8_alive 45 = .ok (.iload_n 3, 1) := by decide +kernel
theorem dX8_alive_46 : decode cX8_alive 46 = .ok (.invokevirtual 259, 3) := by decide +kernel
theorem dX8_alive_49 : decode cX8_alive 49 = .ok (.ifCond .eq 9, 3) := by decide +kernel
theorem dX8_alive_52 : decode cX8_alive 52 = .ok (.iconst 1, 1) := by decide +kernel
theorem dX8_alive_53 : decode cX8_alive 53 = .ok (.iload_n 3, 1) := by decide +kernel
theorem dX8_alive_54 : decode cX8_alive 54 = .ok (.ishl, 1) := by decide +kernel
theorem dX8_alive_55 : decode cX8_alive 55 = .ok (.goto 4, 3) := by decide +kernel
theorem dX8_alive_58 : decode cX8_alive 58 = .ok (.iconst 0, 1) := by decide +kernel
theorem dX8_alive_59 : decode cX8_alive 59 = .ok (.ior, 1) := by decide +kernel
theorem dX8_alive_60 : decode cX8_alive 60 = .ok (.istore_n 2, 1) := by decide +kernel
theorem dX8_alive_61 : decode cX8_alive 61 = .ok (.iinc 3 1, 3) := by decide +kernel
theorem dX8_alive_64 : decode cX8_alive 64 = .ok (.goto (-28), 3) := by decide +kernel
theorem dX8_alive_67 : decode cX8_alive 67 = .ok (.iload_n 2, 1) := by decide +kernel
theorem dX8_alive_68 : decode cX8_alive 68 = .ok (.ireturn, 1) := by decide +kernel
set_option maxRecDepth 20000 in
theorem ggX8_see_X8_in : GoodIn wsX8_see wsX8_in := goodIn_r _ [7] (by decide +kernel) (by decide +kernel)
set_option maxRecDepth 20000 in
theorem gX8_see_X8_in : GoodIn wsX8_see (va_wsS RX8 72 yX8_in wsX8_in) := goodIn_app (goodIn_of _ (by decide +kernel)) ggX8_see_X8_in
set_option maxRecDepth 20000 in
theorem ggX8_see_X8_isDoor : GoodIn wsX8_see wsX8_isDoor := goodIn_r _ [11, 12, 4, 5, 6, 7, 18, 19, 20, 21, 22, 23, 24, 25, 26, 27, 28, 29, 30, 31, 32, 33, 34, 35, 36, 37, 38, 39, 40, 41, 42, 43, 44, 45, 46, 47, 48, 49, 50, 51, 52, 53, 54, 55, 56] (by decide +kernel) (by decide +kernel)
set_option maxRecDepth 20000 in
theorem gX8_see_X8_isDoor : GoodIn wsX8_see (wsV RX8 190 RX8 yX8_isDoor wsX8_isDoor) := goodIn_app (goodIn_of _ (by decide +kernel)) ggX8_see_X8_isDoor
set_option maxRecDepth 20000 in
theorem ggX8_see_X8_isRoom : GoodIn wsX8_see wsX8_isRoom := goodIn_r _ [16, 17, 4, 5, 6, 7, 18, 19, 20, 21, 22, 23, 24, 25, 26, 27, 28, 29, 30, 31, 32, 33, 34, 35, 36, 37, 38, 39, 40, 41, 42, 43, 44, 45, 46, 47, 48, 49, 50, 51, 52, 53, 54, 55, 56] (by decide +kernel) (by decide +kernel)
set_option maxRecDepth 20000 in
theorem gX8_see_X8_isRoom : GoodIn wsX8_see (wsV RX8 215 RX8 yX8_isRoom wsX8_isRoom) := goodIn_app (goodIn_of _ (by decide +kernel)) ggX8_see_X8_isRoom
theorem dX8_see_0 : decode cX8_see 0 = .ok (.iload_n 1, 1) := by decide +kernel
theorem dX8_see_1 : decode cX8_see 1 = .ok (.i2l, 1) := by decide +kernel
theorem dX8_see_2 : decode cX8_see 2 = .ok (.lconst 1, 1) := by decide +kernel
theorem dX8_see_3 : decode cX8_see 3 = .ok (.ldc2_w 222, 3) := by decide +kernel
theorem dX8_see_6 : decode cX8_see 6 = .ok (.invokestatic 72, 3) := by decide +kernel
theorem dX8_see_9 : decode cX8_see 9 = .ok (.ifCond .eq 19, 3) := by decide +kernel
theorem dX8_see_12 : decode cX8_see 12 = .ok (.aload_n 0, 1) := by decide +kernel
theorem dX8_see_13 : decode cX8_see 13 = .ok (.iload_n 2, 1) := by decide +kernel
theorem dX8_see_14 : decode cX8_see 14 = .ok (.invokevirtual 190, 3) := by decide +kernel
theorem dX8_see_17 : decode cX8_see 17 = .ok (.ifCond .eq 11, 3) := by decide +kernel
theorem dX8_see_20 : decode cX8_see 20 = .ok (.aload_n 0, 1) := by decide +kernel
theorem dX8_see_21 : decode cX8_see 21 = .ok (.iload_n 3, 1) := by decide +kernel
theorem dX8_see_22 : decode cX8_see 22 = .ok (.invokevirtual 215, 3) := by decide +kernel
theorem dX8_see_25 : decode cX8_see 25 = .ok (.ifCond .ne 5, 3) := by decide +kernel
theorem dX8_see_28 : decode cX8_see 28 = .ok (.iconst (-1), 1) := by decide +kernel
theorem dX8_see_29 : decode cX8_see 29 = .ok (.ireturn, 1) := by decide +kernel
theorem dX8_see_30 : decode cX8_see 30 = .ok (.aload_n 0, 1) := by decide +kernel
theorem dX8_see_31 : decode cX8_see 31 = .ok (.getfield 181, 3) := by decide +kernel
theorem dX8_see_34 : decode cX8_see 34 = .ok (.bipush 6, 2) := by decide +kernel
theorem dX8_see_36 : decode cX8_see 36 = .ok (.if_icmp .ne 6, 3) := by decide +kernel
theorem dX8_see_39 : decode cX8_see 39 = .ok (.bipush (-3), 2) := by decide +kernel
theorem dX8_see_41 : decode cX8_see 41 = .ok (.ireturn, 1) := by decide +kernel
theorem dX8_see_42 : decode cX8_see 42 = .ok (.aload_n 0, 1) := by decide +kernel
theorem dX8_see_43 : decode cX8_see 43 = .ok (.getfield 50, 3) := by decide +kernel
theorem dX8_see_46 : decode cX8_see 46 = .ok (.iconst 3, 1) := by decide +kernel
theorem dX8_see_47 : decode cX8_see 47 = .ok (.aload_n 0, 1) := by decide +kernel
theorem dX8_see_48 : decode cX8_see 48 = .ok (.getfield 181, 3) := by decide +kernel
theorem dX8_see_51 : decode cX8_see 51 = .ok (.imul, 1) := by decide +kernel
theorem dX8_see_52 : decode cX8_see 52 = .ok (.iload_n 1, 1) := by decide +kernel
theorem dX8_see_53 : decode cX8_see 53 = .ok (.iastore, 1) := by decide +kernel
theorem dX8_see_54 : decode cX8_see 54 = .ok (.aload_n 0, 1) := by decide +kernel
theorem dX8_see_55 : decode cX8_see 55 = .ok (.getfield 50, 3) := by decide +kernel
theorem dX8_see_58 : decode cX8_see 58 = .ok (.iconst 3, 1) := by decide +kernel
theorem dX8_see_59 : decode cX8_see 59 = .ok (.aload_n 0, 1) := by decide +kernel
theorem dX8_see_60 : decode cX8_see 60 = .ok (.getfield 181, 3) := by decide +kernel
theorem dX8_see_63 : decode cX8_see 63 = .ok (.imul, 1) := by decide +kernel
theorem dX8_see_64 : decode cX8_see 64 = .ok (.iconst 1, 1) := by decide +kernel
theorem dX8_see_65 : decode cX8_see 65 = .ok (.iadd, 1) := by decide +kernel
theorem dX8_see_66 : decode cX8_see 66 = .ok (.iload_n 2, 1) := by decide +kernel
theorem dX8_see_67 : decode cX8_see 67 = .ok (.iastore, 1) := by decide +kernel
theorem dX8_see_68 : decode cX8_see 68 = .ok (.aload_n 0, 1) := by decide +kernel
theorem dX8_see_69 : decode cX8_see 69 = .ok (.getfield 50, 3) := by decide +kernel
theorem dX8_see_72 : decode cX8_see 72 = .ok (.iconst 3, 1) := by decide +kernel
theorem dX8_see_73 : decode cX8_see 73 = .ok (.aload_n 0, 1) := by decide +kernel
theorem dX8_see_74 : decode cX8_see 74 = .ok (.getfield 181, 3) := by decide +kernel
theorem dX8_see_77 : decode cX8_see 77 = .ok (.imul, 1) := by decide +kernel
theorem dX8_see_78 : decode cX8_see 78 = .ok (.iconst 2, 1) := by decide +kernel
theorem dX8_see_79 : decode cX8_see 79 = .ok (.iadd, 1) := by decide +kernel
theorem dX8_see_80 : decode cX8_see 80 = .ok (.iload_n 3, 1) := by decide +kernel
theorem dX8_see_81 : decode cX8_see 81 = .ok (.iastore, 1) := by decide +kernel
theorem dX8_see_82 : decode cX8_see 82 = .ok (.aload_n 0, 1) := by decide +kernel
theorem dX8_see_83 : decode cX8_see 83 = .ok (.dup, 1) := by decide +kernel
theorem dX8_see_84 : decode cX8_see 84 = .ok (.getfield 181, 3) := by decide +kernel
theorem dX8_see_87 : decode cX8_see 87 = .ok (.iconst 1, 1) := by decide +kernel
theorem dX8_see_88 : decode cX8_see 88 = .ok (.iadd, 1) := by decide +kernel
theorem dX8_see_89 : decode cX8_see 89 = .ok (.putfield 181, 3) := by decide +kernel
theorem dX8_see_92 : decode cX8_see 92 = .ok (.aload_n 0, 1) := by decide +kernel
theorem dX8_see_93 : decode cX8_see 93 = .ok (.getfield 181, 3) := by decide +kernel
theorem dX8_see_96 : decode cX8_see 96 = .ok (.ireturn, 1) := by decide +kernel
set_option maxRecDepth 20000 in
theorem ggX8_forget_X8_in : GoodIn wsX8_forget wsX8_in := goodIn_r _ [5] (by decide +kernel) (by decide +kernel)
set_option maxRecDepth 20000 in
theorem gX8_forget_X8_in : GoodIn wsX8_forget (va_wsS RX8 72 yX8_in wsX8_in) := goodIn_app (goodIn_of _ (by decide +kernel)) ggX8_forget_X8_in
theorem dX8_forget_0 : decode cX8_forget 0 = .ok (.iload_n 1, 1) := by decide +kernel
theorem dX8_forget_1 : decode cX8_forget 1 = .ok (.i2l, 1) := by decide +kernel
theorem dX8_forget_2 : decode cX8_forget 2 = .ok (.lconst 0, 1) := by decide +kernel
theorem dX8_forget_3 : decode cX8_forget 3 = .ok (.aload_n 0, 1) := by decide +kernel
theorem dX8_forget_4 : decode cX8_forget 4 = .ok (.getfield 181, 3) := by decide +kernel
theorem dX8_forget_7 : decode cX8_forget 7 = .ok (.i2l, 1) := by decide +kernel
theorem dX8_forget_8 : decode cX8_forget 8 = .ok (.invokestatic 72, 3) := by decide +kernel
theorem dX8_forget_11 : decode cX8_forget 11 = .ok (.ifCond .ne 5, 3) := by decide +kernel
theorem dX8_forget_14 : decode cX8_forget 14 = .ok (.iconst (-1), 1) := by decide +kernel
theorem dX8_forget_15 : decode cX8_forget 15 = .ok (.ireturn, 1) := by decide +kernel
theorem dX8_forget_16 : decode cX8_forget 16 = .ok (.aload_n 0, 1) := by decide +kernel
theorem dX8_forget_17 : decode cX8_forget 17 = .ok (.getfield 181, 3) := by decide +kernel
theorem dX8_forget_20 : decode cX8_forget 20 = .ok (.istore_n 2, 1) := by decide +kernel
theorem dX8_forget_21 : decode cX8_forget 21 = .ok (.aload_n 0, 1) := by decide +kernel
theorem dX8_forget_22 : decode cX8_forget 22 = .ok (.iload_n 1, 1) := by decide +kernel
theorem dX8_forget_23 : decode cX8_forget 23 = .ok (.putfield 181, 3) := by decide +kernel
theorem dX8_forget_26 : decode cX8_forget 26 = .ok (.iload_n 2, 1) := by decide +kernel
theorem dX8_forget_27 : decode cX8_forget 27 = .ok (.ireturn, 1) := by decide +kernel
set_option maxRecDepth 20000 in
theorem ggX8_isLaw_X8_isDoor : GoodIn wsX8_isLaw wsX8_isDoor := goodIn_r _ [6, 7, 8, 9, 5, 10, 11, 12, 13, 14, 15, 16, 17, 18, 19, 20, 21, 22, 23, 24, 25, 26, 27, 28, 29, 30, 31, 32, 33, 34, 35, 36, 37, 38, 39, 40, 41, 42, 43, 44, 45, 46, 47, 48, 49] (by decide +kernel) (by decide +kernel)
set_option maxRecDepth 20000 in
theorem gX8_isLaw_X8_isDoor : GoodIn wsX8_isLaw (wsV RX8 190 RX8 yX8_isDoor wsX8_isDoor) := goodIn_app (goodIn_of _ (by decide +kernel)) ggX8_isLaw_X8_isDoor
set_option maxRecDepth 20000 in
theorem ggX8_isLaw_X8_in : GoodIn wsX8_isLaw wsX8_in := goodIn_r _ [10] (by decide +kernel) (by decide +kernel)
set_option maxRecDepth 20000 in
theorem gX8_isLaw_X8_in : GoodIn wsX8_isLaw (va_wsS RX8 72 yX8_in wsX8_in) := goodIn_app (goodIn_of _ (by decide +kernel)) ggX8_isLaw_X8_in
theorem dX8_isLaw_0 : decode cX8_isLaw 0 = .ok (.iload_n 1, 1) := by decide +kernel
theorem dX8_isLaw_1 : decode cX8_isLaw 1 = .ok (.bipush 10, 2) := by decide +kernel
theorem dX8_isLaw_3 : decode cX8_isLaw 3 = .ok (.idiv, 1) := by decide +kernel
theorem dX8_isLaw_4 : decode cX8_isLaw 4 = .ok (.bipush 10, 2) := by decide +kernel
theorem dX8_isLaw_6 : decode cX8_isLaw 6 = .ok (.irem, 1) := by decide +kernel
theorem dX8_isLaw_7 : decode cX8_isLaw 7 = .ok (.istore_n 2, 1) := by decide +kernel
theorem dX8_isLaw_8 : decode cX8_isLaw 8 = .ok (.iload_n 1, 1) := by decide +kernel
theorem dX8_isLaw_9 : decode cX8_isLaw 9 = .ok (.bipush 10, 2) := by decide +kernel
theorem dX8_isLaw_11 : decode cX8_isLaw 11 = .ok (.irem, 1) := by decide +kernel
theorem dX8_isLaw_12 : decode cX8_isLaw 12 = .ok (.istore_n 3, 1) := by decide +kernel
theorem dX8_isLaw_13 : decode cX8_isLaw 13 = .ok (.iload_n 1, 1) := by decide +kernel
theorem dX8_isLaw_14 : decode cX8_isLaw 14 = .ok (.bipush 100, 2) := by decide +kernel
theorem dX8_isLaw_16 : decode cX8_isLaw 16 = .ok (.if_icmp .ge 32, 3) := by decide +kernel
theorem dX8_isLaw_19 : decode cX8_isLaw 19 = .ok (.aload_n 0, 1) := by decide +kernel
theorem dX8_isLaw_20 : decode cX8_isLaw 20 = .ok (.iload_n 2, 1) := by decide +kernel
theorem dX8_isLaw_21 : decode cX8_isLaw 21 = .ok (.invokevirtual 190, 3) := by decide +kernel
theorem dX8_isLaw_24 : decode cX8_isLaw 24 = .ok (.ifCond .eq 20, 3) := by decide +kernel
theorem dX8_isLaw_27 : decode cX8_isLaw 27 = .ok (.aload_n 0, 1) := by decide +kernel
theorem dX8_isLaw_28 : decode cX8_isLaw 28 = .ok (.iload_n 3, 1) := by decide +kernel
theorem dX8_isLaw_29 : decode cX8_isLaw 29 = .ok (.invokevirtual 190, 3) := by decide +kernel
theorem dX8_isLaw_32 : decode cX8_isLaw 32 = .ok (.ifCond .eq 12, 3) := by decide +kernel
theorem dX8_isLaw_35 : decode cX8_isLaw 35 = .ok (.iload_n 2, 1) := by decide +kernel
theorem dX8_isLaw_36 : decode cX8_isLaw 36 = .ok (.iload_n 3, 1) := by decide +kernel
theorem dX8_isLaw_37 : decode cX8_isLaw 37 = .ok (.if_icmp .ge 7, 3) := by decide +kernel
theorem dX8_isLaw_40 : decode cX8_isLaw 40 = .ok (.iconst 1, 1) := by decide +kernel
theorem dX8_isLaw_41 : decode cX8_isLaw 41 = .ok (.goto 51, 3) := by decide +kernel
theorem dX8_isLaw_44 : decode cX8_isLaw 44 = .ok (.iconst 0, 1) := by decide +kernel
theorem dX8_isLaw_45 : decode cX8_isLaw 45 = .ok (.goto 47, 3) := by decide +kernel
theorem dX8_isLaw_48 : decode cX8_isLaw 48 = .ok (.iload_n 1, 1) := by decide +kernel
theorem dX8_isLaw_49 : decode cX8_isLaw 49 = .ok (.sipush 200, 3) := by decide +kernel
theorem dX8_isLaw_52 : decode cX8_isLaw 52 = .ok (.if_icmp .ge 35, 3) := by decide +kernel
theorem dX8_isLaw_55 : decode cX8_isLaw 55 = .ok (.aload_n 0, 1) := by decide +kernel
theorem dX8_isLaw_56 : decode cX8_isLaw 56 = .ok (.iload_n 2, 1) := by decide +kernel
theorem dX8_isLaw_57 : decode cX8_isLaw 57 = .ok (.invokevirtual 190, 3) := by decide +kernel
theorem dX8_isLaw_60 : decode cX8_isLaw 60 = .ok (.ifCond .eq 23, 3) := by decide +kernel
theorem dX8_isLaw_63 : decode cX8_isLaw 63 = .ok (.iload_n 3, 1) := by decide +kernel
theorem dX8_isLaw_64 : decode cX8_isLaw 64 = .ok (.i2l, 1) := by decide +kernel
theorem dX8_isLaw_65 : decode cX8_isLaw 65 = .ok (.lconst 1, 1) := by decide +kernel
theorem dX8_isLaw_66 : decode cX8_isLaw 66 = .ok (.aload_n 0, 1) := by decide +kernel
theorem dX8_isLaw_67 : decode cX8_isLaw 67 = .ok (.getfield 13, 3) := by decide +kernel
theorem dX8_isLaw_70 : decode cX8_isLaw 70 = .ok (.iconst 1, 1) := by decide +kernel
theorem dX8_isLaw_71 : decode cX8_isLaw 71 = .ok (.isub, 1) := by decide +kernel
theorem dX8_isLaw_72 : decode cX8_isLaw 72 = .ok (.i2l, 1) := by decide +kernel
theorem dX8_isLaw_73 : decode cX8_isLaw 73 = .ok (.invokestatic 72, 3) := by decide +kernel
theorem dX8_isLaw_76 : decode cX8_isLaw 76 = .ok (.ifCond .eq 7, 3) := by decide +kernel
theorem dX8_isLaw_79 : decode cX8_isLaw 79 = .ok (.iconst 1, 1) := by decide +kernel
theorem dX8_isLaw_80 : decode cX8_isLaw 80 = .ok (.goto 12, 3) := by decide +kernel
theorem dX8_isLaw_83 : decode cX8_isLaw 83 = .ok (.iconst 0, 1) := by decide +kernel
theorem dX8_isLaw_84 : decode cX8_isLaw 84 = .ok (.goto 8, 3) := by decide +kernel
theorem dX8_isLaw_87 : decode cX8_isLaw 87 = .ok (.aload_n 0, 1) := by decide +kernel
theorem dX8_isLaw_88 : decode cX8_isLaw 88 = .ok (.iload_n 3, 1) := by decide +kernel
theorem dX8_isLaw_89 : decode cX8_isLaw 89 = .ok (.invokevirtual 190, 3) := by decide +kernel
theorem dX8_isLaw_92 : decode cX8_isLaw 92 = .ok (.ireturn, 1) := by decide +kernel
set_option maxRecDepth 20000 in
theorem ggX8_dusksBy_X8_worksNow : GoodIn wsX8_dusksBy wsX8_worksNow := goodIn_r _ [5, 6, 7, 13, 14, 15, 16, 17, 18, 19, 20, 21, 22, 23, 24, 25, 26, 27, 28, 29, 30, 31, 32, 33, 34, 35, 36, 37, 38, 39, 40, 41, 42, 43, 44, 45, 46, 47, 48, 49, 50, 51] (by decide +kernel) (by decide +kernel)
set_option maxRecDepth 20000 in
theorem gX8_dusksBy_X8_worksNow : GoodIn wsX8_dusksBy (wsV RX8 231 RX8 yX8_worksNow wsX8_worksNow) := goodIn_app (goodIn_of _ (by decide +kernel)) ggX8_dusksBy_X8_worksNow
set_option maxRecDepth 20000 in
theorem ggX8_dusksBy_X8_doesRule : GoodIn wsX8_dusksBy wsX8_doesRule := goodIn_r _ [11, 6, 12, 13, 14, 15, 16, 17, 18, 19, 20, 21, 22, 23, 24, 25, 26, 27, 28, 29, 30, 31, 32, 33, 34, 35, 36, 37, 38, 39, 40, 41, 42, 43, 44, 45, 46, 47, 48, 49, 50, 51] (by decide +kernel) (by decide +kernel)
set_option maxRecDepth 20000 in
theorem gX8_dusksBy_X8_doesRule : GoodIn wsX8_dusksBy (wsV RX8 196 RX8 yX8_doesRule wsX8_doesRule) := goodIn_app (goodIn_of _ (by decide +kernel)) ggX8_dusksBy_X8_doesRule
theorem dX8_dusksBy_0 : decode cX8_dusksBy 0 = .ok (.aload_n 0, 1) := by decide +kernel
theorem dX8_dusksBy_1 : decode cX8_dusksBy 1 = .ok (.invokevirtual 231, 3) := by decide +kernel
theorem dX8_dusksBy_4 : decode cX8_dusksBy 4 = .ok (.iconst 0, 1) := by decide +kernel
theorem dX8_dusksBy_5 : decode cX8_dusksBy 5 = .ok (.istore_n 3, 1) := by decide +kernel
theorem dX8_dusksBy_6 : decode cX8_dusksBy 6 = .ok (.iload_n 3, 1) := by decide +kernel
theorem dX8_dusksBy_7 : decode cX8_dusksBy 7 = .ok (.iload_n 2, 1) := by decide +kernel
theorem dX8_dusksBy_8 : decode cX8_dusksBy 8 = .ok (.if_icmp .ge 42, 3) := by decide +kernel
theorem dX8_dusksBy_11 : decode cX8_dusksBy 11 = .ok (.aload_n 0, 1) := by decide +kernel
theorem dX8_dusksBy_12 : decode cX8_dusksBy 12 = .ok (.iload_n 1, 1) := by decide +kernel
theorem dX8_dusksBy_13 : decode cX8_dusksBy 13 = .ok (.bipush 100, 2) := by decide +kernel
theorem dX8_dusksBy_15 : decode cX8_dusksBy 15 = .ok (.idiv, 1) := by decide +kernel
theorem dX8_dusksBy_16 : decode cX8_dusksBy 16 = .ok (.iload_n 1, 1) := by decide +kernel
theorem dX8_dusksBy_17 : decode cX8_dusksBy 17 = .ok (.sipush 200, 3) := by decide +kernel
theorem dX8_dusksBy_20 : decode cX8_dusksBy 20 = .ok (.if_icmp .ge 13, 3) := by decide +kernel
theorem dX8_dusksBy_23 : decode cX8_dusksBy 23 = .ok (.iload_n 1, 1) := by decide +kernel
theorem dX8_dusksBy_24 : decode cX8_dusksBy 24 = .ok (.bipush 10, 2) := by decide +kernel
theorem dX8_dusksBy_26 : decode cX8_dusksBy 26 = .ok (.idiv, 1) := by decide +kernel
theorem dX8_dusksBy_27 : decode cX8_dusksBy 27 = .ok (.bipush 10, 2) := by decide +kernel
theorem dX8_dusksBy_29 : decode cX8_dusksBy 29 = .ok (.irem, 1) := by decide +kernel
theorem dX8_dusksBy_30 : decode cX8_dusksBy 30 = .ok (.goto 7, 3) := by decide +kernel
theorem dX8_dusksBy_33 : decode cX8_dusksBy 33 = .ok (.iload_n 1, 1) := by decide +kernel
theorem dX8_dusksBy_34 : decode cX8_dusksBy 34 = .ok (.bipush 10, 2) := by decide +kernel
theorem dX8_dusksBy_36 : decode cX8_dusksBy 36 = .ok (.irem, 1) := by decide +kernel
theorem dX8_dusksBy_37 : decode cX8_dusksBy 37 = .ok (.iload_n 1, 1) := by decide +kernel
theorem dX8_dusksBy_38 : decode cX8_dusksBy 38 = .ok (.bipush 10, 2) := by decide +kernel
theorem dX8_dusksBy_40 : decode cX8_dusksBy 40 = .ok (.irem, 1) := by decide +kernel
theorem dX8_dusksBy_41 : decode cX8_dusksBy 41 = .ok (.invokevirtual 196, 3) := by decide +kernel
theorem dX8_dusksBy_44 : decode cX8_dusksBy 44 = .ok (.iinc 3 1, 3) := by decide +kernel
theorem dX8_dusksBy_47 : decode cX8_dusksBy 47 = .ok (.goto (-41), 3) := by decide +kernel
theorem dX8_dusksBy_50 : decode cX8_dusksBy 50 = .ok (.return_, 1) := by decide +kernel
set_option maxRecDepth 20000 in
theorem ggX8_isLawSo_X8_isLaw : GoodIn wsX8_isLawSo wsX8_isLaw := goodIn_r _ [8, 9, 10, 11, 12, 7, 13, 14, 15, 16, 17, 31, 32, 33, 34, 35, 36, 37, 38, 39, 40, 41, 42, 43, 44, 45, 46, 47, 48, 49, 50, 51, 52, 53, 54, 55, 56, 57, 58, 59, 60, 61, 62, 63, 64, 65, 66, 67, 68, 69] (by decide +kernel) (by decide +kernel)
set_option maxRecDepth 20000 in
theorem gX8_isLawSo_X8_isLaw : GoodIn wsX8_isLawSo (wsV RX8 269 RX8 yX8_isLaw wsX8_isLaw) := goodIn_app (goodIn_of _ (by decide +kernel)) ggX8_isLawSo_X8_isLaw
set_option maxRecDepth 20000 in
theorem ggX8_isLawSo_X8_dusksBy : GoodIn wsX8_isLawSo wsX8_dusksBy := goodIn_r _ [21, 22, 23, 24, 7, 25, 3, 26, 27, 28, 29, 30, 9, 31, 32, 33, 34, 35, 36, 37, 38, 39, 40, 41, 42, 43, 44, 45, 46, 47, 48, 49, 50, 51, 52, 53, 54, 55, 56, 57, 58, 59, 60, 61, 62, 63, 64, 65, 66, 67, 68, 69] (by decide +kernel) (by decide +kernel)
set_option maxRecDepth 20000 in
theorem gX8_isLawSo_X8_dusksBy : GoodIn wsX8_isLawSo (wsV RX8 272 RX8 yX8_dusksBy wsX8_dusksBy) := goodIn_app (goodIn_of _ (by decide +kernel)) ggX8_isLawSo_X8_dusksBy
theorem dX8_isLawSo_0 : decode cX8_isLawSo 0 = .ok (.aload_n 0, 1) := by decide +kernel
theorem dX8_isLawSo_1 : decode cX8_isLawSo 1 = .ok (.iload_n 1, 1) := by decide +kernel
theorem dX8_isLawSo_2 : decode cX8_isLawSo 2 = .ok (.invokevirtual 269, 3) := by decide +kernel
theorem dX8_isLawSo_5 : decode cX8_isLawSo 5 = .ok (.istore_n 2, 1) := by decide +kernel
theorem dX8_isLawSo_6 : decode cX8_isLawSo 6 = .ok (.iconst 0, 1) := by decide +kernel
theorem dX8_isLawSo_7 : decode cX8_isLawSo 7 = .ok (.istore_n 3, 1) := by decide +kernel
theorem dX8_isLawSo_8 : decode cX8_isLawSo 8 = .ok (.iload_n 3, 1) := by decide +kernel
theorem dX8_isLawSo_9 : decode cX8_isLawSo 9 = .ok (.aload_n 0, 1) := by decide +kernel
theorem dX8_isLawSo_10 : decode cX8_isLawSo 10 = .ok (.getfield 181, 3) := by decide +kernel
theorem dX8_isLawSo_13 : decode cX8_isLawSo 13 = .ok (.if_icmp .ge 64, 3) := by decide +kernel
theorem dX8_isLawSo_16 : decode cX8_isLawSo 16 = .ok (.iload_n 2, 1) := by decide +kernel
theorem dX8_isLawSo_17 : decode cX8_isLawSo 17 = .ok (.ifCond .eq 60, 3) := by decide +kernel
theorem dX8_isLawSo_20 : decode cX8_isLawSo 20 = .ok (.aload_n 0, 1) := by decide +kernel
theorem dX8_isLawSo_21 : decode cX8_isLawSo 21 = .ok (.iload_n 1, 1) := by decide +kernel
theorem dX8_isLawSo_22 : decode cX8_isLawSo 22 = .ok (.aload_n 0, 1) := by decide +kernel
theorem dX8_isLawSo_23 : decode cX8_isLawSo 23 = .ok (.getfield 50, 3) := by decide +kernel
theorem dX8_isLawSo_26 : decode cX8_isLawSo 26 = .ok (.iconst 3, 1) := by decide +kernel
theorem dX8_isLawSo_27 : decode cX8_isLawSo 27 = .ok (.iload_n 3, 1) := by decide +kernel
theorem dX8_isLawSo_28 : decode cX8_isLawSo 28 = .ok (.imul, 1) := by decide +kernel
theorem dX8_isLawSo_29 : decode cX8_isLawSo 29 = .ok (.iaload, 1) := by decide +kernel
theorem dX8_isLawSo_30 : decode cX8_isLawSo 30 = .ok (.invokevirtual 272, 3) := by decide +kernel
theorem dX8_isLawSo_33 : decode cX8_isLawSo 33 = .ok (.aload_n 0, 1) := by decide +kernel
theorem dX8_isLawSo_34 : decode cX8_isLawSo 34 = .ok (.getfield 38, 3) := by decide +kernel
theorem dX8_isLawSo_37 : decode cX8_isLawSo 37 = .ok (.iconst 3, 1) := by decide +kernel
theorem dX8_isLawSo_38 : decode cX8_isLawSo 38 = .ok (.aload_n 0, 1) := by decide +kernel
theorem dX8_isLawSo_39 : decode cX8_isLawSo 39 = .ok (.getfield 50, 3) := by decide +kernel
theorem dX8_isLawSo_42 : decode cX8_isLawSo 42 = .ok (.iconst 3, 1) := by decide +kernel
theorem dX8_isLawSo_43 : decode cX8_isLawSo 43 = .ok (.iload_n 3, 1) := by decide +kernel
theorem dX8_isLawSo_44 : decode cX8_isLawSo 44 = .ok (.imul, 1) := by decide +kernel
theorem dX8_isLawSo_45 : decode cX8_isLawSo 45 = .ok (.iconst 1, 1) := by decide +kernel
theorem dX8_isLawSo_46 : decode cX8_isLawSo 46 = .ok (.iadd, 1) := by decide +kernel
theorem dX8_isLawSo_47 : decode cX8_isLawSo 47 = .ok (.iaload, 1) := by decide +kernel
theorem dX8_isLawSo_48 : decode cX8_isLawSo 48 = .ok (.imul, 1) := by decide +kernel
theorem dX8_isLawSo_49 : decode cX8_isLawSo 49 = .ok (.iconst 1, 1) := by decide +kernel
theorem dX8_isLawSo_50 : decode cX8_isLawSo 50 = .ok (.iadd, 1) := by decide +kernel
theorem dX8_isLawSo_51 : decode cX8_isLawSo 51 = .ok (.iaload, 1) := by decide +kernel
theorem dX8_isLawSo_52 : decode cX8_isLawSo 52 = .ok (.aload_n 0, 1) := by decide +kernel
theorem dX8_isLawSo_53 : decode cX8_isLawSo 53 = .ok (.getfield 50, 3) := by decide +kernel
theorem dX8_isLawSo_56 : decode cX8_isLawSo 56 = .ok (.iconst 3, 1) := by decide +kernel
theorem dX8_isLawSo_57 : decode cX8_isLawSo 57 = .ok (.iload_n 3, 1) := by decide +kernel
theorem dX8_isLawSo_58 : decode cX8_isLawSo 58 = .ok (.imul, 1) := by decide +kernel
theorem dX8_isLawSo_59 : decode cX8_isLawSo 59 = .ok (.iconst 2, 1) := by decide +kernel
theorem dX8_isLawSo_60 : decode cX8_isLawSo 60 = .ok (.iadd, 1) := by decide +kernel
theorem dX8_isLawSo_61 : decode cX8_isLawSo 61 = .ok (.iaload, 1) := by decide +kernel
theorem dX8_isLawSo_62 : decode cX8_isLawSo 62 = .ok (.if_icmp .ne 7, 3) := by decide +kernel
theorem dX8_isLawSo_65 : decode cX8_isLawSo 65 = .ok (.iconst 1, 1) := by decide +kernel
theorem dX8_isLawSo_66 : decode cX8_isLawSo 66 = .ok (.goto 4, 3) := by decide +kernel
theorem dX8_isLawSo_69 : decode cX8_isLawSo 69 = .ok (.iconst 0, 1) := by decide +kernel
theorem dX8_isLawSo_70 : decode cX8_isLawSo 70 = .ok (.istore_n 2, 1) := by decide +kernel
theorem dX8_isLawSo_71 : decode cX8_isLawSo 71 = .ok (.iinc 3 1, 3) := by decide +kernel
theorem dX8_isLawSo_74 : decode cX8_isLawSo 74 = .ok (.goto (-66), 3) := by decide +kernel
theorem dX8_isLawSo_77 : decode cX8_isLawSo 77 = .ok (.iload_n 2, 1) := by decide +kernel
theorem dX8_isLawSo_78 : decode cX8_isLawSo 78 = .ok (.ireturn, 1) := by decide +kernel
set_option maxRecDepth 20000 in
theorem ggX8_laws_X8_in : GoodIn wsX8_laws wsX8_in := goodIn_r _ [5] (by decide +kernel) (by decide +kernel)
set_option maxRecDepth 20000 in
theorem gX8_laws_X8_in : GoodIn wsX8_laws (va_wsS RX8 72 yX8_in wsX8_in) := goodIn_app (goodIn_of _ (by decide +kernel)) ggX8_laws_X8_in
set_option maxRecDepth 20000 in
theorem ggX8_laws_X8_isLawSo : GoodIn wsX8_laws wsX8_isLawSo := goodIn_r _ [9, 10, 11, 12, 13, 14, 15, 4, 16, 17, 18, 19, 20, 21, 22, 2, 3, 5, 23, 24, 25, 26, 27, 28, 29, 30, 31, 32, 33, 34, 35, 36, 37, 38, 39, 40, 41, 42, 43, 44, 45, 46, 47, 48, 49, 50, 51, 52, 53, 54, 55, 56, 57, 58, 59, 60, 61, 62, 63, 64, 65, 66, 67, 68, 69, 70, 71, 72, 73, 74] (by decide +kernel) (by decide +kernel)
set_option maxRecDepth 20000 in
theorem gX8_laws_X8_isLawSo : GoodIn wsX8_laws (wsV RX8 275 RX8 yX8_isLawSo wsX8_isLawSo) := goodIn_app (goodIn_of _ (by decide +kernel)) ggX8_laws_X8_isLawSo
theorem dX8_laws_0 : decode cX8_laws 0 = .ok (.iload_n 1, 1) := by decide +kernel
theorem dX8_laws_1 : decode cX8_laws 1 = .ok (.i2l, 1) := by decide +kernel
theorem dX8_laws_2 : decode cX8_laws 2 = .ok (.lconst 0, 1) := by decide +kernel
theorem dX8_laws_3 : decode cX8_laws 3 = .ok (.ldc2_w 194, 3) := by decide +kernel
theorem dX8_laws_6 : decode cX8_laws 6 = .ok (.invokestatic 72, 3) := by decide +kernel
theorem dX8_laws_9 : decode cX8_laws 9 = .ok (.ifCond .ne 5, 3) := by decide +kernel
theorem dX8_laws_12 : decode cX8_laws 12 = .ok (.iconst (-1), 1) := by decide +kernel
theorem dX8_laws_13 : decode cX8_laws 13 = .ok (.ireturn, 1) := by decide +kernel
theorem dX8_laws_14 : decode cX8_laws 14 = .ok (.iconst 0, 1) := by decide +kernel
theorem dX8_laws_15 : decode cX8_laws 15 = .ok (.istore_n 2, 1) := by decide +kernel
theorem dX8_laws_16 : decode cX8_laws 16 = .ok (.bipush (-4), 2) := by decide +kernel
theorem dX8_laws_18 : decode cX8_laws 18 = .ok (.istore_n 3, 1) := by decide +kernel
theorem dX8_laws_19 : decode cX8_laws 19 = .ok (.bipush (-4), 2) := by decide +kernel
theorem dX8_laws_21 : decode cX8_laws 21 = .ok (.istore 4, 2) := by decide +kernel
theorem dX8_laws_23 : decode cX8_laws 23 = .ok (.iconst 0, 1) := by decide +kernel
theorem dX8_laws_24 : decode cX8_laws 24 = .ok (.istore 5, 2) := by decide +kernel
theorem dX8_laws_26 : decode cX8_laws 26 = .ok (.iload 5, 2) := by decide +kernel
theorem dX8_laws_28 : decode cX8_laws 28 = .ok (.sipush 210, 3) := by decide +kernel
theorem dX8_laws_31 : decode cX8_laws 31 = .ok (.if_icmp .ge 36, 3) := by decide +kernel
theorem dX8_laws_34 : decode cX8_laws 34 = .ok (.aload_n 0, 1) := by decide +kernel
theorem dX8_laws_35 : decode cX8_laws 35 = .ok (.iload 5, 2) := by decide +kernel
theorem dX8_laws_37 : decode cX8_laws 37 = .ok (.invokevirtual 275, 3) := by decide +kernel
theorem dX8_laws_40 : decode cX8_laws 40 = .ok (.ifCond .eq 21, 3) := by decide +kernel
theorem dX8_laws_43 : decode cX8_laws 43 = .ok (.iload_n 2, 1) := by decide +kernel
theorem dX8_laws_44 : decode cX8_laws 44 = .ok (.ifCond .ne 8, 3) := by decide +kernel
