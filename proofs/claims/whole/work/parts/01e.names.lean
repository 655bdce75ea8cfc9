theorem dX3_readTape_67 : decode cX3_readTape 67 = .ok (.invokevirtual 51, 3) := by decide +kernel
theorem dX3_readTape_70 : decode cX3_readTape 70 = .ok (.aload_n 0, 1) := by decide +kernel
theorem dX3_readTape_71 : decode cX3_readTape 71 = .ok (.dup, 1) := by decide +kernel
theorem dX3_readTape_72 : decode cX3_readTape 72 = .ok (.getfield 48, 3) := by decide +kernel
theorem dX3_readTape_75 : decode cX3_readTape 75 = .ok (.iconst 1, 1) := by decide +kernel
theorem dX3_readTape_76 : decode cX3_readTape 76 = .ok (.iadd, 1) := by decide +kernel
theorem dX3_readTape_77 : decode cX3_readTape 77 = .ok (.putfield 48, 3) := by decide +kernel
theorem dX3_readTape_80 : decode cX3_readTape 80 = .ok (.goto (-42), 3) := by decide +kernel
theorem dX3_readTape_83 : decode cX3_readTape 83 = .ok (.aload_n 0, 1) := by decide +kernel
theorem dX3_readTape_84 : decode cX3_readTape 84 = .ok (.invokevirtual 60, 3) := by decide +kernel
theorem dX3_readTape_87 : decode cX3_readTape 87 = .ok (.aload_n 0, 1) := by decide +kernel
theorem dX3_readTape_88 : decode cX3_readTape 88 = .ok (.iconst 0, 1) := by decide +kernel
theorem dX3_readTape_89 : decode cX3_readTape 89 = .ok (.putfield 27, 3) := by decide +kernel
theorem dX3_readTape_92 : decode cX3_readTape 92 = .ok (.return_, 1) := by decide +kernel
theorem dX3_fail_0 : decode cX3_fail 0 = .ok (.aload_n 0, 1) := by decide +kernel
theorem dX3_fail_1 : decode cX3_fail 1 = .ok (.getfield 31, 3) := by decide +kernel
theorem dX3_fail_4 : decode cX3_fail 4 = .ok (.ifCond .ne 13, 3) := by decide +kernel
theorem dX3_fail_7 : decode cX3_fail 7 = .ok (.aload_n 0, 1) := by decide +kernel
theorem dX3_fail_8 : decode cX3_fail 8 = .ok (.iload_n 1, 1) := by decide +kernel
theorem dX3_fail_9 : decode cX3_fail 9 = .ok (.putfield 31, 3) := by decide +kernel
theorem dX3_fail_12 : decode cX3_fail 12 = .ok (.aload_n 0, 1) := by decide +kernel
theorem dX3_fail_13 : decode cX3_fail 13 = .ok (.iload_n 2, 1) := by decide +kernel
theorem dX3_fail_14 : decode cX3_fail 14 = .ok (.putfield 63, 3) := by decide +kernel
theorem dX3_fail_17 : decode cX3_fail 17 = .ok (.return_, 1) := by decide +kernel
set_option maxRecDepth 20000 in
theorem ggX3_nextToken_X3_kindOf : GoodIn wsX3_nextToken wsX3_kindOf := goodIn_r _ [15] (by decide +kernel) (by decide +kernel)
set_option maxRecDepth 20000 in
theorem gX3_nextToken_X3_kindOf : GoodIn wsX3_nextToken (va_wsS RX3 69 yX3_kindOf wsX3_kindOf) := goodIn_app (goodIn_of _ (by decide +kernel)) ggX3_nextToken_X3_kindOf
set_option maxRecDepth 20000 in
theorem ggX3_nextToken_X3_fail : GoodIn wsX3_nextToken wsX3_fail := goodIn_r _ [19, 1, 20, 21, 22, 23, 24, 25, 26, 27, 28, 29, 30, 31, 32] (by decide +kernel) (by decide +kernel)
set_option maxRecDepth 20000 in
theorem gX3_nextToken_X3_fail : GoodIn wsX3_nextToken (wsV RX3 82 RX3 yX3_fail wsX3_fail) := goodIn_app (goodIn_of _ (by decide +kernel)) ggX3_nextToken_X3_fail
theorem dX3_nextToken_0 : decode cX3_nextToken 0 = .ok (.aload_n 0, 1) := by decide +kernel
theorem dX3_nextToken_1 : decode cX3_nextToken 1 = .ok (.getfield 31, 3) := by decide +kernel
theorem dX3_nextToken_4 : decode cX3_nextToken 4 = .ok (.ifCond .eq 4, 3) := by decide +kernel
theorem dX3_nextToken_7 : decode cX3_nextToken 7 = .ok (.return_, 1) := by decide +kernel
theorem dX3_nextToken_8 : decode cX3_nextToken 8 = .ok (.aload_n 0, 1) := by decide +kernel
theorem dX3_nextToken_9 : decode cX3_nextToken 9 = .ok (.getfield 42, 3) := by decide +kernel
theorem dX3_nextToken_12 : decode cX3_nextToken 12 = .ok (.aload_n 0, 1) := by decide +kernel
theorem dX3_nextToken_13 : decode cX3_nextToken 13 = .ok (.getfield 27, 3) := by decide +kernel
theorem dX3_nextToken_16 : decode cX3_nextToken 16 = .ok (.if_icmp .ge 30, 3) := by decide +kernel
theorem dX3_nextToken_19 : decode cX3_nextToken 19 = .ok (.aload_n 0, 1) := by decide +kernel
theorem dX3_nextToken_20 : decode cX3_nextToken 20 = .ok (.getfield 34, 3) := by decide +kernel
theorem dX3_nextToken_23 : decode cX3_nextToken 23 = .ok (.aload_n 0, 1) := by decide +kernel
theorem dX3_nextToken_24 : decode cX3_nextToken 24 = .ok (.getfield 42, 3) := by decide +kernel
theorem dX3_nextToken_27 : decode cX3_nextToken 27 = .ok (.baload, 1) := by decide +kernel
theorem dX3_nextToken_28 : decode cX3_nextToken 28 = .ok (.bipush 32, 2) := by decide +kernel
theorem dX3_nextToken_30 : decode cX3_nextToken 30 = .ok (.if_icmp .ne 16, 3) := by decide +kernel
theorem dX3_nextToken_33 : decode cX3_nextToken 33 = .ok (.aload_n 0, 1) := by decide +kernel
theorem dX3_nextToken_34 : decode cX3_nextToken 34 = .ok (.dup, 1) := by decide +kernel
theorem dX3_nextToken_35 : decode cX3_nextToken 35 = .ok (.getfield 42, 3) := by decide +kernel
theorem dX3_nextToken_38 : decode cX3_nextToken 38 = .ok (.iconst 1, 1) := by decide +kernel
theorem dX3_nextToken_39 : decode cX3_nextToken 39 = .ok (.iadd, 1) := by decide +kernel
theorem dX3_nextToken_40 : decode cX3_nextToken 40 = .ok (.putfield 42, 3) := by decide +kernel
theorem dX3_nextToken_43 : decode cX3_nextToken 43 = .ok (.goto (-35), 3) := by decide +kernel
theorem dX3_nextToken_46 : decode cX3_nextToken 46 = .ok (.aload_n 0, 1) := by decide +kernel
theorem dX3_nextToken_47 : decode cX3_nextToken 47 = .ok (.aload_n 0, 1) := by decide +kernel
theorem dX3_nextToken_48 : decode cX3_nextToken 48 = .ok (.getfield 42, 3) := by decide +kernel
theorem dX3_nextToken_51 : decode cX3_nextToken 51 = .ok (.putfield 66, 3) := by decide +kernel
theorem dX3_nextToken_54 : decode cX3_nextToken 54 = .ok (.aload_n 0, 1) := by decide +kernel
theorem dX3_nextToken_55 : decode cX3_nextToken 55 = .ok (.aload_n 0, 1) := by decide +kernel
theorem dX3_nextToken_56 : decode cX3_nextToken 56 = .ok (.getfield 42, 3) := by decide +kernel
theorem dX3_nextToken_59 : decode cX3_nextToken 59 = .ok (.aload_n 0, 1) := by decide +kernel
theorem dX3_nextToken_60 : decode cX3_nextToken 60 = .ok (.getfield 27, 3) := by decide +kernel
theorem dX3_nextToken_63 : decode cX3_nextToken 63 = .ok (.if_icmp .ge 18, 3) := by decide +kernel
theorem dX3_nextToken_66 : decode cX3_nextToken 66 = .ok (.aload_n 0, 1) := by decide +kernel
theorem dX3_nextToken_67 : decode cX3_nextToken 67 = .ok (.getfield 34, 3) := by decide +kernel
theorem dX3_nextToken_70 : decode cX3_nextToken 70 = .ok (.aload_n 0, 1) := by decide +kernel
theorem dX3_nextToken_71 : decode cX3_nextToken 71 = .ok (.getfield 42, 3) := by decide +kernel
theorem dX3_nextToken_74 : decode cX3_nextToken 74 = .ok (.baload, 1) := by decide +kernel
theorem dX3_nextToken_75 : decode cX3_nextToken 75 = .ok (.invokestatic 69, 3) := by decide +kernel
theorem dX3_nextToken_78 : decode cX3_nextToken 78 = .ok (.goto 4, 3) := by decide +kernel
theorem dX3_nextToken_81 : decode cX3_nextToken 81 = .ok (.iconst 0, 1) := by decide +kernel
theorem dX3_nextToken_82 : decode cX3_nextToken 82 = .ok (.putfield 54, 3) := by decide +kernel
theorem dX3_nextToken_85 : decode cX3_nextToken 85 = .ok (.aload_n 0, 1) := by decide +kernel
theorem dX3_nextToken_86 : decode cX3_nextToken 86 = .ok (.iconst 0, 1) := by decide +kernel
theorem dX3_nextToken_87 : decode cX3_nextToken 87 = .ok (.putfield 73, 3) := by decide +kernel
theorem dX3_nextToken_90 : decode cX3_nextToken 90 = .ok (.aload_n 0, 1) := by decide +kernel
theorem dX3_nextToken_91 : decode cX3_nextToken 91 = .ok (.getfield 54, 3) := by decide +kernel
theorem dX3_nextToken_94 : decode cX3_nextToken 94 = .ok (.iconst 1, 1) := by decide +kernel
theorem dX3_nextToken_95 : decode cX3_nextToken 95 = .ok (.if_icmp .eq 11, 3) := by decide +kernel
theorem dX3_nextToken_98 : decode cX3_nextToken 98 = .ok (.aload_n 0, 1) := by decide +kernel
theorem dX3_nextToken_99 : decode cX3_nextToken 99 = .ok (.getfield 54, 3) := by decide +kernel
theorem dX3_nextToken_102 : decode cX3_nextToken 102 = .ok (.iconst 2, 1) := by decide +kernel
theorem dX3_nextToken_103 : decode cX3_nextToken 103 = .ok (.if_icmp .ne 10, 3) := by decide +kernel
theorem dX3_nextToken_106 : decode cX3_nextToken 106 = .ok (.aload_n 0, 1) := by decide +kernel
theorem dX3_nextToken_107 : decode cX3_nextToken 107 = .ok (.getfield 27, 3) := by decide +kernel
theorem dX3_nextToken_110 : decode cX3_nextToken 110 = .ok (.goto 16, 3) := by decide +kernel
theorem dX3_nextToken_113 : decode cX3_nextToken 113 = .ok (.aload_n 0, 1) := by decide +kernel
theorem dX3_nextToken_114 : decode cX3_nextToken 114 = .ok (.getfield 66, 3) := by decide +kernel
theorem dX3_nextToken_117 : decode cX3_nextToken 117 = .ok (.iconst 1, 1) := by decide +kernel
theorem dX3_nextToken_118 : decode cX3_nextToken 118 = .ok (.iadd, 1) := by decide +kernel
theorem dX3_nextToken_119 : decode cX3_nextToken 119 = .ok (.aload_n 0, 1) := by decide +kernel
theorem dX3_nextToken_120 : decode cX3_nextToken 120 = .ok (.getfield 27, 3) := by decide +kernel
theorem dX3_nextToken_123 : decode cX3_nextToken 123 = .ok (.invokestatic 76, 3) := by decide +kernel
theorem dX3_nextToken_126 : decode cX3_nextToken 126 = .ok (.istore_n 1, 1) := by decide +kernel
theorem dX3_nextToken_127 : decode cX3_nextToken 127 = .ok (.aload_n 0, 1) := by decide +kernel
theorem dX3_nextToken_128 : decode cX3_nextToken 128 = .ok (.getfield 42, 3) := by decide +kernel
theorem dX3_nextToken_131 : decode cX3_nextToken 131 = .ok (.iload_n 1, 1) := by decide +kernel
theorem dX3_nextToken_132 : decode cX3_nextToken 132 = .ok (.if_icmp .ge 59, 3) := by decide +kernel
theorem dX3_nextToken_135 : decode cX3_nextToken 135 = .ok (.aload_n 0, 1) := by decide +kernel
theorem dX3_nextToken_136 : decode cX3_nextToken 136 = .ok (.getfield 34, 3) := by decide +kernel
theorem dX3_nextToken_139 : decode cX3_nextToken 139 = .ok (.aload_n 0, 1) := by decide +kernel
theorem dX3_nextToken_140 : decode cX3_nextToken 140 = .ok (.getfield 42, 3) := by decide +kernel
theorem dX3_nextToken_143 : decode cX3_nextToken 143 = .ok (.baload, 1) := by decide +kernel
theorem dX3_nextToken_144 : decode cX3_nextToken 144 = .ok (.invokestatic 69, 3) := by decide +kernel
theorem dX3_nextToken_147 : decode cX3_nextToken 147 = .ok (.aload_n 0, 1) := by decide +kernel
theorem dX3_nextToken_148 : decode cX3_nextToken 148 = .ok (.getfield 54, 3) := by decide +kernel
theorem dX3_nextToken_151 : decode cX3_nextToken 151 = .ok (.if_icmp .ne 40, 3) := by decide +kernel
theorem dX3_nextToken_154 : decode cX3_nextToken 154 = .ok (.aload_n 0, 1) := by decide +kernel
theorem dX3_nextToken_155 : decode cX3_nextToken 155 = .ok (.aload_n 0, 1) := by decide +kernel
theorem dX3_nextToken_156 : decode cX3_nextToken 156 = .ok (.getfield 73, 3) := by decide +kernel
theorem dX3_nextToken_159 : decode cX3_nextToken 159 = .ok (.bipush 10, 2) := by decide +kernel
theorem dX3_nextToken_161 : decode cX3_nextToken 161 = .ok (.imul, 1) := by decide +kernel
theorem dX3_nextToken_162 : decode cX3_nextToken 162 = .ok (.aload_n 0, 1) := by decide +kernel
theorem dX3_nextToken_163 : decode cX3_nextToken 163 = .ok (.getfield 34, 3) := by decide +kernel
theorem dX3_nextToken_166 : decode cX3_nextToken 166 = .ok (.aload_n 0, 1) := by decide +kernel
theorem dX3_nextToken_167 : decode cX3_nextToken 167 = .ok (.getfield 42, 3) := by decide +kernel
theorem dX3_nextToken_170 : decode cX3_nextToken 170 = .ok (.baload, 1) := by decide +kernel
theorem dX3_nextToken_171 : decode cX3_nextToken 171 = .ok (.iadd, 1) := by decide +kernel
theorem dX3_nextToken_172 : decode cX3_nextToken 172 = .ok (.bipush 48, 2) := by decide +kernel
theorem dX3_nextToken_174 : decode cX3_nextToken 174 = .ok (.isub, 1) := by decide +kernel
theorem dX3_nextToken_175 : decode cX3_nextToken 175 = .ok (.putfield 73, 3) := by decide +kernel
theorem dX3_nextToken_178 : decode cX3_nextToken 178 = .ok (.aload_n 0, 1) := by decide +kernel
theorem dX3_nextToken_179 : decode cX3_nextToken 179 = .ok (.dup, 1) := by decide +kernel
theorem dX3_nextToken_180 : decode cX3_nextToken 180 = .ok (.getfield 42, 3) := by decide +kernel
theorem dX3_nextToken_183 : decode cX3_nextToken 183 = .ok (.iconst 1, 1) := by decide +kernel
theorem dX3_nextToken_184 : decode cX3_nextToken 184 = .ok (.iadd, 1) := by decide +kernel
theorem dX3_nextToken_185 : decode cX3_nextToken 185 = .ok (.putfield 42, 3) := by decide +kernel
theorem dX3_nextToken_188 : decode cX3_nextToken 188 = .ok (.goto (-61), 3) := by decide +kernel
theorem dX3_nextToken_191 : decode cX3_nextToken 191 = .ok (.aload_n 0, 1) := by decide +kernel
theorem dX3_nextToken_192 : decode cX3_nextToken 192 = .ok (.getfield 54, 3) := by decide +kernel
theorem dX3_nextToken_195 : decode cX3_nextToken 195 = .ok (.iconst 4, 1) := by decide +kernel
theorem dX3_nextToken_196 : decode cX3_nextToken 196 = .ok (.if_icmp .eq 24, 3) := by decide +kernel
theorem dX3_nextToken_199 : decode cX3_nextToken 199 = .ok (.aload_n 0, 1) := by decide +kernel
theorem dX3_nextToken_200 : decode cX3_nextToken 200 = .ok (.getfield 54, 3) := by decide +kernel
theorem dX3_nextToken_203 : decode cX3_nextToken 203 = .ok (.iconst 2, 1) := by decide +kernel
theorem dX3_nextToken_204 : decode cX3_nextToken 204 = .ok (.if_icmp .ne 25, 3) := by decide +kernel
theorem dX3_nextToken_207 : decode cX3_nextToken 207 = .ok (.aload_n 0, 1) := by decide +kernel
theorem dX3_nextToken_208 : decode cX3_nextToken 208 = .ok (.getfield 42, 3) := by decide +kernel
theorem dX3_nextToken_211 : decode cX3_nextToken 211 = .ok (.aload_n 0, 1) := by decide +kernel
theorem dX3_nextToken_212 : decode cX3_nextToken 212 = .ok (.getfield 66, 3) := by decide +kernel
theorem dX3_nextToken_215 : decode cX3_nextToken 215 = .ok (.isub, 1) := by decide +kernel
theorem dX3_nextToken_216 : decode cX3_nextToken 216 = .ok (.iconst 2, 1) := by decide +kernel
theorem dX3_nextToken_217 : decode cX3_nextToken 217 = .ok (.if_icmp .le 12, 3) := by decide +kernel
theorem dX3_nextToken_220 : decode cX3_nextToken 220 = .ok (.aload_n 0, 1) := by decide +kernel
theorem dX3_nextToken_221 : decode cX3_nextToken 221 = .ok (.iconst 1, 1) := by decide +kernel
theorem dX3_nextToken_222 : decode cX3_nextToken 222 = .ok (.aload_n 0, 1) := by decide +kernel
theorem dX3_nextToken_223 : decode cX3_nextToken 223 = .ok (.getfield 66, 3) := by decide +kernel
theorem dX3_nextToken_226 : decode cX3_nextToken 226 = .ok (.invokevirtual 82, 3) := by decide +kernel
theorem dX3_nextToken_229 : decode cX3_nextToken 229 = .ok (.return_, 1) := by decide +kernel
theorem dX3_kindOf_0 : decode cX3_kindOf 0 = .ok (.iload_n 0, 1) := by decide +kernel
theorem dX3_kindOf_1 : decode cX3_kindOf 1 = .ok (.bipush 97, 2) := by decide +kernel
theorem dX3_kindOf_3 : decode cX3_kindOf 3 = .ok (.if_icmp .lt 11, 3) := by decide +kernel
theorem dX3_kindOf_6 : decode cX3_kindOf 6 = .ok (.iload_n 0, 1) := by decide +kernel
theorem dX3_kindOf_7 : decode cX3_kindOf 7 = .ok (.bipush 122, 2) := by decide +kernel
theorem dX3_kindOf_9 : decode cX3_kindOf 9 = .ok (.if_icmp .gt 5, 3) := by decide +kernel
theorem dX3_kindOf_12 : decode cX3_kindOf 12 = .ok (.iconst 1, 1) := by decide +kernel
theorem dX3_kindOf_13 : decode cX3_kindOf 13 = .ok (.ireturn, 1) := by decide +kernel
theorem dX3_kindOf_14 : decode cX3_kindOf 14 = .ok (.iload_n 0, 1) := by decide +kernel
theorem dX3_kindOf_15 : decode cX3_kindOf 15 = .ok (.bipush 48, 2) := by decide +kernel
theorem dX3_kindOf_17 : decode cX3_kindOf 17 = .ok (.if_icmp .lt 11, 3) := by decide +kernel
theorem dX3_kindOf_20 : decode cX3_kindOf 20 = .ok (.iload_n 0, 1) := by decide +kernel
theorem dX3_kindOf_21 : decode cX3_kindOf 21 = .ok (.bipush 57, 2) := by decide +kernel
theorem dX3_kindOf_23 : decode cX3_kindOf 23 = .ok (.if_icmp .gt 5, 3) := by decide +kernel
theorem dX3_kindOf_26 : decode cX3_kindOf 26 = .ok (.iconst 2, 1) := by decide +kernel
theorem dX3_kindOf_27 : decode cX3_kindOf 27 = .ok (.ireturn, 1) := by decide +kernel
theorem dX3_kindOf_28 : decode cX3_kindOf 28 = .ok (.iload_n 0, 1) := by decide +kernel
theorem dX3_kindOf_29 : decode cX3_kindOf 29 = .ok (.bipush 59, 2) := by decide +kernel
theorem dX3_kindOf_31 : decode cX3_kindOf 31 = .ok (.if_icmp .ne 7, 3) := by decide +kernel
theorem dX3_kindOf_34 : decode cX3_kindOf 34 = .ok (.iconst 3, 1) := by decide +kernel
theorem dX3_kindOf_35 : decode cX3_kindOf 35 = .ok (.goto 4, 3) := by decide +kernel
theorem dX3_kindOf_38 : decode cX3_kindOf 38 = .ok (.iconst 4, 1) := by decide +kernel
theorem dX3_kindOf_39 : decode cX3_kindOf 39 = .ok (.ireturn, 1) := by decide +kernel
set_option maxRecDepth 20000 in
theorem ggX3_isWord_J0_length_8abf5 : GoodIn wsX3_isWord wsJ0_length_8abf5 := goodIn_r _ [10, 11, 12, 13, 14, 9, 15, 16, 17] (by decide +kernel) (by decide +kernel)
set_option maxRecDepth 20000 in
theorem gX3_isWord_J0_length_8abf5 : GoodIn wsX3_isWord (wsV RX3 86 RJ0 yJ0_length_8abf5 wsJ0_length_8abf5) := goodIn_app (goodIn_of _ (by decide +kernel)) ggX3_isWord_J0_length_8abf5
set_option maxRecDepth 20000 in
theorem ggX3_isWord_J0_charAt_5068e : GoodIn wsX3_isWord wsJ0_charAt_5068e := goodIn_r _ [21, 11, 22, 23, 24, 9, 25, 16, 17, 26, 27, 28, 29, 30, 31, 32, 33, 34, 35, 36, 37, 38, 39, 40, 41, 42, 43, 44, 45, 46, 47, 48, 49, 50, 51, 52, 53, 54] (by decide +kernel) (by decide +kernel)
set_option maxRecDepth 20000 in
theorem gX3_isWord_J0_charAt_5068e : GoodIn wsX3_isWord (wsV RX3 91 RJ0 yJ0_charAt_5068e wsJ0_charAt_5068e) := goodIn_app (goodIn_of _ (by decide +kernel)) ggX3_isWord_J0_charAt_5068e
theorem dX3_isWord_0 : decode cX3_isWord 0 = .ok (.aload_n 0, 1) := by decide +kernel
theorem dX3_isWord_1 : decode cX3_isWord 1 = .ok (.getfield 31, 3) := by decide +kernel
theorem dX3_isWord_4 : decode cX3_isWord 4 = .ok (.ifCond .ne 27, 3) := by decide +kernel
theorem dX3_isWord_7 : decode cX3_isWord 7 = .ok (.aload_n 0, 1) := by decide +kernel
theorem dX3_isWord_8 : decode cX3_isWord 8 = .ok (.getfield 54, 3) := by decide +kernel
theorem dX3_isWord_11 : decode cX3_isWord 11 = .ok (.iconst 1, 1) := by decide +kernel
theorem dX3_isWord_12 : decode cX3_isWord 12 = .ok (.if_icmp .ne 19, 3) := by decide +kernel
theorem dX3_isWord_15 : decode cX3_isWord 15 = .ok (.aload_n 0, 1) := by decide +kernel
theorem dX3_isWord_16 : decode cX3_isWord 16 = .ok (.getfield 42, 3) := by decide +kernel
theorem dX3_isWord_19 : decode cX3_isWord 19 = .ok (.aload_n 0, 1) := by decide +kernel
theorem dX3_isWord_20 : decode cX3_isWord 20 = .ok (.getfield 66, 3) := by decide +kernel
theorem dX3_isWord_23 : decode cX3_isWord 23 = .ok (.isub, 1) := by decide +kernel
theorem dX3_isWord_24 : decode cX3_isWord 24 = .ok (.aload_n 1, 1) := by decide +kernel
theorem dX3_isWord_25 : decode cX3_isWord 25 = .ok (.invokevirtual 86, 3) := by decide +kernel
theorem dX3_isWord_28 : decode cX3_isWord 28 = .ok (.if_icmp .eq 5, 3) := by decide +kernel
theorem dX3_isWord_31 : decode cX3_isWord 31 = .ok (.iconst 0, 1) := by decide +kernel
theorem dX3_isWord_32 : decode cX3_isWord 32 = .ok (.ireturn, 1) := by decide +kernel
theorem dX3_isWord_33 : decode cX3_isWord 33 = .ok (.iconst 0, 1) := by decide +kernel
theorem dX3_isWord_34 : decode cX3_isWord 34 = .ok (.istore_n 2, 1) := by decide +kernel
theorem dX3_isWord_35 : decode cX3_isWord 35 = .ok (.iload_n 2, 1) := by decide +kernel
theorem dX3_isWord_36 : decode cX3_isWord 36 = .ok (.aload_n 1, 1) := by decide +kernel
theorem dX3_isWord_37 : decode cX3_isWord 37 = .ok (.invokevirtual 86, 3) := by decide +kernel
theorem dX3_isWord_40 : decode cX3_isWord 40 = .ok (.if_icmp .ge 30, 3) := by decide +kernel
theorem dX3_isWord_43 : decode cX3_isWord 43 = .ok (.aload_n 0, 1) := by decide +kernel
theorem dX3_isWord_44 : decode cX3_isWord 44 = .ok (.getfield 34, 3) := by decide +kernel
theorem dX3_isWord_47 : decode cX3_isWord 47 = .ok (.aload_n 0, 1) := by decide +kernel
theorem dX3_isWord_48 : decode cX3_isWord 48 = .ok (.getfield 66, 3) := by decide +kernel
theorem dX3_isWord_51 : decode cX3_isWord 51 = .ok (.iload_n 2, 1) := by decide +kernel
theorem dX3_isWord_52 : decode cX3_isWord 52 = .ok (.iadd, 1) := by decide +kernel
theorem dX3_isWord_53 : decode cX3_isWord 53 = .ok (.baload, 1) := by decide +kernel
theorem dX3_isWord_54 : decode cX3_isWord 54 = .ok (.aload_n 1, 1) := by decide +kernel
theorem dX3_isWord_55 : decode cX3_isWord 55 = .ok (.iload_n 2, 1) := by decide +kernel
theorem dX3_isWord_56 : decode cX3_isWord 56 = .ok (.invokevirtual 91, 3) := by decide +kernel
theorem dX3_isWord_59 : decode cX3_isWord 59 = .ok (.if_icmp .eq 5, 3) := by decide +kernel
theorem dX3_isWord_62 : decode cX3_isWord 62 = .ok (.iconst 0, 1) := by decide +kernel
theorem dX3_isWord_63 : decode cX3_isWord 63 = .ok (.ireturn, 1) := by decide +kernel
theorem dX3_isWord_64 : decode cX3_isWord 64 = .ok (.iinc 2 1, 3) := by decide +kernel
theorem dX3_isWord_67 : decode cX3_isWord 67 = .ok (.goto (-32), 3) := by decide +kernel
theorem dX3_isWord_70 : decode cX3_isWord 70 = .ok (.iconst 1, 1) := by decide +kernel
theorem dX3_isWord_71 : decode cX3_isWord 71 = .ok (.ireturn, 1) := by decide +kernel
set_option maxRecDepth 20000 in
theorem ggX3_readLine_X3_isWord : GoodIn wsX3_readLine wsX3_isWord := goodIn_r _ [12, 13, 14, 15, 7, 16, 17, 18, 19, 20, 21, 22, 23, 24, 25, 26, 27, 28, 29, 30, 31, 32, 33, 34, 35, 36, 37, 38, 39, 40, 41, 42, 43, 44, 45, 46, 47, 48, 49, 50, 51, 52, 53, 54, 55, 56, 57, 58, 59, 60, 61, 62, 63, 64, 65, 120, 121, 122, 123, 124, 125, 126, 127, 128, 129, 130, 131] (by decide +kernel) (by decide +kernel)
set_option maxRecDepth 20000 in
theorem gX3_readLine_X3_isWord : GoodIn wsX3_readLine (wsV RX3 97 RX3 yX3_isWord wsX3_isWord) := goodIn_app (goodIn_of _ (by decide +kernel)) ggX3_readLine_X3_isWord
set_option maxRecDepth 20000 in
theorem ggX3_readLine_X3_tellOnce : GoodIn wsX3_readLine wsX3_tellOnce := goodIn_r _ [69, 70, 7, 71, 72, 73, 11, 74, 13, 75, 120, 121, 122, 123, 124, 125, 126, 127, 128, 129, 130, 131] (by decide +kernel) (by decide +kernel)
set_option maxRecDepth 20000 in
theorem gX3_readLine_X3_tellOnce : GoodIn wsX3_readLine (wsV RX3 101 RX3 yX3_tellOnce wsX3_tellOnce) := goodIn_app (goodIn_of _ (by decide +kernel)) ggX3_readLine_X3_tellOnce
set_option maxRecDepth 20000 in
theorem ggX3_readLine_X3_nextWithin : GoodIn wsX3_readLine wsX3_nextWithin := goodIn_r _ [79, 13, 14, 7, 80, 81, 82, 83, 11, 84, 15, 85, 16, 86, 87, 88, 89, 90, 91, 92, 71, 72, 73, 74, 75, 93, 94, 95, 120, 121, 122, 123, 124, 125, 126, 127, 128, 129, 130, 131] (by decide +kernel) (by decide +kernel)
set_option maxRecDepth 20000 in
theorem gX3_readLine_X3_nextWithin : GoodIn wsX3_readLine (wsV RX3 105 RX3 yX3_nextWithin wsX3_nextWithin) := goodIn_app (goodIn_of _ (by decide +kernel)) ggX3_readLine_X3_nextWithin
set_option maxRecDepth 20000 in
theorem ggX3_readLine_X3_readDoor : GoodIn wsX3_readLine wsX3_readDoor := goodIn_r _ [99, 1, 100, 7, 101, 3, 102, 71, 72, 73, 11, 74, 13, 75, 76, 77, 78, 79, 14, 80, 81, 82, 83, 84, 15, 85, 16, 86, 87, 88, 89, 90, 91, 92, 93, 94, 95, 120, 121, 122, 123, 124, 125, 126, 127, 128, 129, 130, 131, 132, 133, 134, 135, 136, 137, 138, 139, 140, 141, 142, 143, 144, 145, 146, 147, 148] (by decide +kernel) (by decide +kernel)
set_option maxRecDepth 20000 in
theorem gX3_readLine_X3_readDoor : GoodIn wsX3_readLine (wsV RX3 112 RX3 yX3_readDoor wsX3_readDoor) := goodIn_app (goodIn_of _ (by decide +kernel)) ggX3_readLine_X3_readDoor
set_option maxRecDepth 20000 in
theorem ggX3_readLine_X3_readRule : GoodIn wsX3_readLine wsX3_readRule := goodIn_r _ [106, 1, 107, 7, 108, 71, 72, 73, 11, 74, 13, 75, 76, 77, 78, 79, 14, 80, 81, 82, 83, 84, 15, 85, 16, 86, 87, 88, 89, 90, 91, 92, 93, 94, 95, 120, 121, 122, 123, 124, 125, 126, 127, 128, 129, 130, 131, 132, 133, 134, 135, 136, 137] (by decide +kernel) (by decide +kernel)
set_option maxRecDepth 20000 in
theorem gX3_readLine_X3_readRule : GoodIn wsX3_readLine (wsV RX3 121 RX3 yX3_readRule wsX3_readRule) := goodIn_app (goodIn_of _ (by decide +kernel)) ggX3_readLine_X3_readRule
set_option maxRecDepth 20000 in
theorem ggX3_readLine_X3_readBeast : GoodIn wsX3_readLine wsX3_readBeast := goodIn_r _ [112, 3, 113, 114, 7, 66, 67, 68, 11, 69, 70, 71, 72, 73, 74, 13, 75, 76, 77, 78, 79, 14, 80, 81, 82, 83, 84, 15, 85, 16, 86, 87, 88, 89, 90, 91, 92, 93, 94, 95, 8, 9, 10, 12, 17, 18, 19, 20, 21, 22, 23, 24, 25, 26, 27, 28, 29, 30, 31, 32, 33, 34, 35, 36, 37, 38, 39, 40, 41, 42, 43, 44, 45, 46, 47, 48, 49, 50, 51, 52, 53, 54, 55, 56, 57, 58, 59, 60, 61, 62, 63, 64, 65, 120, 121, 122, 123, 124, 125, 126, 127, 128, 129, 130, 131, 138, 139, 140, 141, 142, 143, 144, 145, 146, 147, 148] (by decide +kernel) (by decide +kernel)
set_option maxRecDepth 20000 in
theorem gX3_readLine_X3_readBeast : GoodIn wsX3_readLine (wsV RX3 135 RX3 yX3_readBeast wsX3_readBeast) := goodIn_app (goodIn_of _ (by decide +kernel)) ggX3_readLine_X3_readBeast
set_option maxRecDepth 20000 in
theorem ggX3_readLine_X3_fail : GoodIn wsX3_readLine wsX3_fail := goodIn_r _ [74, 13, 75, 120, 121, 122, 123, 124, 125, 126, 127, 128, 129, 130, 131] (by decide +kernel) (by decide +kernel)
set_option maxRecDepth 20000 in
theorem gX3_readLine_X3_fail : GoodIn wsX3_readLine (wsV RX3 82 RX3 yX3_fail wsX3_fail) := goodIn_app (goodIn_of _ (by decide +kernel)) ggX3_readLine_X3_fail
set_option maxRecDepth 20000 in
theorem ggX3_readLine_X3_closeLine : GoodIn wsX3_readLine wsX3_closeLine := goodIn_r _ [118, 3, 119, 1, 100, 14, 7, 81, 82, 83, 11, 84, 13, 15, 85, 16, 80, 86, 87, 88, 89, 90, 91, 92, 71, 72, 73, 74, 75, 8, 9, 10, 12, 17, 18, 19, 20, 21, 22, 23, 24, 25, 26, 27, 28, 29, 30, 31, 32, 33, 34, 35, 36, 37, 38, 39, 40, 41, 42, 43, 44, 45, 46, 47, 48, 49, 50, 51, 52, 53, 54, 55, 56, 57, 58, 59, 60, 61, 62, 63, 64, 65, 120, 121, 122, 123, 124, 125, 126, 127, 128, 129, 130, 131, 138, 139, 140, 141, 142, 143, 144, 145, 146, 147, 148, 132, 133, 134, 135, 136, 137] (by decide +kernel) (by decide +kernel)
set_option maxRecDepth 20000 in
theorem gX3_readLine_X3_closeLine : GoodIn wsX3_readLine (wsV RX3 143 RX3 yX3_closeLine wsX3_closeLine) := goodIn_app (goodIn_of _ (by decide +kernel)) ggX3_readLine_X3_closeLine
theorem dX3_readLine_0 : decode cX3_readLine 0 = .ok (.iconst 0, 1) := by decide +kernel
theorem dX3_readLine_1 : decode cX3_readLine 1 = .ok (.istore_n 1, 1) := by decide +kernel
theorem dX3_readLine_2 : decode cX3_readLine 2 = .ok (.aload_n 0, 1) := by decide +kernel
theorem dX3_readLine_3 : decode cX3_readLine 3 = .ok (.ldc 95, 2) := by decide +kernel
theorem dX3_readLine_5 : decode cX3_readLine 5 = .ok (.invokevirtual 97, 3) := by decide +kernel
theorem dX3_readLine_8 : decode cX3_readLine 8 = .ok (.ifCond .eq 25, 3) := by decide +kernel
theorem dX3_readLine_11 : decode cX3_readLine 11 = .ok (.aload_n 0, 1) := by decide +kernel
theorem dX3_readLine_12 : decode cX3_readLine 12 = .ok (.iconst 1, 1) := by decide +kernel
theorem dX3_readLine_13 : decode cX3_readLine 13 = .ok (.invokevirtual 101, 3) := by decide +kernel
theorem dX3_readLine_16 : decode cX3_readLine 16 = .ok (.aload_n 0, 1) := by decide +kernel
theorem dX3_readLine_17 : decode cX3_readLine 17 = .ok (.getfield 12, 3) := by decide +kernel
theorem dX3_readLine_20 : decode cX3_readLine 20 = .ok (.aload_n 0, 1) := by decide +kernel
theorem dX3_readLine_21 : decode cX3_readLine 21 = .ok (.iconst 2, 1) := by decide +kernel
theorem dX3_readLine_22 : decode cX3_readLine 22 = .ok (.bipush 7, 2) := by decide +kernel
theorem dX3_readLine_24 : decode cX3_readLine 24 = .ok (.invokevirtual 105, 3) := by decide +kernel
theorem dX3_readLine_27 : decode cX3_readLine 27 = .ok (.putfield 108, 3) := by decide +kernel
theorem dX3_readLine_30 : decode cX3_readLine 30 = .ok (.goto 194, 3) := by decide +kernel
theorem dX3_readLine_33 : decode cX3_readLine 33 = .ok (.aload_n 0, 1) := by decide +kernel
theorem dX3_readLine_34 : decode cX3_readLine 34 = .ok (.ldc 110, 2) := by decide +kernel
theorem dX3_readLine_36 : decode cX3_readLine 36 = .ok (.invokevirtual 97, 3) := by decide +kernel
theorem dX3_readLine_39 : decode cX3_readLine 39 = .ok (.ifCond .eq 12, 3) := by decide +kernel
theorem dX3_readLine_42 : decode cX3_readLine 42 = .ok (.aload_n 0, 1) := by decide +kernel
theorem dX3_readLine_43 : decode cX3_readLine 43 = .ok (.invokevirtual 112, 3) := by decide +kernel
theorem dX3_readLine_46 : decode cX3_readLine 46 = .ok (.iconst 1, 1) := by decide +kernel
theorem dX3_readLine_47 : decode cX3_readLine 47 = .ok (.istore_n 1, 1) := by decide +kernel
theorem dX3_readLine_48 : decode cX3_readLine 48 = .ok (.goto 176, 3) := by decide +kernel
theorem dX3_readLine_51 : decode cX3_readLine 51 = .ok (.aload_n 0, 1) := by decide +kernel
theorem dX3_readLine_52 : decode cX3_readLine 52 = .ok (.ldc 115, 2) := by decide +kernel
theorem dX3_readLine_54 : decode cX3_readLine 54 = .ok (.invokevirtual 97, 3) := by decide +kernel
theorem dX3_readLine_57 : decode cX3_readLine 57 = .ok (.ifCond .eq 25, 3) := by decide +kernel
theorem dX3_readLine_60 : decode cX3_readLine 60 = .ok (.aload_n 0, 1) := by decide +kernel
theorem dX3_readLine_61 : decode cX3_readLine 61 = .ok (.iconst 2, 1) := by decide +kernel
theorem dX3_readLine_62 : decode cX3_readLine 62 = .ok (.invokevirtual 101, 3) := by decide +kernel
theorem dX3_readLine_65 : decode cX3_readLine 65 = .ok (.aload_n 0, 1) := by decide +kernel
theorem dX3_readLine_66 : decode cX3_readLine 66 = .ok (.getfield 23, 3) := by decide +kernel
theorem dX3_readLine_69 : decode cX3_readLine 69 = .ok (.aload_n 0, 1) := by decide +kernel
theorem dX3_readLine_70 : decode cX3_readLine 70 = .ok (.iconst 1, 1) := by decide +kernel
theorem dX3_readLine_71 : decode cX3_readLine 71 = .ok (.bipush 6, 2) := by decide +kernel
theorem dX3_readLine_73 : decode cX3_readLine 73 = .ok (.invokevirtual 105, 3) := by decide +kernel
theorem dX3_readLine_76 : decode cX3_readLine 76 = .ok (.putfield 117, 3) := by decide +kernel
theorem dX3_readLine_79 : decode cX3_readLine 79 = .ok (.goto 145, 3) := by decide +kernel
theorem dX3_readLine_82 : decode cX3_readLine 82 = .ok (.aload_n 0, 1) := by decide +kernel
theorem dX3_readLine_83 : decode cX3_readLine 83 = .ok (.ldc 119, 2) := by decide +kernel
theorem dX3_readLine_85 : decode cX3_readLine 85 = .ok (.invokevirtual 97, 3) := by decide +kernel
theorem dX3_readLine_88 : decode cX3_readLine 88 = .ok (.ifCond .eq 11, 3) := by decide +kernel
theorem dX3_readLine_91 : decode cX3_readLine 91 = .ok (.aload_n 0, 1) := by decide +kernel
theorem dX3_readLine_92 : decode cX3_readLine 92 = .ok (.iconst 0, 1) := by decide +kernel
theorem dX3_readLine_93 : decode cX3_readLine 93 = .ok (.invokevirtual 121, 3) := by decide +kernel
theorem dX3_readLine_96 : decode cX3_readLine 96 = .ok (.goto 128, 3) := by decide +kernel
theorem dX3_readLine_99 : decode cX3_readLine 99 = .ok (.aload_n 0, 1) := by decide +kernel
theorem dX3_readLine_100 : decode cX3_readLine 100 = .ok (.ldc 124, 2) := by decide +kernel
theorem dX3_readLine_102 : decode cX3_readLine 102 = .ok (.invokevirtual 97, 3) := by decide +kernel
theorem dX3_readLine_105 : decode cX3_readLine 105 = .ok (.ifCond .eq 12, 3) := by decide +kernel
theorem dX3_readLine_108 : decode cX3_readLine 108 = .ok (.aload_n 0, 1) := by decide +kernel
theorem dX3_readLine_109 : decode cX3_readLine 109 = .ok (.bipush 100, 2) := by decide +kernel
theorem dX3_readLine_111 : decode cX3_readLine 111 = .ok (.invokevirtual 121, 3) := by decide +kernel
theorem dX3_readLine_114 : decode cX3_readLine 114 = .ok (.goto 110, 3) := by decide +kernel
theorem dX3_readLine_117 : decode cX3_readLine 117 = .ok (.aload_n 0, 1) := by decide +kernel
theorem dX3_readLine_118 : decode cX3_readLine 118 = .ok (.ldc 126, 2) := by decide +kernel
theorem dX3_readLine_120 : decode cX3_readLine 120 = .ok (.invokevirtual 97, 3) := by decide +kernel
theorem dX3_readLine_123 : decode cX3_readLine 123 = .ok (.ifCond .eq 13, 3) := by decide +kernel
theorem dX3_readLine_126 : decode cX3_readLine 126 = .ok (.aload_n 0, 1) := by decide +kernel
theorem dX3_readLine_127 : decode cX3_readLine 127 = .ok (.sipush 200, 3) := by decide +kernel
theorem dX3_readLine_130 : decode cX3_readLine 130 = .ok (.invokevirtual 121, 3) := by decide +kernel
theorem dX3_readLine_133 : decode cX3_readLine 133 = .ok (.goto 91, 3) := by decide +kernel
theorem dX3_readLine_136 : decode cX3_readLine 136 = .ok (.aload_n 0, 1) := by decide +kernel
theorem dX3_readLine_137 : decode cX3_readLine 137 = .ok (.ldc 128, 2) := by decide +kernel
theorem dX3_readLine_139 : decode cX3_readLine 139 = .ok (.invokevirtual 97, 3) := by decide +kernel
theorem dX3_readLine_142 : decode cX3_readLine 142 = .ok (.ifCond .eq 25, 3) := by decide +kernel
theorem dX3_readLine_145 : decode cX3_readLine 145 = .ok (.aload_n 0, 1) := by decide +kernel
theorem dX3_readLine_146 : decode cX3_readLine 146 = .ok (.iconst 4, 1) := by decide +kernel
theorem dX3_readLine_147 : decode cX3_readLine 147 = .ok (.invokevirtual 101, 3) := by decide +kernel
theorem dX3_readLine_150 : decode cX3_readLine 150 = .ok (.aload_n 0, 1) := by decide +kernel
theorem dX3_readLine_151 : decode cX3_readLine 151 = .ok (.getfield 23, 3) := by decide +kernel
theorem dX3_readLine_154 : decode cX3_readLine 154 = .ok (.aload_n 0, 1) := by decide +kernel
theorem dX3_readLine_155 : decode cX3_readLine 155 = .ok (.iconst 0, 1) := by decide +kernel
theorem dX3_readLine_156 : decode cX3_readLine 156 = .ok (.bipush 6, 2) := by decide +kernel
theorem dX3_readLine_158 : decode cX3_readLine 158 = .ok (.invokevirtual 105, 3) := by decide +kernel
theorem dX3_readLine_161 : decode cX3_readLine 161 = .ok (.putfield 130, 3) := by decide +kernel
theorem dX3_readLine_164 : decode cX3_readLine 164 = .ok (.goto 60, 3) := by decide +kernel
theorem dX3_readLine_167 : decode cX3_readLine 167 = .ok (.aload_n 0, 1) := by decide +kernel
theorem dX3_readLine_168 : decode cX3_readLine 168 = .ok (.ldc 133, 2) := by decide +kernel
theorem dX3_readLine_170 : decode cX3_readLine 170 = .ok (.invokevirtual 97, 3) := by decide +kernel
theorem dX3_readLine_173 : decode cX3_readLine 173 = .ok (.ifCond .eq 10, 3) := by decide +kernel
theorem dX3_readLine_176 : decode cX3_readLine 176 = .ok (.aload_n 0, 1) := by decide +kernel
theorem dX3_readLine_177 : decode cX3_readLine 177 = .ok (.invokevirtual 135, 3) := by decide +kernel
theorem dX3_readLine_180 : decode cX3_readLine 180 = .ok (.goto 44, 3) := by decide +kernel
theorem dX3_readLine_183 : decode cX3_readLine 183 = .ok (.aload_n 0, 1) := by decide +kernel
theorem dX3_readLine_184 : decode cX3_readLine 184 = .ok (.ldc 138, 2) := by decide +kernel
theorem dX3_readLine_186 : decode cX3_readLine 186 = .ok (.invokevirtual 97, 3) := by decide +kernel
theorem dX3_readLine_189 : decode cX3_readLine 189 = .ok (.ifCond .eq 26, 3) := by decide +kernel
theorem dX3_readLine_192 : decode cX3_readLine 192 = .ok (.aload_n 0, 1) := by decide +kernel
theorem dX3_readLine_193 : decode cX3_readLine 193 = .ok (.bipush 16, 2) := by decide +kernel
theorem dX3_readLine_195 : decode cX3_readLine 195 = .ok (.invokevirtual 101, 3) := by decide +kernel
theorem dX3_readLine_198 : decode cX3_readLine 198 = .ok (.aload_n 0, 1) := by decide +kernel
theorem dX3_readLine_199 : decode cX3_readLine 199 = .ok (.getfield 12, 3) := by decide +kernel
theorem dX3_readLine_202 : decode cX3_readLine 202 = .ok (.aload_n 0, 1) := by decide +kernel
theorem dX3_readLine_203 : decode cX3_readLine 203 = .ok (.iconst 0, 1) := by decide +kernel
theorem dX3_readLine_204 : decode cX3_readLine 204 = .ok (.bipush 12, 2) := by decide +kernel
theorem dX3_readLine_206 : decode cX3_readLine 206 = .ok (.invokevirtual 105, 3) := by decide +kernel
theorem dX3_readLine_209 : decode cX3_readLine 209 = .ok (.putfield 140, 3) := by decide +kernel
theorem dX3_readLine_212 : decode cX3_readLine 212 = .ok (.goto 12, 3) := by decide +kernel
theorem dX3_readLine_215 : decode cX3_readLine 215 = .ok (.aload_n 0, 1) := by decide +kernel
theorem dX3_readLine_216 : decode cX3_readLine 216 = .ok (.iconst 2, 1) := by decide +kernel
theorem dX3_readLine_217 : decode cX3_readLine 217 = .ok (.aload_n 0, 1) := by decide +kernel
theorem dX3_readLine_218 : decode cX3_readLine 218 = .ok (.getfield 66, 3) := by decide +kernel
theorem dX3_readLine_221 : decode cX3_readLine 221 = .ok (.invokevirtual 82, 3) := by decide +kernel
theorem dX3_readLine_224 : decode cX3_readLine 224 = .ok (.aload_n 0, 1) := by decide +kernel
theorem dX3_readLine_225 : decode cX3_readLine 225 = .ok (.iload_n 1, 1) := by decide +kernel
theorem dX3_readLine_226 : decode cX3_readLine 226 = .ok (.invokevirtual 143, 3) := by decide +kernel
theorem dX3_readLine_229 : decode cX3_readLine 229 = .ok (.return_, 1) := by decide +kernel
set_option maxRecDepth 20000 in
theorem ggX3_tellOnce_X3_fail : GoodIn wsX3_tellOnce wsX3_fail := goodIn_r _ [7, 8, 9, 10, 11, 12, 13, 14, 15, 16, 17, 18, 19, 20, 21] (by decide +kernel) (by decide +kernel)
set_option maxRecDepth 20000 in
theorem gX3_tellOnce_X3_fail : GoodIn wsX3_tellOnce (wsV RX3 82 RX3 yX3_fail wsX3_fail) := goodIn_app (goodIn_of _ (by decide +kernel)) ggX3_tellOnce_X3_fail
theorem dX3_tellOnce_0 : decode cX3_tellOnce 0 = .ok (.aload_n 0, 1) := by decide +kernel
theorem dX3_tellOnce_1 : decode cX3_tellOnce 1 = .ok (.getfield 45, 3) := by decide +kernel
theorem dX3_tellOnce_4 : decode cX3_tellOnce 4 = .ok (.iload_n 1, 1) := by decide +kernel
theorem dX3_tellOnce_5 : decode cX3_tellOnce 5 = .ok (.iand, 1) := by decide +kernel
theorem dX3_tellOnce_6 : decode cX3_tellOnce 6 = .ok (.ifCond .eq 12, 3) := by decide +kernel
theorem dX3_tellOnce_9 : decode cX3_tellOnce 9 = .ok (.aload_n 0, 1) := by decide +kernel
theorem dX3_tellOnce_10 : decode cX3_tellOnce 10 = .ok (.iconst 4, 1) := by decide +kernel
theorem dX3_tellOnce_11 : decode cX3_tellOnce 11 = .ok (.aload_n 0, 1) := by decide +kernel
theorem dX3_tellOnce_12 : decode cX3_tellOnce 12 = .ok (.getfield 66, 3) := by decide +kernel
theorem dX3_tellOnce_15 : decode cX3_tellOnce 15 = .ok (.invokevirtual 82, 3) := by decide +kernel
theorem dX3_tellOnce_18 : decode cX3_tellOnce 18 = .ok (.aload_n 0, 1) := by decide +kernel
theorem dX3_tellOnce_19 : decode cX3_tellOnce 19 = .ok (.dup, 1) := by decide +kernel
theorem dX3_tellOnce_20 : decode cX3_tellOnce 20 = .ok (.getfield 45, 3) := by decide +kernel
theorem dX3_tellOnce_23 : decode cX3_tellOnce 23 = .ok (.iload_n 1, 1) := by decide +kernel
theorem dX3_tellOnce_24 : decode cX3_tellOnce 24 = .ok (.ior, 1) := by decide +kernel
theorem dX3_tellOnce_25 : decode cX3_tellOnce 25 = .ok (.putfield 45, 3) := by decide +kernel
theorem dX3_tellOnce_28 : decode cX3_tellOnce 28 = .ok (.return_, 1) := by decide +kernel
set_option maxRecDepth 20000 in
theorem ggX3_nextWithin_X3_nextToken : GoodIn wsX3_nextWithin wsX3_nextToken := goodIn_r _ [9, 1, 10, 11, 12, 3, 2, 4, 13, 14, 15, 16, 17, 18, 8, 19, 20, 21, 22, 23, 24, 28, 29, 30, 31, 32, 33, 34, 35, 36, 37, 38, 39] (by decide +kernel) (by decide +kernel)
set_option maxRecDepth 20000 in
theorem gX3_nextWithin_X3_nextToken : GoodIn wsX3_nextWithin (wsV RX3 51 RX3 yX3_nextToken wsX3_nextToken) := goodIn_app (goodIn_of _ (by decide +kernel)) ggX3_nextWithin_X3_nextToken
set_option maxRecDepth 20000 in
theorem ggX3_nextWithin_X3_fail : GoodIn wsX3_nextWithin wsX3_fail := goodIn_r _ [23, 1, 24, 28, 29, 30, 31, 32, 33, 34, 35, 36, 37, 38, 39] (by decide +kernel) (by decide +kernel)
set_option maxRecDepth 20000 in
theorem gX3_nextWithin_X3_fail : GoodIn wsX3_nextWithin (wsV RX3 82 RX3 yX3_fail wsX3_fail) := goodIn_app (goodIn_of _ (by decide +kernel)) ggX3_nextWithin_X3_fail
set_option maxRecDepth 20000 in
theorem ggX3_nextWithin_X7_isWithin : GoodIn wsX3_nextWithin wsX7_isWithin := goodIn_r _ [27] (by decide +kernel) (by decide +kernel)
set_option maxRecDepth 20000 in
theorem gX3_nextWithin_X7_isWithin_n147 : GoodIn wsX3_nextWithin (wsX7_isWithin) := ggX3_nextWithin_X7_isWithin
theorem dX3_nextWithin_0 : decode cX3_nextWithin 0 = .ok (.aload_n 0, 1) := by decide +kernel
theorem dX3_nextWithin_1 : decode cX3_nextWithin 1 = .ok (.invokevirtual 51, 3) := by decide +kernel
theorem dX3_nextWithin_4 : decode cX3_nextWithin 4 = .ok (.aload_n 0, 1) := by decide +kernel
theorem dX3_nextWithin_5 : decode cX3_nextWithin 5 = .ok (.getfield 31, 3) := by decide +kernel
theorem dX3_nextWithin_8 : decode cX3_nextWithin 8 = .ok (.ifCond .ne 20, 3) := by decide +kernel
theorem dX3_nextWithin_11 : decode cX3_nextWithin 11 = .ok (.aload_n 0, 1) := by decide +kernel
theorem dX3_nextWithin_12 : decode cX3_nextWithin 12 = .ok (.getfield 54, 3) := by decide +kernel
theorem dX3_nextWithin_15 : decode cX3_nextWithin 15 = .ok (.iconst 2, 1) := by decide +kernel
theorem dX3_nextWithin_16 : decode cX3_nextWithin 16 = .ok (.if_icmp .eq 12, 3) := by decide +kernel
theorem dX3_nextWithin_19 : decode cX3_nextWithin 19 = .ok (.aload_n 0, 1) := by decide +kernel
theorem dX3_nextWithin_20 : decode cX3_nextWithin 20 = .ok (.iconst 2, 1) := by decide +kernel
theorem dX3_nextWithin_21 : decode cX3_nextWithin 21 = .ok (.aload_n 0, 1) := by decide +kernel
theorem dX3_nextWithin_22 : decode cX3_nextWithin 22 = .ok (.getfield 66, 3) := by decide +kernel
theorem dX3_nextWithin_25 : decode cX3_nextWithin 25 = .ok (.invokevirtual 82, 3) := by decide +kernel
theorem dX3_nextWithin_28 : decode cX3_nextWithin 28 = .ok (.aload_n 0, 1) := by decide +kernel
theorem dX3_nextWithin_29 : decode cX3_nextWithin 29 = .ok (.getfield 31, 3) := by decide +kernel
theorem dX3_nextWithin_32 : decode cX3_nextWithin 32 = .ok (.ifCond .ne 24, 3) := by decide +kernel
theorem dX3_nextWithin_35 : decode cX3_nextWithin 35 = .ok (.aload_n 0, 1) := by decide +kernel
theorem dX3_nextWithin_36 : decode cX3_nextWithin 36 = .ok (.getfield 73, 3) := by decide +kernel
theorem dX3_nextWithin_39 : decode cX3_nextWithin 39 = .ok (.iload_n 1, 1) := by decide +kernel
theorem dX3_nextWithin_40 : decode cX3_nextWithin 40 = .ok (.iload_n 2, 1) := by decide +kernel
theorem dX3_nextWithin_41 : decode cX3_nextWithin 41 = .ok (.invokestatic 147, 3) := by decide +kernel
theorem dX3_nextWithin_44 : decode cX3_nextWithin 44 = .ok (.ifCond .ne 12, 3) := by decide +kernel
theorem dX3_nextWithin_47 : decode cX3_nextWithin 47 = .ok (.aload_n 0, 1) := by decide +kernel
theorem dX3_nextWithin_48 : decode cX3_nextWithin 48 = .ok (.iconst 3, 1) := by decide +kernel
theorem dX3_nextWithin_49 : decode cX3_nextWithin 49 = .ok (.aload_n 0, 1) := by decide +kernel
theorem dX3_nextWithin_50 : decode cX3_nextWithin 50 = .ok (.getfield 66, 3) := by decide +kernel
theorem dX3_nextWithin_53 : decode cX3_nextWithin 53 = .ok (.invokevirtual 82, 3) := by decide +kernel
theorem dX3_nextWithin_56 : decode cX3_nextWithin 56 = .ok (.aload_n 0, 1) := by decide +kernel
theorem dX3_nextWithin_57 : decode cX3_nextWithin 57 = .ok (.getfield 31, 3) := by decide +kernel
theorem dX3_nextWithin_60 : decode cX3_nextWithin 60 = .ok (.ifCond .ne 10, 3) := by decide +kernel
theorem dX3_nextWithin_63 : decode cX3_nextWithin 63 = .ok (.aload_n 0, 1) := by decide +kernel
theorem dX3_nextWithin_64 : decode cX3_nextWithin 64 = .ok (.getfield 73, 3) := by decide +kernel
theorem dX3_nextWithin_67 : decode cX3_nextWithin 67 = .ok (.goto 4, 3) := by decide +kernel
theorem dX3_nextWithin_70 : decode cX3_nextWithin 70 = .ok (.iload_n 1, 1) := by decide +kernel
theorem dX3_nextWithin_71 : decode cX3_nextWithin 71 = .ok (.ireturn, 1) := by decide +kernel
set_option maxRecDepth 20000 in
theorem ggX3_readDoor_X3_fail : GoodIn wsX3_readDoor wsX3_fail := goodIn_r _ [11, 12, 13, 37, 38, 39, 40, 41, 42, 43, 44, 45, 46, 47, 48] (by decide +kernel) (by decide +kernel)
set_option maxRecDepth 20000 in
theorem gX3_readDoor_X3_fail : GoodIn wsX3_readDoor (wsV RX3 82 RX3 yX3_fail wsX3_fail) := goodIn_app (goodIn_of _ (by decide +kernel)) ggX3_readDoor_X3_fail
set_option maxRecDepth 20000 in
theorem ggX3_readDoor_X3_nextWithin : GoodIn wsX3_readDoor wsX3_nextWithin := goodIn_r _ [17, 12, 18, 3, 19, 20, 21, 22, 10, 23, 24, 25, 26, 27, 28, 29, 30, 31, 32, 33, 7, 8, 9, 11, 13, 34, 35, 36, 37, 38, 39, 40, 41, 42, 43, 44, 45, 46, 47, 48] (by decide +kernel) (by decide +kernel)
set_option maxRecDepth 20000 in
theorem gX3_readDoor_X3_nextWithin : GoodIn wsX3_readDoor (wsV RX3 105 RX3 yX3_nextWithin wsX3_nextWithin) := goodIn_app (goodIn_of _ (by decide +kernel)) ggX3_readDoor_X3_nextWithin
theorem dX3_readDoor_0 : decode cX3_readDoor 0 = .ok (.aload_n 0, 1) := by decide +kernel
theorem dX3_readDoor_1 : decode cX3_readDoor 1 = .ok (.getfield 12, 3) := by decide +kernel
theorem dX3_readDoor_4 : decode cX3_readDoor 4 = .ok (.getfield 151, 3) := by decide +kernel
theorem dX3_readDoor_7 : decode cX3_readDoor 7 = .ok (.istore_n 1, 1) := by decide +kernel
theorem dX3_readDoor_8 : decode cX3_readDoor 8 = .ok (.iload_n 1, 1) := by decide +kernel
theorem dX3_readDoor_9 : decode cX3_readDoor 9 = .ok (.bipush 10, 2) := by decide +kernel
theorem dX3_readDoor_11 : decode cX3_readDoor 11 = .ok (.if_icmp .lt 13, 3) := by decide +kernel
theorem dX3_readDoor_14 : decode cX3_readDoor 14 = .ok (.aload_n 0, 1) := by decide +kernel
theorem dX3_readDoor_15 : decode cX3_readDoor 15 = .ok (.iconst 5, 1) := by decide +kernel
theorem dX3_readDoor_16 : decode cX3_readDoor 16 = .ok (.aload_n 0, 1) := by decide +kernel
theorem dX3_readDoor_17 : decode cX3_readDoor 17 = .ok (.getfield 66, 3) := by decide +kernel
theorem dX3_readDoor_20 : decode cX3_readDoor 20 = .ok (.invokevirtual 82, 3) := by decide +kernel
theorem dX3_readDoor_23 : decode cX3_readDoor 23 = .ok (.return_, 1) := by decide +kernel
theorem dX3_readDoor_24 : decode cX3_readDoor 24 = .ok (.aload_n 0, 1) := by decide +kernel
theorem dX3_readDoor_25 : decode cX3_readDoor 25 = .ok (.getfield 12, 3) := by decide +kernel
theorem dX3_readDoor_28 : decode cX3_readDoor 28 = .ok (.getfield 154, 3) := by decide +kernel
theorem dX3_readDoor_31 : decode cX3_readDoor 31 = .ok (.iload_n 1, 1) := by decide +kernel
theorem dX3_readDoor_32 : decode cX3_readDoor 32 = .ok (.aload_n 0, 1) := by decide +kernel
theorem dX3_readDoor_33 : decode cX3_readDoor 33 = .ok (.iconst 0, 1) := by decide +kernel
theorem dX3_readDoor_34 : decode cX3_readDoor 34 = .ok (.bipush 6, 2) := by decide +kernel
theorem dX3_readDoor_36 : decode cX3_readDoor 36 = .ok (.invokevirtual 105, 3) := by decide +kernel
theorem dX3_readDoor_39 : decode cX3_readDoor 39 = .ok (.iastore, 1) := by decide +kernel
theorem dX3_readDoor_40 : decode cX3_readDoor 40 = .ok (.aload_n 0, 1) := by decide +kernel
theorem dX3_readDoor_41 : decode cX3_readDoor 41 = .ok (.getfield 23, 3) := by decide +kernel
theorem dX3_readDoor_44 : decode cX3_readDoor 44 = .ok (.getfield 158, 3) := by decide +kernel
theorem dX3_readDoor_47 : decode cX3_readDoor 47 = .ok (.iload_n 1, 1) := by decide +kernel
theorem dX3_readDoor_48 : decode cX3_readDoor 48 = .ok (.aload_n 0, 1) := by decide +kernel
theorem dX3_readDoor_49 : decode cX3_readDoor 49 = .ok (.iconst 0, 1) := by decide +kernel
theorem dX3_readDoor_50 : decode cX3_readDoor 50 = .ok (.bipush 6, 2) := by decide +kernel
theorem dX3_readDoor_52 : decode cX3_readDoor 52 = .ok (.invokevirtual 105, 3) := by decide +kernel
theorem dX3_readDoor_55 : decode cX3_readDoor 55 = .ok (.iastore, 1) := by decide +kernel
theorem dX3_readDoor_56 : decode cX3_readDoor 56 = .ok (.aload_n 0, 1) := by decide +kernel
theorem dX3_readDoor_57 : decode cX3_readDoor 57 = .ok (.getfield 12, 3) := by decide +kernel
theorem dX3_readDoor_60 : decode cX3_readDoor 60 = .ok (.dup, 1) := by decide +kernel
theorem dX3_readDoor_61 : decode cX3_readDoor 61 = .ok (.getfield 151, 3) := by decide +kernel
theorem dX3_readDoor_64 : decode cX3_readDoor 64 = .ok (.iconst 1, 1) := by decide +kernel
theorem dX3_readDoor_65 : decode cX3_readDoor 65 = .ok (.iadd, 1) := by decide +kernel
theorem dX3_readDoor_66 : decode cX3_readDoor 66 = .ok (.putfield 151, 3) := by decide +kernel
theorem dX3_readDoor_69 : decode cX3_readDoor 69 = .ok (.return_, 1) := by decide +kernel
set_option maxRecDepth 20000 in
theorem ggX3_readRule_X3_fail : GoodIn wsX3_readRule wsX3_fail := goodIn_r _ [9, 10, 11, 35, 36, 37, 38, 39, 40, 41, 42, 43, 44, 45, 46] (by decide +kernel) (by decide +kernel)
set_option maxRecDepth 20000 in
theorem gX3_readRule_X3_fail : GoodIn wsX3_readRule (wsV RX3 82 RX3 yX3_fail wsX3_fail) := goodIn_app (goodIn_of _ (by decide +kernel)) ggX3_readRule_X3_fail
set_option maxRecDepth 20000 in
theorem ggX3_readRule_X3_nextWithin : GoodIn wsX3_readRule wsX3_nextWithin := goodIn_r _ [15, 10, 16, 3, 17, 18, 19, 20, 8, 21, 22, 23, 24, 25, 26, 27, 28, 29, 30, 31, 5, 6, 7, 9, 11, 32, 33, 34, 35, 36, 37, 38, 39, 40, 41, 42, 43, 44, 45, 46] (by decide +kernel) (by decide +kernel)
set_option maxRecDepth 20000 in
theorem gX3_readRule_X3_nextWithin : GoodIn wsX3_readRule (wsV RX3 105 RX3 yX3_nextWithin wsX3_nextWithin) := goodIn_app (goodIn_of _ (by decide +kernel)) ggX3_readRule_X3_nextWithin
theorem dX3_readRule_0 : decode cX3_readRule 0 = .ok (.aload_n 0, 1) := by decide +kernel
theorem dX3_readRule_1 : decode cX3_readRule 1 = .ok (.getfield 12, 3) := by decide +kernel
theorem dX3_readRule_4 : decode cX3_readRule 4 = .ok (.getfield 161, 3) := by decide +kernel
theorem dX3_readRule_7 : decode cX3_readRule 7 = .ok (.bipush 6, 2) := by decide +kernel
theorem dX3_readRule_9 : decode cX3_readRule 9 = .ok (.if_icmp .lt 13, 3) := by decide +kernel
theorem dX3_readRule_12 : decode cX3_readRule 12 = .ok (.aload_n 0, 1) := by decide +kernel
theorem dX3_readRule_13 : decode cX3_readRule 13 = .ok (.iconst 5, 1) := by decide +kernel
theorem dX3_readRule_14 : decode cX3_readRule 14 = .ok (.aload_n 0, 1) := by decide +kernel
theorem dX3_readRule_15 : decode cX3_readRule 15 = .ok (.getfield 66, 3) := by decide +kernel
theorem dX3_readRule_18 : decode cX3_readRule 18 = .ok (.invokevirtual 82, 3) := by decide +kernel
theorem dX3_readRule_21 : decode cX3_readRule 21 = .ok (.return_, 1) := by decide +kernel
theorem dX3_readRule_22 : decode cX3_readRule 22 = .ok (.aload_n 0, 1) := by decide +kernel
theorem dX3_readRule_23 : decode cX3_readRule 23 = .ok (.iconst 0, 1) := by decide +kernel
theorem dX3_readRule_24 : decode cX3_readRule 24 = .ok (.bipush 9, 2) := by decide +kernel
theorem dX3_readRule_26 : decode cX3_readRule 26 = .ok (.invokevirtual 105, 3) := by decide +kernel
theorem dX3_readRule_29 : decode cX3_readRule 29 = .ok (.istore_n 2, 1) := by decide +kernel
theorem dX3_readRule_30 : decode cX3_readRule 30 = .ok (.iload_n 1, 1) := by decide +kernel
theorem dX3_readRule_31 : decode cX3_readRule 31 = .ok (.iload_n 1, 1) := by decide +kernel
theorem dX3_readRule_32 : decode cX3_readRule 32 = .ok (.sipush 200, 3) := by decide +kernel
theorem dX3_readRule_35 : decode cX3_readRule 35 = .ok (.if_icmp .ne 7, 3) := by decide +kernel
theorem dX3_readRule_38 : decode cX3_readRule 38 = .ok (.iload_n 2, 1) := by decide +kernel
theorem dX3_readRule_39 : decode cX3_readRule 39 = .ok (.goto 7, 3) := by decide +kernel
theorem dX3_readRule_42 : decode cX3_readRule 42 = .ok (.bipush 10, 2) := by decide +kernel
theorem dX3_readRule_44 : decode cX3_readRule 44 = .ok (.iload_n 2, 1) := by decide +kernel
theorem dX3_readRule_45 : decode cX3_readRule 45 = .ok (.imul, 1) := by decide +kernel
theorem dX3_readRule_46 : decode cX3_readRule 46 = .ok (.iadd, 1) := by decide +kernel
theorem dX3_readRule_47 : decode cX3_readRule 47 = .ok (.istore_n 3, 1) := by decide +kernel
theorem dX3_readRule_48 : decode cX3_readRule 48 = .ok (.iload_n 1, 1) := by decide +kernel
theorem dX3_readRule_49 : decode cX3_readRule 49 = .ok (.bipush 100, 2) := by decide +kernel
theorem dX3_readRule_51 : decode cX3_readRule 51 = .ok (.if_icmp .ne 16, 3) := by decide +kernel
theorem dX3_readRule_54 : decode cX3_readRule 54 = .ok (.iload_n 3, 1) := by decide +kernel
theorem dX3_readRule_55 : decode cX3_readRule 55 = .ok (.aload_n 0, 1) := by decide +kernel
theorem dX3_readRule_56 : decode cX3_readRule 56 = .ok (.iconst 1, 1) := by decide +kernel
theorem dX3_readRule_57 : decode cX3_readRule 57 = .ok (.bipush 6, 2) := by decide +kernel
theorem dX3_readRule_59 : decode cX3_readRule 59 = .ok (.invokevirtual 105, 3) := by decide +kernel
theorem dX3_readRule_62 : decode cX3_readRule 62 = .ok (.iadd, 1) := by decide +kernel
theorem dX3_readRule_63 : decode cX3_readRule 63 = .ok (.istore_n 3, 1) := by decide +kernel
theorem dX3_readRule_64 : decode cX3_readRule 64 = .ok (.goto 36, 3) := by decide +kernel
theorem dX3_readRule_67 : decode cX3_readRule 67 = .ok (.iload_n 1, 1) := by decide +kernel
theorem dX3_readRule_68 : decode cX3_readRule 68 = .ok (.ifCond .ne 32, 3) := by decide +kernel
theorem dX3_readRule_71 : decode cX3_readRule 71 = .ok (.aload_n 0, 1) := by decide +kernel
theorem dX3_readRule_72 : decode cX3_readRule 72 = .ok (.iconst 0, 1) := by decide +kernel
theorem dX3_readRule_73 : decode cX3_readRule 73 = .ok (.bipush 9, 2) := by decide +kernel
theorem dX3_readRule_75 : decode cX3_readRule 75 = .ok (.invokevirtual 105, 3) := by decide +kernel
theorem dX3_readRule_78 : decode cX3_readRule 78 = .ok (.istore 4, 2) := by decide +kernel
theorem dX3_readRule_80 : decode cX3_readRule 80 = .ok (.iload 4, 2) := by decide +kernel
theorem dX3_readRule_82 : decode cX3_readRule 82 = .ok (.iload_n 2, 1) := by decide +kernel
theorem dX3_readRule_83 : decode cX3_readRule 83 = .ok (.if_icmp .ne 12, 3) := by decide +kernel
theorem dX3_readRule_86 : decode cX3_readRule 86 = .ok (.aload_n 0, 1) := by decide +kernel
theorem dX3_readRule_87 : decode cX3_readRule 87 = .ok (.iconst 4, 1) := by decide +kernel
theorem dX3_readRule_88 : decode cX3_readRule 88 = .ok (.aload_n 0, 1) := by decide +kernel
theorem dX3_readRule_89 : decode cX3_readRule 89 = .ok (.getfield 66, 3) := by decide +kernel
theorem dX3_readRule_92 : decode cX3_readRule 92 = .ok (.invokevirtual 82, 3) := by decide +kernel
theorem dX3_readRule_95 : decode cX3_readRule 95 = .ok (.iload_n 3, 1) := by decide +kernel
theorem dX3_readRule_96 : decode cX3_readRule 96 = .ok (.iload 4, 2) := by decide +kernel
theorem dX3_readRule_98 : decode cX3_readRule 98 = .ok (.iadd, 1) := by decide +kernel
theorem dX3_readRule_99 : decode cX3_readRule 99 = .ok (.istore_n 3, 1) := by decide +kernel
theorem dX3_readRule_100 : decode cX3_readRule 100 = .ok (.aload_n 0, 1) := by decide +kernel
theorem dX3_readRule_101 : decode cX3_readRule 101 = .ok (.getfield 12, 3) := by decide +kernel
theorem dX3_readRule_104 : decode cX3_readRule 104 = .ok (.getfield 164, 3) := by decide +kernel
theorem dX3_readRule_107 : decode cX3_readRule 107 = .ok (.aload_n 0, 1) := by decide +kernel
theorem dX3_readRule_108 : decode cX3_readRule 108 = .ok (.getfield 12, 3) := by decide +kernel
theorem dX3_readRule_111 : decode cX3_readRule 111 = .ok (.getfield 161, 3) := by decide +kernel
theorem dX3_readRule_114 : decode cX3_readRule 114 = .ok (.iload_n 3, 1) := by decide +kernel
theorem dX3_readRule_115 : decode cX3_readRule 115 = .ok (.iastore, 1) := by decide +kernel
theorem dX3_readRule_116 : decode cX3_readRule 116 = .ok (.aload_n 0, 1) := by decide +kernel
theorem dX3_readRule_117 : decode cX3_readRule 117 = .ok (.getfield 12, 3) := by decide +kernel
theorem dX3_readRule_120 : decode cX3_readRule 120 = .ok (.dup, 1) := by decide +kernel
theorem dX3_readRule_121 : decode cX3_readRule 121 = .ok (.getfield 161, 3) := by decide +kernel
theorem dX3_readRule_124 : decode cX3_readRule 124 = .ok (.iconst 1, 1) := by decide +kernel
theorem dX3_readRule_125 : decode cX3_readRule 125 = .ok (.iadd, 1) := by decide +kernel
theorem dX3_readRule_126 : decode cX3_readRule 126 = .ok (.putfield 161, 3) := by decide +kernel
theorem dX3_readRule_129 : decode cX3_readRule 129 = .ok (.return_, 1) := by decide +kernel
set_option maxRecDepth 20000 in
theorem ggX3_readBeast_X3_tellOnce : GoodIn wsX3_readBeast wsX3_tellOnce := goodIn_r _ [9, 10, 4, 11, 12, 13, 8, 14, 15, 16, 93, 94, 95, 96, 97, 98, 99, 100, 101, 102, 103, 104] (by decide +kernel) (by decide +kernel)
set_option maxRecDepth 20000 in
theorem gX3_readBeast_X3_tellOnce : GoodIn wsX3_readBeast (wsV RX3 101 RX3 yX3_tellOnce wsX3_tellOnce) := goodIn_app (goodIn_of _ (by decide +kernel)) ggX3_readBeast_X3_tellOnce
set_option maxRecDepth 20000 in
theorem ggX3_readBeast_X3_nextWithin : GoodIn wsX3_readBeast wsX3_nextWithin := goodIn_r _ [20, 15, 21, 4, 22, 23, 24, 25, 8, 26, 27, 28, 29, 30, 31, 32, 33, 34, 35, 36, 11, 12, 13, 14, 16, 37, 38, 39, 93, 94, 95, 96, 97, 98, 99, 100, 101, 102, 103, 104] (by decide +kernel) (by decide +kernel)
set_option maxRecDepth 20000 in
theorem gX3_readBeast_X3_nextWithin : GoodIn wsX3_readBeast (wsV RX3 105 RX3 yX3_nextWithin wsX3_nextWithin) := goodIn_app (goodIn_of _ (by decide +kernel)) ggX3_readBeast_X3_nextWithin
set_option maxRecDepth 20000 in
theorem ggX3_readBeast_X3_nextToken : GoodIn wsX3_readBeast wsX3_nextToken := goodIn_r _ [26, 15, 27, 28, 29, 4, 21, 22, 30, 31, 32, 33, 34, 35, 8, 36, 11, 12, 13, 14, 16, 93, 94, 95, 96, 97, 98, 99, 100, 101, 102, 103, 104] (by decide +kernel) (by decide +kernel)
set_option maxRecDepth 20000 in
theorem gX3_readBeast_X3_nextToken : GoodIn wsX3_readBeast (wsV RX3 51 RX3 yX3_nextToken wsX3_nextToken) := goodIn_app (goodIn_of _ (by decide +kernel)) ggX3_readBeast_X3_nextToken
set_option maxRecDepth 20000 in
theorem ggX3_readBeast_X3_isWord : GoodIn wsX3_readBeast wsX3_isWord := goodIn_r _ [43, 15, 21, 27, 4, 29, 44, 45, 46, 47, 48, 49, 50, 51, 52, 53, 54, 55, 56, 57, 58, 59, 60, 61, 62, 63, 64, 65, 66, 67, 68, 69, 70, 71, 72, 73, 74, 75, 76, 77, 78, 79, 80, 81, 82, 83, 84, 85, 86, 87, 88, 89, 90, 91, 92, 93, 94, 95, 96, 97, 98, 99, 100, 101, 102, 103, 104] (by decide +kernel) (by decide +kernel)
set_option maxRecDepth 20000 in
theorem gX3_readBeast_X3_isWord : GoodIn wsX3_readBeast (wsV RX3 97 RX3 yX3_isWord wsX3_isWord) := goodIn_app (goodIn_of _ (by decide +kernel)) ggX3_readBeast_X3_isWord
set_option maxRecDepth 20000 in
theorem ggX3_readBeast_X3_fail : GoodIn wsX3_readBeast wsX3_fail := goodIn_r _ [14, 15, 16, 93, 94, 95, 96, 97, 98, 99, 100, 101, 102, 103, 104] (by decide +kernel) (by decide +kernel)
set_option maxRecDepth 20000 in
theorem gX3_readBeast_X3_fail : GoodIn wsX3_readBeast (wsV RX3 82 RX3 yX3_fail wsX3_fail) := goodIn_app (goodIn_of _ (by decide +kernel)) ggX3_readBeast_X3_fail
theorem dX3_readBeast_0 : decode cX3_readBeast 0 = .ok (.aload_n 0, 1) := by decide +kernel
theorem dX3_readBeast_1 : decode cX3_readBeast 1 = .ok (.bipush 8, 2) := by decide +kernel
theorem dX3_readBeast_3 : decode cX3_readBeast 3 = .ok (.invokevirtual 101, 3) := by decide +kernel
theorem dX3_readBeast_6 : decode cX3_readBeast 6 = .ok (.aload_n 0, 1) := by decide +kernel
theorem dX3_readBeast_7 : decode cX3_readBeast 7 = .ok (.getfield 23, 3) := by decide +kernel
theorem dX3_readBeast_10 : decode cX3_readBeast 10 = .ok (.aload_n 0, 1) := by decide +kernel
theorem dX3_readBeast_11 : decode cX3_readBeast 11 = .ok (.iconst 0, 1) := by decide +kernel
theorem dX3_readBeast_12 : decode cX3_readBeast 12 = .ok (.bipush 6, 2) := by decide +kernel
theorem dX3_readBeast_14 : decode cX3_readBeast 14 = .ok (.invokevirtual 105, 3) := by decide +kernel
theorem dX3_readBeast_17 : decode cX3_readBeast 17 = .ok (.putfield 167, 3) := by decide +kernel
theorem dX3_readBeast_20 : decode cX3_readBeast 20 = .ok (.aload_n 0, 1) := by decide +kernel
theorem dX3_readBeast_21 : decode cX3_readBeast 21 = .ok (.invokevirtual 51, 3) := by decide +kernel
theorem dX3_readBeast_24 : decode cX3_readBeast 24 = .ok (.aload_n 0, 1) := by decide +kernel
theorem dX3_readBeast_25 : decode cX3_readBeast 25 = .ok (.ldc 169, 2) := by decide +kernel
theorem dX3_readBeast_27 : decode cX3_readBeast 27 = .ok (.invokevirtual 97, 3) := by decide +kernel
theorem dX3_readBeast_30 : decode cX3_readBeast 30 = .ok (.ifCond .eq 14, 3) := by decide +kernel
theorem dX3_readBeast_33 : decode cX3_readBeast 33 = .ok (.aload_n 0, 1) := by decide +kernel
theorem dX3_readBeast_34 : decode cX3_readBeast 34 = .ok (.getfield 23, 3) := by decide +kernel
theorem dX3_readBeast_37 : decode cX3_readBeast 37 = .ok (.iconst 0, 1) := by decide +kernel
theorem dX3_readBeast_38 : decode cX3_readBeast 38 = .ok (.putfield 171, 3) := by decide +kernel
theorem dX3_readBeast_41 : decode cX3_readBeast 41 = .ok (.goto 72, 3) := by decide +kernel
theorem dX3_readBeast_44 : decode cX3_readBeast 44 = .ok (.aload_n 0, 1) := by decide +kernel
theorem dX3_readBeast_45 : decode cX3_readBeast 45 = .ok (.ldc 174, 2) := by decide +kernel
theorem dX3_readBeast_47 : decode cX3_readBeast 47 = .ok (.invokevirtual 97, 3) := by decide +kernel
theorem dX3_readBeast_50 : decode cX3_readBeast 50 = .ok (.ifCond .eq 14, 3) := by decide +kernel
theorem dX3_readBeast_53 : decode cX3_readBeast 53 = .ok (.aload_n 0, 1) := by decide +kernel
theorem dX3_readBeast_54 : decode cX3_readBeast 54 = .ok (.getfield 23, 3) := by decide +kernel
theorem dX3_readBeast_57 : decode cX3_readBeast 57 = .ok (.iconst 1, 1) := by decide +kernel
theorem dX3_readBeast_58 : decode cX3_readBeast 58 = .ok (.putfield 171, 3) := by decide +kernel
theorem dX3_readBeast_61 : decode cX3_readBeast 61 = .ok (.goto 52, 3) := by decide +kernel
theorem dX3_readBeast_64 : decode cX3_readBeast 64 = .ok (.aload_n 0, 1) := by decide +kernel
theorem dX3_readBeast_65 : decode cX3_readBeast 65 = .ok (.ldc 176, 2) := by decide +kernel
theorem dX3_readBeast_67 : decode cX3_readBeast 67 = .ok (.invokevirtual 97, 3) := by decide +kernel
theorem dX3_readBeast_70 : decode cX3_readBeast 70 = .ok (.ifCond .eq 14, 3) := by decide +kernel
theorem dX3_readBeast_73 : decode cX3_readBeast 73 = .ok (.aload_n 0, 1) := by decide +kernel
theorem dX3_readBeast_74 : decode cX3_readBeast 74 = .ok (.getfield 23, 3) := by decide +kernel
theorem dX3_readBeast_77 : decode cX3_readBeast 77 = .ok (.iconst 2, 1) := by decide +kernel
theorem dX3_readBeast_78 : decode cX3_readBeast 78 = .ok (.putfield 171, 3) := by decide +kernel
theorem dX3_readBeast_81 : decode cX3_readBeast 81 = .ok (.goto 32, 3) := by decide +kernel
theorem dX3_readBeast_84 : decode cX3_readBeast 84 = .ok (.aload_n 0, 1) := by decide +kernel
theorem dX3_readBeast_85 : decode cX3_readBeast 85 = .ok (.ldc 178, 2) := by decide +kernel
theorem dX3_readBeast_87 : decode cX3_readBeast 87 = .ok (.invokevirtual 97, 3) := by decide +kernel
theorem dX3_readBeast_90 : decode cX3_readBeast 90 = .ok (.ifCond .eq 14, 3) := by decide +kernel
theorem dX3_readBeast_93 : decode cX3_readBeast 93 = .ok (.aload_n 0, 1) := by decide +kernel
theorem dX3_readBeast_94 : decode cX3_readBeast 94 = .ok (.getfield 23, 3) := by decide +kernel
theorem dX3_readBeast_97 : decode cX3_readBeast 97 = .ok (.iconst 3, 1) := by decide +kernel
theorem dX3_readBeast_98 : decode cX3_readBeast 98 = .ok (.putfield 171, 3) := by decide +kernel
theorem dX3_readBeast_101 : decode cX3_readBeast 101 = .ok (.goto 12, 3) := by decide +kernel
theorem dX3_readBeast_104 : decode cX3_readBeast 104 = .ok (.aload_n 0, 1) := by decide +kernel
theorem dX3_readBeast_105 : decode cX3_readBeast 105 = .ok (.iconst 2, 1) := by decide +kernel
theorem dX3_readBeast_106 : decode cX3_readBeast 106 = .ok (.aload_n 0, 1) := by decide +kernel
theorem dX3_readBeast_107 : decode cX3_readBeast 107 = .ok (.getfield 66, 3) := by decide +kernel
theorem dX3_readBeast_110 : decode cX3_readBeast 110 = .ok (.invokevirtual 82, 3) := by decide +kernel
theorem dX3_readBeast_113 : decode cX3_readBeast 113 = .ok (.return_, 1) := by decide +kernel
set_option maxRecDepth 20000 in
theorem ggX3_closeLine_X3_nextToken : GoodIn wsX3_closeLine wsX3_nextToken := goodIn_r _ [11, 12, 13, 14, 15, 6, 5, 16, 17, 18, 19, 20, 21, 22, 10, 23, 24, 25, 26, 27, 28, 82, 83, 84, 85, 86, 87, 88, 89, 90, 91, 92, 93] (by decide +kernel) (by decide +kernel)
set_option maxRecDepth 20000 in
theorem gX3_closeLine_X3_nextToken : GoodIn wsX3_closeLine (wsV RX3 51 RX3 yX3_nextToken wsX3_nextToken) := goodIn_app (goodIn_of _ (by decide +kernel)) ggX3_closeLine_X3_nextToken
set_option maxRecDepth 20000 in
theorem ggX3_closeLine_X3_isWord : GoodIn wsX3_closeLine wsX3_isWord := goodIn_r _ [32, 12, 5, 13, 6, 15, 33, 34, 35, 36, 37, 38, 39, 40, 41, 42, 43, 44, 45, 46, 47, 48, 49, 50, 51, 52, 53, 54, 55, 56, 57, 58, 59, 60, 61, 62, 63, 64, 65, 66, 67, 68, 69, 70, 71, 72, 73, 74, 75, 76, 77, 78, 79, 80, 81, 82, 83, 84, 85, 86, 87, 88, 89, 90, 91, 92, 93] (by decide +kernel) (by decide +kernel)
set_option maxRecDepth 20000 in
theorem gX3_closeLine_X3_isWord : GoodIn wsX3_closeLine (wsV RX3 97 RX3 yX3_isWord wsX3_isWord) := goodIn_app (goodIn_of _ (by decide +kernel)) ggX3_closeLine_X3_isWord
set_option maxRecDepth 20000 in
theorem ggX3_closeLine_X3_fail : GoodIn wsX3_closeLine wsX3_fail := goodIn_r _ [27, 12, 28, 82, 83, 84, 85, 86, 87, 88, 89, 90, 91, 92, 93] (by decide +kernel) (by decide +kernel)
set_option maxRecDepth 20000 in
theorem gX3_closeLine_X3_fail : GoodIn wsX3_closeLine (wsV RX3 82 RX3 yX3_fail wsX3_fail) := goodIn_app (goodIn_of _ (by decide +kernel)) ggX3_closeLine_X3_fail
theorem dX3_closeLine_0 : decode cX3_closeLine 0 = .ok (.aload_n 0, 1) := by decide +kernel
theorem dX3_closeLine_1 : decode cX3_closeLine 1 = .ok (.invokevirtual 51, 3) := by decide +kernel
theorem dX3_closeLine_4 : decode cX3_closeLine 4 = .ok (.iload_n 1, 1) := by decide +kernel
theorem dX3_closeLine_5 : decode cX3_closeLine 5 = .ok (.ifCond .eq 39, 3) := by decide +kernel
theorem dX3_closeLine_8 : decode cX3_closeLine 8 = .ok (.aload_n 0, 1) := by decide +kernel
theorem dX3_closeLine_9 : decode cX3_closeLine 9 = .ok (.ldc 180, 2) := by decide +kernel
theorem dX3_closeLine_11 : decode cX3_closeLine 11 = .ok (.invokevirtual 97, 3) := by decide +kernel
theorem dX3_closeLine_14 : decode cX3_closeLine 14 = .ok (.ifCond .eq 30, 3) := by decide +kernel
theorem dX3_closeLine_17 : decode cX3_closeLine 17 = .ok (.aload_n 0, 1) := by decide +kernel
theorem dX3_closeLine_18 : decode cX3_closeLine 18 = .ok (.getfield 23, 3) := by decide +kernel
theorem dX3_closeLine_21 : decode cX3_closeLine 21 = .ok (.dup, 1) := by decide +kernel
theorem dX3_closeLine_22 : decode cX3_closeLine 22 = .ok (.getfield 182, 3) := by decide +kernel
theorem dX3_closeLine_25 : decode cX3_closeLine 25 = .ok (.iconst 1, 1) := by decide +kernel
theorem dX3_closeLine_26 : decode cX3_closeLine 26 = .ok (.aload_n 0, 1) := by decide +kernel
theorem dX3_closeLine_27 : decode cX3_closeLine 27 = .ok (.getfield 12, 3) := by decide +kernel
theorem dX3_closeLine_30 : decode cX3_closeLine 30 = .ok (.getfield 151, 3) := by decide +kernel
theorem dX3_closeLine_33 : decode cX3_closeLine 33 = .ok (.iconst 1, 1) := by decide +kernel
theorem dX3_closeLine_34 : decode cX3_closeLine 34 = .ok (.isub, 1) := by decide +kernel
theorem dX3_closeLine_35 : decode cX3_closeLine 35 = .ok (.ishl, 1) := by decide +kernel
theorem dX3_closeLine_36 : decode cX3_closeLine 36 = .ok (.ior, 1) := by decide +kernel
theorem dX3_closeLine_37 : decode cX3_closeLine 37 = .ok (.putfield 182, 3) := by decide +kernel
theorem dX3_closeLine_40 : decode cX3_closeLine 40 = .ok (.aload_n 0, 1) := by decide +kernel
theorem dX3_closeLine_41 : decode cX3_closeLine 41 = .ok (.invokevirtual 51, 3) := by decide +kernel
theorem dX3_closeLine_44 : decode cX3_closeLine 44 = .ok (.aload_n 0, 1) := by decide +kernel
theorem dX3_closeLine_45 : decode cX3_closeLine 45 = .ok (.getfield 54, 3) := by decide +kernel
theorem dX3_closeLine_48 : decode cX3_closeLine 48 = .ok (.iconst 3, 1) := by decide +kernel
theorem dX3_closeLine_49 : decode cX3_closeLine 49 = .ok (.if_icmp .eq 12, 3) := by decide +kernel
theorem dX3_closeLine_52 : decode cX3_closeLine 52 = .ok (.aload_n 0, 1) := by decide +kernel
theorem dX3_closeLine_53 : decode cX3_closeLine 53 = .ok (.iconst 2, 1) := by decide +kernel
theorem dX3_closeLine_54 : decode cX3_closeLine 54 = .ok (.aload_n 0, 1) := by decide +kernel
theorem dX3_closeLine_55 : decode cX3_closeLine 55 = .ok (.getfield 66, 3) := by decide +kernel
theorem dX3_closeLine_58 : decode cX3_closeLine 58 = .ok (.invokevirtual 82, 3) := by decide +kernel
theorem dX3_closeLine_61 : decode cX3_closeLine 61 = .ok (.return_, 1) := by decide +kernel
set_option maxRecDepth 20000 in
theorem ggX3_checkWhole_X2_hasRoom : GoodIn wsX3_checkWhole wsX2_hasRoom := goodIn_r _ [15, 16, 50, 51, 52, 53, 54, 55] (by decide +kernel) (by decide +kernel)
set_option maxRecDepth 20000 in
theorem gX3_checkWhole_X2_hasRoom : GoodIn wsX3_checkWhole (wsV RX3 184 RX2 yX2_hasRoom wsX2_hasRoom) := goodIn_app (goodIn_of _ (by decide +kernel)) ggX3_checkWhole_X2_hasRoom
set_option maxRecDepth 20000 in
theorem ggX3_checkWhole_X3_fail : GoodIn wsX3_checkWhole wsX3_fail := goodIn_r _ [21, 22, 23, 38, 39, 40, 41, 42, 43, 44, 45, 46, 47, 48, 49] (by decide +kernel) (by decide +kernel)
set_option maxRecDepth 20000 in
theorem gX3_checkWhole_X3_fail : GoodIn wsX3_checkWhole (wsV RX3 82 RX3 yX3_fail wsX3_fail) := goodIn_app (goodIn_of _ (by decide +kernel)) ggX3_checkWhole_X3_fail
set_option maxRecDepth 20000 in
theorem ggX3_checkWhole_X2_hasDoorsOf : GoodIn wsX3_checkWhole wsX2_hasDoorsOf := goodIn_r _ [27, 28, 29, 30, 31, 32, 33, 14, 34, 35, 36, 37, 50, 51, 52, 53, 54, 55] (by decide +kernel) (by decide +kernel)
set_option maxRecDepth 20000 in
theorem gX3_checkWhole_X2_hasDoorsOf : GoodIn wsX3_checkWhole (wsV RX3 188 RX2 yX2_hasDoorsOf wsX2_hasDoorsOf) := goodIn_app (goodIn_of _ (by decide +kernel)) ggX3_checkWhole_X2_hasDoorsOf
theorem dX3_checkWhole_0 : decode cX3_checkWhole 0 = .ok (.iconst 0, 1) := by decide +kernel
theorem dX3_checkWhole_1 : decode cX3_checkWhole 1 = .ok (.istore_n 1, 1) := by decide +kernel
theorem dX3_checkWhole_2 : decode cX3_checkWhole 2 = .ok (.iload_n 1, 1) := by decide +kernel
theorem dX3_checkWhole_3 : decode cX3_checkWhole 3 = .ok (.aload_n 0, 1) := by decide +kernel
theorem dX3_checkWhole_4 : decode cX3_checkWhole 4 = .ok (.getfield 12, 3) := by decide +kernel
theorem dX3_checkWhole_7 : decode cX3_checkWhole 7 = .ok (.getfield 151, 3) := by decide +kernel
theorem dX3_checkWhole_10 : decode cX3_checkWhole 10 = .ok (.if_icmp .ge 57, 3) := by decide +kernel
theorem dX3_checkWhole_13 : decode cX3_checkWhole 13 = .ok (.aload_n 0, 1) := by decide +kernel
theorem dX3_checkWhole_14 : decode cX3_checkWhole 14 = .ok (.getfield 12, 3) := by decide +kernel
theorem dX3_checkWhole_17 : decode cX3_checkWhole 17 = .ok (.aload_n 0, 1) := by decide +kernel
theorem dX3_checkWhole_18 : decode cX3_checkWhole 18 = .ok (.getfield 12, 3) := by decide +kernel
theorem dX3_checkWhole_21 : decode cX3_checkWhole 21 = .ok (.getfield 154, 3) := by decide +kernel
theorem dX3_checkWhole_24 : decode cX3_checkWhole 24 = .ok (.iload_n 1, 1) := by decide +kernel
theorem dX3_checkWhole_25 : decode cX3_checkWhole 25 = .ok (.iaload, 1) := by decide +kernel
theorem dX3_checkWhole_26 : decode cX3_checkWhole 26 = .ok (.invokevirtual 184, 3) := by decide +kernel
theorem dX3_checkWhole_29 : decode cX3_checkWhole 29 = .ok (.ifCond .eq 22, 3) := by decide +kernel
theorem dX3_checkWhole_32 : decode cX3_checkWhole 32 = .ok (.aload_n 0, 1) := by decide +kernel
theorem dX3_checkWhole_33 : decode cX3_checkWhole 33 = .ok (.getfield 12, 3) := by decide +kernel
theorem dX3_checkWhole_36 : decode cX3_checkWhole 36 = .ok (.aload_n 0, 1) := by decide +kernel
theorem dX3_checkWhole_37 : decode cX3_checkWhole 37 = .ok (.getfield 23, 3) := by decide +kernel
theorem dX3_checkWhole_40 : decode cX3_checkWhole 40 = .ok (.getfield 158, 3) := by decide +kernel
theorem dX3_checkWhole_43 : decode cX3_checkWhole 43 = .ok (.iload_n 1, 1) := by decide +kernel
theorem dX3_checkWhole_44 : decode cX3_checkWhole 44 = .ok (.iaload, 1) := by decide +kernel
theorem dX3_checkWhole_45 : decode cX3_checkWhole 45 = .ok (.invokevirtual 184, 3) := by decide +kernel
theorem dX3_checkWhole_48 : decode cX3_checkWhole 48 = .ok (.ifCond .ne 13, 3) := by decide +kernel
theorem dX3_checkWhole_51 : decode cX3_checkWhole 51 = .ok (.aload_n 0, 1) := by decide +kernel
theorem dX3_checkWhole_52 : decode cX3_checkWhole 52 = .ok (.bipush 6, 2) := by decide +kernel
theorem dX3_checkWhole_54 : decode cX3_checkWhole 54 = .ok (.aload_n 0, 1) := by decide +kernel
theorem dX3_checkWhole_55 : decode cX3_checkWhole 55 = .ok (.getfield 27, 3) := by decide +kernel
theorem dX3_checkWhole_58 : decode cX3_checkWhole 58 = .ok (.invokevirtual 82, 3) := by decide +kernel
theorem dX3_checkWhole_61 : decode cX3_checkWhole 61 = .ok (.iinc 1 1, 3) := by decide +kernel
theorem dX3_checkWhole_64 : decode cX3_checkWhole 64 = .ok (.goto (-62), 3) := by decide +kernel
theorem dX3_checkWhole_67 : decode cX3_checkWhole 67 = .ok (.iconst 0, 1) := by decide +kernel
theorem dX3_checkWhole_68 : decode cX3_checkWhole 68 = .ok (.istore_n 1, 1) := by decide +kernel
theorem dX3_checkWhole_69 : decode cX3_checkWhole 69 = .ok (.iload_n 1, 1) := by decide +kernel
theorem dX3_checkWhole_70 : decode cX3_checkWhole 70 = .ok (.aload_n 0, 1) := by decide +kernel
theorem dX3_checkWhole_71 : decode cX3_checkWhole 71 = .ok (.getfield 12, 3) := by decide +kernel
theorem dX3_checkWhole_74 : decode cX3_checkWhole 74 = .ok (.getfield 161, 3) := by decide +kernel
theorem dX3_checkWhole_77 : decode cX3_checkWhole 77 = .ok (.if_icmp .ge 38, 3) := by decide +kernel
theorem dX3_checkWhole_80 : decode cX3_checkWhole 80 = .ok (.aload_n 0, 1) := by decide +kernel
theorem dX3_checkWhole_81 : decode cX3_checkWhole 81 = .ok (.getfield 12, 3) := by decide +kernel
theorem dX3_checkWhole_84 : decode cX3_checkWhole 84 = .ok (.aload_n 0, 1) := by decide +kernel
theorem dX3_checkWhole_85 : decode cX3_checkWhole 85 = .ok (.getfield 12, 3) := by decide +kernel
theorem dX3_checkWhole_88 : decode cX3_checkWhole 88 = .ok (.getfield 164, 3) := by decide +kernel
theorem dX3_checkWhole_91 : decode cX3_checkWhole 91 = .ok (.iload_n 1, 1) := by decide +kernel
theorem dX3_checkWhole_92 : decode cX3_checkWhole 92 = .ok (.iaload, 1) := by decide +kernel
theorem dX3_checkWhole_93 : decode cX3_checkWhole 93 = .ok (.invokevirtual 188, 3) := by decide +kernel
theorem dX3_checkWhole_96 : decode cX3_checkWhole 96 = .ok (.ifCond .ne 13, 3) := by decide +kernel
theorem dX3_checkWhole_99 : decode cX3_checkWhole 99 = .ok (.aload_n 0, 1) := by decide +kernel
theorem dX3_checkWhole_100 : decode cX3_checkWhole 100 = .ok (.bipush 6, 2) := by decide +kernel
theorem dX3_checkWhole_102 : decode cX3_checkWhole 102 = .ok (.aload_n 0, 1) := by decide +kernel
theorem dX3_checkWhole_103 : decode cX3_checkWhole 103 = .ok (.getfield 27, 3) := by decide +kernel
theorem dX3_checkWhole_106 : decode cX3_checkWhole 106 = .ok (.invokevirtual 82, 3) := by decide +kernel
theorem dX3_checkWhole_109 : decode cX3_checkWhole 109 = .ok (.iinc 1 1, 3) := by decide +kernel
theorem dX3_checkWhole_112 : decode cX3_checkWhole 112 = .ok (.goto (-43), 3) := by decide +kernel
theorem dX3_checkWhole_115 : decode cX3_checkWhole 115 = .ok (.aload_n 0, 1) := by decide +kernel
theorem dX3_checkWhole_116 : decode cX3_checkWhole 116 = .ok (.getfield 12, 3) := by decide +kernel
theorem dX3_checkWhole_119 : decode cX3_checkWhole 119 = .ok (.aload_n 0, 1) := by decide +kernel
theorem dX3_checkWhole_120 : decode cX3_checkWhole 120 = .ok (.getfield 23, 3) := by decide +kernel
theorem dX3_checkWhole_123 : decode cX3_checkWhole 123 = .ok (.getfield 130, 3) := by decide +kernel
theorem dX3_checkWhole_126 : decode cX3_checkWhole 126 = .ok (.invokevirtual 184, 3) := by decide +kernel
theorem dX3_checkWhole_129 : decode cX3_checkWhole 129 = .ok (.ifCond .eq 32, 3) := by decide +kernel
theorem dX3_checkWhole_132 : decode cX3_checkWhole 132 = .ok (.aload_n 0, 1) := by decide +kernel
theorem dX3_checkWhole_133 : decode cX3_checkWhole 133 = .ok (.getfield 23, 3) := by decide +kernel
theorem dX3_checkWhole_136 : decode cX3_checkWhole 136 = .ok (.getfield 167, 3) := by decide +kernel
theorem dX3_checkWhole_139 : decode cX3_checkWhole 139 = .ok (.bipush (-4), 2) := by decide +kernel
theorem dX3_checkWhole_141 : decode cX3_checkWhole 141 = .ok (.if_icmp .eq 30, 3) := by decide +kernel
theorem dX3_checkWhole_144 : decode cX3_checkWhole 144 = .ok (.aload_n 0, 1) := by decide +kernel
theorem dX3_checkWhole_145 : decode cX3_checkWhole 145 = .ok (.getfield 12, 3) := by decide +kernel
theorem dX3_checkWhole_148 : decode cX3_checkWhole 148 = .ok (.aload_n 0, 1) := by decide +kernel
theorem dX3_checkWhole_149 : decode cX3_checkWhole 149 = .ok (.getfield 23, 3) := by decide +kernel
theorem dX3_checkWhole_152 : decode cX3_checkWhole 152 = .ok (.getfield 167, 3) := by decide +kernel
theorem dX3_checkWhole_155 : decode cX3_checkWhole 155 = .ok (.invokevirtual 184, 3) := by decide +kernel
theorem dX3_checkWhole_158 : decode cX3_checkWhole 158 = .ok (.ifCond .ne 13, 3) := by decide +kernel
theorem dX3_checkWhole_161 : decode cX3_checkWhole 161 = .ok (.aload_n 0, 1) := by decide +kernel
theorem dX3_checkWhole_162 : decode cX3_checkWhole 162 = .ok (.bipush 6, 2) := by decide +kernel
theorem dX3_checkWhole_164 : decode cX3_checkWhole 164 = .ok (.aload_n 0, 1) := by decide +kernel
theorem dX3_checkWhole_165 : decode cX3_checkWhole 165 = .ok (.getfield 27, 3) := by decide +kernel
theorem dX3_checkWhole_168 : decode cX3_checkWhole 168 = .ok (.invokevirtual 82, 3) := by decide +kernel
theorem dX3_checkWhole_171 : decode cX3_checkWhole 171 = .ok (.aload_n 0, 1) := by decide +kernel
theorem dX3_checkWhole_172 : decode cX3_checkWhole 172 = .ok (.getfield 23, 3) := by decide +kernel
theorem dX3_checkWhole_175 : decode cX3_checkWhole 175 = .ok (.getfield 167, 3) := by decide +kernel
theorem dX3_checkWhole_178 : decode cX3_checkWhole 178 = .ok (.aload_n 0, 1) := by decide +kernel
theorem dX3_checkWhole_179 : decode cX3_checkWhole 179 = .ok (.getfield 23, 3) := by decide +kernel
theorem dX3_checkWhole_182 : decode cX3_checkWhole 182 = .ok (.getfield 130, 3) := by decide +kernel
theorem dX3_checkWhole_185 : decode cX3_checkWhole 185 = .ok (.if_icmp .ne 13, 3) := by decide +kernel
theorem dX3_checkWhole_188 : decode cX3_checkWhole 188 = .ok (.aload_n 0, 1) := by decide +kernel
theorem dX3_checkWhole_189 : decode cX3_checkWhole 189 = .ok (.bipush 7, 2) := by decide +kernel
theorem dX3_checkWhole_191 : decode cX3_checkWhole 191 = .ok (.aload_n 0, 1) := by decide +kernel
theorem dX3_checkWhole_192 : decode cX3_checkWhole 192 = .ok (.getfield 27, 3) := by decide +kernel
theorem dX3_checkWhole_195 : decode cX3_checkWhole 195 = .ok (.invokevirtual 82, 3) := by decide +kernel
theorem dX3_checkWhole_198 : decode cX3_checkWhole 198 = .ok (.return_, 1) := by decide +kernel
theorem dX4_init_0 : decode cX4_init 0 = .ok (.aload_n 0, 1) := by decide +kernel
theorem dX4_init_1 : decode cX4_init 1 = .ok (.invokespecial 5, 3) := by decide +kernel
theorem dX4_init_4 : decode cX4_init 4 = .ok (.aload_n 0, 1) := by decide +kernel
theorem dX4_init_5 : decode cX4_init 5 = .ok (.sipush 1400, 3) := by decide +kernel
theorem dX4_init_8 : decode cX4_init 8 = .ok (.newarray .int, 2) := by decide +kernel
theorem dX4_init_10 : decode cX4_init 10 = .ok (.putfield 11, 3) := by decide +kernel
theorem dX4_init_13 : decode cX4_init 13 = .ok (.aload_n 0, 1) := by decide +kernel
theorem dX4_init_14 : decode cX4_init 14 = .ok (.sipush 1400, 3) := by decide +kernel
theorem dX4_init_17 : decode cX4_init 17 = .ok (.newarray .int, 2) := by decide +kernel
theorem dX4_init_19 : decode cX4_init 19 = .ok (.putfield 15, 3) := by decide +kernel
theorem dX4_init_22 : decode cX4_init 22 = .ok (.aload_n 0, 1) := by decide +kernel
theorem dX4_init_23 : decode cX4_init 23 = .ok (.sipush 1400, 3) := by decide +kernel
theorem dX4_init_26 : decode cX4_init 26 = .ok (.newarray .int, 2) := by decide +kernel
theorem dX4_init_28 : decode cX4_init 28 = .ok (.putfield 18, 3) := by decide +kernel
theorem dX4_init_31 : decode cX4_init 31 = .ok (.aload_n 0, 1) := by decide +kernel
theorem dX4_init_32 : decode cX4_init 32 = .ok (.bipush 25, 2) := by decide +kernel
theorem dX4_init_34 : decode cX4_init 34 = .ok (.newarray .int, 2) := by decide +kernel
theorem dX4_init_36 : decode cX4_init 36 = .ok (.putfield 21, 3) := by decide +kernel
theorem dX4_init_39 : decode cX4_init 39 = .ok (.aload_n 0, 1) := by decide +kernel
theorem dX4_init_40 : decode cX4_init 40 = .ok (.bipush 56, 2) := by decide +kernel
theorem dX4_init_42 : decode cX4_init 42 = .ok (.newarray .int, 2) := by decide +kernel
theorem dX4_init_44 : decode cX4_init 44 = .ok (.putfield 24, 3) := by decide +kernel
theorem dX4_init_47 : decode cX4_init 47 = .ok (.return_, 1) := by decide +kernel
set_option maxRecDepth 20000 in
theorem ggX4_begin_X6_copyFrom : GoodIn wsX4_begin wsX6_copyFrom := goodIn_r _ [9, 10, 11, 12, 13, 14, 15, 16, 17, 18, 19, 20, 21, 22, 23, 30, 31, 32, 33, 34, 35, 36, 37, 38, 39, 40] (by decide +kernel) (by decide +kernel)
set_option maxRecDepth 20000 in
theorem gX4_begin_X6_copyFrom : GoodIn wsX4_begin (wsV RX4 27 RX6 yX6_copyFrom wsX6_copyFrom) := goodIn_app (goodIn_of _ (by decide +kernel)) ggX4_begin_X6_copyFrom
theorem dX4_begin_0 : decode cX4_begin 0 = .ok (.aload_n 2, 1) := by decide +kernel
theorem dX4_begin_1 : decode cX4_begin 1 = .ok (.aload_n 1, 1) := by decide +kernel
theorem dX4_begin_2 : decode cX4_begin 2 = .ok (.invokevirtual 27, 3) := by decide +kernel
theorem dX4_begin_5 : decode cX4_begin 5 = .ok (.aload_n 0, 1) := by decide +kernel
theorem dX4_begin_6 : decode cX4_begin 6 = .ok (.getfield 21, 3) := by decide +kernel
theorem dX4_begin_9 : decode cX4_begin 9 = .ok (.iconst 0, 1) := by decide +kernel
theorem dX4_begin_10 : decode cX4_begin 10 = .ok (.iconst 1, 1) := by decide +kernel
theorem dX4_begin_11 : decode cX4_begin 11 = .ok (.iastore, 1) := by decide +kernel
theorem dX4_begin_12 : decode cX4_begin 12 = .ok (.aload_n 0, 1) := by decide +kernel
theorem dX4_begin_13 : decode cX4_begin 13 = .ok (.getfield 11, 3) := by decide +kernel
theorem dX4_begin_16 : decode cX4_begin 16 = .ok (.iconst 0, 1) := by decide +kernel
theorem dX4_begin_17 : decode cX4_begin 17 = .ok (.aload_n 1, 1) := by decide +kernel
theorem dX4_begin_18 : decode cX4_begin 18 = .ok (.getfield 33, 3) := by decide +kernel
theorem dX4_begin_21 : decode cX4_begin 21 = .ok (.bipush 8, 2) := by decide +kernel
theorem dX4_begin_23 : decode cX4_begin 23 = .ok (.imul, 1) := by decide +kernel
theorem dX4_begin_24 : decode cX4_begin 24 = .ok (.aload_n 1, 1) := by decide +kernel
theorem dX4_begin_25 : decode cX4_begin 25 = .ok (.getfield 37, 3) := by decide +kernel
theorem dX4_begin_28 : decode cX4_begin 28 = .ok (.bipush (-4), 2) := by decide +kernel
theorem dX4_begin_30 : decode cX4_begin 30 = .ok (.if_icmp .ne 8, 3) := by decide +kernel
theorem dX4_begin_33 : decode cX4_begin 33 = .ok (.bipush 7, 2) := by decide +kernel
theorem dX4_begin_35 : decode cX4_begin 35 = .ok (.goto 7, 3) := by decide +kernel
theorem dX4_begin_38 : decode cX4_begin 38 = .ok (.aload_n 1, 1) := by decide +kernel
theorem dX4_begin_39 : decode cX4_begin 39 = .ok (.getfield 37, 3) := by decide +kernel
theorem dX4_begin_42 : decode cX4_begin 42 = .ok (.iadd, 1) := by decide +kernel
theorem dX4_begin_43 : decode cX4_begin 43 = .ok (.iastore, 1) := by decide +kernel
theorem dX4_begin_44 : decode cX4_begin 44 = .ok (.return_, 1) := by decide +kernel
set_option maxRecDepth 20000 in
theorem ggX4_grow_X4_foreseeProwls : GoodIn wsX4_grow wsX4_foreseeProwls := goodIn_r _ [10, 4, 11, 12, 13, 14, 15, 16, 17, 18, 19, 20, 21, 22, 23, 24, 25, 26, 27, 28, 29, 30, 31, 32, 33, 34, 35, 36, 37, 38, 39, 40, 41, 42, 43, 44, 45, 46, 47, 48, 49, 50, 51, 52, 53, 54, 55, 56, 57, 58, 92, 93, 94, 95, 96, 97, 98, 99, 100, 101, 102, 103, 104, 105, 106, 107, 108, 86, 87, 88, 89, 90, 91] (by decide +kernel) (by decide +kernel)
set_option maxRecDepth 20000 in
theorem gX4_grow_X4_foreseeProwls : GoodIn wsX4_grow (wsV RX4 40 RX4 yX4_foreseeProwls wsX4_foreseeProwls) := goodIn_app (goodIn_of _ (by decide +kernel)) ggX4_grow_X4_foreseeProwls
set_option maxRecDepth 20000 in
theorem ggX4_grow_X6_across : GoodIn wsX4_grow wsX6_across := goodIn_r _ [29, 24, 30, 31, 32, 33, 34, 35, 36, 37, 38, 39, 40, 17, 41, 42, 92, 93, 94, 95, 96, 97, 98, 99, 100, 101, 102, 103, 104, 105, 106, 107, 108] (by decide +kernel) (by decide +kernel)
set_option maxRecDepth 20000 in
theorem gX4_grow_X6_across : GoodIn wsX4_grow (wsV RX4 56 RX6 yX6_across wsX6_across) := goodIn_app (goodIn_of _ (by decide +kernel)) ggX4_grow_X6_across
set_option maxRecDepth 20000 in
theorem ggX4_grow_X4_reach : GoodIn wsX4_grow wsX4_reach := goodIn_r _ [63, 12, 1, 2, 3, 64, 65, 86, 87, 88, 89, 90, 91] (by decide +kernel) (by decide +kernel)
set_option maxRecDepth 20000 in
theorem gX4_grow_X4_reach : GoodIn wsX4_grow (wsV RX4 60 RX4 yX4_reach wsX4_reach) := goodIn_app (goodIn_of _ (by decide +kernel)) ggX4_grow_X4_reach
set_option maxRecDepth 20000 in
theorem ggX4_grow_X6_passTime : GoodIn wsX4_grow wsX6_passTime := goodIn_r _ [69, 19, 70, 54, 55, 56, 71, 72, 73, 17, 74, 24, 75, 76, 77, 78, 79, 80, 42, 31, 81, 82, 83, 84, 85, 92, 93, 94, 95, 96, 97, 98, 99, 100, 101, 102, 103, 104, 105, 106, 107, 108] (by decide +kernel) (by decide +kernel)
set_option maxRecDepth 20000 in
theorem gX4_grow_X6_passTime : GoodIn wsX4_grow (wsV RX4 64 RX6 yX6_passTime wsX6_passTime) := goodIn_app (goodIn_of _ (by decide +kernel)) ggX4_grow_X6_passTime
theorem dX4_grow_0 : decode cX4_grow 0 = .ok (.iload_n 1, 1) := by decide +kernel
theorem dX4_grow_1 : decode cX4_grow 1 = .ok (.bipush 24, 2) := by decide +kernel
theorem dX4_grow_3 : decode cX4_grow 3 = .ok (.if_icmp .lt 4, 3) := by decide +kernel
theorem dX4_grow_6 : decode cX4_grow 6 = .ok (.return_, 1) := by decide +kernel
theorem dX4_grow_7 : decode cX4_grow 7 = .ok (.aload_n 0, 1) := by decide +kernel
theorem dX4_grow_8 : decode cX4_grow 8 = .ok (.aload_n 2, 1) := by decide +kernel
theorem dX4_grow_9 : decode cX4_grow 9 = .ok (.invokevirtual 40, 3) := by decide +kernel
theorem dX4_grow_12 : decode cX4_grow 12 = .ok (.aload_n 0, 1) := by decide +kernel
theorem dX4_grow_13 : decode cX4_grow 13 = .ok (.lconst 0, 1) := by decide +kernel
theorem dX4_grow_14 : decode cX4_grow 14 = .ok (.putfield 43, 3) := by decide +kernel
theorem dX4_grow_17 : decode cX4_grow 17 = .ok (.aload_n 0, 1) := by decide +kernel
theorem dX4_grow_18 : decode cX4_grow 18 = .ok (.getfield 21, 3) := by decide +kernel
theorem dX4_grow_21 : decode cX4_grow 21 = .ok (.iload_n 1, 1) := by decide +kernel
theorem dX4_grow_22 : decode cX4_grow 22 = .ok (.iconst 1, 1) := by decide +kernel
theorem dX4_grow_23 : decode cX4_grow 23 = .ok (.iadd, 1) := by decide +kernel
theorem dX4_grow_24 : decode cX4_grow 24 = .ok (.iconst 0, 1) := by decide +kernel
theorem dX4_grow_25 : decode cX4_grow 25 = .ok (.iastore, 1) := by decide +kernel
theorem dX4_grow_26 : decode cX4_grow 26 = .ok (.iconst 0, 1) := by decide +kernel
theorem dX4_grow_27 : decode cX4_grow 27 = .ok (.istore_n 3, 1) := by decide +kernel
theorem dX4_grow_28 : decode cX4_grow 28 = .ok (.iload_n 3, 1) := by decide +kernel
theorem dX4_grow_29 : decode cX4_grow 29 = .ok (.aload_n 0, 1) := by decide +kernel
theorem dX4_grow_30 : decode cX4_grow 30 = .ok (.getfield 21, 3) := by decide +kernel
theorem dX4_grow_33 : decode cX4_grow 33 = .ok (.iload_n 1, 1) := by decide +kernel
theorem dX4_grow_34 : decode cX4_grow 34 = .ok (.iaload, 1) := by decide +kernel
theorem dX4_grow_35 : decode cX4_grow 35 = .ok (.if_icmp .ge 96, 3) := by decide +kernel
theorem dX4_grow_38 : decode cX4_grow 38 = .ok (.aload_n 0, 1) := by decide +kernel
theorem dX4_grow_39 : decode cX4_grow 39 = .ok (.getfield 11, 3) := by decide +kernel
theorem dX4_grow_42 : decode cX4_grow 42 = .ok (.iload_n 1, 1) := by decide +kernel
theorem dX4_grow_43 : decode cX4_grow 43 = .ok (.bipush 56, 2) := by decide +kernel
theorem dX4_grow_45 : decode cX4_grow 45 = .ok (.imul, 1) := by decide +kernel
theorem dX4_grow_46 : decode cX4_grow 46 = .ok (.iload_n 3, 1) := by decide +kernel
theorem dX4_grow_47 : decode cX4_grow 47 = .ok (.iadd, 1) := by decide +kernel
theorem dX4_grow_48 : decode cX4_grow 48 = .ok (.iaload, 1) := by decide +kernel
theorem dX4_grow_49 : decode cX4_grow 49 = .ok (.istore 4, 2) := by decide +kernel
theorem dX4_grow_51 : decode cX4_grow 51 = .ok (.iconst 0, 1) := by decide +kernel
theorem dX4_grow_52 : decode cX4_grow 52 = .ok (.istore 5, 2) := by decide +kernel
theorem dX4_grow_54 : decode cX4_grow 54 = .ok (.iload 5, 2) := by decide +kernel
theorem dX4_grow_56 : decode cX4_grow 56 = .ok (.aload_n 2, 1) := by decide +kernel
theorem dX4_grow_57 : decode cX4_grow 57 = .ok (.getfield 47, 3) := by decide +kernel
theorem dX4_grow_60 : decode cX4_grow 60 = .ok (.getfield 51, 3) := by decide +kernel
theorem dX4_grow_63 : decode cX4_grow 63 = .ok (.if_icmp .ge 50, 3) := by decide +kernel
theorem dX4_grow_66 : decode cX4_grow 66 = .ok (.aload_n 2, 1) := by decide +kernel
theorem dX4_grow_67 : decode cX4_grow 67 = .ok (.iload 5, 2) := by decide +kernel
theorem dX4_grow_69 : decode cX4_grow 69 = .ok (.iload 4, 2) := by decide +kernel
theorem dX4_grow_71 : decode cX4_grow 71 = .ok (.bipush 8, 2) := by decide +kernel
theorem dX4_grow_73 : decode cX4_grow 73 = .ok (.idiv, 1) := by decide +kernel
theorem dX4_grow_74 : decode cX4_grow 74 = .ok (.invokevirtual 56, 3) := by decide +kernel
theorem dX4_grow_77 : decode cX4_grow 77 = .ok (.istore 6, 2) := by decide +kernel
theorem dX4_grow_79 : decode cX4_grow 79 = .ok (.iload 6, 2) := by decide +kernel
theorem dX4_grow_81 : decode cX4_grow 81 = .ok (.bipush (-4), 2) := by decide +kernel
theorem dX4_grow_83 : decode cX4_grow 83 = .ok (.if_icmp .eq 24, 3) := by decide +kernel
theorem dX4_grow_86 : decode cX4_grow 86 = .ok (.aload_n 0, 1) := by decide +kernel
theorem dX4_grow_87 : decode cX4_grow 87 = .ok (.iload_n 1, 1) := by decide +kernel
theorem dX4_grow_88 : decode cX4_grow 88 = .ok (.iconst 1, 1) := by decide +kernel
theorem dX4_grow_89 : decode cX4_grow 89 = .ok (.iadd, 1) := by decide +kernel
theorem dX4_grow_90 : decode cX4_grow 90 = .ok (.iload_n 3, 1) := by decide +kernel
theorem dX4_grow_91 : decode cX4_grow 91 = .ok (.iload 5, 2) := by decide +kernel
theorem dX4_grow_93 : decode cX4_grow 93 = .ok (.iload 6, 2) := by decide +kernel
theorem dX4_grow_95 : decode cX4_grow 95 = .ok (.bipush 8, 2) := by decide +kernel
theorem dX4_grow_97 : decode cX4_grow 97 = .ok (.imul, 1) := by decide +kernel
theorem dX4_grow_98 : decode cX4_grow 98 = .ok (.iload 4, 2) := by decide +kernel
theorem dX4_grow_100 : decode cX4_grow 100 = .ok (.bipush 8, 2) := by decide +kernel
theorem dX4_grow_102 : decode cX4_grow 102 = .ok (.irem, 1) := by decide +kernel
theorem dX4_grow_103 : decode cX4_grow 103 = .ok (.iadd, 1) := by decide +kernel
theorem dX4_grow_104 : decode cX4_grow 104 = .ok (.invokevirtual 60, 3) := by decide +kernel
theorem dX4_grow_107 : decode cX4_grow 107 = .ok (.iinc 5 1, 3) := by decide +kernel
theorem dX4_grow_110 : decode cX4_grow 110 = .ok (.goto (-56), 3) := by decide +kernel
theorem dX4_grow_113 : decode cX4_grow 113 = .ok (.aload_n 0, 1) := by decide +kernel
theorem dX4_grow_114 : decode cX4_grow 114 = .ok (.iload_n 1, 1) := by decide +kernel
theorem dX4_grow_115 : decode cX4_grow 115 = .ok (.iconst 1, 1) := by decide +kernel
theorem dX4_grow_116 : decode cX4_grow 116 = .ok (.iadd, 1) := by decide +kernel
theorem dX4_grow_117 : decode cX4_grow 117 = .ok (.iload_n 3, 1) := by decide +kernel
theorem dX4_grow_118 : decode cX4_grow 118 = .ok (.bipush 10, 2) := by decide +kernel
theorem dX4_grow_120 : decode cX4_grow 120 = .ok (.iload 4, 2) := by decide +kernel
theorem dX4_grow_122 : decode cX4_grow 122 = .ok (.invokevirtual 60, 3) := by decide +kernel
theorem dX4_grow_125 : decode cX4_grow 125 = .ok (.iinc 3 1, 3) := by decide +kernel
theorem dX4_grow_128 : decode cX4_grow 128 = .ok (.goto (-100), 3) := by decide +kernel
theorem dX4_grow_131 : decode cX4_grow 131 = .ok (.aload_n 2, 1) := by decide +kernel
theorem dX4_grow_132 : decode cX4_grow 132 = .ok (.invokevirtual 64, 3) := by decide +kernel
theorem dX4_grow_135 : decode cX4_grow 135 = .ok (.return_, 1) := by decide +kernel
set_option maxRecDepth 20000 in
theorem ggX4_foreseeProwls_X6_prowl : GoodIn wsX4_foreseeProwls wsX6_prowl := goodIn_r _ [9, 10, 11, 12, 13, 8, 14, 15, 16, 17, 18, 19, 20, 21, 22, 23, 24, 25, 26, 27, 28, 29, 30, 31, 32, 33, 34, 35, 36, 37, 38, 39, 40, 41, 42, 43, 44, 45, 46, 47, 48, 49, 50, 51, 52, 53, 54, 55, 56, 57, 58, 59, 60, 61, 62, 63, 64, 65, 66] (by decide +kernel) (by decide +kernel)
set_option maxRecDepth 20000 in
theorem gX4_foreseeProwls_X6_prowl : GoodIn wsX4_foreseeProwls (wsV RX4 73 RX6 yX6_prowl wsX6_prowl) := goodIn_app (goodIn_of _ (by decide +kernel)) ggX4_foreseeProwls_X6_prowl
theorem dX4_foreseeProwls_0 : decode cX4_foreseeProwls 0 = .ok (.iconst 0, 1) := by decide +kernel
theorem dX4_foreseeProwls_1 : decode cX4_foreseeProwls 1 = .ok (.istore_n 2, 1) := by decide +kernel
theorem dX4_foreseeProwls_2 : decode cX4_foreseeProwls 2 = .ok (.iload_n 2, 1) := by decide +kernel
theorem dX4_foreseeProwls_3 : decode cX4_foreseeProwls 3 = .ok (.aload_n 1, 1) := by decide +kernel
theorem dX4_foreseeProwls_4 : decode cX4_foreseeProwls 4 = .ok (.getfield 47, 3) := by decide +kernel
theorem dX4_foreseeProwls_7 : decode cX4_foreseeProwls 7 = .ok (.getfield 67, 3) := by decide +kernel
theorem dX4_foreseeProwls_10 : decode cX4_foreseeProwls 10 = .ok (.if_icmp .ge 63, 3) := by decide +kernel
theorem dX4_foreseeProwls_13 : decode cX4_foreseeProwls 13 = .ok (.iconst 0, 1) := by decide +kernel
theorem dX4_foreseeProwls_14 : decode cX4_foreseeProwls 14 = .ok (.istore_n 3, 1) := by decide +kernel
theorem dX4_foreseeProwls_15 : decode cX4_foreseeProwls 15 = .ok (.iload_n 3, 1) := by decide +kernel
theorem dX4_foreseeProwls_16 : decode cX4_foreseeProwls 16 = .ok (.aload_n 1, 1) := by decide +kernel
theorem dX4_foreseeProwls_17 : decode cX4_foreseeProwls 17 = .ok (.getfield 47, 3) := by decide +kernel
theorem dX4_foreseeProwls_20 : decode cX4_foreseeProwls 20 = .ok (.getfield 67, 3) := by decide +kernel
theorem dX4_foreseeProwls_23 : decode cX4_foreseeProwls 23 = .ok (.if_icmp .ge 30, 3) := by decide +kernel
theorem dX4_foreseeProwls_26 : decode cX4_foreseeProwls 26 = .ok (.aload_n 0, 1) := by decide +kernel
theorem dX4_foreseeProwls_27 : decode cX4_foreseeProwls 27 = .ok (.getfield 24, 3) := by decide +kernel
theorem dX4_foreseeProwls_30 : decode cX4_foreseeProwls 30 = .ok (.iload_n 2, 1) := by decide +kernel
theorem dX4_foreseeProwls_31 : decode cX4_foreseeProwls 31 = .ok (.bipush 8, 2) := by decide +kernel
theorem dX4_foreseeProwls_33 : decode cX4_foreseeProwls 33 = .ok (.imul, 1) := by decide +kernel
theorem dX4_foreseeProwls_34 : decode cX4_foreseeProwls 34 = .ok (.iload_n 3, 1) := by decide +kernel
theorem dX4_foreseeProwls_35 : decode cX4_foreseeProwls 35 = .ok (.iadd, 1) := by decide +kernel
theorem dX4_foreseeProwls_36 : decode cX4_foreseeProwls 36 = .ok (.aload_n 1, 1) := by decide +kernel
theorem dX4_foreseeProwls_37 : decode cX4_foreseeProwls 37 = .ok (.aload_n 1, 1) := by decide +kernel
theorem dX4_foreseeProwls_38 : decode cX4_foreseeProwls 38 = .ok (.getfield 70, 3) := by decide +kernel
theorem dX4_foreseeProwls_41 : decode cX4_foreseeProwls 41 = .ok (.iload_n 3, 1) := by decide +kernel
theorem dX4_foreseeProwls_42 : decode cX4_foreseeProwls 42 = .ok (.iload_n 2, 1) := by decide +kernel
theorem dX4_foreseeProwls_43 : decode cX4_foreseeProwls 43 = .ok (.invokevirtual 73, 3) := by decide +kernel
theorem dX4_foreseeProwls_46 : decode cX4_foreseeProwls 46 = .ok (.iastore, 1) := by decide +kernel
theorem dX4_foreseeProwls_47 : decode cX4_foreseeProwls 47 = .ok (.iinc 3 1, 3) := by decide +kernel
theorem dX4_foreseeProwls_50 : decode cX4_foreseeProwls 50 = .ok (.goto (-35), 3) := by decide +kernel
theorem dX4_foreseeProwls_53 : decode cX4_foreseeProwls 53 = .ok (.aload_n 0, 1) := by decide +kernel
theorem dX4_foreseeProwls_54 : decode cX4_foreseeProwls 54 = .ok (.getfield 24, 3) := by decide +kernel
theorem dX4_foreseeProwls_57 : decode cX4_foreseeProwls 57 = .ok (.iload_n 2, 1) := by decide +kernel
theorem dX4_foreseeProwls_58 : decode cX4_foreseeProwls 58 = .ok (.bipush 8, 2) := by decide +kernel
theorem dX4_foreseeProwls_60 : decode cX4_foreseeProwls 60 = .ok (.imul, 1) := by decide +kernel
theorem dX4_foreseeProwls_61 : decode cX4_foreseeProwls 61 = .ok (.bipush 7, 2) := by decide +kernel
theorem dX4_foreseeProwls_63 : decode cX4_foreseeProwls 63 = .ok (.iadd, 1) := by decide +kernel
theorem dX4_foreseeProwls_64 : decode cX4_foreseeProwls 64 = .ok (.bipush 7, 2) := by decide +kernel
theorem dX4_foreseeProwls_66 : decode cX4_foreseeProwls 66 = .ok (.iastore, 1) := by decide +kernel
theorem dX4_foreseeProwls_67 : decode cX4_foreseeProwls 67 = .ok (.iinc 2 1, 3) := by decide +kernel
theorem dX4_foreseeProwls_70 : decode cX4_foreseeProwls 70 = .ok (.goto (-68), 3) := by decide +kernel
theorem dX4_foreseeProwls_73 : decode cX4_foreseeProwls 73 = .ok (.return_, 1) := by decide +kernel
theorem dX4_reach_0 : decode cX4_reach 0 = .ok (.iload 4, 2) := by decide +kernel
theorem dX4_reach_2 : decode cX4_reach 2 = .ok (.bipush 8, 2) := by decide +kernel
theorem dX4_reach_4 : decode cX4_reach 4 = .ok (.idiv, 1) := by decide +kernel
theorem dX4_reach_5 : decode cX4_reach 5 = .ok (.istore 5, 2) := by decide +kernel
theorem dX4_reach_7 : decode cX4_reach 7 = .ok (.iload 4, 2) := by decide +kernel
theorem dX4_reach_9 : decode cX4_reach 9 = .ok (.bipush 8, 2) := by decide +kernel
theorem dX4_reach_11 : decode cX4_reach 11 = .ok (.irem, 1) := by decide +kernel
theorem dX4_reach_12 : decode cX4_reach 12 = .ok (.iload 5, 2) := by decide +kernel
theorem dX4_reach_14 : decode cX4_reach 14 = .ok (.if_icmp .eq 15, 3) := by decide +kernel
theorem dX4_reach_17 : decode cX4_reach 17 = .ok (.aload_n 0, 1) := by decide +kernel
theorem dX4_reach_18 : decode cX4_reach 18 = .ok (.getfield 24, 3) := by decide +kernel
theorem dX4_reach_21 : decode cX4_reach 21 = .ok (.iload 4, 2) := by decide +kernel
theorem dX4_reach_23 : decode cX4_reach 23 = .ok (.iaload, 1) := by decide +kernel
theorem dX4_reach_24 : decode cX4_reach 24 = .ok (.iload 5, 2) := by decide +kernel
theorem dX4_reach_26 : decode cX4_reach 26 = .ok (.if_icmp .ne 4, 3) := by decide +kernel
theorem dX4_reach_29 : decode cX4_reach 29 = .ok (.return_, 1) := by decide +kernel
theorem dX4_reach_30 : decode cX4_reach 30 = .ok (.iload 5, 2) := by decide +kernel
theorem dX4_reach_32 : decode cX4_reach 32 = .ok (.bipush 8, 2) := by decide +kernel
theorem dX4_reach_34 : decode cX4_reach 34 = .ok (.imul, 1) := by decide +kernel
theorem dX4_reach_35 : decode cX4_reach 35 = .ok (.aload_n 0, 1) := by decide +kernel
theorem dX4_reach_36 : decode cX4_reach 36 = .ok (.getfield 24, 3) := by decide +kernel
theorem dX4_reach_39 : decode cX4_reach 39 = .ok (.iload 4, 2) := by decide +kernel
theorem dX4_reach_41 : decode cX4_reach 41 = .ok (.iaload, 1) := by decide +kernel
theorem dX4_reach_42 : decode cX4_reach 42 = .ok (.iadd, 1) := by decide +kernel
theorem dX4_reach_43 : decode cX4_reach 43 = .ok (.istore 6, 2) := by decide +kernel
theorem dX4_reach_45 : decode cX4_reach 45 = .ok (.aload_n 0, 1) := by decide +kernel
theorem dX4_reach_46 : decode cX4_reach 46 = .ok (.getfield 43, 3) := by decide +kernel
theorem dX4_reach_49 : decode cX4_reach 49 = .ok (.iload 6, 2) := by decide +kernel
theorem dX4_reach_51 : decode cX4_reach 51 = .ok (.lshr, 1) := by decide +kernel
theorem dX4_reach_52 : decode cX4_reach 52 = .ok (.lconst 1, 1) := by decide +kernel
theorem dX4_reach_53 : decode cX4_reach 53 = .ok (.land, 1) := by decide +kernel
theorem dX4_reach_54 : decode cX4_reach 54 = .ok (.lconst 0, 1) := by decide +kernel
theorem dX4_reach_55 : decode cX4_reach 55 = .ok (.lcmp, 1) := by decide +kernel
theorem dX4_reach_56 : decode cX4_reach 56 = .ok (.ifCond .eq 4, 3) := by decide +kernel
theorem dX4_reach_59 : decode cX4_reach 59 = .ok (.return_, 1) := by decide +kernel
theorem dX4_reach_60 : decode cX4_reach 60 = .ok (.aload_n 0, 1) := by decide +kernel
theorem dX4_reach_61 : decode cX4_reach 61 = .ok (.dup, 1) := by decide +kernel
theorem dX4_reach_62 : decode cX4_reach 62 = .ok (.getfield 43, 3) := by decide +kernel
theorem dX4_reach_65 : decode cX4_reach 65 = .ok (.lconst 1, 1) := by decide +kernel
theorem dX4_reach_66 : decode cX4_reach 66 = .ok (.iload 6, 2) := by decide +kernel
theorem dX4_reach_68 : decode cX4_reach 68 = .ok (.lshl, 1) := by decide +kernel
theorem dX4_reach_69 : decode cX4_reach 69 = .ok (.lor, 1) := by decide +kernel
theorem dX4_reach_70 : decode cX4_reach 70 = .ok (.putfield 43, 3) := by decide +kernel
theorem dX4_reach_73 : decode cX4_reach 73 = .ok (.iload_n 1, 1) := by decide +kernel
theorem dX4_reach_74 : decode cX4_reach 74 = .ok (.bipush 56, 2) := by decide +kernel
theorem dX4_reach_76 : decode cX4_reach 76 = .ok (.imul, 1) := by decide +kernel
theorem dX4_reach_77 : decode cX4_reach 77 = .ok (.aload_n 0, 1) := by decide +kernel
theorem dX4_reach_78 : decode cX4_reach 78 = .ok (.getfield 21, 3) := by decide +kernel
theorem dX4_reach_81 : decode cX4_reach 81 = .ok (.iload_n 1, 1) := by decide +kernel
theorem dX4_reach_82 : decode cX4_reach 82 = .ok (.iaload, 1) := by decide +kernel
theorem dX4_reach_83 : decode cX4_reach 83 = .ok (.iadd, 1) := by decide +kernel
theorem dX4_reach_84 : decode cX4_reach 84 = .ok (.istore 7, 2) := by decide +kernel
theorem dX4_reach_86 : decode cX4_reach 86 = .ok (.aload_n 0, 1) := by decide +kernel
theorem dX4_reach_87 : decode cX4_reach 87 = .ok (.getfield 11, 3) := by decide +kernel
theorem dX4_reach_90 : decode cX4_reach 90 = .ok (.iload 7, 2) := by decide +kernel
theorem dX4_reach_92 : decode cX4_reach 92 = .ok (.iload 6, 2) := by decide +kernel
theorem dX4_reach_94 : decode cX4_reach 94 = .ok (.iastore, 1) := by decide +kernel
theorem dX4_reach_95 : decode cX4_reach 95 = .ok (.aload_n 0, 1) := by decide +kernel
theorem dX4_reach_96 : decode cX4_reach 96 = .ok (.getfield 15, 3) := by decide +kernel
theorem dX4_reach_99 : decode cX4_reach 99 = .ok (.iload 7, 2) := by decide +kernel
theorem dX4_reach_101 : decode cX4_reach 101 = .ok (.iload_n 2, 1) := by decide +kernel
theorem dX4_reach_102 : decode cX4_reach 102 = .ok (.iastore, 1) := by decide +kernel
theorem dX4_reach_103 : decode cX4_reach 103 = .ok (.aload_n 0, 1) := by decide +kernel
theorem dX4_reach_104 : decode cX4_reach 104 = .ok (.getfield 18, 3) := by decide +kernel
theorem dX4_reach_107 : decode cX4_reach 107 = .ok (.iload 7, 2) := by decide +kernel
theorem dX4_reach_109 : decode cX4_reach 109 = .ok (.iload_n 3, 1) := by decide +kernel
theorem dX4_reach_110 : decode cX4_reach 110 = .ok (.iastore, 1) := by decide +kernel
theorem dX4_reach_111 : decode cX4_reach 111 = .ok (.aload_n 0, 1) := by decide +kernel
theorem dX4_reach_112 : decode cX4_reach 112 = .ok (.getfield 21, 3) := by decide +kernel
theorem dX4_reach_115 : decode cX4_reach 115 = .ok (.iload_n 1, 1) := by decide +kernel
theorem dX4_reach_116 : decode cX4_reach 116 = .ok (.dup2, 1) := by decide +kernel
theorem dX4_reach_117 : decode cX4_reach 117 = .ok (.iaload, 1) := by decide +kernel
theorem dX4_reach_118 : decode cX4_reach 118 = .ok (.iconst 1, 1) := by decide +kernel
theorem dX4_reach_119 : decode cX4_reach 119 = .ok (.iadd, 1) := by decide +kernel
theorem dX4_reach_120 : decode cX4_reach 120 = .ok (.iastore, 1) := by decide +kernel
theorem dX4_reach_121 : decode cX4_reach 121 = .ok (.return_, 1) := by decide +kernel
theorem dX4_firstIn_0 : decode cX4_firstIn 0 = .ok (.iconst 0, 1) := by decide +kernel
theorem dX4_firstIn_1 : decode cX4_firstIn 1 = .ok (.istore_n 3, 1) := by decide +kernel
theorem dX4_firstIn_2 : decode cX4_firstIn 2 = .ok (.iload_n 3, 1) := by decide +kernel
theorem dX4_firstIn_3 : decode cX4_firstIn 3 = .ok (.aload_n 0, 1) := by decide +kernel
theorem dX4_firstIn_4 : decode cX4_firstIn 4 = .ok (.getfield 21, 3) := by decide +kernel
theorem dX4_firstIn_7 : decode cX4_firstIn 7 = .ok (.iload_n 1, 1) := by decide +kernel
theorem dX4_firstIn_8 : decode cX4_firstIn 8 = .ok (.iaload, 1) := by decide +kernel
theorem dX4_firstIn_9 : decode cX4_firstIn 9 = .ok (.if_icmp .ge 29, 3) := by decide +kernel
theorem dX4_firstIn_12 : decode cX4_firstIn 12 = .ok (.aload_n 0, 1) := by decide +kernel
theorem dX4_firstIn_13 : decode cX4_firstIn 13 = .ok (.getfield 11, 3) := by decide +kernel
theorem dX4_firstIn_16 : decode cX4_firstIn 16 = .ok (.iload_n 1, 1) := by decide +kernel
theorem dX4_firstIn_17 : decode cX4_firstIn 17 = .ok (.bipush 56, 2) := by decide +kernel
theorem dX4_firstIn_19 : decode cX4_firstIn 19 = .ok (.imul, 1) := by decide +kernel
theorem dX4_firstIn_20 : decode cX4_firstIn 20 = .ok (.iload_n 3, 1) := by decide +kernel
theorem dX4_firstIn_21 : decode cX4_firstIn 21 = .ok (.iadd, 1) := by decide +kernel
theorem dX4_firstIn_22 : decode cX4_firstIn 22 = .ok (.iaload, 1) := by decide +kernel
theorem dX4_firstIn_23 : decode cX4_firstIn 23 = .ok (.bipush 8, 2) := by decide +kernel
theorem dX4_firstIn_25 : decode cX4_firstIn 25 = .ok (.idiv, 1) := by decide +kernel
theorem dX4_firstIn_26 : decode cX4_firstIn 26 = .ok (.iload_n 2, 1) := by decide +kernel
theorem dX4_firstIn_27 : decode cX4_firstIn 27 = .ok (.if_icmp .ne 5, 3) := by decide +kernel
theorem dX4_firstIn_30 : decode cX4_firstIn 30 = .ok (.iload_n 3, 1) := by decide +kernel
theorem dX4_firstIn_31 : decode cX4_firstIn 31 = .ok (.ireturn, 1) := by decide +kernel
theorem dX4_firstIn_32 : decode cX4_firstIn 32 = .ok (.iinc 3 1, 3) := by decide +kernel
theorem dX4_firstIn_35 : decode cX4_firstIn 35 = .ok (.goto (-33), 3) := by decide +kernel
theorem dX4_firstIn_38 : decode cX4_firstIn 38 = .ok (.bipush (-4), 2) := by decide +kernel
theorem dX4_firstIn_40 : decode cX4_firstIn 40 = .ok (.ireturn, 1) := by decide +kernel
theorem dX4_roomsOf_0 : decode cX4_roomsOf 0 = .ok (.iconst 0, 1) := by decide +kernel
theorem dX4_roomsOf_1 : decode cX4_roomsOf 1 = .ok (.istore_n 2, 1) := by decide +kernel
theorem dX4_roomsOf_2 : decode cX4_roomsOf 2 = .ok (.iconst 0, 1) := by decide +kernel
theorem dX4_roomsOf_3 : decode cX4_roomsOf 3 = .ok (.istore_n 3, 1) := by decide +kernel
theorem dX4_roomsOf_4 : decode cX4_roomsOf 4 = .ok (.iload_n 3, 1) := by decide +kernel
theorem dX4_roomsOf_5 : decode cX4_roomsOf 5 = .ok (.aload_n 0, 1) := by decide +kernel
theorem dX4_roomsOf_6 : decode cX4_roomsOf 6 = .ok (.getfield 21, 3) := by decide +kernel
theorem dX4_roomsOf_9 : decode cX4_roomsOf 9 = .ok (.iload_n 1, 1) := by decide +kernel
theorem dX4_roomsOf_10 : decode cX4_roomsOf 10 = .ok (.iaload, 1) := by decide +kernel
theorem dX4_roomsOf_11 : decode cX4_roomsOf 11 = .ok (.if_icmp .ge 28, 3) := by decide +kernel
theorem dX4_roomsOf_14 : decode cX4_roomsOf 14 = .ok (.iload_n 2, 1) := by decide +kernel
theorem dX4_roomsOf_15 : decode cX4_roomsOf 15 = .ok (.iconst 1, 1) := by decide +kernel
theorem dX4_roomsOf_16 : decode cX4_roomsOf 16 = .ok (.aload_n 0, 1) := by decide +kernel
theorem dX4_roomsOf_17 : decode cX4_roomsOf 17 = .ok (.getfield 11, 3) := by decide +kernel
theorem dX4_roomsOf_20 : decode cX4_roomsOf 20 = .ok (.iload_n 1, 1) := by decide +kernel
theorem dX4_roomsOf_21 : decode cX4_roomsOf 21 = .ok (.bipush 56, 2) := by decide +kernel
theorem dX4_roomsOf_23 : decode cX4_roomsOf 23 = .ok (.imul, 1) := by decide +kernel
theorem dX4_roomsOf_24 : decode cX4_roomsOf 24 = .ok (.iload_n 3, 1) := by decide +kernel
theorem dX4_roomsOf_25 : decode cX4_roomsOf 25 = .ok (.iadd, 1) := by decide +kernel
theorem dX4_roomsOf_26 : decode cX4_roomsOf 26 = .ok (.iaload, 1) := by decide +kernel
theorem dX4_roomsOf_27 : decode cX4_roomsOf 27 = .ok (.bipush 8, 2) := by decide +kernel
theorem dX4_roomsOf_29 : decode cX4_roomsOf 29 = .ok (.idiv, 1) := by decide +kernel
theorem dX4_roomsOf_30 : decode cX4_roomsOf 30 = .ok (.ishl, 1) := by decide +kernel
theorem dX4_roomsOf_31 : decode cX4_roomsOf 31 = .ok (.ior, 1) := by decide +kernel
theorem dX4_roomsOf_32 : decode cX4_roomsOf 32 = .ok (.istore_n 2, 1) := by decide +kernel
theorem dX4_roomsOf_33 : decode cX4_roomsOf 33 = .ok (.iinc 3 1, 3) := by decide +kernel
theorem dX4_roomsOf_36 : decode cX4_roomsOf 36 = .ok (.goto (-32), 3) := by decide +kernel
theorem dX4_roomsOf_39 : decode cX4_roomsOf 39 = .ok (.iload_n 2, 1) := by decide +kernel
theorem dX4_roomsOf_40 : decode cX4_roomsOf 40 = .ok (.ireturn, 1) := by decide +kernel
theorem dX4_stepOf_0 : decode cX4_stepOf 0 = .ok (.iload_n 3, 1) := by decide +kernel
theorem dX4_stepOf_1 : decode cX4_stepOf 1 = .ok (.iload_n 1, 1) := by decide +kernel
theorem dX4_stepOf_2 : decode cX4_stepOf 2 = .ok (.if_icmp .lt 6, 3) := by decide +kernel
theorem dX4_stepOf_5 : decode cX4_stepOf 5 = .ok (.bipush (-4), 2) := by decide +kernel
theorem dX4_stepOf_7 : decode cX4_stepOf 7 = .ok (.ireturn, 1) := by decide +kernel
theorem dX4_stepOf_8 : decode cX4_stepOf 8 = .ok (.iload_n 2, 1) := by decide +kernel
theorem dX4_stepOf_9 : decode cX4_stepOf 9 = .ok (.istore 4, 2) := by decide +kernel
theorem dX4_stepOf_11 : decode cX4_stepOf 11 = .ok (.iload_n 1, 1) := by decide +kernel
theorem dX4_stepOf_12 : decode cX4_stepOf 12 = .ok (.istore 5, 2) := by decide +kernel
theorem dX4_stepOf_14 : decode cX4_stepOf 14 = .ok (.iload 5, 2) := by decide +kernel
theorem dX4_stepOf_16 : decode cX4_stepOf 16 = .ok (.iload_n 3, 1) := by decide +kernel
theorem dX4_stepOf_17 : decode cX4_stepOf 17 = .ok (.iconst 1, 1) := by decide +kernel
theorem dX4_stepOf_18 : decode cX4_stepOf 18 = .ok (.iadd, 1) := by decide +kernel
theorem dX4_stepOf_19 : decode cX4_stepOf 19 = .ok (.if_icmp .le 24, 3) := by decide +kernel
theorem dX4_stepOf_22 : decode cX4_stepOf 22 = .ok (.aload_n 0, 1) := by decide +kernel
theorem dX4_stepOf_23 : decode cX4_stepOf 23 = .ok (.getfield 15, 3) := by decide +kernel
theorem dX4_stepOf_26 : decode cX4_stepOf 26 = .ok (.iload 5, 2) := by decide +kernel
theorem dX4_stepOf_28 : decode cX4_stepOf 28 = .ok (.bipush 56, 2) := by decide +kernel
theorem dX4_stepOf_30 : decode cX4_stepOf 30 = .ok (.imul, 1) := by decide +kernel
theorem dX4_stepOf_31 : decode cX4_stepOf 31 = .ok (.iload 4, 2) := by decide +kernel
theorem dX4_stepOf_33 : decode cX4_stepOf 33 = .ok (.iadd, 1) := by decide +kernel
theorem dX4_stepOf_34 : decode cX4_stepOf 34 = .ok (.iaload, 1) := by decide +kernel
theorem dX4_stepOf_35 : decode cX4_stepOf 35 = .ok (.istore 4, 2) := by decide +kernel
theorem dX4_stepOf_37 : decode cX4_stepOf 37 = .ok (.iinc 5 (-1), 3) := by decide +kernel
theorem dX4_stepOf_40 : decode cX4_stepOf 40 = .ok (.goto (-26), 3) := by decide +kernel
theorem dX4_stepOf_43 : decode cX4_stepOf 43 = .ok (.aload_n 0, 1) := by decide +kernel
theorem dX4_stepOf_44 : decode cX4_stepOf 44 = .ok (.getfield 18, 3) := by decide +kernel
theorem dX4_stepOf_47 : decode cX4_stepOf 47 = .ok (.iload_n 3, 1) := by decide +kernel
theorem dX4_stepOf_48 : decode cX4_stepOf 48 = .ok (.iconst 1, 1) := by decide +kernel
