theorem dX8_see_0 : decode cX8_see 0 = .ok (.iload_n 1, 1) := by decide +kernel
theorem dX8_see_1 : decode cX8_see 1 = .ok (.aload_n 0, 1) := by decide +kernel
theorem dX8_see_2 : decode cX8_see 2 = .ok (.getfield 52, 3) := by decide +kernel
theorem dX8_see_5 : decode cX8_see 5 = .ok (.if_icmp .ge 12, 3) := by decide +kernel
theorem dX8_see_8 : decode cX8_see 8 = .ok (.aload_n 0, 1) := by decide +kernel
theorem dX8_see_9 : decode cX8_see 9 = .ok (.getfield 19, 3) := by decide +kernel
theorem dX8_see_12 : decode cX8_see 12 = .ok (.iload_n 1, 1) := by decide +kernel
theorem dX8_see_13 : decode cX8_see 13 = .ok (.iaload, 1) := by decide +kernel
theorem dX8_see_14 : decode cX8_see 14 = .ok (.goto 4, 3) := by decide +kernel
theorem dX8_see_17 : decode cX8_see 17 = .ok (.iconst (-1), 1) := by decide +kernel
theorem dX8_see_18 : decode cX8_see 18 = .ok (.ireturn, 1) := by decide +kernel
set_option maxRecDepth 20000 in
theorem ggX8_isLetter_X8_isIn : GoodIn wsX8_isLetter wsX8_isIn := goodIn_r _ [6] (by decide +kernel) (by decide +kernel)
set_option maxRecDepth 20000 in
theorem gX8_isLetter_X8_isIn : GoodIn wsX8_isLetter (va_wsS RX8 59 yX8_isIn wsX8_isIn) := goodIn_app (goodIn_of _ (by decide +kernel)) ggX8_isLetter_X8_isIn
theorem dX8_isLetter_0 : decode cX8_isLetter 0 = .ok (.iload_n 0, 1) := by decide +kernel
theorem dX8_isLetter_1 : decode cX8_isLetter 1 = .ok (.i2l, 1) := by decide +kernel
theorem dX8_isLetter_2 : decode cX8_isLetter 2 = .ok (.ldc2_w 55, 3) := by decide +kernel
theorem dX8_isLetter_5 : decode cX8_isLetter 5 = .ok (.ldc2_w 57, 3) := by decide +kernel
theorem dX8_isLetter_8 : decode cX8_isLetter 8 = .ok (.invokestatic 59, 3) := by decide +kernel
theorem dX8_isLetter_11 : decode cX8_isLetter 11 = .ok (.ireturn, 1) := by decide +kernel
set_option maxRecDepth 20000 in
theorem ggX8_isDigit_X8_isIn : GoodIn wsX8_isDigit wsX8_isIn := goodIn_r _ [6] (by decide +kernel) (by decide +kernel)
set_option maxRecDepth 20000 in
theorem gX8_isDigit_X8_isIn : GoodIn wsX8_isDigit (va_wsS RX8 59 yX8_isIn wsX8_isIn) := goodIn_app (goodIn_of _ (by decide +kernel)) ggX8_isDigit_X8_isIn
theorem dX8_isDigit_0 : decode cX8_isDigit 0 = .ok (.iload_n 0, 1) := by decide +kernel
theorem dX8_isDigit_1 : decode cX8_isDigit 1 = .ok (.i2l, 1) := by decide +kernel
theorem dX8_isDigit_2 : decode cX8_isDigit 2 = .ok (.ldc2_w 63, 3) := by decide +kernel
theorem dX8_isDigit_5 : decode cX8_isDigit 5 = .ok (.ldc2_w 65, 3) := by decide +kernel
theorem dX8_isDigit_8 : decode cX8_isDigit 8 = .ok (.invokestatic 59, 3) := by decide +kernel
theorem dX8_isDigit_11 : decode cX8_isDigit 11 = .ok (.ireturn, 1) := by decide +kernel
set_option maxRecDepth 20000 in
theorem ggX8_next_X8_see : GoodIn wsX8_next wsX8_see := goodIn_r _ [12, 4, 13, 27, 28, 29, 30, 31, 32, 33, 34, 35, 36, 37, 38, 39, 40, 41, 42, 43, 44] (by decide +kernel) (by decide +kernel)
set_option maxRecDepth 20000 in
theorem gX8_next_X8_see : GoodIn wsX8_next (wsV RX8 73 RX8 yX8_see wsX8_see) := goodIn_app (goodIn_of _ (by decide +kernel)) ggX8_next_X8_see
set_option maxRecDepth 20000 in
theorem ggX8_next_X8_isLetter : GoodIn wsX8_next wsX8_isLetter := goodIn_r _ [16, 17, 18, 19, 20, 11, 21] (by decide +kernel) (by decide +kernel)
set_option maxRecDepth 20000 in
theorem gX8_next_X8_isLetter : GoodIn wsX8_next (va_wsS RX8 84 yX8_isLetter wsX8_isLetter) := goodIn_app (goodIn_of _ (by decide +kernel)) ggX8_next_X8_isLetter
set_option maxRecDepth 20000 in
theorem ggX8_next_X8_isDigit : GoodIn wsX8_next wsX8_isDigit := goodIn_r _ [24, 25, 26, 19, 20, 11, 21] (by decide +kernel) (by decide +kernel)
set_option maxRecDepth 20000 in
theorem gX8_next_X8_isDigit : GoodIn wsX8_next (va_wsS RX8 88 yX8_isDigit wsX8_isDigit) := goodIn_app (goodIn_of _ (by decide +kernel)) ggX8_next_X8_isDigit
theorem dX8_next_0 : decode cX8_next 0 = .ok (.aload_n 0, 1) := by decide +kernel
theorem dX8_next_1 : decode cX8_next 1 = .ok (.aload_n 0, 1) := by decide +kernel
theorem dX8_next_2 : decode cX8_next 2 = .ok (.getfield 67, 3) := by decide +kernel
theorem dX8_next_5 : decode cX8_next 5 = .ok (.putfield 70, 3) := by decide +kernel
theorem dX8_next_8 : decode cX8_next 8 = .ok (.aload_n 0, 1) := by decide +kernel
theorem dX8_next_9 : decode cX8_next 9 = .ok (.aload_n 0, 1) := by decide +kernel
theorem dX8_next_10 : decode cX8_next 10 = .ok (.getfield 70, 3) := by decide +kernel
theorem dX8_next_13 : decode cX8_next 13 = .ok (.invokevirtual 73, 3) := by decide +kernel
theorem dX8_next_16 : decode cX8_next 16 = .ok (.bipush 32, 2) := by decide +kernel
theorem dX8_next_18 : decode cX8_next 18 = .ok (.if_icmp .ne 16, 3) := by decide +kernel
theorem dX8_next_21 : decode cX8_next 21 = .ok (.aload_n 0, 1) := by decide +kernel
theorem dX8_next_22 : decode cX8_next 22 = .ok (.dup, 1) := by decide +kernel
theorem dX8_next_23 : decode cX8_next 23 = .ok (.getfield 70, 3) := by decide +kernel
theorem dX8_next_26 : decode cX8_next 26 = .ok (.iconst 1, 1) := by decide +kernel
theorem dX8_next_27 : decode cX8_next 27 = .ok (.iadd, 1) := by decide +kernel
theorem dX8_next_28 : decode cX8_next 28 = .ok (.putfield 70, 3) := by decide +kernel
theorem dX8_next_31 : decode cX8_next 31 = .ok (.goto (-23), 3) := by decide +kernel
theorem dX8_next_34 : decode cX8_next 34 = .ok (.aload_n 0, 1) := by decide +kernel
theorem dX8_next_35 : decode cX8_next 35 = .ok (.aload_n 0, 1) := by decide +kernel
theorem dX8_next_36 : decode cX8_next 36 = .ok (.getfield 70, 3) := by decide +kernel
theorem dX8_next_39 : decode cX8_next 39 = .ok (.putfield 67, 3) := by decide +kernel
theorem dX8_next_42 : decode cX8_next 42 = .ok (.aload_n 0, 1) := by decide +kernel
theorem dX8_next_43 : decode cX8_next 43 = .ok (.lconst 0, 1) := by decide +kernel
theorem dX8_next_44 : decode cX8_next 44 = .ok (.putfield 77, 3) := by decide +kernel
theorem dX8_next_47 : decode cX8_next 47 = .ok (.aload_n 0, 1) := by decide +kernel
theorem dX8_next_48 : decode cX8_next 48 = .ok (.getfield 70, 3) := by decide +kernel
theorem dX8_next_51 : decode cX8_next 51 = .ok (.aload_n 0, 1) := by decide +kernel
theorem dX8_next_52 : decode cX8_next 52 = .ok (.getfield 52, 3) := by decide +kernel
theorem dX8_next_55 : decode cX8_next 55 = .ok (.if_icmp .lt 11, 3) := by decide +kernel
theorem dX8_next_58 : decode cX8_next 58 = .ok (.aload_n 0, 1) := by decide +kernel
theorem dX8_next_59 : decode cX8_next 59 = .ok (.iconst 3, 1) := by decide +kernel
theorem dX8_next_60 : decode cX8_next 60 = .ok (.putfield 81, 3) := by decide +kernel
theorem dX8_next_63 : decode cX8_next 63 = .ok (.goto 192, 3) := by decide +kernel
theorem dX8_next_66 : decode cX8_next 66 = .ok (.aload_n 0, 1) := by decide +kernel
theorem dX8_next_67 : decode cX8_next 67 = .ok (.aload_n 0, 1) := by decide +kernel
theorem dX8_next_68 : decode cX8_next 68 = .ok (.getfield 70, 3) := by decide +kernel
theorem dX8_next_71 : decode cX8_next 71 = .ok (.invokevirtual 73, 3) := by decide +kernel
theorem dX8_next_74 : decode cX8_next 74 = .ok (.invokestatic 84, 3) := by decide +kernel
theorem dX8_next_77 : decode cX8_next 77 = .ok (.ifCond .eq 77, 3) := by decide +kernel
theorem dX8_next_80 : decode cX8_next 80 = .ok (.aload_n 0, 1) := by decide +kernel
theorem dX8_next_81 : decode cX8_next 81 = .ok (.aload_n 0, 1) := by decide +kernel
theorem dX8_next_82 : decode cX8_next 82 = .ok (.getfield 67, 3) := by decide +kernel
theorem dX8_next_85 : decode cX8_next 85 = .ok (.invokevirtual 73, 3) := by decide +kernel
theorem dX8_next_88 : decode cX8_next 88 = .ok (.invokestatic 84, 3) := by decide +kernel
theorem dX8_next_91 : decode cX8_next 91 = .ok (.ifCond .eq 55, 3) := by decide +kernel
theorem dX8_next_94 : decode cX8_next 94 = .ok (.aload_n 0, 1) := by decide +kernel
theorem dX8_next_95 : decode cX8_next 95 = .ok (.getfield 67, 3) := by decide +kernel
theorem dX8_next_98 : decode cX8_next 98 = .ok (.aload_n 0, 1) := by decide +kernel
theorem dX8_next_99 : decode cX8_next 99 = .ok (.getfield 70, 3) := by decide +kernel
theorem dX8_next_102 : decode cX8_next 102 = .ok (.isub, 1) := by decide +kernel
theorem dX8_next_103 : decode cX8_next 103 = .ok (.bipush 8, 2) := by decide +kernel
theorem dX8_next_105 : decode cX8_next 105 = .ok (.if_icmp .ge 28, 3) := by decide +kernel
theorem dX8_next_108 : decode cX8_next 108 = .ok (.aload_n 0, 1) := by decide +kernel
theorem dX8_next_109 : decode cX8_next 109 = .ok (.aload_n 0, 1) := by decide +kernel
theorem dX8_next_110 : decode cX8_next 110 = .ok (.getfield 77, 3) := by decide +kernel
theorem dX8_next_113 : decode cX8_next 113 = .ok (.iconst 5, 1) := by decide +kernel
theorem dX8_next_114 : decode cX8_next 114 = .ok (.lshl, 1) := by decide +kernel
theorem dX8_next_115 : decode cX8_next 115 = .ok (.aload_n 0, 1) := by decide +kernel
theorem dX8_next_116 : decode cX8_next 116 = .ok (.aload_n 0, 1) := by decide +kernel
theorem dX8_next_117 : decode cX8_next 117 = .ok (.getfield 67, 3) := by decide +kernel
theorem dX8_next_120 : decode cX8_next 120 = .ok (.invokevirtual 73, 3) := by decide +kernel
theorem dX8_next_123 : decode cX8_next 123 = .ok (.bipush 97, 2) := by decide +kernel
theorem dX8_next_125 : decode cX8_next 125 = .ok (.isub, 1) := by decide +kernel
theorem dX8_next_126 : decode cX8_next 126 = .ok (.iconst 1, 1) := by decide +kernel
theorem dX8_next_127 : decode cX8_next 127 = .ok (.iadd, 1) := by decide +kernel
theorem dX8_next_128 : decode cX8_next 128 = .ok (.i2l, 1) := by decide +kernel
theorem dX8_next_129 : decode cX8_next 129 = .ok (.lor, 1) := by decide +kernel
theorem dX8_next_130 : decode cX8_next 130 = .ok (.putfield 77, 3) := by decide +kernel
theorem dX8_next_133 : decode cX8_next 133 = .ok (.aload_n 0, 1) := by decide +kernel
theorem dX8_next_134 : decode cX8_next 134 = .ok (.dup, 1) := by decide +kernel
theorem dX8_next_135 : decode cX8_next 135 = .ok (.getfield 67, 3) := by decide +kernel
theorem dX8_next_138 : decode cX8_next 138 = .ok (.iconst 1, 1) := by decide +kernel
theorem dX8_next_139 : decode cX8_next 139 = .ok (.iadd, 1) := by decide +kernel
theorem dX8_next_140 : decode cX8_next 140 = .ok (.putfield 67, 3) := by decide +kernel
theorem dX8_next_143 : decode cX8_next 143 = .ok (.goto (-63), 3) := by decide +kernel
theorem dX8_next_146 : decode cX8_next 146 = .ok (.aload_n 0, 1) := by decide +kernel
theorem dX8_next_147 : decode cX8_next 147 = .ok (.iconst 0, 1) := by decide +kernel
theorem dX8_next_148 : decode cX8_next 148 = .ok (.putfield 81, 3) := by decide +kernel
theorem dX8_next_151 : decode cX8_next 151 = .ok (.goto 104, 3) := by decide +kernel
theorem dX8_next_154 : decode cX8_next 154 = .ok (.aload_n 0, 1) := by decide +kernel
theorem dX8_next_155 : decode cX8_next 155 = .ok (.aload_n 0, 1) := by decide +kernel
theorem dX8_next_156 : decode cX8_next 156 = .ok (.getfield 70, 3) := by decide +kernel
theorem dX8_next_159 : decode cX8_next 159 = .ok (.invokevirtual 73, 3) := by decide +kernel
theorem dX8_next_162 : decode cX8_next 162 = .ok (.invokestatic 88, 3) := by decide +kernel
theorem dX8_next_165 : decode cX8_next 165 = .ok (.ifCond .eq 75, 3) := by decide +kernel
theorem dX8_next_168 : decode cX8_next 168 = .ok (.aload_n 0, 1) := by decide +kernel
theorem dX8_next_169 : decode cX8_next 169 = .ok (.iconst 0, 1) := by decide +kernel
theorem dX8_next_170 : decode cX8_next 170 = .ok (.putfield 91, 3) := by decide +kernel
theorem dX8_next_173 : decode cX8_next 173 = .ok (.aload_n 0, 1) := by decide +kernel
theorem dX8_next_174 : decode cX8_next 174 = .ok (.aload_n 0, 1) := by decide +kernel
theorem dX8_next_175 : decode cX8_next 175 = .ok (.getfield 67, 3) := by decide +kernel
theorem dX8_next_178 : decode cX8_next 178 = .ok (.invokevirtual 73, 3) := by decide +kernel
theorem dX8_next_181 : decode cX8_next 181 = .ok (.invokestatic 88, 3) := by decide +kernel
theorem dX8_next_184 : decode cX8_next 184 = .ok (.ifCond .eq 48, 3) := by decide +kernel
theorem dX8_next_187 : decode cX8_next 187 = .ok (.aload_n 0, 1) := by decide +kernel
theorem dX8_next_188 : decode cX8_next 188 = .ok (.getfield 91, 3) := by decide +kernel
theorem dX8_next_191 : decode cX8_next 191 = .ok (.ldc 94, 2) := by decide +kernel
theorem dX8_next_193 : decode cX8_next 193 = .ok (.if_icmp .ge 26, 3) := by decide +kernel
theorem dX8_next_196 : decode cX8_next 196 = .ok (.aload_n 0, 1) := by decide +kernel
theorem dX8_next_197 : decode cX8_next 197 = .ok (.bipush 10, 2) := by decide +kernel
theorem dX8_next_199 : decode cX8_next 199 = .ok (.aload_n 0, 1) := by decide +kernel
theorem dX8_next_200 : decode cX8_next 200 = .ok (.getfield 91, 3) := by decide +kernel
theorem dX8_next_203 : decode cX8_next 203 = .ok (.imul, 1) := by decide +kernel
theorem dX8_next_204 : decode cX8_next 204 = .ok (.aload_n 0, 1) := by decide +kernel
theorem dX8_next_205 : decode cX8_next 205 = .ok (.aload_n 0, 1) := by decide +kernel
theorem dX8_next_206 : decode cX8_next 206 = .ok (.getfield 67, 3) := by decide +kernel
theorem dX8_next_209 : decode cX8_next 209 = .ok (.invokevirtual 73, 3) := by decide +kernel
theorem dX8_next_212 : decode cX8_next 212 = .ok (.iadd, 1) := by decide +kernel
theorem dX8_next_213 : decode cX8_next 213 = .ok (.bipush 48, 2) := by decide +kernel
theorem dX8_next_215 : decode cX8_next 215 = .ok (.isub, 1) := by decide +kernel
theorem dX8_next_216 : decode cX8_next 216 = .ok (.putfield 91, 3) := by decide +kernel
theorem dX8_next_219 : decode cX8_next 219 = .ok (.aload_n 0, 1) := by decide +kernel
theorem dX8_next_220 : decode cX8_next 220 = .ok (.dup, 1) := by decide +kernel
theorem dX8_next_221 : decode cX8_next 221 = .ok (.getfield 67, 3) := by decide +kernel
theorem dX8_next_224 : decode cX8_next 224 = .ok (.iconst 1, 1) := by decide +kernel
theorem dX8_next_225 : decode cX8_next 225 = .ok (.iadd, 1) := by decide +kernel
theorem dX8_next_226 : decode cX8_next 226 = .ok (.putfield 67, 3) := by decide +kernel
theorem dX8_next_229 : decode cX8_next 229 = .ok (.goto (-56), 3) := by decide +kernel
theorem dX8_next_232 : decode cX8_next 232 = .ok (.aload_n 0, 1) := by decide +kernel
theorem dX8_next_233 : decode cX8_next 233 = .ok (.iconst 1, 1) := by decide +kernel
theorem dX8_next_234 : decode cX8_next 234 = .ok (.putfield 81, 3) := by decide +kernel
theorem dX8_next_237 : decode cX8_next 237 = .ok (.goto 18, 3) := by decide +kernel
theorem dX8_next_240 : decode cX8_next 240 = .ok (.aload_n 0, 1) := by decide +kernel
theorem dX8_next_241 : decode cX8_next 241 = .ok (.dup, 1) := by decide +kernel
theorem dX8_next_242 : decode cX8_next 242 = .ok (.getfield 67, 3) := by decide +kernel
theorem dX8_next_245 : decode cX8_next 245 = .ok (.iconst 1, 1) := by decide +kernel
theorem dX8_next_246 : decode cX8_next 246 = .ok (.iadd, 1) := by decide +kernel
theorem dX8_next_247 : decode cX8_next 247 = .ok (.putfield 67, 3) := by decide +kernel
theorem dX8_next_250 : decode cX8_next 250 = .ok (.aload_n 0, 1) := by decide +kernel
theorem dX8_next_251 : decode cX8_next 251 = .ok (.iconst 2, 1) := by decide +kernel
theorem dX8_next_252 : decode cX8_next 252 = .ok (.putfield 81, 3) := by decide +kernel
theorem dX8_next_255 : decode cX8_next 255 = .ok (.return_, 1) := by decide +kernel
theorem dX8_fails_0 : decode cX8_fails 0 = .ok (.aload_n 0, 1) := by decide +kernel
theorem dX8_fails_1 : decode cX8_fails 1 = .ok (.getfield 95, 3) := by decide +kernel
theorem dX8_fails_4 : decode cX8_fails 4 = .ok (.ifCond .eq 4, 3) := by decide +kernel
theorem dX8_fails_7 : decode cX8_fails 7 = .ok (.return_, 1) := by decide +kernel
theorem dX8_fails_8 : decode cX8_fails 8 = .ok (.aload_n 0, 1) := by decide +kernel
theorem dX8_fails_9 : decode cX8_fails 9 = .ok (.iload_n 1, 1) := by decide +kernel
theorem dX8_fails_10 : decode cX8_fails 10 = .ok (.putfield 95, 3) := by decide +kernel
theorem dX8_fails_13 : decode cX8_fails 13 = .ok (.aload_n 0, 1) := by decide +kernel
theorem dX8_fails_14 : decode cX8_fails 14 = .ok (.aload_n 0, 1) := by decide +kernel
theorem dX8_fails_15 : decode cX8_fails 15 = .ok (.getfield 70, 3) := by decide +kernel
theorem dX8_fails_18 : decode cX8_fails 18 = .ok (.putfield 108, 3) := by decide +kernel
theorem dX8_fails_21 : decode cX8_fails 21 = .ok (.return_, 1) := by decide +kernel
set_option maxRecDepth 20000 in
theorem ggX8_must_X8_fails : GoodIn wsX8_must wsX8_fails := goodIn_r _ [6, 1, 7, 8, 37, 38, 39, 40, 41, 42, 43, 44, 45, 46, 47, 48, 49, 50, 51, 52, 53, 54] (by decide +kernel) (by decide +kernel)
set_option maxRecDepth 20000 in
theorem gX8_must_X8_fails : GoodIn wsX8_must (wsV RX8 111 RX8 yX8_fails wsX8_fails) := goodIn_app (goodIn_of _ (by decide +kernel)) ggX8_must_X8_fails
set_option maxRecDepth 20000 in
theorem ggX8_must_X8_next : GoodIn wsX8_must wsX8_next := goodIn_r _ [12, 13, 7, 14, 15, 16, 17, 18, 19, 20, 21, 5, 22, 23, 24, 25, 26, 27, 28, 29, 30, 31, 32, 33, 34, 35, 36, 37, 38, 39, 40, 41, 42, 43, 44, 45, 46, 47, 48, 49, 50, 51, 52, 53, 54] (by decide +kernel) (by decide +kernel)
set_option maxRecDepth 20000 in
theorem gX8_must_X8_next : GoodIn wsX8_must (wsV RX8 115 RX8 yX8_next wsX8_next) := goodIn_app (goodIn_of _ (by decide +kernel)) ggX8_must_X8_next
theorem dX8_must_0 : decode cX8_must 0 = .ok (.iload_n 1, 1) := by decide +kernel
theorem dX8_must_1 : decode cX8_must 1 = .ok (.ifCond .ne 9, 3) := by decide +kernel
theorem dX8_must_4 : decode cX8_must 4 = .ok (.aload_n 0, 1) := by decide +kernel
theorem dX8_must_5 : decode cX8_must 5 = .ok (.bipush (-2), 2) := by decide +kernel
theorem dX8_must_7 : decode cX8_must 7 = .ok (.invokevirtual 111, 3) := by decide +kernel
theorem dX8_must_10 : decode cX8_must 10 = .ok (.aload_n 0, 1) := by decide +kernel
theorem dX8_must_11 : decode cX8_must 11 = .ok (.getfield 95, 3) := by decide +kernel
theorem dX8_must_14 : decode cX8_must 14 = .ok (.ifCond .ne 7, 3) := by decide +kernel
theorem dX8_must_17 : decode cX8_must 17 = .ok (.aload_n 0, 1) := by decide +kernel
theorem dX8_must_18 : decode cX8_must 18 = .ok (.invokevirtual 115, 3) := by decide +kernel
theorem dX8_must_21 : decode cX8_must 21 = .ok (.return_, 1) := by decide +kernel
set_option maxRecDepth 20000 in
theorem ggX8_takes_X8_fails : GoodIn wsX8_takes wsX8_fails := goodIn_r _ [8, 1, 9, 10, 37, 38, 39, 40, 41, 42, 43, 44, 45, 46, 47, 48, 49, 50, 51, 52, 53, 54] (by decide +kernel) (by decide +kernel)
set_option maxRecDepth 20000 in
theorem gX8_takes_X8_fails : GoodIn wsX8_takes (wsV RX8 111 RX8 yX8_fails wsX8_fails) := goodIn_app (goodIn_of _ (by decide +kernel)) ggX8_takes_X8_fails
set_option maxRecDepth 20000 in
theorem ggX8_takes_X8_isIn : GoodIn wsX8_takes wsX8_isIn := goodIn_r _ [13] (by decide +kernel) (by decide +kernel)
set_option maxRecDepth 20000 in
theorem gX8_takes_X8_isIn : GoodIn wsX8_takes (va_wsS RX8 59 yX8_isIn wsX8_isIn) := goodIn_app (goodIn_of _ (by decide +kernel)) ggX8_takes_X8_isIn
set_option maxRecDepth 20000 in
theorem ggX8_takes_X8_next : GoodIn wsX8_takes wsX8_next := goodIn_r _ [17, 18, 9, 19, 20, 2, 3, 21, 22, 23, 24, 7, 25, 26, 27, 28, 29, 30, 31, 11, 12, 13, 32, 33, 34, 35, 36, 37, 38, 39, 40, 41, 42, 43, 44, 45, 46, 47, 48, 49, 50, 51, 52, 53, 54] (by decide +kernel) (by decide +kernel)
set_option maxRecDepth 20000 in
theorem gX8_takes_X8_next : GoodIn wsX8_takes (wsV RX8 115 RX8 yX8_next wsX8_next) := goodIn_app (goodIn_of _ (by decide +kernel)) ggX8_takes_X8_next
theorem dX8_takes_0 : decode cX8_takes 0 = .ok (.aload_n 0, 1) := by decide +kernel
theorem dX8_takes_1 : decode cX8_takes 1 = .ok (.getfield 95, 3) := by decide +kernel
theorem dX8_takes_4 : decode cX8_takes 4 = .ok (.ifCond .ne 20, 3) := by decide +kernel
theorem dX8_takes_7 : decode cX8_takes 7 = .ok (.aload_n 0, 1) := by decide +kernel
theorem dX8_takes_8 : decode cX8_takes 8 = .ok (.getfield 81, 3) := by decide +kernel
theorem dX8_takes_11 : decode cX8_takes 11 = .ok (.iconst 1, 1) := by decide +kernel
theorem dX8_takes_12 : decode cX8_takes 12 = .ok (.if_icmp .eq 12, 3) := by decide +kernel
theorem dX8_takes_15 : decode cX8_takes 15 = .ok (.aload_n 0, 1) := by decide +kernel
theorem dX8_takes_16 : decode cX8_takes 16 = .ok (.bipush (-2), 2) := by decide +kernel
theorem dX8_takes_18 : decode cX8_takes 18 = .ok (.invokevirtual 111, 3) := by decide +kernel
theorem dX8_takes_21 : decode cX8_takes 21 = .ok (.goto 31, 3) := by decide +kernel
theorem dX8_takes_24 : decode cX8_takes 24 = .ok (.aload_n 0, 1) := by decide +kernel
theorem dX8_takes_25 : decode cX8_takes 25 = .ok (.getfield 95, 3) := by decide +kernel
theorem dX8_takes_28 : decode cX8_takes 28 = .ok (.ifCond .ne 24, 3) := by decide +kernel
theorem dX8_takes_31 : decode cX8_takes 31 = .ok (.aload_n 0, 1) := by decide +kernel
theorem dX8_takes_32 : decode cX8_takes 32 = .ok (.getfield 91, 3) := by decide +kernel
theorem dX8_takes_35 : decode cX8_takes 35 = .ok (.i2l, 1) := by decide +kernel
theorem dX8_takes_36 : decode cX8_takes 36 = .ok (.iload_n 1, 1) := by decide +kernel
theorem dX8_takes_37 : decode cX8_takes 37 = .ok (.i2l, 1) := by decide +kernel
theorem dX8_takes_38 : decode cX8_takes 38 = .ok (.iload_n 2, 1) := by decide +kernel
theorem dX8_takes_39 : decode cX8_takes 39 = .ok (.i2l, 1) := by decide +kernel
theorem dX8_takes_40 : decode cX8_takes 40 = .ok (.invokestatic 59, 3) := by decide +kernel
theorem dX8_takes_43 : decode cX8_takes 43 = .ok (.ifCond .ne 9, 3) := by decide +kernel
theorem dX8_takes_46 : decode cX8_takes 46 = .ok (.aload_n 0, 1) := by decide +kernel
theorem dX8_takes_47 : decode cX8_takes 47 = .ok (.bipush (-3), 2) := by decide +kernel
theorem dX8_takes_49 : decode cX8_takes 49 = .ok (.invokevirtual 111, 3) := by decide +kernel
theorem dX8_takes_52 : decode cX8_takes 52 = .ok (.aload_n 0, 1) := by decide +kernel
theorem dX8_takes_53 : decode cX8_takes 53 = .ok (.getfield 95, 3) := by decide +kernel
theorem dX8_takes_56 : decode cX8_takes 56 = .ok (.ifCond .ne 10, 3) := by decide +kernel
theorem dX8_takes_59 : decode cX8_takes 59 = .ok (.aload_n 0, 1) := by decide +kernel
theorem dX8_takes_60 : decode cX8_takes 60 = .ok (.getfield 91, 3) := by decide +kernel
theorem dX8_takes_63 : decode cX8_takes 63 = .ok (.goto 4, 3) := by decide +kernel
theorem dX8_takes_66 : decode cX8_takes 66 = .ok (.iconst 0, 1) := by decide +kernel
theorem dX8_takes_67 : decode cX8_takes 67 = .ok (.istore_n 3, 1) := by decide +kernel
theorem dX8_takes_68 : decode cX8_takes 68 = .ok (.aload_n 0, 1) := by decide +kernel
theorem dX8_takes_69 : decode cX8_takes 69 = .ok (.getfield 95, 3) := by decide +kernel
theorem dX8_takes_72 : decode cX8_takes 72 = .ok (.ifCond .ne 7, 3) := by decide +kernel
theorem dX8_takes_75 : decode cX8_takes 75 = .ok (.aload_n 0, 1) := by decide +kernel
theorem dX8_takes_76 : decode cX8_takes 76 = .ok (.invokevirtual 115, 3) := by decide +kernel
theorem dX8_takes_79 : decode cX8_takes 79 = .ok (.iload_n 3, 1) := by decide +kernel
theorem dX8_takes_80 : decode cX8_takes 80 = .ok (.ireturn, 1) := by decide +kernel
set_option maxRecDepth 20000 in
theorem ggX8_takesName_X8_fails : GoodIn wsX8_takesName wsX8_fails := goodIn_r _ [11, 1, 4, 12, 41, 42, 43, 44, 45, 46, 47, 48, 49, 50, 51, 52, 53, 54, 55, 56, 57, 58] (by decide +kernel) (by decide +kernel)
set_option maxRecDepth 20000 in
theorem gX8_takesName_X8_fails : GoodIn wsX8_takesName (wsV RX8 111 RX8 yX8_fails wsX8_fails) := goodIn_app (goodIn_of _ (by decide +kernel)) ggX8_takesName_X8_fails
set_option maxRecDepth 20000 in
theorem ggX8_takesName_X8_named : GoodIn wsX8_takesName wsX8_named := goodIn_r _ [15] (by decide +kernel) (by decide +kernel)
set_option maxRecDepth 20000 in
theorem gX8_takesName_X8_named : GoodIn wsX8_takesName (va_wsS RX8 118 yX8_named wsX8_named) := goodIn_app (goodIn_of _ (by decide +kernel)) ggX8_takesName_X8_named
set_option maxRecDepth 20000 in
theorem ggX8_takesName_X8_next : GoodIn wsX8_takesName wsX8_next := goodIn_r _ [19, 3, 4, 6, 20, 2, 21, 22, 23, 24, 25, 10, 26, 27, 28, 29, 30, 31, 32, 33, 34, 35, 36, 37, 38, 39, 40, 41, 42, 43, 44, 45, 46, 47, 48, 49, 50, 51, 52, 53, 54, 55, 56, 57, 58] (by decide +kernel) (by decide +kernel)
set_option maxRecDepth 20000 in
theorem gX8_takesName_X8_next : GoodIn wsX8_takesName (wsV RX8 115 RX8 yX8_next wsX8_next) := goodIn_app (goodIn_of _ (by decide +kernel)) ggX8_takesName_X8_next
theorem dX8_takesName_0 : decode cX8_takesName 0 = .ok (.aload_n 0, 1) := by decide +kernel
theorem dX8_takesName_1 : decode cX8_takesName 1 = .ok (.getfield 95, 3) := by decide +kernel
theorem dX8_takesName_4 : decode cX8_takesName 4 = .ok (.ifCond .ne 30, 3) := by decide +kernel
theorem dX8_takesName_7 : decode cX8_takesName 7 = .ok (.aload_n 0, 1) := by decide +kernel
theorem dX8_takesName_8 : decode cX8_takesName 8 = .ok (.getfield 81, 3) := by decide +kernel
theorem dX8_takesName_11 : decode cX8_takesName 11 = .ok (.ifCond .ne 17, 3) := by decide +kernel
theorem dX8_takesName_14 : decode cX8_takesName 14 = .ok (.aload_n 0, 1) := by decide +kernel
theorem dX8_takesName_15 : decode cX8_takesName 15 = .ok (.getfield 67, 3) := by decide +kernel
theorem dX8_takesName_18 : decode cX8_takesName 18 = .ok (.aload_n 0, 1) := by decide +kernel
theorem dX8_takesName_19 : decode cX8_takesName 19 = .ok (.getfield 70, 3) := by decide +kernel
theorem dX8_takesName_22 : decode cX8_takesName 22 = .ok (.isub, 1) := by decide +kernel
theorem dX8_takesName_23 : decode cX8_takesName 23 = .ok (.bipush 8, 2) := by decide +kernel
theorem dX8_takesName_25 : decode cX8_takesName 25 = .ok (.if_icmp .le 9, 3) := by decide +kernel
theorem dX8_takesName_28 : decode cX8_takesName 28 = .ok (.aload_n 0, 1) := by decide +kernel
theorem dX8_takesName_29 : decode cX8_takesName 29 = .ok (.bipush (-2), 2) := by decide +kernel
theorem dX8_takesName_31 : decode cX8_takesName 31 = .ok (.invokevirtual 111, 3) := by decide +kernel
theorem dX8_takesName_34 : decode cX8_takesName 34 = .ok (.aload_n 0, 1) := by decide +kernel
theorem dX8_takesName_35 : decode cX8_takesName 35 = .ok (.getfield 95, 3) := by decide +kernel
theorem dX8_takesName_38 : decode cX8_takesName 38 = .ok (.ifCond .ne 33, 3) := by decide +kernel
theorem dX8_takesName_41 : decode cX8_takesName 41 = .ok (.aload_n 0, 1) := by decide +kernel
theorem dX8_takesName_42 : decode cX8_takesName 42 = .ok (.getfield 13, 3) := by decide +kernel
theorem dX8_takesName_45 : decode cX8_takesName 45 = .ok (.aload_n 0, 1) := by decide +kernel
theorem dX8_takesName_46 : decode cX8_takesName 46 = .ok (.getfield 77, 3) := by decide +kernel
theorem dX8_takesName_49 : decode cX8_takesName 49 = .ok (.invokestatic 118, 3) := by decide +kernel
theorem dX8_takesName_52 : decode cX8_takesName 52 = .ok (.iconst (-1), 1) := by decide +kernel
theorem dX8_takesName_53 : decode cX8_takesName 53 = .ok (.if_icmp .eq 7, 3) := by decide +kernel
theorem dX8_takesName_56 : decode cX8_takesName 56 = .ok (.iconst 1, 1) := by decide +kernel
theorem dX8_takesName_57 : decode cX8_takesName 57 = .ok (.goto 4, 3) := by decide +kernel
theorem dX8_takesName_60 : decode cX8_takesName 60 = .ok (.iconst 0, 1) := by decide +kernel
theorem dX8_takesName_61 : decode cX8_takesName 61 = .ok (.iload_n 1, 1) := by decide +kernel
theorem dX8_takesName_62 : decode cX8_takesName 62 = .ok (.if_icmp .eq 9, 3) := by decide +kernel
theorem dX8_takesName_65 : decode cX8_takesName 65 = .ok (.aload_n 0, 1) := by decide +kernel
theorem dX8_takesName_66 : decode cX8_takesName 66 = .ok (.bipush (-3), 2) := by decide +kernel
theorem dX8_takesName_68 : decode cX8_takesName 68 = .ok (.invokevirtual 111, 3) := by decide +kernel
theorem dX8_takesName_71 : decode cX8_takesName 71 = .ok (.aload_n 0, 1) := by decide +kernel
theorem dX8_takesName_72 : decode cX8_takesName 72 = .ok (.getfield 77, 3) := by decide +kernel
theorem dX8_takesName_75 : decode cX8_takesName 75 = .ok (.lstore_n 2, 1) := by decide +kernel
theorem dX8_takesName_76 : decode cX8_takesName 76 = .ok (.aload_n 0, 1) := by decide +kernel
theorem dX8_takesName_77 : decode cX8_takesName 77 = .ok (.getfield 95, 3) := by decide +kernel
theorem dX8_takesName_80 : decode cX8_takesName 80 = .ok (.ifCond .ne 7, 3) := by decide +kernel
theorem dX8_takesName_83 : decode cX8_takesName 83 = .ok (.aload_n 0, 1) := by decide +kernel
theorem dX8_takesName_84 : decode cX8_takesName 84 = .ok (.invokevirtual 115, 3) := by decide +kernel
theorem dX8_takesName_87 : decode cX8_takesName 87 = .ok (.lload_n 2, 1) := by decide +kernel
theorem dX8_takesName_88 : decode cX8_takesName 88 = .ok (.lreturn, 1) := by decide +kernel
set_option maxRecDepth 20000 in
theorem ggX8_takesFolder_X8_takesName : GoodIn wsX8_takesFolder wsX8_takesName := goodIn_r _ [6, 7, 8, 9, 10, 1, 11, 12, 13, 14, 5, 15, 16, 17, 18, 19, 20, 21, 22, 23, 24, 25, 26, 27, 28, 29, 30, 31, 32, 33, 34, 35, 36, 37, 38, 39, 40, 41, 42, 43, 44, 45, 46, 47, 48, 49, 50, 51, 52, 53, 54, 55, 56, 57, 58, 59, 60, 61, 62] (by decide +kernel) (by decide +kernel)
set_option maxRecDepth 20000 in
theorem gX8_takesFolder_X8_takesName : GoodIn wsX8_takesFolder (wsV RX8 122 RX8 yX8_takesName wsX8_takesName) := goodIn_app (goodIn_of _ (by decide +kernel)) ggX8_takesFolder_X8_takesName
set_option maxRecDepth 20000 in
theorem ggX8_takesFolder_X8_named : GoodIn wsX8_takesFolder wsX8_named := goodIn_r _ [19] (by decide +kernel) (by decide +kernel)
set_option maxRecDepth 20000 in
theorem gX8_takesFolder_X8_named : GoodIn wsX8_takesFolder (va_wsS RX8 118 yX8_named wsX8_named) := goodIn_app (goodIn_of _ (by decide +kernel)) ggX8_takesFolder_X8_named
theorem dX8_takesFolder_0 : decode cX8_takesFolder 0 = .ok (.aload_n 0, 1) := by decide +kernel
theorem dX8_takesFolder_1 : decode cX8_takesFolder 1 = .ok (.getfield 13, 3) := by decide +kernel
theorem dX8_takesFolder_4 : decode cX8_takesFolder 4 = .ok (.aload_n 0, 1) := by decide +kernel
theorem dX8_takesFolder_5 : decode cX8_takesFolder 5 = .ok (.iconst 1, 1) := by decide +kernel
theorem dX8_takesFolder_6 : decode cX8_takesFolder 6 = .ok (.invokevirtual 122, 3) := by decide +kernel
theorem dX8_takesFolder_9 : decode cX8_takesFolder 9 = .ok (.invokestatic 118, 3) := by decide +kernel
theorem dX8_takesFolder_12 : decode cX8_takesFolder 12 = .ok (.ireturn, 1) := by decide +kernel
