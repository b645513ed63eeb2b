theorem dX5_countNumber_131 : decode cX5_countNumber 131 = .ok (.getfield 80, 3) := by decide +kernel
theorem dX5_countNumber_134 : decode cX5_countNumber 134 = .ok (.ireturn, 1) := by decide +kernel
theorem dX5_countNumber_135 : decode cX5_countNumber 135 = .ok (.aload_n 2, 1) := by decide +kernel
theorem dX5_countNumber_136 : decode cX5_countNumber 136 = .ok (.getfield 89, 3) := by decide +kernel
theorem dX5_countNumber_139 : decode cX5_countNumber 139 = .ok (.ireturn, 1) := by decide +kernel
theorem dX5_countNumber_140 : decode cX5_countNumber 140 = .ok (.aload_n 2, 1) := by decide +kernel
theorem dX5_countNumber_141 : decode cX5_countNumber 141 = .ok (.getfield 92, 3) := by decide +kernel
theorem dX5_countNumber_144 : decode cX5_countNumber 144 = .ok (.ireturn, 1) := by decide +kernel
theorem dX5_countNumber_145 : decode cX5_countNumber 145 = .ok (.aload_n 2, 1) := by decide +kernel
theorem dX5_countNumber_146 : decode cX5_countNumber 146 = .ok (.invokevirtual 279, 3) := by decide +kernel
theorem dX5_countNumber_149 : decode cX5_countNumber 149 = .ok (.ifCond .eq 7, 3) := by decide +kernel
theorem dX5_countNumber_152 : decode cX5_countNumber 152 = .ok (.iconst 1, 1) := by decide +kernel
theorem dX5_countNumber_153 : decode cX5_countNumber 153 = .ok (.goto 4, 3) := by decide +kernel
theorem dX5_countNumber_156 : decode cX5_countNumber 156 = .ok (.iconst 0, 1) := by decide +kernel
theorem dX5_countNumber_157 : decode cX5_countNumber 157 = .ok (.ireturn, 1) := by decide +kernel
theorem dX5_countNumber_158 : decode cX5_countNumber 158 = .ok (.aload_n 2, 1) := by decide +kernel
theorem dX5_countNumber_159 : decode cX5_countNumber 159 = .ok (.getfield 211, 3) := by decide +kernel
theorem dX5_countNumber_162 : decode cX5_countNumber 162 = .ok (.ldc_w 282, 3) := by decide +kernel
theorem dX5_countNumber_165 : decode cX5_countNumber 165 = .ok (.iadd, 1) := by decide +kernel
theorem dX5_countNumber_166 : decode cX5_countNumber 166 = .ok (.ireturn, 1) := by decide +kernel
theorem dX5_countNumber_167 : decode cX5_countNumber 167 = .ok (.aload_n 2, 1) := by decide +kernel
theorem dX5_countNumber_168 : decode cX5_countNumber 168 = .ok (.getfield 283, 3) := by decide +kernel
theorem dX5_countNumber_171 : decode cX5_countNumber 171 = .ok (.ireturn, 1) := by decide +kernel
theorem dX5_countNumber_172 : decode cX5_countNumber 172 = .ok (.aload_n 0, 1) := by decide +kernel
theorem dX5_countNumber_173 : decode cX5_countNumber 173 = .ok (.getfield 10, 3) := by decide +kernel
theorem dX5_countNumber_176 : decode cX5_countNumber 176 = .ok (.getfield 114, 3) := by decide +kernel
theorem dX5_countNumber_179 : decode cX5_countNumber 179 = .ok (.getfield 118, 3) := by decide +kernel
theorem dX5_countNumber_182 : decode cX5_countNumber 182 = .ok (.ireturn, 1) := by decide +kernel
theorem dX5_countNumber_183 : decode cX5_countNumber 183 = .ok (.aload_n 0, 1) := by decide +kernel
theorem dX5_countNumber_184 : decode cX5_countNumber 184 = .ok (.getfield 10, 3) := by decide +kernel
theorem dX5_countNumber_187 : decode cX5_countNumber 187 = .ok (.getfield 286, 3) := by decide +kernel
theorem dX5_countNumber_190 : decode cX5_countNumber 190 = .ok (.ireturn, 1) := by decide +kernel
theorem dX5_countNumber_191 : decode cX5_countNumber 191 = .ok (.aload_n 0, 1) := by decide +kernel
theorem dX5_countNumber_192 : decode cX5_countNumber 192 = .ok (.getfield 10, 3) := by decide +kernel
theorem dX5_countNumber_195 : decode cX5_countNumber 195 = .ok (.invokevirtual 289, 3) := by decide +kernel
theorem dX5_countNumber_198 : decode cX5_countNumber 198 = .ok (.ireturn, 1) := by decide +kernel
theorem dX5_countNumber_199 : decode cX5_countNumber 199 = .ok (.aload_n 0, 1) := by decide +kernel
theorem dX5_countNumber_200 : decode cX5_countNumber 200 = .ok (.getfield 10, 3) := by decide +kernel
theorem dX5_countNumber_203 : decode cX5_countNumber 203 = .ok (.invokevirtual 292, 3) := by decide +kernel
theorem dX5_countNumber_206 : decode cX5_countNumber 206 = .ok (.ireturn, 1) := by decide +kernel
theorem dX5_countNumber_207 : decode cX5_countNumber 207 = .ok (.aload_n 0, 1) := by decide +kernel
theorem dX5_countNumber_208 : decode cX5_countNumber 208 = .ok (.getfield 10, 3) := by decide +kernel
theorem dX5_countNumber_211 : decode cX5_countNumber 211 = .ok (.invokevirtual 295, 3) := by decide +kernel
theorem dX5_countNumber_214 : decode cX5_countNumber 214 = .ok (.ireturn, 1) := by decide +kernel
theorem dX5_countNumber_215 : decode cX5_countNumber 215 = .ok (.aload_n 2, 1) := by decide +kernel
theorem dX5_countNumber_216 : decode cX5_countNumber 216 = .ok (.getfield 214, 3) := by decide +kernel
theorem dX5_countNumber_219 : decode cX5_countNumber 219 = .ok (.ireturn, 1) := by decide +kernel
theorem dX5_countNumber_220 : decode cX5_countNumber 220 = .ok (.aload_n 0, 1) := by decide +kernel
theorem dX5_countNumber_221 : decode cX5_countNumber 221 = .ok (.getfield 10, 3) := by decide +kernel
theorem dX5_countNumber_224 : decode cX5_countNumber 224 = .ok (.getfield 135, 3) := by decide +kernel
theorem dX5_countNumber_227 : decode cX5_countNumber 227 = .ok (.iconst 0, 1) := by decide +kernel
theorem dX5_countNumber_228 : decode cX5_countNumber 228 = .ok (.iaload, 1) := by decide +kernel
theorem dX5_countNumber_229 : decode cX5_countNumber 229 = .ok (.ireturn, 1) := by decide +kernel
theorem dX5_countNumber_230 : decode cX5_countNumber 230 = .ok (.aload_n 0, 1) := by decide +kernel
theorem dX5_countNumber_231 : decode cX5_countNumber 231 = .ok (.getfield 10, 3) := by decide +kernel
theorem dX5_countNumber_234 : decode cX5_countNumber 234 = .ok (.getfield 135, 3) := by decide +kernel
theorem dX5_countNumber_237 : decode cX5_countNumber 237 = .ok (.iconst 1, 1) := by decide +kernel
theorem dX5_countNumber_238 : decode cX5_countNumber 238 = .ok (.iaload, 1) := by decide +kernel
theorem dX5_countNumber_239 : decode cX5_countNumber 239 = .ok (.ireturn, 1) := by decide +kernel
theorem dX5_countNumber_240 : decode cX5_countNumber 240 = .ok (.aload_n 0, 1) := by decide +kernel
theorem dX5_countNumber_241 : decode cX5_countNumber 241 = .ok (.getfield 10, 3) := by decide +kernel
theorem dX5_countNumber_244 : decode cX5_countNumber 244 = .ok (.getfield 135, 3) := by decide +kernel
theorem dX5_countNumber_247 : decode cX5_countNumber 247 = .ok (.iconst 2, 1) := by decide +kernel
theorem dX5_countNumber_248 : decode cX5_countNumber 248 = .ok (.iaload, 1) := by decide +kernel
theorem dX5_countNumber_249 : decode cX5_countNumber 249 = .ok (.ireturn, 1) := by decide +kernel
theorem dX5_countNumber_250 : decode cX5_countNumber 250 = .ok (.aload_n 0, 1) := by decide +kernel
theorem dX5_countNumber_251 : decode cX5_countNumber 251 = .ok (.getfield 10, 3) := by decide +kernel
theorem dX5_countNumber_254 : decode cX5_countNumber 254 = .ok (.getfield 135, 3) := by decide +kernel
theorem dX5_countNumber_257 : decode cX5_countNumber 257 = .ok (.iconst 3, 1) := by decide +kernel
theorem dX5_countNumber_258 : decode cX5_countNumber 258 = .ok (.iaload, 1) := by decide +kernel
theorem dX5_countNumber_259 : decode cX5_countNumber 259 = .ok (.ireturn, 1) := by decide +kernel
theorem dX5_countNumber_260 : decode cX5_countNumber 260 = .ok (.aload_n 0, 1) := by decide +kernel
theorem dX5_countNumber_261 : decode cX5_countNumber 261 = .ok (.getfield 22, 3) := by decide +kernel
theorem dX5_countNumber_264 : decode cX5_countNumber 264 = .ok (.getfield 170, 3) := by decide +kernel
theorem dX5_countNumber_267 : decode cX5_countNumber 267 = .ok (.ireturn, 1) := by decide +kernel
set_option maxRecDepth 20000 in
theorem ggX5_wornNumber_X4_copyFrom : GoodIn wsX5_wornNumber wsX4_copyFrom := goodIn_r _ [11, 12, 13, 14, 15, 16, 17, 18, 19, 20, 21, 22, 23, 24, 25, 26, 78, 79, 80, 81, 82, 83, 84, 85, 86, 87, 88] (by decide +kernel) (by decide +kernel)
set_option maxRecDepth 20000 in
theorem gX5_wornNumber_X4_copyFrom : GoodIn wsX5_wornNumber (wsV RX5 208 RX4 yX4_copyFrom wsX4_copyFrom) := goodIn_app (goodIn_of _ (by decide +kernel)) ggX5_wornNumber_X4_copyFrom
set_option maxRecDepth 20000 in
theorem ggX5_wornNumber_X4_run : GoodIn wsX5_wornNumber wsX4_run := goodIn_r _ [30, 26, 31, 32, 33, 10, 34, 23, 25, 24, 22, 19, 21, 35, 36, 37, 38, 39, 40, 41, 42, 43, 44, 45, 46, 47, 48, 49, 50, 51, 52, 53, 17, 20, 54, 55, 56, 57, 12, 58, 59, 60, 61, 62, 63, 64, 78, 79, 80, 81, 82, 83, 84, 85, 86, 87, 88] (by decide +kernel) (by decide +kernel)
set_option maxRecDepth 20000 in
theorem gX5_wornNumber_X4_run : GoodIn wsX5_wornNumber (wsV RX5 95 RX4 yX4_run wsX4_run) := goodIn_app (goodIn_of _ (by decide +kernel)) ggX5_wornNumber_X4_run
theorem dX5_wornNumber_0 : decode cX5_wornNumber 0 = .ok (.aload_n 0, 1) := by decide +kernel
theorem dX5_wornNumber_1 : decode cX5_wornNumber 1 = .ok (.getfield 36, 3) := by decide +kernel
theorem dX5_wornNumber_4 : decode cX5_wornNumber 4 = .ok (.aload_n 0, 1) := by decide +kernel
theorem dX5_wornNumber_5 : decode cX5_wornNumber 5 = .ok (.getfield 10, 3) := by decide +kernel
theorem dX5_wornNumber_8 : decode cX5_wornNumber 8 = .ok (.getfield 52, 3) := by decide +kernel
theorem dX5_wornNumber_11 : decode cX5_wornNumber 11 = .ok (.invokevirtual 208, 3) := by decide +kernel
theorem dX5_wornNumber_14 : decode cX5_wornNumber 14 = .ok (.aload_n 0, 1) := by decide +kernel
theorem dX5_wornNumber_15 : decode cX5_wornNumber 15 = .ok (.getfield 36, 3) := by decide +kernel
theorem dX5_wornNumber_18 : decode cX5_wornNumber 18 = .ok (.iload_n 1, 1) := by decide +kernel
theorem dX5_wornNumber_19 : decode cX5_wornNumber 19 = .ok (.putfield 92, 3) := by decide +kernel
theorem dX5_wornNumber_22 : decode cX5_wornNumber 22 = .ok (.aload_n 0, 1) := by decide +kernel
theorem dX5_wornNumber_23 : decode cX5_wornNumber 23 = .ok (.getfield 36, 3) := by decide +kernel
theorem dX5_wornNumber_26 : decode cX5_wornNumber 26 = .ok (.bipush 8, 2) := by decide +kernel
theorem dX5_wornNumber_28 : decode cX5_wornNumber 28 = .ok (.invokevirtual 95, 3) := by decide +kernel
theorem dX5_wornNumber_31 : decode cX5_wornNumber 31 = .ok (.istore 5, 2) := by decide +kernel
theorem dX5_wornNumber_33 : decode cX5_wornNumber 33 = .ok (.aload_n 0, 1) := by decide +kernel
theorem dX5_wornNumber_34 : decode cX5_wornNumber 34 = .ok (.getfield 36, 3) := by decide +kernel
theorem dX5_wornNumber_37 : decode cX5_wornNumber 37 = .ok (.iload_n 2, 1) := by decide +kernel
theorem dX5_wornNumber_38 : decode cX5_wornNumber 38 = .ok (.putfield 92, 3) := by decide +kernel
theorem dX5_wornNumber_41 : decode cX5_wornNumber 41 = .ok (.iload 5, 2) := by decide +kernel
theorem dX5_wornNumber_43 : decode cX5_wornNumber 43 = .ok (.aload_n 0, 1) := by decide +kernel
theorem dX5_wornNumber_44 : decode cX5_wornNumber 44 = .ok (.getfield 36, 3) := by decide +kernel
theorem dX5_wornNumber_47 : decode cX5_wornNumber 47 = .ok (.bipush 8, 2) := by decide +kernel
theorem dX5_wornNumber_49 : decode cX5_wornNumber 49 = .ok (.invokevirtual 95, 3) := by decide +kernel
theorem dX5_wornNumber_52 : decode cX5_wornNumber 52 = .ok (.iadd, 1) := by decide +kernel
theorem dX5_wornNumber_53 : decode cX5_wornNumber 53 = .ok (.istore 5, 2) := by decide +kernel
theorem dX5_wornNumber_55 : decode cX5_wornNumber 55 = .ok (.aload_n 0, 1) := by decide +kernel
theorem dX5_wornNumber_56 : decode cX5_wornNumber 56 = .ok (.getfield 36, 3) := by decide +kernel
theorem dX5_wornNumber_59 : decode cX5_wornNumber 59 = .ok (.iload_n 3, 1) := by decide +kernel
theorem dX5_wornNumber_60 : decode cX5_wornNumber 60 = .ok (.putfield 92, 3) := by decide +kernel
theorem dX5_wornNumber_63 : decode cX5_wornNumber 63 = .ok (.iload 5, 2) := by decide +kernel
theorem dX5_wornNumber_65 : decode cX5_wornNumber 65 = .ok (.aload_n 0, 1) := by decide +kernel
theorem dX5_wornNumber_66 : decode cX5_wornNumber 66 = .ok (.getfield 36, 3) := by decide +kernel
theorem dX5_wornNumber_69 : decode cX5_wornNumber 69 = .ok (.bipush 8, 2) := by decide +kernel
theorem dX5_wornNumber_71 : decode cX5_wornNumber 71 = .ok (.invokevirtual 95, 3) := by decide +kernel
theorem dX5_wornNumber_74 : decode cX5_wornNumber 74 = .ok (.iadd, 1) := by decide +kernel
theorem dX5_wornNumber_75 : decode cX5_wornNumber 75 = .ok (.istore 5, 2) := by decide +kernel
theorem dX5_wornNumber_77 : decode cX5_wornNumber 77 = .ok (.iload 4, 2) := by decide +kernel
theorem dX5_wornNumber_79 : decode cX5_wornNumber 79 = .ok (.ifCond .ne 28, 3) := by decide +kernel
theorem dX5_wornNumber_82 : decode cX5_wornNumber 82 = .ok (.aload_n 0, 1) := by decide +kernel
theorem dX5_wornNumber_83 : decode cX5_wornNumber 83 = .ok (.getfield 36, 3) := by decide +kernel
theorem dX5_wornNumber_86 : decode cX5_wornNumber 86 = .ok (.getfield 211, 3) := by decide +kernel
theorem dX5_wornNumber_89 : decode cX5_wornNumber 89 = .ok (.aload_n 0, 1) := by decide +kernel
theorem dX5_wornNumber_90 : decode cX5_wornNumber 90 = .ok (.getfield 10, 3) := by decide +kernel
theorem dX5_wornNumber_93 : decode cX5_wornNumber 93 = .ok (.getfield 52, 3) := by decide +kernel
theorem dX5_wornNumber_96 : decode cX5_wornNumber 96 = .ok (.getfield 211, 3) := by decide +kernel
theorem dX5_wornNumber_99 : decode cX5_wornNumber 99 = .ok (.isub, 1) := by decide +kernel
theorem dX5_wornNumber_100 : decode cX5_wornNumber 100 = .ok (.ldc_w 298, 3) := by decide +kernel
theorem dX5_wornNumber_103 : decode cX5_wornNumber 103 = .ok (.iadd, 1) := by decide +kernel
theorem dX5_wornNumber_104 : decode cX5_wornNumber 104 = .ok (.goto 5, 3) := by decide +kernel
theorem dX5_wornNumber_107 : decode cX5_wornNumber 107 = .ok (.iload 5, 2) := by decide +kernel
theorem dX5_wornNumber_109 : decode cX5_wornNumber 109 = .ok (.ireturn, 1) := by decide +kernel
set_option maxRecDepth 20000 in
theorem ggX5_hoursUntilStop_X4_copyFrom : GoodIn wsX5_hoursUntilStop wsX4_copyFrom := goodIn_r _ [9, 10, 11, 12, 13, 14, 15, 16, 17, 18, 19, 20, 21, 22, 23, 24, 76, 77, 78, 79, 80, 81, 82, 83, 84, 85, 86] (by decide +kernel) (by decide +kernel)
set_option maxRecDepth 20000 in
theorem gX5_hoursUntilStop_X4_copyFrom : GoodIn wsX5_hoursUntilStop (wsV RX5 208 RX4 yX4_copyFrom wsX4_copyFrom) := goodIn_app (goodIn_of _ (by decide +kernel)) ggX5_hoursUntilStop_X4_copyFrom
set_option maxRecDepth 20000 in
theorem ggX5_hoursUntilStop_X4_run : GoodIn wsX5_hoursUntilStop wsX4_run := goodIn_r _ [28, 24, 29, 30, 31, 8, 32, 21, 23, 22, 20, 17, 19, 33, 34, 35, 36, 37, 38, 39, 40, 41, 42, 43, 44, 45, 46, 47, 48, 49, 50, 51, 15, 18, 52, 53, 54, 55, 10, 56, 57, 58, 59, 60, 61, 62, 76, 77, 78, 79, 80, 81, 82, 83, 84, 85, 86] (by decide +kernel) (by decide +kernel)
set_option maxRecDepth 20000 in
theorem gX5_hoursUntilStop_X4_run : GoodIn wsX5_hoursUntilStop (wsV RX5 95 RX4 yX4_run wsX4_run) := goodIn_app (goodIn_of _ (by decide +kernel)) ggX5_hoursUntilStop_X4_run
theorem dX5_hoursUntilStop_0 : decode cX5_hoursUntilStop 0 = .ok (.aload_n 0, 1) := by decide +kernel
theorem dX5_hoursUntilStop_1 : decode cX5_hoursUntilStop 1 = .ok (.getfield 36, 3) := by decide +kernel
theorem dX5_hoursUntilStop_4 : decode cX5_hoursUntilStop 4 = .ok (.aload_n 0, 1) := by decide +kernel
theorem dX5_hoursUntilStop_5 : decode cX5_hoursUntilStop 5 = .ok (.getfield 10, 3) := by decide +kernel
theorem dX5_hoursUntilStop_8 : decode cX5_hoursUntilStop 8 = .ok (.getfield 52, 3) := by decide +kernel
theorem dX5_hoursUntilStop_11 : decode cX5_hoursUntilStop 11 = .ok (.invokevirtual 208, 3) := by decide +kernel
theorem dX5_hoursUntilStop_14 : decode cX5_hoursUntilStop 14 = .ok (.aload_n 0, 1) := by decide +kernel
theorem dX5_hoursUntilStop_15 : decode cX5_hoursUntilStop 15 = .ok (.getfield 36, 3) := by decide +kernel
theorem dX5_hoursUntilStop_18 : decode cX5_hoursUntilStop 18 = .ok (.iload_n 1, 1) := by decide +kernel
theorem dX5_hoursUntilStop_19 : decode cX5_hoursUntilStop 19 = .ok (.putfield 92, 3) := by decide +kernel
theorem dX5_hoursUntilStop_22 : decode cX5_hoursUntilStop 22 = .ok (.aload_n 0, 1) := by decide +kernel
theorem dX5_hoursUntilStop_23 : decode cX5_hoursUntilStop 23 = .ok (.getfield 36, 3) := by decide +kernel
theorem dX5_hoursUntilStop_26 : decode cX5_hoursUntilStop 26 = .ok (.bipush 48, 2) := by decide +kernel
theorem dX5_hoursUntilStop_28 : decode cX5_hoursUntilStop 28 = .ok (.invokevirtual 95, 3) := by decide +kernel
theorem dX5_hoursUntilStop_31 : decode cX5_hoursUntilStop 31 = .ok (.ireturn, 1) := by decide +kernel
theorem dJ9_floorDiv_7cf53_0 : decode cJ9_floorDiv_7cf53 0 = .ok (.iload_n 0, 1) := by decide +kernel
theorem dJ9_floorDiv_7cf53_1 : decode cJ9_floorDiv_7cf53 1 = .ok (.iload_n 1, 1) := by decide +kernel
theorem dJ9_floorDiv_7cf53_2 : decode cJ9_floorDiv_7cf53 2 = .ok (.idiv, 1) := by decide +kernel
theorem dJ9_floorDiv_7cf53_3 : decode cJ9_floorDiv_7cf53 3 = .ok (.istore_n 2, 1) := by decide +kernel
theorem dJ9_floorDiv_7cf53_4 : decode cJ9_floorDiv_7cf53 4 = .ok (.iload_n 0, 1) := by decide +kernel
theorem dJ9_floorDiv_7cf53_5 : decode cJ9_floorDiv_7cf53 5 = .ok (.iload_n 1, 1) := by decide +kernel
theorem dJ9_floorDiv_7cf53_6 : decode cJ9_floorDiv_7cf53 6 = .ok (.ixor, 1) := by decide +kernel
theorem dJ9_floorDiv_7cf53_7 : decode cJ9_floorDiv_7cf53 7 = .ok (.ifCond .ge 14, 3) := by decide +kernel
theorem dJ9_floorDiv_7cf53_10 : decode cJ9_floorDiv_7cf53 10 = .ok (.iload_n 2, 1) := by decide +kernel
theorem dJ9_floorDiv_7cf53_11 : decode cJ9_floorDiv_7cf53 11 = .ok (.iload_n 1, 1) := by decide +kernel
theorem dJ9_floorDiv_7cf53_12 : decode cJ9_floorDiv_7cf53 12 = .ok (.imul, 1) := by decide +kernel
theorem dJ9_floorDiv_7cf53_13 : decode cJ9_floorDiv_7cf53 13 = .ok (.iload_n 0, 1) := by decide +kernel
theorem dJ9_floorDiv_7cf53_14 : decode cJ9_floorDiv_7cf53 14 = .ok (.if_icmp .eq 7, 3) := by decide +kernel
theorem dJ9_floorDiv_7cf53_17 : decode cJ9_floorDiv_7cf53 17 = .ok (.iload_n 2, 1) := by decide +kernel
theorem dJ9_floorDiv_7cf53_18 : decode cJ9_floorDiv_7cf53 18 = .ok (.iconst 1, 1) := by decide +kernel
theorem dJ9_floorDiv_7cf53_19 : decode cJ9_floorDiv_7cf53 19 = .ok (.isub, 1) := by decide +kernel
theorem dJ9_floorDiv_7cf53_20 : decode cJ9_floorDiv_7cf53 20 = .ok (.ireturn, 1) := by decide +kernel
theorem dJ9_floorDiv_7cf53_21 : decode cJ9_floorDiv_7cf53 21 = .ok (.iload_n 2, 1) := by decide +kernel
theorem dJ9_floorDiv_7cf53_22 : decode cJ9_floorDiv_7cf53 22 = .ok (.ireturn, 1) := by decide +kernel
theorem dJ9_abs_0f7a4_0 : decode cJ9_abs_0f7a4 0 = .ok (.iload_n 0, 1) := by decide +kernel
theorem dJ9_abs_0f7a4_1 : decode cJ9_abs_0f7a4 1 = .ok (.ifCond .ge 8, 3) := by decide +kernel
theorem dJ9_abs_0f7a4_4 : decode cJ9_abs_0f7a4 4 = .ok (.iload_n 0, 1) := by decide +kernel
theorem dJ9_abs_0f7a4_5 : decode cJ9_abs_0f7a4 5 = .ok (.ineg, 1) := by decide +kernel
theorem dJ9_abs_0f7a4_6 : decode cJ9_abs_0f7a4 6 = .ok (.goto 4, 3) := by decide +kernel
theorem dJ9_abs_0f7a4_9 : decode cJ9_abs_0f7a4 9 = .ok (.iload_n 0, 1) := by decide +kernel
theorem dJ9_abs_0f7a4_10 : decode cJ9_abs_0f7a4 10 = .ok (.ireturn, 1) := by decide +kernel
theorem dJ9_max_7cf53_0 : decode cJ9_max_7cf53 0 = .ok (.iload_n 0, 1) := by decide +kernel
theorem dJ9_max_7cf53_1 : decode cJ9_max_7cf53 1 = .ok (.iload_n 1, 1) := by decide +kernel
theorem dJ9_max_7cf53_2 : decode cJ9_max_7cf53 2 = .ok (.if_icmp .lt 7, 3) := by decide +kernel
theorem dJ9_max_7cf53_5 : decode cJ9_max_7cf53 5 = .ok (.iload_n 0, 1) := by decide +kernel
theorem dJ9_max_7cf53_6 : decode cJ9_max_7cf53 6 = .ok (.goto 4, 3) := by decide +kernel
theorem dJ9_max_7cf53_9 : decode cJ9_max_7cf53 9 = .ok (.iload_n 1, 1) := by decide +kernel
theorem dJ9_max_7cf53_10 : decode cJ9_max_7cf53 10 = .ok (.ireturn, 1) := by decide +kernel
theorem dJ9_min_7cf53_0 : decode cJ9_min_7cf53 0 = .ok (.iload_n 0, 1) := by decide +kernel
theorem dJ9_min_7cf53_1 : decode cJ9_min_7cf53 1 = .ok (.iload_n 1, 1) := by decide +kernel
theorem dJ9_min_7cf53_2 : decode cJ9_min_7cf53 2 = .ok (.if_icmp .gt 7, 3) := by decide +kernel
theorem dJ9_min_7cf53_5 : decode cJ9_min_7cf53 5 = .ok (.iload_n 0, 1) := by decide +kernel
theorem dJ9_min_7cf53_6 : decode cJ9_min_7cf53 6 = .ok (.goto 4, 3) := by decide +kernel
theorem dJ9_min_7cf53_9 : decode cJ9_min_7cf53 9 = .ok (.iload_n 1, 1) := by decide +kernel
theorem dJ9_min_7cf53_10 : decode cJ9_min_7cf53 10 = .ok (.ireturn, 1) := by decide +kernel
theorem dL_cell_0 : decode cL_cell 0 = .ok (.iload_n 1, 1) := by decide +kernel
theorem dL_cell_1 : decode cL_cell 1 = .ok (.aload_n 0, 1) := by decide +kernel
theorem dL_cell_2 : decode cL_cell 2 = .ok (.arraylength, 1) := by decide +kernel
theorem dL_cell_3 : decode cL_cell 3 = .ok (.if_icmp .ge 9, 3) := by decide +kernel
theorem dL_cell_6 : decode cL_cell 6 = .ok (.aload_n 0, 1) := by decide +kernel
theorem dL_cell_7 : decode cL_cell 7 = .ok (.iload_n 1, 1) := by decide +kernel
theorem dL_cell_8 : decode cL_cell 8 = .ok (.iaload, 1) := by decide +kernel
theorem dL_cell_9 : decode cL_cell 9 = .ok (.goto 9, 3) := by decide +kernel
theorem dL_cell_12 : decode cL_cell 12 = .ok (.ldc 7, 2) := by decide +kernel
theorem dL_cell_14 : decode cL_cell 14 = .ok (.iload_n 1, 1) := by decide +kernel
theorem dL_cell_15 : decode cL_cell 15 = .ok (.iconst 1, 1) := by decide +kernel
theorem dL_cell_16 : decode cL_cell 16 = .ok (.iadd, 1) := by decide +kernel
theorem dL_cell_17 : decode cL_cell 17 = .ok (.imul, 1) := by decide +kernel
theorem dL_cell_18 : decode cL_cell 18 = .ok (.ireturn, 1) := by decide +kernel
theorem dL_low_0 : decode cL_low 0 = .ok (.iload_n 0, 1) := by decide +kernel
theorem dL_low_1 : decode cL_low 1 = .ok (.ldc 8, 2) := by decide +kernel
theorem dL_low_3 : decode cL_low 3 = .ok (.iand, 1) := by decide +kernel
theorem dL_low_4 : decode cL_low 4 = .ok (.iload_n 1, 1) := by decide +kernel
theorem dL_low_5 : decode cL_low 5 = .ok (.irem, 1) := by decide +kernel
theorem dL_low_6 : decode cL_low 6 = .ok (.ireturn, 1) := by decide +kernel
set_option maxRecDepth 20000 in
theorem ggL_wind_X5_wind : GoodIn wsL_wind wsX5_wind := goodIn_ca (goodIn_r _ [6, 7, 8, 9, 10, 11, 12, 5, 13, 14, 15, 16, 17, 18, 19, 20, 21, 22, 23, 24, 25, 26, 27, 28, 29, 30, 31, 32, 33, 34, 35, 36, 37, 38, 39, 40, 41, 42, 43, 44, 45, 46, 47, 48, 49, 50, 51, 52, 53, 54, 55, 56, 57, 58, 59, 60, 61, 62, 63, 64, 65, 66, 67, 68, 69, 70, 71, 72, 73, 74, 75, 76, 77, 78, 79, 80, 81, 82, 83, 84, 85, 86, 87, 88, 89, 90, 91, 92, 93, 94, 95, 96, 97, 98, 99, 100, 101, 102] (by decide +kernel) (by decide +kernel)) (goodIn_sub (fun _ h => List.mem_cons_of_mem _ (List.mem_append_right _ h)) (by decide +kernel))
set_option maxRecDepth 20000 in
theorem gL_wind_X5_wind : GoodIn wsL_wind (wsV RL 9 RX5 yX5_wind wsX5_wind) := goodIn_app (goodIn_of _ (by decide +kernel)) ggL_wind_X5_wind
theorem dL_wind_0 : decode cL_wind 0 = .ok (.aload_n 0, 1) := by decide +kernel
theorem dL_wind_1 : decode cL_wind 1 = .ok (.iload_n 1, 1) := by decide +kernel
theorem dL_wind_2 : decode cL_wind 2 = .ok (.invokevirtual 9, 3) := by decide +kernel
theorem dL_wind_5 : decode cL_wind 5 = .ok (.istore_n 2, 1) := by decide +kernel
theorem dL_wind_6 : decode cL_wind 6 = .ok (.goto 7, 3) := by decide +kernel
theorem dL_wind_9 : decode cL_wind 9 = .ok (.astore_n 3, 1) := by decide +kernel
theorem dL_wind_10 : decode cL_wind 10 = .ok (.bipush (-32), 2) := by decide +kernel
theorem dL_wind_12 : decode cL_wind 12 = .ok (.ireturn, 1) := by decide +kernel
theorem dL_wind_13 : decode cL_wind 13 = .ok (.iload_n 2, 1) := by decide +kernel
theorem dL_wind_14 : decode cL_wind 14 = .ok (.ireturn, 1) := by decide +kernel
set_option maxRecDepth 20000 in
theorem ggL_weigh_X5_weigh : GoodIn wsL_weigh wsX5_weigh := goodIn_ca (goodIn_ca (goodIn_r _ [7, 8, 9, 10, 11, 12, 6, 13, 14, 15, 16, 17, 18, 19, 20, 21, 22, 23, 24, 25, 26, 27, 28, 29, 30, 31, 32, 33, 34, 35, 36, 37, 38, 39, 40, 41, 42, 43, 44, 45, 46, 47, 48, 49, 50, 51, 52, 53, 54, 55, 56, 57, 58, 59, 60, 61, 62, 63, 64, 65, 66, 67, 68, 69, 70, 71, 72, 73, 74, 75, 76, 77, 78, 79, 80, 81, 82, 83, 84, 85, 86, 87, 88, 89, 90, 91, 92, 93, 94, 95, 96, 97, 98, 99, 100, 101, 102, 103, 104, 105, 106, 107, 108, 109, 110, 111, 112, 113] (by decide +kernel) (by decide +kernel)) (goodIn_sub (fun _ h => List.mem_cons_of_mem _ (List.mem_append_left _ (List.mem_append_right _ h))) (by decide +kernel))) (goodIn_sub (fun _ h => List.mem_cons_of_mem _ (List.mem_append_right _ h)) (by decide +kernel))
set_option maxRecDepth 20000 in
theorem gL_weigh_X5_weigh : GoodIn wsL_weigh (wsV RL 17 RX5 yX5_weigh wsX5_weigh) := goodIn_app (goodIn_of _ (by decide +kernel)) ggL_weigh_X5_weigh
theorem dL_weigh_0 : decode cL_weigh 0 = .ok (.aload_n 0, 1) := by decide +kernel
theorem dL_weigh_1 : decode cL_weigh 1 = .ok (.iload_n 1, 1) := by decide +kernel
theorem dL_weigh_2 : decode cL_weigh 2 = .ok (.iload_n 2, 1) := by decide +kernel
theorem dL_weigh_3 : decode cL_weigh 3 = .ok (.invokevirtual 17, 3) := by decide +kernel
theorem dL_weigh_6 : decode cL_weigh 6 = .ok (.istore_n 3, 1) := by decide +kernel
theorem dL_weigh_7 : decode cL_weigh 7 = .ok (.goto 13, 3) := by decide +kernel
theorem dL_weigh_10 : decode cL_weigh 10 = .ok (.astore 4, 2) := by decide +kernel
theorem dL_weigh_12 : decode cL_weigh 12 = .ok (.bipush (-31), 2) := by decide +kernel
theorem dL_weigh_14 : decode cL_weigh 14 = .ok (.ireturn, 1) := by decide +kernel
theorem dL_weigh_15 : decode cL_weigh 15 = .ok (.astore 4, 2) := by decide +kernel
theorem dL_weigh_17 : decode cL_weigh 17 = .ok (.bipush (-32), 2) := by decide +kernel
theorem dL_weigh_19 : decode cL_weigh 19 = .ok (.ireturn, 1) := by decide +kernel
theorem dL_weigh_20 : decode cL_weigh 20 = .ok (.iload_n 3, 1) := by decide +kernel
theorem dL_weigh_21 : decode cL_weigh 21 = .ok (.ireturn, 1) := by decide +kernel
set_option maxRecDepth 20000 in
theorem ggL_adjust_X5_adjust : GoodIn wsL_adjust wsX5_adjust := goodIn_ca (goodIn_r _ [6, 7, 8, 9, 10, 11, 12, 13, 5, 14, 15, 16, 17, 18, 19, 20, 21, 22, 23, 24, 25, 26, 27, 28, 29, 30, 31, 32, 33, 34, 35, 36, 37, 38, 39, 40, 41, 42, 43, 44, 45, 46, 47, 48, 49, 50, 51, 52, 53, 54, 55, 56, 57, 58, 59, 60, 61, 62, 63, 64, 65, 66, 67, 68, 69, 70, 71, 72, 73, 74, 75, 76, 77, 78, 79, 80, 81, 82, 83, 84, 85, 86, 87, 88, 89, 90, 91, 92, 93, 94, 95, 96, 97, 98] (by decide +kernel) (by decide +kernel)) (goodIn_sub (fun _ h => List.mem_cons_of_mem _ (List.mem_append_right _ h)) (by decide +kernel))
set_option maxRecDepth 20000 in
theorem gL_adjust_X5_adjust : GoodIn wsL_adjust (wsV RL 23 RX5 yX5_adjust wsX5_adjust) := goodIn_app (goodIn_of _ (by decide +kernel)) ggL_adjust_X5_adjust
theorem dL_adjust_0 : decode cL_adjust 0 = .ok (.aload_n 0, 1) := by decide +kernel
theorem dL_adjust_1 : decode cL_adjust 1 = .ok (.iload_n 1, 1) := by decide +kernel
theorem dL_adjust_2 : decode cL_adjust 2 = .ok (.iload_n 2, 1) := by decide +kernel
theorem dL_adjust_3 : decode cL_adjust 3 = .ok (.invokevirtual 23, 3) := by decide +kernel
theorem dL_adjust_6 : decode cL_adjust 6 = .ok (.istore_n 3, 1) := by decide +kernel
theorem dL_adjust_7 : decode cL_adjust 7 = .ok (.goto 8, 3) := by decide +kernel
theorem dL_adjust_10 : decode cL_adjust 10 = .ok (.astore 4, 2) := by decide +kernel
theorem dL_adjust_12 : decode cL_adjust 12 = .ok (.bipush (-32), 2) := by decide +kernel
theorem dL_adjust_14 : decode cL_adjust 14 = .ok (.ireturn, 1) := by decide +kernel
theorem dL_adjust_15 : decode cL_adjust 15 = .ok (.iload_n 3, 1) := by decide +kernel
theorem dL_adjust_16 : decode cL_adjust 16 = .ok (.ireturn, 1) := by decide +kernel
set_option maxRecDepth 20000 in
theorem ggL_magnetise_X5_magnetise : GoodIn wsL_magnetise wsX5_magnetise := goodIn_ca (goodIn_r _ [6, 7, 8, 9, 10, 11, 12, 13, 14, 15, 16, 5, 17, 18, 19, 20, 21, 22, 23, 24, 25, 26, 27, 28, 29, 30, 31, 32, 33, 34, 35, 36, 37, 38, 39, 40, 41, 42, 43, 44, 45, 46, 47, 48, 49, 50, 51, 52, 53, 54, 55, 56, 57, 58, 59, 60, 61, 62, 63, 64, 65, 66, 67, 68, 69, 70, 71, 72, 73, 74, 75, 76, 77, 78, 79, 80, 81, 82, 83, 84, 85, 86, 87, 88, 89, 90, 91, 92, 93, 94, 95, 96, 97, 98] (by decide +kernel) (by decide +kernel)) (goodIn_sub (fun _ h => List.mem_cons_of_mem _ (List.mem_append_right _ h)) (by decide +kernel))
set_option maxRecDepth 20000 in
theorem gL_magnetise_X5_magnetise : GoodIn wsL_magnetise (wsV RL 26 RX5 yX5_magnetise wsX5_magnetise) := goodIn_app (goodIn_of _ (by decide +kernel)) ggL_magnetise_X5_magnetise
theorem dL_magnetise_0 : decode cL_magnetise 0 = .ok (.aload_n 0, 1) := by decide +kernel
theorem dL_magnetise_1 : decode cL_magnetise 1 = .ok (.iload_n 1, 1) := by decide +kernel
theorem dL_magnetise_2 : decode cL_magnetise 2 = .ok (.invokevirtual 26, 3) := by decide +kernel
theorem dL_magnetise_5 : decode cL_magnetise 5 = .ok (.istore_n 2, 1) := by decide +kernel
theorem dL_magnetise_6 : decode cL_magnetise 6 = .ok (.goto 7, 3) := by decide +kernel
theorem dL_magnetise_9 : decode cL_magnetise 9 = .ok (.astore_n 3, 1) := by decide +kernel
theorem dL_magnetise_10 : decode cL_magnetise 10 = .ok (.bipush (-32), 2) := by decide +kernel
theorem dL_magnetise_12 : decode cL_magnetise 12 = .ok (.ireturn, 1) := by decide +kernel
theorem dL_magnetise_13 : decode cL_magnetise 13 = .ok (.iload_n 2, 1) := by decide +kernel
theorem dL_magnetise_14 : decode cL_magnetise 14 = .ok (.ireturn, 1) := by decide +kernel
set_option maxRecDepth 20000 in
theorem ggL_lay_X5_lay : GoodIn wsL_lay wsX5_lay := goodIn_ca (goodIn_r _ [6, 7, 8, 9, 10, 11, 12, 5, 13, 14, 15, 16, 17, 18, 19, 20, 21, 22, 23, 24, 25, 26, 27, 28, 29, 30, 31, 32, 33, 34, 35, 36, 37, 38, 39, 40, 41, 42, 43, 44, 45, 46, 47, 48, 49, 50, 51, 52, 53, 54, 55, 56, 57, 58, 59, 60, 61, 62, 63, 64, 65, 66, 67, 68, 69, 70, 71, 72, 73, 74, 75, 76, 77, 78, 79, 80, 81, 82, 83, 84, 85, 86, 87, 88, 89, 90, 91, 92, 93, 94, 95, 96, 97, 98, 99, 100] (by decide +kernel) (by decide +kernel)) (goodIn_sub (fun _ h => List.mem_cons_of_mem _ (List.mem_append_right _ h)) (by decide +kernel))
set_option maxRecDepth 20000 in
theorem gL_lay_X5_lay : GoodIn wsL_lay (wsV RL 29 RX5 yX5_lay wsX5_lay) := goodIn_app (goodIn_of _ (by decide +kernel)) ggL_lay_X5_lay
theorem dL_lay_0 : decode cL_lay 0 = .ok (.aload_n 0, 1) := by decide +kernel
theorem dL_lay_1 : decode cL_lay 1 = .ok (.iload_n 1, 1) := by decide +kernel
theorem dL_lay_2 : decode cL_lay 2 = .ok (.invokevirtual 29, 3) := by decide +kernel
theorem dL_lay_5 : decode cL_lay 5 = .ok (.istore_n 2, 1) := by decide +kernel
theorem dL_lay_6 : decode cL_lay 6 = .ok (.goto 7, 3) := by decide +kernel
theorem dL_lay_9 : decode cL_lay 9 = .ok (.astore_n 3, 1) := by decide +kernel
theorem dL_lay_10 : decode cL_lay 10 = .ok (.bipush (-31), 2) := by decide +kernel
theorem dL_lay_12 : decode cL_lay 12 = .ok (.ireturn, 1) := by decide +kernel
theorem dL_lay_13 : decode cL_lay 13 = .ok (.iload_n 2, 1) := by decide +kernel
theorem dL_lay_14 : decode cL_lay 14 = .ok (.ireturn, 1) := by decide +kernel
set_option maxRecDepth 20000 in
theorem ggL_pass_X5_pass : GoodIn wsL_pass wsX5_pass := goodIn_ca (goodIn_r _ [6, 7, 8, 9, 10, 11, 5, 12, 13, 14, 15, 16, 17, 18, 19, 20, 21, 22, 23, 24, 25, 26, 27, 28, 29, 30, 31, 32, 33, 34, 35, 36, 37, 38, 39, 40, 41, 42, 43, 44, 45, 46, 47, 48, 49, 50, 51, 52, 53, 54, 55, 56, 57, 58, 59, 60, 61, 62, 63, 64, 65, 66, 67, 68, 69, 70, 71, 72, 73, 74, 75, 76, 77, 78, 79, 80, 81, 82, 83, 84, 85, 86, 87, 88, 89, 90, 91, 92, 93, 94, 95, 96, 97, 98, 99, 100, 101, 102, 103, 104, 105, 106, 107, 108, 109, 110, 111, 112, 113, 114, 115, 116, 117, 118, 119, 120, 121, 122, 123, 124, 125, 126, 127, 128, 129, 130] (by decide +kernel) (by decide +kernel)) (goodIn_sub (fun _ h => List.mem_cons_of_mem _ (List.mem_append_right _ h)) (by decide +kernel))
set_option maxRecDepth 20000 in
theorem gL_pass_X5_pass : GoodIn wsL_pass (wsV RL 32 RX5 yX5_pass wsX5_pass) := goodIn_app (goodIn_of _ (by decide +kernel)) ggL_pass_X5_pass
theorem dL_pass_0 : decode cL_pass 0 = .ok (.aload_n 0, 1) := by decide +kernel
theorem dL_pass_1 : decode cL_pass 1 = .ok (.iload_n 1, 1) := by decide +kernel
theorem dL_pass_2 : decode cL_pass 2 = .ok (.invokevirtual 32, 3) := by decide +kernel
theorem dL_pass_5 : decode cL_pass 5 = .ok (.istore_n 2, 1) := by decide +kernel
theorem dL_pass_6 : decode cL_pass 6 = .ok (.goto 7, 3) := by decide +kernel
theorem dL_pass_9 : decode cL_pass 9 = .ok (.astore_n 3, 1) := by decide +kernel
theorem dL_pass_10 : decode cL_pass 10 = .ok (.bipush (-32), 2) := by decide +kernel
theorem dL_pass_12 : decode cL_pass 12 = .ok (.ireturn, 1) := by decide +kernel
theorem dL_pass_13 : decode cL_pass 13 = .ok (.iload_n 2, 1) := by decide +kernel
theorem dL_pass_14 : decode cL_pass 14 = .ok (.ireturn, 1) := by decide +kernel
set_option maxRecDepth 20000 in
theorem ggL_read_X5_read : GoodIn wsL_read wsX5_read := goodIn_ca (goodIn_ca (goodIn_r _ [7, 8, 9, 10, 11, 12, 13, 14, 6, 15, 16, 17, 18, 19, 20, 21, 22, 23, 24, 25, 26, 27, 28, 29, 30, 31, 32, 33, 34, 35, 36, 37, 38, 39, 40, 41, 42, 43, 44, 45, 46, 47, 48, 49, 50, 51, 52, 53, 54, 55, 56, 57, 58, 59, 60, 61, 62, 63, 64, 65, 66, 67, 68, 69, 70, 71, 72, 73, 74, 75, 76, 77, 78, 79, 80, 81, 82, 83, 84, 85, 86, 87, 88, 89, 90, 91, 92, 93, 94, 95, 96, 97, 98, 99, 100, 101, 102, 103, 104, 105, 106, 107, 108, 109, 110, 111, 112, 113, 114, 115, 116, 117, 118, 119, 120, 121, 122, 123, 124, 125, 126, 127, 128, 129, 130, 131, 132, 133, 134, 135, 136, 137, 138, 139, 140, 141, 142, 143, 144, 145, 146, 147, 148, 149, 150, 151, 152, 153, 154] (by decide +kernel) (by decide +kernel)) (goodIn_sub (fun _ h => List.mem_cons_of_mem _ (List.mem_append_left _ (List.mem_append_right _ h))) (by decide +kernel))) (goodIn_sub (fun _ h => List.mem_cons_of_mem _ (List.mem_append_right _ h)) (by decide +kernel))
set_option maxRecDepth 20000 in
theorem gL_read_X5_read : GoodIn wsL_read (wsV RL 35 RX5 yX5_read wsX5_read) := goodIn_app (goodIn_of _ (by decide +kernel)) ggL_read_X5_read
theorem dL_read_0 : decode cL_read 0 = .ok (.aload_n 0, 1) := by decide +kernel
theorem dL_read_1 : decode cL_read 1 = .ok (.iload_n 1, 1) := by decide +kernel
theorem dL_read_2 : decode cL_read 2 = .ok (.invokevirtual 35, 3) := by decide +kernel
theorem dL_read_5 : decode cL_read 5 = .ok (.istore_n 2, 1) := by decide +kernel
theorem dL_read_6 : decode cL_read 6 = .ok (.goto 11, 3) := by decide +kernel
theorem dL_read_9 : decode cL_read 9 = .ok (.astore_n 3, 1) := by decide +kernel
theorem dL_read_10 : decode cL_read 10 = .ok (.bipush (-31), 2) := by decide +kernel
theorem dL_read_12 : decode cL_read 12 = .ok (.ireturn, 1) := by decide +kernel
theorem dL_read_13 : decode cL_read 13 = .ok (.astore_n 3, 1) := by decide +kernel
theorem dL_read_14 : decode cL_read 14 = .ok (.bipush (-33), 2) := by decide +kernel
theorem dL_read_16 : decode cL_read 16 = .ok (.ireturn, 1) := by decide +kernel
theorem dL_read_17 : decode cL_read 17 = .ok (.iload_n 2, 1) := by decide +kernel
theorem dL_read_18 : decode cL_read 18 = .ok (.ireturn, 1) := by decide +kernel
set_option maxRecDepth 20000 in
theorem ggL_set_X5_set : GoodIn wsL_set wsX5_set := goodIn_ca (goodIn_ca (goodIn_r _ [7, 8, 9, 10, 11, 12, 13, 14, 15, 16, 6, 17, 18, 19, 20, 21, 22, 23, 24, 25, 26, 27, 28, 29, 30, 31, 32, 33, 34, 35, 36, 37, 38, 39, 40, 41, 42, 43, 44, 45, 46, 47, 48, 49, 50, 51, 52, 53, 54, 55, 56, 57, 58, 59, 60, 61, 62, 63, 64, 65, 66, 67, 68, 69, 70, 71, 72, 73, 74, 75, 76, 77, 78, 79, 80, 81, 82, 83, 84, 85, 86, 87, 88, 89, 90, 91, 92, 93, 94, 95, 96, 97, 98, 99, 100, 101] (by decide +kernel) (by decide +kernel)) (goodIn_sub (fun _ h => List.mem_cons_of_mem _ (List.mem_append_left _ (List.mem_append_right _ h))) (by decide +kernel))) (goodIn_sub (fun _ h => List.mem_cons_of_mem _ (List.mem_append_right _ h)) (by decide +kernel))
set_option maxRecDepth 20000 in
theorem gL_set_X5_set : GoodIn wsL_set (wsV RL 40 RX5 yX5_set wsX5_set) := goodIn_app (goodIn_of _ (by decide +kernel)) ggL_set_X5_set
theorem dL_set_0 : decode cL_set 0 = .ok (.aload_n 0, 1) := by decide +kernel
theorem dL_set_1 : decode cL_set 1 = .ok (.iload_n 1, 1) := by decide +kernel
theorem dL_set_2 : decode cL_set 2 = .ok (.iload_n 2, 1) := by decide +kernel
theorem dL_set_3 : decode cL_set 3 = .ok (.invokevirtual 40, 3) := by decide +kernel
theorem dL_set_6 : decode cL_set 6 = .ok (.istore_n 3, 1) := by decide +kernel
theorem dL_set_7 : decode cL_set 7 = .ok (.goto 13, 3) := by decide +kernel
theorem dL_set_10 : decode cL_set 10 = .ok (.astore 4, 2) := by decide +kernel
theorem dL_set_12 : decode cL_set 12 = .ok (.bipush (-31), 2) := by decide +kernel
theorem dL_set_14 : decode cL_set 14 = .ok (.ireturn, 1) := by decide +kernel
theorem dL_set_15 : decode cL_set 15 = .ok (.astore 4, 2) := by decide +kernel
theorem dL_set_17 : decode cL_set 17 = .ok (.bipush (-32), 2) := by decide +kernel
theorem dL_set_19 : decode cL_set 19 = .ok (.ireturn, 1) := by decide +kernel
theorem dL_set_20 : decode cL_set 20 = .ok (.iload_n 3, 1) := by decide +kernel
theorem dL_set_21 : decode cL_set 21 = .ok (.ireturn, 1) := by decide +kernel
set_option maxRecDepth 20000 in
theorem ggL_undo_X5_undo : GoodIn wsL_undo wsX5_undo := goodIn_ca (goodIn_r _ [6, 7, 8, 9, 10, 11, 12, 13, 14, 15, 16, 17, 18, 19, 20, 21, 22, 23, 24, 25, 26, 27, 28, 29, 30, 31, 32, 33, 34, 35, 36, 37, 38, 39, 40, 41, 42, 43, 44, 45, 46, 47, 48, 49, 50, 51, 52, 53, 54, 55, 56, 57, 58, 59, 60, 61, 62, 63, 64, 65, 66, 67, 68, 69, 70, 71, 72, 73, 74, 75, 76, 77, 78, 79, 80, 81, 82, 83, 84, 85, 86, 87, 88, 89] (by decide +kernel) (by decide +kernel)) (goodIn_sub (fun _ h => List.mem_cons_of_mem _ (List.mem_append_right _ h)) (by decide +kernel))
set_option maxRecDepth 20000 in
theorem gL_undo_X5_undo : GoodIn wsL_undo (wsV RL 43 RX5 yX5_undo wsX5_undo) := goodIn_app (goodIn_of _ (by decide +kernel)) ggL_undo_X5_undo
theorem dL_undo_0 : decode cL_undo 0 = .ok (.aload_n 0, 1) := by decide +kernel
theorem dL_undo_1 : decode cL_undo 1 = .ok (.invokevirtual 43, 3) := by decide +kernel
theorem dL_undo_4 : decode cL_undo 4 = .ok (.istore_n 1, 1) := by decide +kernel
theorem dL_undo_5 : decode cL_undo 5 = .ok (.goto 7, 3) := by decide +kernel
theorem dL_undo_8 : decode cL_undo 8 = .ok (.astore_n 2, 1) := by decide +kernel
theorem dL_undo_9 : decode cL_undo 9 = .ok (.bipush (-33), 2) := by decide +kernel
theorem dL_undo_11 : decode cL_undo 11 = .ok (.ireturn, 1) := by decide +kernel
theorem dL_undo_12 : decode cL_undo 12 = .ok (.iload_n 1, 1) := by decide +kernel
theorem dL_undo_13 : decode cL_undo 13 = .ok (.ireturn, 1) := by decide +kernel
set_option maxRecDepth 20000 in
theorem ggL_restore_X5_restore : GoodIn wsL_restore wsX5_restore := goodIn_ca (goodIn_r _ [6, 7, 8, 9, 10, 11, 12, 13, 14, 15, 16, 17, 18, 19, 20, 21, 22, 23, 24, 25, 26, 27, 28, 29, 30, 31, 32, 33, 34, 35, 36, 37, 38, 39, 40, 41, 42, 43, 44, 45, 46, 47, 48, 49, 50, 51, 52, 53, 54, 55, 56, 57, 58, 59, 60, 61, 62, 63, 64, 65, 66, 67, 68, 69, 70, 71, 72, 73, 74, 75, 76, 77, 78, 79, 80, 81, 82, 83, 84, 85, 86, 87, 88, 89, 90, 91, 92, 93, 94, 95, 96, 97] (by decide +kernel) (by decide +kernel)) (goodIn_sub (fun _ h => List.mem_cons_of_mem _ (List.mem_append_right _ h)) (by decide +kernel))
set_option maxRecDepth 20000 in
theorem gL_restore_X5_restore : GoodIn wsL_restore (wsV RL 47 RX5 yX5_restore wsX5_restore) := goodIn_app (goodIn_of _ (by decide +kernel)) ggL_restore_X5_restore
theorem dL_restore_0 : decode cL_restore 0 = .ok (.aload_n 0, 1) := by decide +kernel
theorem dL_restore_1 : decode cL_restore 1 = .ok (.invokevirtual 47, 3) := by decide +kernel
theorem dL_restore_4 : decode cL_restore 4 = .ok (.istore_n 1, 1) := by decide +kernel
theorem dL_restore_5 : decode cL_restore 5 = .ok (.goto 7, 3) := by decide +kernel
theorem dL_restore_8 : decode cL_restore 8 = .ok (.astore_n 2, 1) := by decide +kernel
theorem dL_restore_9 : decode cL_restore 9 = .ok (.bipush (-33), 2) := by decide +kernel
theorem dL_restore_11 : decode cL_restore 11 = .ok (.ireturn, 1) := by decide +kernel
theorem dL_restore_12 : decode cL_restore 12 = .ok (.iload_n 1, 1) := by decide +kernel
theorem dL_restore_13 : decode cL_restore 13 = .ok (.ireturn, 1) := by decide +kernel
set_option maxRecDepth 20000 in
theorem ggL_pose_X5_pose : GoodIn wsL_pose wsX5_pose := goodIn_ca (goodIn_ca (goodIn_r _ [7, 8, 9, 6, 10, 11, 12, 13, 14, 15, 16, 17, 18, 19, 20, 21, 22, 23, 24, 25, 26, 27, 28, 29, 30, 31, 32, 33, 34, 35, 36, 37, 38, 39, 40, 41, 42, 43, 44, 45, 46, 47, 48, 49, 50, 51, 52, 53, 54, 55, 56, 57, 58, 59, 60, 61, 62, 63, 64, 65, 66, 67, 68, 69, 70, 71, 72, 73, 74, 75, 76, 77, 78, 79, 80, 81, 82, 83, 84, 85, 86, 87, 88, 89, 90, 91, 92, 93, 94, 95, 96, 97, 98, 99, 100, 101, 102, 103, 104, 105, 106, 107, 108, 109, 110, 111, 112, 113, 114, 115, 116, 117, 118, 119, 120, 121] (by decide +kernel) (by decide +kernel)) (goodIn_sub (fun _ h => List.mem_cons_of_mem _ (List.mem_append_left _ (List.mem_append_right _ h))) (by decide +kernel))) (goodIn_sub (fun _ h => List.mem_cons_of_mem _ (List.mem_append_right _ h)) (by decide +kernel))
set_option maxRecDepth 20000 in
theorem gL_pose_X5_pose : GoodIn wsL_pose (wsV RL 50 RX5 yX5_pose wsX5_pose) := goodIn_app (goodIn_of _ (by decide +kernel)) ggL_pose_X5_pose
theorem dL_pose_0 : decode cL_pose 0 = .ok (.aload_n 0, 1) := by decide +kernel
theorem dL_pose_1 : decode cL_pose 1 = .ok (.iload_n 1, 1) := by decide +kernel
theorem dL_pose_2 : decode cL_pose 2 = .ok (.iload_n 2, 1) := by decide +kernel
theorem dL_pose_3 : decode cL_pose 3 = .ok (.invokevirtual 50, 3) := by decide +kernel
theorem dL_pose_6 : decode cL_pose 6 = .ok (.istore_n 3, 1) := by decide +kernel
theorem dL_pose_7 : decode cL_pose 7 = .ok (.goto 13, 3) := by decide +kernel
theorem dL_pose_10 : decode cL_pose 10 = .ok (.astore 4, 2) := by decide +kernel
theorem dL_pose_12 : decode cL_pose 12 = .ok (.bipush (-31), 2) := by decide +kernel
theorem dL_pose_14 : decode cL_pose 14 = .ok (.ireturn, 1) := by decide +kernel
theorem dL_pose_15 : decode cL_pose 15 = .ok (.astore 4, 2) := by decide +kernel
theorem dL_pose_17 : decode cL_pose 17 = .ok (.bipush (-32), 2) := by decide +kernel
theorem dL_pose_19 : decode cL_pose 19 = .ok (.ireturn, 1) := by decide +kernel
theorem dL_pose_20 : decode cL_pose 20 = .ok (.iload_n 3, 1) := by decide +kernel
theorem dL_pose_21 : decode cL_pose 21 = .ok (.ireturn, 1) := by decide +kernel
set_option maxRecDepth 20000 in
theorem ggL_reading_X5_reading : GoodIn wsL_reading wsX5_reading := goodIn_ca (goodIn_r _ [6, 7, 8, 9, 10, 5, 11, 12, 13, 14, 15, 16, 17, 18, 19, 20, 21, 22, 23, 24, 25, 26, 27, 28, 29, 30, 31, 32, 33, 34, 35, 36, 37, 38, 39, 40] (by decide +kernel) (by decide +kernel)) (goodIn_sub (fun _ h => List.mem_cons_of_mem _ (List.mem_append_right _ h)) (by decide +kernel))
set_option maxRecDepth 20000 in
theorem gL_reading_X5_reading : GoodIn wsL_reading (wsV RL 53 RX5 yX5_reading wsX5_reading) := goodIn_app (goodIn_of _ (by decide +kernel)) ggL_reading_X5_reading
theorem dL_reading_0 : decode cL_reading 0 = .ok (.aload_n 0, 1) := by decide +kernel
theorem dL_reading_1 : decode cL_reading 1 = .ok (.iload_n 1, 1) := by decide +kernel
theorem dL_reading_2 : decode cL_reading 2 = .ok (.iload_n 2, 1) := by decide +kernel
theorem dL_reading_3 : decode cL_reading 3 = .ok (.invokevirtual 53, 3) := by decide +kernel
theorem dL_reading_6 : decode cL_reading 6 = .ok (.istore_n 3, 1) := by decide +kernel
theorem dL_reading_7 : decode cL_reading 7 = .ok (.goto 8, 3) := by decide +kernel
theorem dL_reading_10 : decode cL_reading 10 = .ok (.astore 4, 2) := by decide +kernel
theorem dL_reading_12 : decode cL_reading 12 = .ok (.bipush (-32), 2) := by decide +kernel
theorem dL_reading_14 : decode cL_reading 14 = .ok (.ireturn, 1) := by decide +kernel
theorem dL_reading_15 : decode cL_reading 15 = .ok (.iload_n 3, 1) := by decide +kernel
theorem dL_reading_16 : decode cL_reading 16 = .ok (.ireturn, 1) := by decide +kernel
theorem dL_swing_0 : decode cL_swing 0 = .ok (.sipush 176, 3) := by decide +kernel
theorem dL_swing_3 : decode cL_swing 3 = .ok (.iconst 3, 1) := by decide +kernel
theorem dL_swing_4 : decode cL_swing 4 = .ok (.aload_n 0, 1) := by decide +kernel
theorem dL_swing_5 : decode cL_swing 5 = .ok (.iconst 1, 1) := by decide +kernel
theorem dL_swing_6 : decode cL_swing 6 = .ok (.iaload, 1) := by decide +kernel
theorem dL_swing_7 : decode cL_swing 7 = .ok (.imul, 1) := by decide +kernel
theorem dL_swing_8 : decode cL_swing 8 = .ok (.iadd, 1) := by decide +kernel
theorem dL_swing_9 : decode cL_swing 9 = .ok (.aload_n 0, 1) := by decide +kernel
theorem dL_swing_10 : decode cL_swing 10 = .ok (.iconst 5, 1) := by decide +kernel
theorem dL_swing_11 : decode cL_swing 11 = .ok (.iaload, 1) := by decide +kernel
theorem dL_swing_12 : decode cL_swing 12 = .ok (.isub, 1) := by decide +kernel
theorem dL_swing_13 : decode cL_swing 13 = .ok (.iload_n 1, 1) := by decide +kernel
theorem dL_swing_14 : decode cL_swing 14 = .ok (.iconst 2, 1) := by decide +kernel
theorem dL_swing_15 : decode cL_swing 15 = .ok (.if_icmp .ge 7, 3) := by decide +kernel
theorem dL_swing_18 : decode cL_swing 18 = .ok (.iconst 0, 1) := by decide +kernel
theorem dL_swing_19 : decode cL_swing 19 = .ok (.goto 5, 3) := by decide +kernel
theorem dL_swing_22 : decode cL_swing 22 = .ok (.bipush 20, 2) := by decide +kernel
theorem dL_swing_24 : decode cL_swing 24 = .ok (.isub, 1) := by decide +kernel
theorem dL_swing_25 : decode cL_swing 25 = .ok (.istore_n 2, 1) := by decide +kernel
theorem dL_swing_26 : decode cL_swing 26 = .ok (.iload_n 2, 1) := by decide +kernel
theorem dL_swing_27 : decode cL_swing 27 = .ok (.ifCond .ge 7, 3) := by decide +kernel
theorem dL_swing_30 : decode cL_swing 30 = .ok (.iconst 0, 1) := by decide +kernel
theorem dL_swing_31 : decode cL_swing 31 = .ok (.goto 4, 3) := by decide +kernel
theorem dL_swing_34 : decode cL_swing 34 = .ok (.iload_n 2, 1) := by decide +kernel
theorem dL_swing_35 : decode cL_swing 35 = .ok (.ireturn, 1) := by decide +kernel
set_option maxRecDepth 20000 in
theorem ggL_goes_L_swing : GoodIn wsL_goes wsL_swing := goodIn_r _ [4] (by decide +kernel) (by decide +kernel)
set_option maxRecDepth 20000 in
theorem gL_goes_L_swing : GoodIn wsL_goes (va_wsS RL 56 yL_swing wsL_swing) := goodIn_app (goodIn_of _ (by decide +kernel)) ggL_goes_L_swing
theorem dL_goes_0 : decode cL_goes 0 = .ok (.aload_n 0, 1) := by decide +kernel
theorem dL_goes_1 : decode cL_goes 1 = .ok (.iconst 1, 1) := by decide +kernel
theorem dL_goes_2 : decode cL_goes 2 = .ok (.iaload, 1) := by decide +kernel
theorem dL_goes_3 : decode cL_goes 3 = .ok (.ifCond .le 17, 3) := by decide +kernel
theorem dL_goes_6 : decode cL_goes 6 = .ok (.aload_n 0, 1) := by decide +kernel
theorem dL_goes_7 : decode cL_goes 7 = .ok (.iload_n 1, 1) := by decide +kernel
theorem dL_goes_8 : decode cL_goes 8 = .ok (.invokestatic 56, 3) := by decide +kernel
theorem dL_goes_11 : decode cL_goes 11 = .ok (.bipush 119, 2) := by decide +kernel
theorem dL_goes_13 : decode cL_goes 13 = .ok (.if_icmp .le 7, 3) := by decide +kernel
theorem dL_goes_16 : decode cL_goes 16 = .ok (.iconst 1, 1) := by decide +kernel
theorem dL_goes_17 : decode cL_goes 17 = .ok (.goto 4, 3) := by decide +kernel
theorem dL_goes_20 : decode cL_goes 20 = .ok (.iconst 0, 1) := by decide +kernel
theorem dL_goes_21 : decode cL_goes 21 = .ok (.ireturn, 1) := by decide +kernel
theorem dL_down_0 : decode cL_down 0 = .ok (.ldc 62, 2) := by decide +kernel
theorem dL_down_2 : decode cL_down 2 = .ok (.iload_n 1, 1) := by decide +kernel
theorem dL_down_3 : decode cL_down 3 = .ok (.idiv, 1) := by decide +kernel
theorem dL_down_4 : decode cL_down 4 = .ok (.iconst 1, 1) := by decide +kernel
theorem dL_down_5 : decode cL_down 5 = .ok (.iadd, 1) := by decide +kernel
theorem dL_down_6 : decode cL_down 6 = .ok (.istore_n 2, 1) := by decide +kernel
theorem dL_down_7 : decode cL_down 7 = .ok (.iload_n 0, 1) := by decide +kernel
theorem dL_down_8 : decode cL_down 8 = .ok (.iload_n 2, 1) := by decide +kernel
theorem dL_down_9 : decode cL_down 9 = .ok (.iload_n 1, 1) := by decide +kernel
theorem dL_down_10 : decode cL_down 10 = .ok (.imul, 1) := by decide +kernel
theorem dL_down_11 : decode cL_down 11 = .ok (.iadd, 1) := by decide +kernel
theorem dL_down_12 : decode cL_down 12 = .ok (.iload_n 1, 1) := by decide +kernel
theorem dL_down_13 : decode cL_down 13 = .ok (.idiv, 1) := by decide +kernel
theorem dL_down_14 : decode cL_down 14 = .ok (.iload_n 2, 1) := by decide +kernel
theorem dL_down_15 : decode cL_down 15 = .ok (.isub, 1) := by decide +kernel
theorem dL_down_16 : decode cL_down 16 = .ok (.ireturn, 1) := by decide +kernel
set_option maxRecDepth 20000 in
theorem ggL_rate_L_swing : GoodIn wsL_rate wsL_swing := goodIn_r _ [4] (by decide +kernel) (by decide +kernel)
set_option maxRecDepth 20000 in
theorem gL_rate_L_swing : GoodIn wsL_rate (va_wsS RL 56 yL_swing wsL_swing) := goodIn_app (goodIn_of _ (by decide +kernel)) ggL_rate_L_swing
set_option maxRecDepth 20000 in
theorem ggL_rate_L_down : GoodIn wsL_rate wsL_down := goodIn_r _ [7, 8] (by decide +kernel) (by decide +kernel)
set_option maxRecDepth 20000 in
theorem gL_rate_L_down : GoodIn wsL_rate (va_wsS RL 63 yL_down wsL_down) := goodIn_app (goodIn_of _ (by decide +kernel)) ggL_rate_L_down
theorem dL_rate_0 : decode cL_rate 0 = .ok (.aload_n 0, 1) := by decide +kernel
theorem dL_rate_1 : decode cL_rate 1 = .ok (.iconst 2, 1) := by decide +kernel
theorem dL_rate_2 : decode cL_rate 2 = .ok (.iaload, 1) := by decide +kernel
theorem dL_rate_3 : decode cL_rate 3 = .ok (.iconst 2, 1) := by decide +kernel
theorem dL_rate_4 : decode cL_rate 4 = .ok (.aload_n 0, 1) := by decide +kernel
theorem dL_rate_5 : decode cL_rate 5 = .ok (.iconst 4, 1) := by decide +kernel
theorem dL_rate_6 : decode cL_rate 6 = .ok (.iaload, 1) := by decide +kernel
theorem dL_rate_7 : decode cL_rate 7 = .ok (.imul, 1) := by decide +kernel
theorem dL_rate_8 : decode cL_rate 8 = .ok (.iadd, 1) := by decide +kernel
theorem dL_rate_9 : decode cL_rate 9 = .ok (.aload_n 0, 1) := by decide +kernel
theorem dL_rate_10 : decode cL_rate 10 = .ok (.bipush 16, 2) := by decide +kernel
theorem dL_rate_12 : decode cL_rate 12 = .ok (.iload_n 1, 1) := by decide +kernel
theorem dL_rate_13 : decode cL_rate 13 = .ok (.iadd, 1) := by decide +kernel
theorem dL_rate_14 : decode cL_rate 14 = .ok (.iaload, 1) := by decide +kernel
theorem dL_rate_15 : decode cL_rate 15 = .ok (.sipush 360, 3) := by decide +kernel
theorem dL_rate_18 : decode cL_rate 18 = .ok (.aload_n 0, 1) := by decide +kernel
theorem dL_rate_19 : decode cL_rate 19 = .ok (.iload_n 1, 1) := by decide +kernel
theorem dL_rate_20 : decode cL_rate 20 = .ok (.invokestatic 56, 3) := by decide +kernel
theorem dL_rate_23 : decode cL_rate 23 = .ok (.isub, 1) := by decide +kernel
theorem dL_rate_24 : decode cL_rate 24 = .ok (.imul, 1) := by decide +kernel
theorem dL_rate_25 : decode cL_rate 25 = .ok (.bipush 100, 2) := by decide +kernel
theorem dL_rate_27 : decode cL_rate 27 = .ok (.invokestatic 63, 3) := by decide +kernel
theorem dL_rate_30 : decode cL_rate 30 = .ok (.iadd, 1) := by decide +kernel
theorem dL_rate_31 : decode cL_rate 31 = .ok (.istore_n 2, 1) := by decide +kernel
theorem dL_rate_32 : decode cL_rate 32 = .ok (.aload_n 0, 1) := by decide +kernel
theorem dL_rate_33 : decode cL_rate 33 = .ok (.iconst 4, 1) := by decide +kernel
theorem dL_rate_34 : decode cL_rate 34 = .ok (.iaload, 1) := by decide +kernel
theorem dL_rate_35 : decode cL_rate 35 = .ok (.bipush 50, 2) := by decide +kernel
theorem dL_rate_37 : decode cL_rate 37 = .ok (.if_icmp .le 9, 3) := by decide +kernel
theorem dL_rate_40 : decode cL_rate 40 = .ok (.iload_n 2, 1) := by decide +kernel
theorem dL_rate_41 : decode cL_rate 41 = .ok (.sipush 300, 3) := by decide +kernel
theorem dL_rate_44 : decode cL_rate 44 = .ok (.iadd, 1) := by decide +kernel
theorem dL_rate_45 : decode cL_rate 45 = .ok (.ireturn, 1) := by decide +kernel
theorem dL_rate_46 : decode cL_rate 46 = .ok (.aload_n 0, 1) := by decide +kernel
theorem dL_rate_47 : decode cL_rate 47 = .ok (.iload_n 1, 1) := by decide +kernel
theorem dL_rate_48 : decode cL_rate 48 = .ok (.invokestatic 56, 3) := by decide +kernel
theorem dL_rate_51 : decode cL_rate 51 = .ok (.sipush 300, 3) := by decide +kernel
theorem dL_rate_54 : decode cL_rate 54 = .ok (.if_icmp .le 11, 3) := by decide +kernel
theorem dL_rate_57 : decode cL_rate 57 = .ok (.iload_n 2, 1) := by decide +kernel
theorem dL_rate_58 : decode cL_rate 58 = .ok (.sipush 600, 3) := by decide +kernel
theorem dL_rate_61 : decode cL_rate 61 = .ok (.iadd, 1) := by decide +kernel
theorem dL_rate_62 : decode cL_rate 62 = .ok (.goto 4, 3) := by decide +kernel
theorem dL_rate_65 : decode cL_rate 65 = .ok (.iload_n 2, 1) := by decide +kernel
theorem dL_rate_66 : decode cL_rate 66 = .ok (.ireturn, 1) := by decide +kernel
theorem dL_beat_0 : decode cL_beat 0 = .ok (.aload_n 0, 1) := by decide +kernel
theorem dL_beat_1 : decode cL_beat 1 = .ok (.iconst 3, 1) := by decide +kernel
theorem dL_beat_2 : decode cL_beat 2 = .ok (.iaload, 1) := by decide +kernel
theorem dL_beat_3 : decode cL_beat 3 = .ok (.ifCond .ge 10, 3) := by decide +kernel
theorem dL_beat_6 : decode cL_beat 6 = .ok (.aload_n 0, 1) := by decide +kernel
theorem dL_beat_7 : decode cL_beat 7 = .ok (.iconst 3, 1) := by decide +kernel
theorem dL_beat_8 : decode cL_beat 8 = .ok (.iaload, 1) := by decide +kernel
theorem dL_beat_9 : decode cL_beat 9 = .ok (.ineg, 1) := by decide +kernel
theorem dL_beat_10 : decode cL_beat 10 = .ok (.goto 6, 3) := by decide +kernel
theorem dL_beat_13 : decode cL_beat 13 = .ok (.aload_n 0, 1) := by decide +kernel
theorem dL_beat_14 : decode cL_beat 14 = .ok (.iconst 3, 1) := by decide +kernel
theorem dL_beat_15 : decode cL_beat 15 = .ok (.iaload, 1) := by decide +kernel
theorem dL_beat_16 : decode cL_beat 16 = .ok (.aload_n 0, 1) := by decide +kernel
theorem dL_beat_17 : decode cL_beat 17 = .ok (.iconst 5, 1) := by decide +kernel
theorem dL_beat_18 : decode cL_beat 18 = .ok (.iaload, 1) := by decide +kernel
theorem dL_beat_19 : decode cL_beat 19 = .ok (.bipush 10, 2) := by decide +kernel
theorem dL_beat_21 : decode cL_beat 21 = .ok (.idiv, 1) := by decide +kernel
theorem dL_beat_22 : decode cL_beat 22 = .ok (.iadd, 1) := by decide +kernel
theorem dL_beat_23 : decode cL_beat 23 = .ok (.iload_n 1, 1) := by decide +kernel
theorem dL_beat_24 : decode cL_beat 24 = .ok (.iconst 2, 1) := by decide +kernel
theorem dL_beat_25 : decode cL_beat 25 = .ok (.if_icmp .ge 7, 3) := by decide +kernel
theorem dL_beat_28 : decode cL_beat 28 = .ok (.iconst 0, 1) := by decide +kernel
theorem dL_beat_29 : decode cL_beat 29 = .ok (.goto 4, 3) := by decide +kernel
theorem dL_beat_32 : decode cL_beat 32 = .ok (.iconst 2, 1) := by decide +kernel
theorem dL_beat_33 : decode cL_beat 33 = .ok (.iadd, 1) := by decide +kernel
theorem dL_beat_34 : decode cL_beat 34 = .ok (.ireturn, 1) := by decide +kernel
set_option maxRecDepth 20000 in
theorem ggL_why_L_swing : GoodIn wsL_why wsL_swing := goodIn_r _ [4] (by decide +kernel) (by decide +kernel)
set_option maxRecDepth 20000 in
theorem gL_why_L_swing : GoodIn wsL_why (va_wsS RL 56 yL_swing wsL_swing) := goodIn_app (goodIn_of _ (by decide +kernel)) ggL_why_L_swing
set_option maxRecDepth 20000 in
theorem ggL_why_L_beat : GoodIn wsL_why wsL_beat := goodIn_r _ [7] (by decide +kernel) (by decide +kernel)
set_option maxRecDepth 20000 in
theorem gL_why_L_beat : GoodIn wsL_why (va_wsS RL 66 yL_beat wsL_beat) := goodIn_app (goodIn_of _ (by decide +kernel)) ggL_why_L_beat
theorem dL_why_0 : decode cL_why 0 = .ok (.aload_n 0, 1) := by decide +kernel
theorem dL_why_1 : decode cL_why 1 = .ok (.iconst 1, 1) := by decide +kernel
theorem dL_why_2 : decode cL_why 2 = .ok (.iaload, 1) := by decide +kernel
theorem dL_why_3 : decode cL_why 3 = .ok (.ifCond .ne 5, 3) := by decide +kernel
theorem dL_why_6 : decode cL_why 6 = .ok (.iconst 1, 1) := by decide +kernel
theorem dL_why_7 : decode cL_why 7 = .ok (.ireturn, 1) := by decide +kernel
theorem dL_why_8 : decode cL_why 8 = .ok (.aload_n 0, 1) := by decide +kernel
theorem dL_why_9 : decode cL_why 9 = .ok (.iload_n 1, 1) := by decide +kernel
theorem dL_why_10 : decode cL_why 10 = .ok (.invokestatic 56, 3) := by decide +kernel
theorem dL_why_13 : decode cL_why 13 = .ok (.bipush 120, 2) := by decide +kernel
theorem dL_why_15 : decode cL_why 15 = .ok (.if_icmp .ge 5, 3) := by decide +kernel
theorem dL_why_18 : decode cL_why 18 = .ok (.iconst 2, 1) := by decide +kernel
theorem dL_why_19 : decode cL_why 19 = .ok (.ireturn, 1) := by decide +kernel
theorem dL_why_20 : decode cL_why 20 = .ok (.aload_n 0, 1) := by decide +kernel
theorem dL_why_21 : decode cL_why 21 = .ok (.iload_n 1, 1) := by decide +kernel
theorem dL_why_22 : decode cL_why 22 = .ok (.invokestatic 66, 3) := by decide +kernel
theorem dL_why_25 : decode cL_why 25 = .ok (.aload_n 0, 1) := by decide +kernel
theorem dL_why_26 : decode cL_why 26 = .ok (.bipush 12, 2) := by decide +kernel
theorem dL_why_28 : decode cL_why 28 = .ok (.iaload, 1) := by decide +kernel
theorem dL_why_29 : decode cL_why 29 = .ok (.if_icmp .le 5, 3) := by decide +kernel
theorem dL_why_32 : decode cL_why 32 = .ok (.iconst 3, 1) := by decide +kernel
theorem dL_why_33 : decode cL_why 33 = .ok (.ireturn, 1) := by decide +kernel
theorem dL_why_34 : decode cL_why 34 = .ok (.aload_n 0, 1) := by decide +kernel
theorem dL_why_35 : decode cL_why 35 = .ok (.iconst 4, 1) := by decide +kernel
theorem dL_why_36 : decode cL_why 36 = .ok (.iaload, 1) := by decide +kernel
theorem dL_why_37 : decode cL_why 37 = .ok (.aload_n 0, 1) := by decide +kernel
theorem dL_why_38 : decode cL_why 38 = .ok (.bipush 13, 2) := by decide +kernel
theorem dL_why_40 : decode cL_why 40 = .ok (.iaload, 1) := by decide +kernel
theorem dL_why_41 : decode cL_why 41 = .ok (.if_icmp .le 7, 3) := by decide +kernel
theorem dL_why_44 : decode cL_why 44 = .ok (.iconst 4, 1) := by decide +kernel
theorem dL_why_45 : decode cL_why 45 = .ok (.goto 17, 3) := by decide +kernel
theorem dL_why_48 : decode cL_why 48 = .ok (.aload_n 0, 1) := by decide +kernel
theorem dL_why_49 : decode cL_why 49 = .ok (.bipush 10, 2) := by decide +kernel
theorem dL_why_51 : decode cL_why 51 = .ok (.iaload, 1) := by decide +kernel
theorem dL_why_52 : decode cL_why 52 = .ok (.bipush 40, 2) := by decide +kernel
theorem dL_why_54 : decode cL_why 54 = .ok (.if_icmp .ne 7, 3) := by decide +kernel
theorem dL_why_57 : decode cL_why 57 = .ok (.iconst 5, 1) := by decide +kernel
theorem dL_why_58 : decode cL_why 58 = .ok (.goto 4, 3) := by decide +kernel
theorem dL_why_61 : decode cL_why 61 = .ok (.iconst 0, 1) := by decide +kernel
theorem dL_why_62 : decode cL_why 62 = .ok (.ireturn, 1) := by decide +kernel
set_option maxRecDepth 20000 in
theorem ggL_hour_L_goes : GoodIn wsL_hour wsL_goes := goodIn_r _ [4, 5, 6, 3, 7] (by decide +kernel) (by decide +kernel)
set_option maxRecDepth 20000 in
theorem gL_hour_L_goes : GoodIn wsL_hour (va_wsS RL 69 yL_goes wsL_goes) := goodIn_app (goodIn_of _ (by decide +kernel)) ggL_hour_L_goes
set_option maxRecDepth 20000 in
theorem ggL_hour_L_rate : GoodIn wsL_hour wsL_rate := goodIn_r _ [10, 5, 6, 3, 7, 11, 12, 13, 14] (by decide +kernel) (by decide +kernel)
set_option maxRecDepth 20000 in
theorem gL_hour_L_rate : GoodIn wsL_hour (va_wsS RL 73 yL_rate wsL_rate) := goodIn_app (goodIn_of _ (by decide +kernel)) ggL_hour_L_rate
set_option maxRecDepth 20000 in
theorem ggL_hour_L_down : GoodIn wsL_hour wsL_down := goodIn_r _ [13, 14] (by decide +kernel) (by decide +kernel)
set_option maxRecDepth 20000 in
theorem gL_hour_L_down : GoodIn wsL_hour (va_wsS RL 63 yL_down wsL_down) := goodIn_app (goodIn_of _ (by decide +kernel)) ggL_hour_L_down
theorem dL_hour_0 : decode cL_hour 0 = .ok (.aload_n 0, 1) := by decide +kernel
theorem dL_hour_1 : decode cL_hour 1 = .ok (.iconst 0, 1) := by decide +kernel
theorem dL_hour_2 : decode cL_hour 2 = .ok (.dup2, 1) := by decide +kernel
theorem dL_hour_3 : decode cL_hour 3 = .ok (.iaload, 1) := by decide +kernel
theorem dL_hour_4 : decode cL_hour 4 = .ok (.iconst 1, 1) := by decide +kernel
theorem dL_hour_5 : decode cL_hour 5 = .ok (.iadd, 1) := by decide +kernel
theorem dL_hour_6 : decode cL_hour 6 = .ok (.iastore, 1) := by decide +kernel
theorem dL_hour_7 : decode cL_hour 7 = .ok (.aload_n 0, 1) := by decide +kernel
theorem dL_hour_8 : decode cL_hour 8 = .ok (.aload_n 0, 1) := by decide +kernel
theorem dL_hour_9 : decode cL_hour 9 = .ok (.bipush 6, 2) := by decide +kernel
theorem dL_hour_11 : decode cL_hour 11 = .ok (.iaload, 1) := by decide +kernel
theorem dL_hour_12 : decode cL_hour 12 = .ok (.invokestatic 69, 3) := by decide +kernel
theorem dL_hour_15 : decode cL_hour 15 = .ok (.ifCond .ne 12, 3) := by decide +kernel
theorem dL_hour_18 : decode cL_hour 18 = .ok (.aload_n 0, 1) := by decide +kernel
theorem dL_hour_19 : decode cL_hour 19 = .ok (.bipush 8, 2) := by decide +kernel
theorem dL_hour_21 : decode cL_hour 21 = .ok (.dup2, 1) := by decide +kernel
theorem dL_hour_22 : decode cL_hour 22 = .ok (.iaload, 1) := by decide +kernel
theorem dL_hour_23 : decode cL_hour 23 = .ok (.iconst 1, 1) := by decide +kernel
theorem dL_hour_24 : decode cL_hour 24 = .ok (.iadd, 1) := by decide +kernel
theorem dL_hour_25 : decode cL_hour 25 = .ok (.iastore, 1) := by decide +kernel
theorem dL_hour_26 : decode cL_hour 26 = .ok (.return_, 1) := by decide +kernel
theorem dL_hour_27 : decode cL_hour 27 = .ok (.aload_n 0, 1) := by decide +kernel
theorem dL_hour_28 : decode cL_hour 28 = .ok (.bipush 7, 2) := by decide +kernel
theorem dL_hour_30 : decode cL_hour 30 = .ok (.dup2, 1) := by decide +kernel
theorem dL_hour_31 : decode cL_hour 31 = .ok (.iaload, 1) := by decide +kernel
theorem dL_hour_32 : decode cL_hour 32 = .ok (.aload_n 0, 1) := by decide +kernel
theorem dL_hour_33 : decode cL_hour 33 = .ok (.aload_n 0, 1) := by decide +kernel
theorem dL_hour_34 : decode cL_hour 34 = .ok (.bipush 6, 2) := by decide +kernel
theorem dL_hour_36 : decode cL_hour 36 = .ok (.iaload, 1) := by decide +kernel
theorem dL_hour_37 : decode cL_hour 37 = .ok (.invokestatic 73, 3) := by decide +kernel
theorem dL_hour_40 : decode cL_hour 40 = .ok (.bipush 24, 2) := by decide +kernel
theorem dL_hour_42 : decode cL_hour 42 = .ok (.invokestatic 63, 3) := by decide +kernel
theorem dL_hour_45 : decode cL_hour 45 = .ok (.iadd, 1) := by decide +kernel
theorem dL_hour_46 : decode cL_hour 46 = .ok (.iastore, 1) := by decide +kernel
theorem dL_hour_47 : decode cL_hour 47 = .ok (.aload_n 0, 1) := by decide +kernel
theorem dL_hour_48 : decode cL_hour 48 = .ok (.iconst 1, 1) := by decide +kernel
theorem dL_hour_49 : decode cL_hour 49 = .ok (.dup2, 1) := by decide +kernel
theorem dL_hour_50 : decode cL_hour 50 = .ok (.iaload, 1) := by decide +kernel
theorem dL_hour_51 : decode cL_hour 51 = .ok (.iconst 1, 1) := by decide +kernel
theorem dL_hour_52 : decode cL_hour 52 = .ok (.isub, 1) := by decide +kernel
theorem dL_hour_53 : decode cL_hour 53 = .ok (.iastore, 1) := by decide +kernel
theorem dL_hour_54 : decode cL_hour 54 = .ok (.aload_n 0, 1) := by decide +kernel
theorem dL_hour_55 : decode cL_hour 55 = .ok (.bipush 9, 2) := by decide +kernel
