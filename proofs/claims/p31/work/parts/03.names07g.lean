set_option maxRecDepth 20000 in
theorem gL_law_L_act : GoodIn wsL_law (va_wsS RL 170 yL_act wsL_act) := goodIn_app (goodIn_of _ (by decide +kernel)) ggL_law_L_act
theorem dL_law_0 : decode cL_law 0 = .ok (.new 10, 3) := by decide +kernel
theorem dL_law_3 : decode cL_law 3 = .ok (.dup, 1) := by decide +kernel
theorem dL_law_4 : decode cL_law 4 = .ok (.invokespecial 149, 3) := by decide +kernel
theorem dL_law_7 : decode cL_law 7 = .ok (.astore_n 1, 1) := by decide +kernel
theorem dL_law_8 : decode cL_law 8 = .ok (.bipush 22, 2) := by decide +kernel
theorem dL_law_10 : decode cL_law 10 = .ok (.newarray .int, 2) := by decide +kernel
theorem dL_law_12 : decode cL_law 12 = .ok (.astore_n 2, 1) := by decide +kernel
theorem dL_law_13 : decode cL_law 13 = .ok (.bipush 40, 2) := by decide +kernel
theorem dL_law_15 : decode cL_law 15 = .ok (.newarray .int, 2) := by decide +kernel
theorem dL_law_17 : decode cL_law 17 = .ok (.astore_n 3, 1) := by decide +kernel
theorem dL_law_18 : decode cL_law 18 = .ok (.bipush 40, 2) := by decide +kernel
theorem dL_law_20 : decode cL_law 20 = .ok (.newarray .int, 2) := by decide +kernel
theorem dL_law_22 : decode cL_law 22 = .ok (.astore 4, 2) := by decide +kernel
theorem dL_law_24 : decode cL_law 24 = .ok (.bipush 40, 2) := by decide +kernel
theorem dL_law_26 : decode cL_law 26 = .ok (.newarray .int, 2) := by decide +kernel
theorem dL_law_28 : decode cL_law 28 = .ok (.astore 5, 2) := by decide +kernel
theorem dL_law_30 : decode cL_law 30 = .ok (.aload_n 2, 1) := by decide +kernel
theorem dL_law_31 : decode cL_law 31 = .ok (.iconst 3, 1) := by decide +kernel
theorem dL_law_32 : decode cL_law 32 = .ok (.bipush 10, 2) := by decide +kernel
theorem dL_law_34 : decode cL_law 34 = .ok (.iastore, 1) := by decide +kernel
theorem dL_law_35 : decode cL_law 35 = .ok (.aload_n 2, 1) := by decide +kernel
theorem dL_law_36 : decode cL_law 36 = .ok (.bipush 12, 2) := by decide +kernel
theorem dL_law_38 : decode cL_law 38 = .ok (.bipush 60, 2) := by decide +kernel
theorem dL_law_40 : decode cL_law 40 = .ok (.iastore, 1) := by decide +kernel
theorem dL_law_41 : decode cL_law 41 = .ok (.aload_n 2, 1) := by decide +kernel
theorem dL_law_42 : decode cL_law 42 = .ok (.bipush 13, 2) := by decide +kernel
theorem dL_law_44 : decode cL_law 44 = .ok (.bipush 40, 2) := by decide +kernel
theorem dL_law_46 : decode cL_law 46 = .ok (.iastore, 1) := by decide +kernel
theorem dL_law_47 : decode cL_law 47 = .ok (.aload_n 2, 1) := by decide +kernel
theorem dL_law_48 : decode cL_law 48 = .ok (.bipush 14, 2) := by decide +kernel
theorem dL_law_50 : decode cL_law 50 = .ok (.bipush 24, 2) := by decide +kernel
theorem dL_law_52 : decode cL_law 52 = .ok (.iastore, 1) := by decide +kernel
theorem dL_law_53 : decode cL_law 53 = .ok (.aload_n 2, 1) := by decide +kernel
theorem dL_law_54 : decode cL_law 54 = .ok (.bipush 15, 2) := by decide +kernel
theorem dL_law_56 : decode cL_law 56 = .ok (.bipush 60, 2) := by decide +kernel
theorem dL_law_58 : decode cL_law 58 = .ok (.iastore, 1) := by decide +kernel
theorem dL_law_59 : decode cL_law 59 = .ok (.iconst 0, 1) := by decide +kernel
theorem dL_law_60 : decode cL_law 60 = .ok (.istore 6, 2) := by decide +kernel
theorem dL_law_62 : decode cL_law 62 = .ok (.iload 6, 2) := by decide +kernel
theorem dL_law_64 : decode cL_law 64 = .ok (.bipush 6, 2) := by decide +kernel
theorem dL_law_66 : decode cL_law 66 = .ok (.if_icmp .ge 51, 3) := by decide +kernel
theorem dL_law_69 : decode cL_law 69 = .ok (.aload_n 2, 1) := by decide +kernel
theorem dL_law_70 : decode cL_law 70 = .ok (.bipush 16, 2) := by decide +kernel
theorem dL_law_72 : decode cL_law 72 = .ok (.iload 6, 2) := by decide +kernel
theorem dL_law_74 : decode cL_law 74 = .ok (.iadd, 1) := by decide +kernel
theorem dL_law_75 : decode cL_law 75 = .ok (.iload 6, 2) := by decide +kernel
theorem dL_law_77 : decode cL_law 77 = .ok (.iconst 2, 1) := by decide +kernel
theorem dL_law_78 : decode cL_law 78 = .ok (.if_icmp .ge 7, 3) := by decide +kernel
theorem dL_law_81 : decode cL_law 81 = .ok (.iconst 2, 1) := by decide +kernel
theorem dL_law_82 : decode cL_law 82 = .ok (.goto 15, 3) := by decide +kernel
theorem dL_law_85 : decode cL_law 85 = .ok (.iload 6, 2) := by decide +kernel
theorem dL_law_87 : decode cL_law 87 = .ok (.iconst 4, 1) := by decide +kernel
theorem dL_law_88 : decode cL_law 88 = .ok (.if_icmp .ge 8, 3) := by decide +kernel
theorem dL_law_91 : decode cL_law 91 = .ok (.bipush 8, 2) := by decide +kernel
theorem dL_law_93 : decode cL_law 93 = .ok (.goto 4, 3) := by decide +kernel
theorem dL_law_96 : decode cL_law 96 = .ok (.iconst 4, 1) := by decide +kernel
theorem dL_law_97 : decode cL_law 97 = .ok (.iload 6, 2) := by decide +kernel
theorem dL_law_99 : decode cL_law 99 = .ok (.iconst 2, 1) := by decide +kernel
theorem dL_law_100 : decode cL_law 100 = .ok (.irem, 1) := by decide +kernel
theorem dL_law_101 : decode cL_law 101 = .ok (.ifCond .ne 7, 3) := by decide +kernel
theorem dL_law_104 : decode cL_law 104 = .ok (.iconst 1, 1) := by decide +kernel
theorem dL_law_105 : decode cL_law 105 = .ok (.goto 4, 3) := by decide +kernel
theorem dL_law_108 : decode cL_law 108 = .ok (.iconst (-1), 1) := by decide +kernel
theorem dL_law_109 : decode cL_law 109 = .ok (.imul, 1) := by decide +kernel
theorem dL_law_110 : decode cL_law 110 = .ok (.iastore, 1) := by decide +kernel
theorem dL_law_111 : decode cL_law 111 = .ok (.iinc 6 1, 3) := by decide +kernel
theorem dL_law_114 : decode cL_law 114 = .ok (.goto (-52), 3) := by decide +kernel
theorem dL_law_117 : decode cL_law 117 = .ok (.aload_n 1, 1) := by decide +kernel
theorem dL_law_118 : decode cL_law 118 = .ok (.aload_n 2, 1) := by decide +kernel
theorem dL_law_119 : decode cL_law 119 = .ok (.aload_n 3, 1) := by decide +kernel
theorem dL_law_120 : decode cL_law 120 = .ok (.aload 4, 2) := by decide +kernel
theorem dL_law_122 : decode cL_law 122 = .ok (.aload 5, 2) := by decide +kernel
theorem dL_law_124 : decode cL_law 124 = .ok (.invokestatic 150, 3) := by decide +kernel
theorem dL_law_127 : decode cL_law 127 = .ok (.ifCond .eq 65, 3) := by decide +kernel
theorem dL_law_130 : decode cL_law 130 = .ok (.aload_n 1, 1) := by decide +kernel
theorem dL_law_131 : decode cL_law 131 = .ok (.aload_n 2, 1) := by decide +kernel
theorem dL_law_132 : decode cL_law 132 = .ok (.iconst 0, 1) := by decide +kernel
theorem dL_law_133 : decode cL_law 133 = .ok (.invokestatic 154, 3) := by decide +kernel
theorem dL_law_136 : decode cL_law 136 = .ok (.ifCond .eq 56, 3) := by decide +kernel
theorem dL_law_139 : decode cL_law 139 = .ok (.aload_n 1, 1) := by decide +kernel
theorem dL_law_140 : decode cL_law 140 = .ok (.invokestatic 158, 3) := by decide +kernel
theorem dL_law_143 : decode cL_law 143 = .ok (.bipush (-33), 2) := by decide +kernel
theorem dL_law_145 : decode cL_law 145 = .ok (.if_icmp .ne 47, 3) := by decide +kernel
theorem dL_law_148 : decode cL_law 148 = .ok (.aload_n 1, 1) := by decide +kernel
theorem dL_law_149 : decode cL_law 149 = .ok (.invokestatic 161, 3) := by decide +kernel
theorem dL_law_152 : decode cL_law 152 = .ok (.bipush (-33), 2) := by decide +kernel
theorem dL_law_154 : decode cL_law 154 = .ok (.if_icmp .ne 38, 3) := by decide +kernel
theorem dL_law_157 : decode cL_law 157 = .ok (.aload_n 1, 1) := by decide +kernel
theorem dL_law_158 : decode cL_law 158 = .ok (.bipush 6, 2) := by decide +kernel
theorem dL_law_160 : decode cL_law 160 = .ok (.iconst 0, 1) := by decide +kernel
theorem dL_law_161 : decode cL_law 161 = .ok (.invokestatic 163, 3) := by decide +kernel
theorem dL_law_164 : decode cL_law 164 = .ok (.bipush (-31), 2) := by decide +kernel
theorem dL_law_166 : decode cL_law 166 = .ok (.if_icmp .ne 26, 3) := by decide +kernel
theorem dL_law_169 : decode cL_law 169 = .ok (.aload_n 1, 1) := by decide +kernel
theorem dL_law_170 : decode cL_law 170 = .ok (.iconst 0, 1) := by decide +kernel
theorem dL_law_171 : decode cL_law 171 = .ok (.bipush 8, 2) := by decide +kernel
theorem dL_law_173 : decode cL_law 173 = .ok (.invokestatic 163, 3) := by decide +kernel
theorem dL_law_176 : decode cL_law 176 = .ok (.bipush (-32), 2) := by decide +kernel
theorem dL_law_178 : decode cL_law 178 = .ok (.if_icmp .ne 14, 3) := by decide +kernel
theorem dL_law_181 : decode cL_law 181 = .ok (.aload_n 1, 1) := by decide +kernel
theorem dL_law_182 : decode cL_law 182 = .ok (.iconst (-1), 1) := by decide +kernel
theorem dL_law_183 : decode cL_law 183 = .ok (.iconst 0, 1) := by decide +kernel
theorem dL_law_184 : decode cL_law 184 = .ok (.invokestatic 165, 3) := by decide +kernel
theorem dL_law_187 : decode cL_law 187 = .ok (.bipush (-32), 2) := by decide +kernel
theorem dL_law_189 : decode cL_law 189 = .ok (.if_icmp .eq 5, 3) := by decide +kernel
theorem dL_law_192 : decode cL_law 192 = .ok (.iconst 0, 1) := by decide +kernel
theorem dL_law_193 : decode cL_law 193 = .ok (.ireturn, 1) := by decide +kernel
theorem dL_law_194 : decode cL_law 194 = .ok (.iconst 0, 1) := by decide +kernel
theorem dL_law_195 : decode cL_law 195 = .ok (.istore 6, 2) := by decide +kernel
theorem dL_law_197 : decode cL_law 197 = .ok (.iload 6, 2) := by decide +kernel
theorem dL_law_199 : decode cL_law 199 = .ok (.bipush 56, 2) := by decide +kernel
theorem dL_law_201 : decode cL_law 201 = .ok (.if_icmp .ge 133, 3) := by decide +kernel
theorem dL_law_204 : decode cL_law 204 = .ok (.aload_n 0, 1) := by decide +kernel
theorem dL_law_205 : decode cL_law 205 = .ok (.iconst 2, 1) := by decide +kernel
theorem dL_law_206 : decode cL_law 206 = .ok (.iload 6, 2) := by decide +kernel
theorem dL_law_208 : decode cL_law 208 = .ok (.imul, 1) := by decide +kernel
theorem dL_law_209 : decode cL_law 209 = .ok (.invokestatic 167, 3) := by decide +kernel
theorem dL_law_212 : decode cL_law 212 = .ok (.istore 7, 2) := by decide +kernel
theorem dL_law_214 : decode cL_law 214 = .ok (.aload_n 0, 1) := by decide +kernel
theorem dL_law_215 : decode cL_law 215 = .ok (.iconst 2, 1) := by decide +kernel
theorem dL_law_216 : decode cL_law 216 = .ok (.iload 6, 2) := by decide +kernel
theorem dL_law_218 : decode cL_law 218 = .ok (.imul, 1) := by decide +kernel
theorem dL_law_219 : decode cL_law 219 = .ok (.iconst 1, 1) := by decide +kernel
theorem dL_law_220 : decode cL_law 220 = .ok (.iadd, 1) := by decide +kernel
theorem dL_law_221 : decode cL_law 221 = .ok (.invokestatic 167, 3) := by decide +kernel
theorem dL_law_224 : decode cL_law 224 = .ok (.istore 8, 2) := by decide +kernel
theorem dL_law_226 : decode cL_law 226 = .ok (.iload 6, 2) := by decide +kernel
theorem dL_law_228 : decode cL_law 228 = .ok (.ifCond .ne 19, 3) := by decide +kernel
theorem dL_law_231 : decode cL_law 231 = .ok (.aload_n 1, 1) := by decide +kernel
theorem dL_law_232 : decode cL_law 232 = .ok (.iconst 0, 1) := by decide +kernel
theorem dL_law_233 : decode cL_law 233 = .ok (.iload 8, 2) := by decide +kernel
theorem dL_law_235 : decode cL_law 235 = .ok (.aload_n 2, 1) := by decide +kernel
theorem dL_law_236 : decode cL_law 236 = .ok (.aload_n 3, 1) := by decide +kernel
theorem dL_law_237 : decode cL_law 237 = .ok (.aload 4, 2) := by decide +kernel
theorem dL_law_239 : decode cL_law 239 = .ok (.aload 5, 2) := by decide +kernel
theorem dL_law_241 : decode cL_law 241 = .ok (.invokestatic 170, 3) := by decide +kernel
theorem dL_law_244 : decode cL_law 244 = .ok (.goto 42, 3) := by decide +kernel
theorem dL_law_247 : decode cL_law 247 = .ok (.iload 6, 2) := by decide +kernel
theorem dL_law_249 : decode cL_law 249 = .ok (.bipush 7, 2) := by decide +kernel
theorem dL_law_251 : decode cL_law 251 = .ok (.if_icmp .ge 21, 3) := by decide +kernel
theorem dL_law_254 : decode cL_law 254 = .ok (.aload_n 1, 1) := by decide +kernel
theorem dL_law_255 : decode cL_law 255 = .ok (.iconst 3, 1) := by decide +kernel
theorem dL_law_256 : decode cL_law 256 = .ok (.iload 6, 2) := by decide +kernel
theorem dL_law_258 : decode cL_law 258 = .ok (.iconst 1, 1) := by decide +kernel
theorem dL_law_259 : decode cL_law 259 = .ok (.isub, 1) := by decide +kernel
theorem dL_law_260 : decode cL_law 260 = .ok (.aload_n 2, 1) := by decide +kernel
theorem dL_law_261 : decode cL_law 261 = .ok (.aload_n 3, 1) := by decide +kernel
theorem dL_law_262 : decode cL_law 262 = .ok (.aload 4, 2) := by decide +kernel
theorem dL_law_264 : decode cL_law 264 = .ok (.aload 5, 2) := by decide +kernel
theorem dL_law_266 : decode cL_law 266 = .ok (.invokestatic 170, 3) := by decide +kernel
theorem dL_law_269 : decode cL_law 269 = .ok (.goto 17, 3) := by decide +kernel
theorem dL_law_272 : decode cL_law 272 = .ok (.aload_n 1, 1) := by decide +kernel
theorem dL_law_273 : decode cL_law 273 = .ok (.iload 7, 2) := by decide +kernel
theorem dL_law_275 : decode cL_law 275 = .ok (.iload 8, 2) := by decide +kernel
theorem dL_law_277 : decode cL_law 277 = .ok (.aload_n 2, 1) := by decide +kernel
theorem dL_law_278 : decode cL_law 278 = .ok (.aload_n 3, 1) := by decide +kernel
theorem dL_law_279 : decode cL_law 279 = .ok (.aload 4, 2) := by decide +kernel
theorem dL_law_281 : decode cL_law 281 = .ok (.aload 5, 2) := by decide +kernel
theorem dL_law_283 : decode cL_law 283 = .ok (.invokestatic 170, 3) := by decide +kernel
theorem dL_law_286 : decode cL_law 286 = .ok (.istore 9, 2) := by decide +kernel
theorem dL_law_288 : decode cL_law 288 = .ok (.iload 9, 2) := by decide +kernel
theorem dL_law_290 : decode cL_law 290 = .ok (.ifCond .eq 36, 3) := by decide +kernel
theorem dL_law_293 : decode cL_law 293 = .ok (.aload_n 1, 1) := by decide +kernel
theorem dL_law_294 : decode cL_law 294 = .ok (.aload_n 2, 1) := by decide +kernel
theorem dL_law_295 : decode cL_law 295 = .ok (.aload_n 3, 1) := by decide +kernel
theorem dL_law_296 : decode cL_law 296 = .ok (.aload 4, 2) := by decide +kernel
theorem dL_law_298 : decode cL_law 298 = .ok (.aload 5, 2) := by decide +kernel
theorem dL_law_300 : decode cL_law 300 = .ok (.invokestatic 150, 3) := by decide +kernel
theorem dL_law_303 : decode cL_law 303 = .ok (.ifCond .eq 23, 3) := by decide +kernel
theorem dL_law_306 : decode cL_law 306 = .ok (.iload 6, 2) := by decide +kernel
theorem dL_law_308 : decode cL_law 308 = .ok (.iconst 4, 1) := by decide +kernel
theorem dL_law_309 : decode cL_law 309 = .ok (.irem, 1) := by decide +kernel
theorem dL_law_310 : decode cL_law 310 = .ok (.iconst 3, 1) := by decide +kernel
theorem dL_law_311 : decode cL_law 311 = .ok (.if_icmp .ne 17, 3) := by decide +kernel
theorem dL_law_314 : decode cL_law 314 = .ok (.aload_n 1, 1) := by decide +kernel
theorem dL_law_315 : decode cL_law 315 = .ok (.aload_n 2, 1) := by decide +kernel
theorem dL_law_316 : decode cL_law 316 = .ok (.iload 7, 2) := by decide +kernel
theorem dL_law_318 : decode cL_law 318 = .ok (.iconst 5, 1) := by decide +kernel
theorem dL_law_319 : decode cL_law 319 = .ok (.ishr, 1) := by decide +kernel
theorem dL_law_320 : decode cL_law 320 = .ok (.invokestatic 154, 3) := by decide +kernel
theorem dL_law_323 : decode cL_law 323 = .ok (.ifCond .ne 5, 3) := by decide +kernel
theorem dL_law_326 : decode cL_law 326 = .ok (.iconst 0, 1) := by decide +kernel
theorem dL_law_327 : decode cL_law 327 = .ok (.ireturn, 1) := by decide +kernel
theorem dL_law_328 : decode cL_law 328 = .ok (.iinc 6 1, 3) := by decide +kernel
theorem dL_law_331 : decode cL_law 331 = .ok (.goto (-134), 3) := by decide +kernel
theorem dL_law_334 : decode cL_law 334 = .ok (.iconst 1, 1) := by decide +kernel
theorem dL_law_335 : decode cL_law 335 = .ok (.ireturn, 1) := by decide +kernel
abbrev vwCl : List vw_C := [(RX0, TX0, 9), (RX1, TX1, 2), (RX2, TX2, 3), (RX3, TX3, 7), (RX4, TX4, 11), (RX5, TX5, 6)]
