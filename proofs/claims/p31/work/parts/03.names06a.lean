set_option maxRecDepth 20000 in
theorem ggL_isSo_X5_going : GoodIn wsL_isSo wsX5_going := goodIn_r _ [224, 16, 34, 35, 46, 225, 226, 227, 228, 229, 230, 231, 232, 233, 234, 235, 236, 237, 240, 241, 242, 243, 244, 245, 246, 247, 248, 249, 250] (by decide +kernel) (by decide +kernel)
set_option maxRecDepth 20000 in
theorem gL_isSo_X5_going : GoodIn wsL_isSo (wsV RL 118 RX5 yX5_going wsX5_going) := goodIn_app (goodIn_of _ (by decide +kernel)) ggL_isSo_X5_going
theorem dL_isSo_0 : decode cL_isSo 0 = .ok (.iconst 0, 1) := by decide +kernel
theorem dL_isSo_1 : decode cL_isSo 1 = .ok (.istore 5, 2) := by decide +kernel
theorem dL_isSo_3 : decode cL_isSo 3 = .ok (.iload 5, 2) := by decide +kernel
theorem dL_isSo_5 : decode cL_isSo 5 = .ok (.aload_n 1, 1) := by decide +kernel
theorem dL_isSo_6 : decode cL_isSo 6 = .ok (.bipush 10, 2) := by decide +kernel
theorem dL_isSo_8 : decode cL_isSo 8 = .ok (.iaload, 1) := by decide +kernel
theorem dL_isSo_9 : decode cL_isSo 9 = .ok (.if_icmp .ge 101, 3) := by decide +kernel
theorem dL_isSo_12 : decode cL_isSo 12 = .ok (.aload_n 0, 1) := by decide +kernel
theorem dL_isSo_13 : decode cL_isSo 13 = .ok (.iload 5, 2) := by decide +kernel
theorem dL_isSo_15 : decode cL_isSo 15 = .ok (.iconst 0, 1) := by decide +kernel
theorem dL_isSo_16 : decode cL_isSo 16 = .ok (.invokevirtual 53, 3) := by decide +kernel
theorem dL_isSo_19 : decode cL_isSo 19 = .ok (.aload_n 2, 1) := by decide +kernel
theorem dL_isSo_20 : decode cL_isSo 20 = .ok (.iload 5, 2) := by decide +kernel
theorem dL_isSo_22 : decode cL_isSo 22 = .ok (.iaload, 1) := by decide +kernel
theorem dL_isSo_23 : decode cL_isSo 23 = .ok (.bipush 100, 2) := by decide +kernel
theorem dL_isSo_25 : decode cL_isSo 25 = .ok (.idiv, 1) := by decide +kernel
theorem dL_isSo_26 : decode cL_isSo 26 = .ok (.if_icmp .ne 76, 3) := by decide +kernel
theorem dL_isSo_29 : decode cL_isSo 29 = .ok (.aload_n 0, 1) := by decide +kernel
theorem dL_isSo_30 : decode cL_isSo 30 = .ok (.iload 5, 2) := by decide +kernel
theorem dL_isSo_32 : decode cL_isSo 32 = .ok (.iconst 1, 1) := by decide +kernel
theorem dL_isSo_33 : decode cL_isSo 33 = .ok (.invokevirtual 53, 3) := by decide +kernel
theorem dL_isSo_36 : decode cL_isSo 36 = .ok (.aload_n 2, 1) := by decide +kernel
theorem dL_isSo_37 : decode cL_isSo 37 = .ok (.iload 5, 2) := by decide +kernel
theorem dL_isSo_39 : decode cL_isSo 39 = .ok (.iaload, 1) := by decide +kernel
theorem dL_isSo_40 : decode cL_isSo 40 = .ok (.bipush 100, 2) := by decide +kernel
theorem dL_isSo_42 : decode cL_isSo 42 = .ok (.irem, 1) := by decide +kernel
theorem dL_isSo_43 : decode cL_isSo 43 = .ok (.if_icmp .ne 59, 3) := by decide +kernel
theorem dL_isSo_46 : decode cL_isSo 46 = .ok (.aload_n 0, 1) := by decide +kernel
theorem dL_isSo_47 : decode cL_isSo 47 = .ok (.iload 5, 2) := by decide +kernel
theorem dL_isSo_49 : decode cL_isSo 49 = .ok (.iconst 2, 1) := by decide +kernel
theorem dL_isSo_50 : decode cL_isSo 50 = .ok (.invokevirtual 53, 3) := by decide +kernel
theorem dL_isSo_53 : decode cL_isSo 53 = .ok (.aload_n 3, 1) := by decide +kernel
theorem dL_isSo_54 : decode cL_isSo 54 = .ok (.iload 5, 2) := by decide +kernel
theorem dL_isSo_56 : decode cL_isSo 56 = .ok (.iaload, 1) := by decide +kernel
theorem dL_isSo_57 : decode cL_isSo 57 = .ok (.sipush 10000, 3) := by decide +kernel
theorem dL_isSo_60 : decode cL_isSo 60 = .ok (.iadd, 1) := by decide +kernel
theorem dL_isSo_61 : decode cL_isSo 61 = .ok (.if_icmp .ne 41, 3) := by decide +kernel
theorem dL_isSo_64 : decode cL_isSo 64 = .ok (.aload_n 0, 1) := by decide +kernel
theorem dL_isSo_65 : decode cL_isSo 65 = .ok (.iload 5, 2) := by decide +kernel
theorem dL_isSo_67 : decode cL_isSo 67 = .ok (.iconst 3, 1) := by decide +kernel
theorem dL_isSo_68 : decode cL_isSo 68 = .ok (.invokevirtual 53, 3) := by decide +kernel
theorem dL_isSo_71 : decode cL_isSo 71 = .ok (.aload 4, 2) := by decide +kernel
theorem dL_isSo_73 : decode cL_isSo 73 = .ok (.iload 5, 2) := by decide +kernel
theorem dL_isSo_75 : decode cL_isSo 75 = .ok (.iaload, 1) := by decide +kernel
theorem dL_isSo_76 : decode cL_isSo 76 = .ok (.sipush 1000, 3) := by decide +kernel
theorem dL_isSo_79 : decode cL_isSo 79 = .ok (.idiv, 1) := by decide +kernel
theorem dL_isSo_80 : decode cL_isSo 80 = .ok (.if_icmp .ne 22, 3) := by decide +kernel
theorem dL_isSo_83 : decode cL_isSo 83 = .ok (.aload_n 0, 1) := by decide +kernel
theorem dL_isSo_84 : decode cL_isSo 84 = .ok (.iload 5, 2) := by decide +kernel
theorem dL_isSo_86 : decode cL_isSo 86 = .ok (.iconst 4, 1) := by decide +kernel
theorem dL_isSo_87 : decode cL_isSo 87 = .ok (.invokevirtual 53, 3) := by decide +kernel
theorem dL_isSo_90 : decode cL_isSo 90 = .ok (.aload 4, 2) := by decide +kernel
theorem dL_isSo_92 : decode cL_isSo 92 = .ok (.iload 5, 2) := by decide +kernel
theorem dL_isSo_94 : decode cL_isSo 94 = .ok (.iaload, 1) := by decide +kernel
theorem dL_isSo_95 : decode cL_isSo 95 = .ok (.sipush 1000, 3) := by decide +kernel
theorem dL_isSo_98 : decode cL_isSo 98 = .ok (.irem, 1) := by decide +kernel
theorem dL_isSo_99 : decode cL_isSo 99 = .ok (.if_icmp .eq 5, 3) := by decide +kernel
theorem dL_isSo_102 : decode cL_isSo 102 = .ok (.iconst 0, 1) := by decide +kernel
theorem dL_isSo_103 : decode cL_isSo 103 = .ok (.ireturn, 1) := by decide +kernel
theorem dL_isSo_104 : decode cL_isSo 104 = .ok (.iinc 5 1, 3) := by decide +kernel
theorem dL_isSo_107 : decode cL_isSo 107 = .ok (.goto (-104), 3) := by decide +kernel
theorem dL_isSo_110 : decode cL_isSo 110 = .ok (.aload_n 0, 1) := by decide +kernel
theorem dL_isSo_111 : decode cL_isSo 111 = .ok (.aload_n 1, 1) := by decide +kernel
theorem dL_isSo_112 : decode cL_isSo 112 = .ok (.bipush 10, 2) := by decide +kernel
theorem dL_isSo_114 : decode cL_isSo 114 = .ok (.iaload, 1) := by decide +kernel
theorem dL_isSo_115 : decode cL_isSo 115 = .ok (.iconst 0, 1) := by decide +kernel
theorem dL_isSo_116 : decode cL_isSo 116 = .ok (.invokevirtual 53, 3) := by decide +kernel
theorem dL_isSo_119 : decode cL_isSo 119 = .ok (.iconst (-1), 1) := by decide +kernel
theorem dL_isSo_120 : decode cL_isSo 120 = .ok (.if_icmp .ne 185, 3) := by decide +kernel
theorem dL_isSo_123 : decode cL_isSo 123 = .ok (.aload_n 0, 1) := by decide +kernel
theorem dL_isSo_124 : decode cL_isSo 124 = .ok (.iconst 0, 1) := by decide +kernel
theorem dL_isSo_125 : decode cL_isSo 125 = .ok (.invokevirtual 94, 3) := by decide +kernel
theorem dL_isSo_128 : decode cL_isSo 128 = .ok (.aload_n 1, 1) := by decide +kernel
theorem dL_isSo_129 : decode cL_isSo 129 = .ok (.iconst 0, 1) := by decide +kernel
theorem dL_isSo_130 : decode cL_isSo 130 = .ok (.iaload, 1) := by decide +kernel
theorem dL_isSo_131 : decode cL_isSo 131 = .ok (.if_icmp .ne 174, 3) := by decide +kernel
theorem dL_isSo_134 : decode cL_isSo 134 = .ok (.aload_n 0, 1) := by decide +kernel
theorem dL_isSo_135 : decode cL_isSo 135 = .ok (.iconst 1, 1) := by decide +kernel
theorem dL_isSo_136 : decode cL_isSo 136 = .ok (.invokevirtual 94, 3) := by decide +kernel
theorem dL_isSo_139 : decode cL_isSo 139 = .ok (.aload_n 1, 1) := by decide +kernel
theorem dL_isSo_140 : decode cL_isSo 140 = .ok (.iconst 1, 1) := by decide +kernel
theorem dL_isSo_141 : decode cL_isSo 141 = .ok (.iaload, 1) := by decide +kernel
theorem dL_isSo_142 : decode cL_isSo 142 = .ok (.if_icmp .ne 163, 3) := by decide +kernel
theorem dL_isSo_145 : decode cL_isSo 145 = .ok (.aload_n 0, 1) := by decide +kernel
theorem dL_isSo_146 : decode cL_isSo 146 = .ok (.iconst 2, 1) := by decide +kernel
theorem dL_isSo_147 : decode cL_isSo 147 = .ok (.invokevirtual 94, 3) := by decide +kernel
theorem dL_isSo_150 : decode cL_isSo 150 = .ok (.aload_n 1, 1) := by decide +kernel
theorem dL_isSo_151 : decode cL_isSo 151 = .ok (.iconst 2, 1) := by decide +kernel
theorem dL_isSo_152 : decode cL_isSo 152 = .ok (.iaload, 1) := by decide +kernel
theorem dL_isSo_153 : decode cL_isSo 153 = .ok (.bipush 100, 2) := by decide +kernel
theorem dL_isSo_155 : decode cL_isSo 155 = .ok (.iadd, 1) := by decide +kernel
theorem dL_isSo_156 : decode cL_isSo 156 = .ok (.if_icmp .ne 149, 3) := by decide +kernel
theorem dL_isSo_159 : decode cL_isSo 159 = .ok (.aload_n 0, 1) := by decide +kernel
theorem dL_isSo_160 : decode cL_isSo 160 = .ok (.iconst 3, 1) := by decide +kernel
theorem dL_isSo_161 : decode cL_isSo 161 = .ok (.invokevirtual 94, 3) := by decide +kernel
theorem dL_isSo_164 : decode cL_isSo 164 = .ok (.aload_n 1, 1) := by decide +kernel
theorem dL_isSo_165 : decode cL_isSo 165 = .ok (.iconst 3, 1) := by decide +kernel
theorem dL_isSo_166 : decode cL_isSo 166 = .ok (.iaload, 1) := by decide +kernel
theorem dL_isSo_167 : decode cL_isSo 167 = .ok (.bipush 100, 2) := by decide +kernel
theorem dL_isSo_169 : decode cL_isSo 169 = .ok (.iadd, 1) := by decide +kernel
theorem dL_isSo_170 : decode cL_isSo 170 = .ok (.if_icmp .ne 135, 3) := by decide +kernel
theorem dL_isSo_173 : decode cL_isSo 173 = .ok (.aload_n 0, 1) := by decide +kernel
theorem dL_isSo_174 : decode cL_isSo 174 = .ok (.iconst 4, 1) := by decide +kernel
theorem dL_isSo_175 : decode cL_isSo 175 = .ok (.invokevirtual 94, 3) := by decide +kernel
theorem dL_isSo_178 : decode cL_isSo 178 = .ok (.aload_n 1, 1) := by decide +kernel
theorem dL_isSo_179 : decode cL_isSo 179 = .ok (.iconst 4, 1) := by decide +kernel
theorem dL_isSo_180 : decode cL_isSo 180 = .ok (.iaload, 1) := by decide +kernel
theorem dL_isSo_181 : decode cL_isSo 181 = .ok (.if_icmp .ne 124, 3) := by decide +kernel
theorem dL_isSo_184 : decode cL_isSo 184 = .ok (.aload_n 0, 1) := by decide +kernel
theorem dL_isSo_185 : decode cL_isSo 185 = .ok (.iconst 5, 1) := by decide +kernel
theorem dL_isSo_186 : decode cL_isSo 186 = .ok (.invokevirtual 94, 3) := by decide +kernel
theorem dL_isSo_189 : decode cL_isSo 189 = .ok (.aload_n 1, 1) := by decide +kernel
theorem dL_isSo_190 : decode cL_isSo 190 = .ok (.iconst 5, 1) := by decide +kernel
theorem dL_isSo_191 : decode cL_isSo 191 = .ok (.iaload, 1) := by decide +kernel
theorem dL_isSo_192 : decode cL_isSo 192 = .ok (.if_icmp .ne 113, 3) := by decide +kernel
theorem dL_isSo_195 : decode cL_isSo 195 = .ok (.aload_n 0, 1) := by decide +kernel
theorem dL_isSo_196 : decode cL_isSo 196 = .ok (.bipush 6, 2) := by decide +kernel
theorem dL_isSo_198 : decode cL_isSo 198 = .ok (.invokevirtual 94, 3) := by decide +kernel
theorem dL_isSo_201 : decode cL_isSo 201 = .ok (.aload_n 1, 1) := by decide +kernel
theorem dL_isSo_202 : decode cL_isSo 202 = .ok (.bipush 6, 2) := by decide +kernel
theorem dL_isSo_204 : decode cL_isSo 204 = .ok (.iaload, 1) := by decide +kernel
theorem dL_isSo_205 : decode cL_isSo 205 = .ok (.if_icmp .ne 100, 3) := by decide +kernel
theorem dL_isSo_208 : decode cL_isSo 208 = .ok (.aload_n 0, 1) := by decide +kernel
theorem dL_isSo_209 : decode cL_isSo 209 = .ok (.bipush 7, 2) := by decide +kernel
theorem dL_isSo_211 : decode cL_isSo 211 = .ok (.invokevirtual 94, 3) := by decide +kernel
theorem dL_isSo_214 : decode cL_isSo 214 = .ok (.aload_n 1, 1) := by decide +kernel
theorem dL_isSo_215 : decode cL_isSo 215 = .ok (.aload_n 1, 1) := by decide +kernel
theorem dL_isSo_216 : decode cL_isSo 216 = .ok (.bipush 6, 2) := by decide +kernel
theorem dL_isSo_218 : decode cL_isSo 218 = .ok (.iaload, 1) := by decide +kernel
theorem dL_isSo_219 : decode cL_isSo 219 = .ok (.invokestatic 69, 3) := by decide +kernel
theorem dL_isSo_222 : decode cL_isSo 222 = .ok (.ifCond .eq 7, 3) := by decide +kernel
theorem dL_isSo_225 : decode cL_isSo 225 = .ok (.iconst 1, 1) := by decide +kernel
theorem dL_isSo_226 : decode cL_isSo 226 = .ok (.goto 4, 3) := by decide +kernel
theorem dL_isSo_229 : decode cL_isSo 229 = .ok (.iconst 0, 1) := by decide +kernel
theorem dL_isSo_230 : decode cL_isSo 230 = .ok (.if_icmp .ne 75, 3) := by decide +kernel
theorem dL_isSo_233 : decode cL_isSo 233 = .ok (.aload_n 0, 1) := by decide +kernel
theorem dL_isSo_234 : decode cL_isSo 234 = .ok (.bipush 8, 2) := by decide +kernel
theorem dL_isSo_236 : decode cL_isSo 236 = .ok (.invokevirtual 94, 3) := by decide +kernel
theorem dL_isSo_239 : decode cL_isSo 239 = .ok (.aload_n 1, 1) := by decide +kernel
theorem dL_isSo_240 : decode cL_isSo 240 = .ok (.bipush 7, 2) := by decide +kernel
theorem dL_isSo_242 : decode cL_isSo 242 = .ok (.iaload, 1) := by decide +kernel
theorem dL_isSo_243 : decode cL_isSo 243 = .ok (.ldc 113, 2) := by decide +kernel
theorem dL_isSo_245 : decode cL_isSo 245 = .ok (.iadd, 1) := by decide +kernel
theorem dL_isSo_246 : decode cL_isSo 246 = .ok (.if_icmp .ne 59, 3) := by decide +kernel
theorem dL_isSo_249 : decode cL_isSo 249 = .ok (.aload_n 0, 1) := by decide +kernel
theorem dL_isSo_250 : decode cL_isSo 250 = .ok (.bipush 9, 2) := by decide +kernel
theorem dL_isSo_252 : decode cL_isSo 252 = .ok (.invokevirtual 94, 3) := by decide +kernel
theorem dL_isSo_255 : decode cL_isSo 255 = .ok (.aload_n 1, 1) := by decide +kernel
theorem dL_isSo_256 : decode cL_isSo 256 = .ok (.bipush 8, 2) := by decide +kernel
theorem dL_isSo_258 : decode cL_isSo 258 = .ok (.iaload, 1) := by decide +kernel
theorem dL_isSo_259 : decode cL_isSo 259 = .ok (.if_icmp .ne 46, 3) := by decide +kernel
theorem dL_isSo_262 : decode cL_isSo 262 = .ok (.aload_n 0, 1) := by decide +kernel
theorem dL_isSo_263 : decode cL_isSo 263 = .ok (.bipush 10, 2) := by decide +kernel
theorem dL_isSo_265 : decode cL_isSo 265 = .ok (.invokevirtual 94, 3) := by decide +kernel
theorem dL_isSo_268 : decode cL_isSo 268 = .ok (.aload_n 1, 1) := by decide +kernel
theorem dL_isSo_269 : decode cL_isSo 269 = .ok (.bipush 10, 2) := by decide +kernel
theorem dL_isSo_271 : decode cL_isSo 271 = .ok (.iaload, 1) := by decide +kernel
theorem dL_isSo_272 : decode cL_isSo 272 = .ok (.if_icmp .ne 33, 3) := by decide +kernel
theorem dL_isSo_275 : decode cL_isSo 275 = .ok (.aload_n 0, 1) := by decide +kernel
theorem dL_isSo_276 : decode cL_isSo 276 = .ok (.bipush 11, 2) := by decide +kernel
theorem dL_isSo_278 : decode cL_isSo 278 = .ok (.invokevirtual 94, 3) := by decide +kernel
theorem dL_isSo_281 : decode cL_isSo 281 = .ok (.aload_n 1, 1) := by decide +kernel
theorem dL_isSo_282 : decode cL_isSo 282 = .ok (.bipush 11, 2) := by decide +kernel
theorem dL_isSo_284 : decode cL_isSo 284 = .ok (.iaload, 1) := by decide +kernel
theorem dL_isSo_285 : decode cL_isSo 285 = .ok (.if_icmp .ne 20, 3) := by decide +kernel
theorem dL_isSo_288 : decode cL_isSo 288 = .ok (.aload_n 0, 1) := by decide +kernel
theorem dL_isSo_289 : decode cL_isSo 289 = .ok (.bipush 15, 2) := by decide +kernel
theorem dL_isSo_291 : decode cL_isSo 291 = .ok (.invokevirtual 94, 3) := by decide +kernel
theorem dL_isSo_294 : decode cL_isSo 294 = .ok (.aload_n 1, 1) := by decide +kernel
theorem dL_isSo_295 : decode cL_isSo 295 = .ok (.bipush 9, 2) := by decide +kernel
theorem dL_isSo_297 : decode cL_isSo 297 = .ok (.iaload, 1) := by decide +kernel
theorem dL_isSo_298 : decode cL_isSo 298 = .ok (.if_icmp .ne 7, 3) := by decide +kernel
theorem dL_isSo_301 : decode cL_isSo 301 = .ok (.iconst 1, 1) := by decide +kernel
theorem dL_isSo_302 : decode cL_isSo 302 = .ok (.goto 4, 3) := by decide +kernel
theorem dL_isSo_305 : decode cL_isSo 305 = .ok (.iconst 0, 1) := by decide +kernel
theorem dL_isSo_306 : decode cL_isSo 306 = .ok (.istore 5, 2) := by decide +kernel
theorem dL_isSo_308 : decode cL_isSo 308 = .ok (.iconst 0, 1) := by decide +kernel
theorem dL_isSo_309 : decode cL_isSo 309 = .ok (.istore 6, 2) := by decide +kernel
theorem dL_isSo_311 : decode cL_isSo 311 = .ok (.iload 6, 2) := by decide +kernel
theorem dL_isSo_313 : decode cL_isSo 313 = .ok (.iconst 4, 1) := by decide +kernel
theorem dL_isSo_314 : decode cL_isSo 314 = .ok (.if_icmp .ge 40, 3) := by decide +kernel
theorem dL_isSo_317 : decode cL_isSo 317 = .ok (.iload 5, 2) := by decide +kernel
theorem dL_isSo_319 : decode cL_isSo 319 = .ok (.ifCond .eq 26, 3) := by decide +kernel
theorem dL_isSo_322 : decode cL_isSo 322 = .ok (.aload_n 0, 1) := by decide +kernel
theorem dL_isSo_323 : decode cL_isSo 323 = .ok (.bipush 16, 2) := by decide +kernel
theorem dL_isSo_325 : decode cL_isSo 325 = .ok (.iload 6, 2) := by decide +kernel
theorem dL_isSo_327 : decode cL_isSo 327 = .ok (.iadd, 1) := by decide +kernel
theorem dL_isSo_328 : decode cL_isSo 328 = .ok (.invokevirtual 94, 3) := by decide +kernel
theorem dL_isSo_331 : decode cL_isSo 331 = .ok (.aload_n 1, 1) := by decide +kernel
theorem dL_isSo_332 : decode cL_isSo 332 = .ok (.bipush 12, 2) := by decide +kernel
theorem dL_isSo_334 : decode cL_isSo 334 = .ok (.iload 6, 2) := by decide +kernel
theorem dL_isSo_336 : decode cL_isSo 336 = .ok (.iadd, 1) := by decide +kernel
theorem dL_isSo_337 : decode cL_isSo 337 = .ok (.iaload, 1) := by decide +kernel
theorem dL_isSo_338 : decode cL_isSo 338 = .ok (.if_icmp .ne 7, 3) := by decide +kernel
theorem dL_isSo_341 : decode cL_isSo 341 = .ok (.iconst 1, 1) := by decide +kernel
theorem dL_isSo_342 : decode cL_isSo 342 = .ok (.goto 4, 3) := by decide +kernel
theorem dL_isSo_345 : decode cL_isSo 345 = .ok (.iconst 0, 1) := by decide +kernel
theorem dL_isSo_346 : decode cL_isSo 346 = .ok (.istore 5, 2) := by decide +kernel
theorem dL_isSo_348 : decode cL_isSo 348 = .ok (.iinc 6 1, 3) := by decide +kernel
theorem dL_isSo_351 : decode cL_isSo 351 = .ok (.goto (-40), 3) := by decide +kernel
theorem dL_isSo_354 : decode cL_isSo 354 = .ok (.iload 5, 2) := by decide +kernel
theorem dL_isSo_356 : decode cL_isSo 356 = .ok (.ifCond .eq 45, 3) := by decide +kernel
theorem dL_isSo_359 : decode cL_isSo 359 = .ok (.aload_n 0, 1) := by decide +kernel
theorem dL_isSo_360 : decode cL_isSo 360 = .ok (.aload_n 1, 1) := by decide +kernel
theorem dL_isSo_361 : decode cL_isSo 361 = .ok (.aload_n 2, 1) := by decide +kernel
theorem dL_isSo_362 : decode cL_isSo 362 = .ok (.aload_n 3, 1) := by decide +kernel
theorem dL_isSo_363 : decode cL_isSo 363 = .ok (.invokestatic 114, 3) := by decide +kernel
theorem dL_isSo_366 : decode cL_isSo 366 = .ok (.ifCond .eq 35, 3) := by decide +kernel
theorem dL_isSo_369 : decode cL_isSo 369 = .ok (.aload_n 0, 1) := by decide +kernel
theorem dL_isSo_370 : decode cL_isSo 370 = .ok (.invokevirtual 118, 3) := by decide +kernel
theorem dL_isSo_373 : decode cL_isSo 373 = .ok (.aload_n 1, 1) := by decide +kernel
theorem dL_isSo_374 : decode cL_isSo 374 = .ok (.iconst 0, 1) := by decide +kernel
theorem dL_isSo_375 : decode cL_isSo 375 = .ok (.iaload, 1) := by decide +kernel
theorem dL_isSo_376 : decode cL_isSo 376 = .ok (.ifCond .ne 7, 3) := by decide +kernel
theorem dL_isSo_379 : decode cL_isSo 379 = .ok (.dconst 1, 1) := by decide +kernel
theorem dL_isSo_380 : decode cL_isSo 380 = .ok (.goto 13, 3) := by decide +kernel
theorem dL_isSo_383 : decode cL_isSo 383 = .ok (.aload_n 1, 1) := by decide +kernel
theorem dL_isSo_384 : decode cL_isSo 384 = .ok (.bipush 9, 2) := by decide +kernel
theorem dL_isSo_386 : decode cL_isSo 386 = .ok (.iaload, 1) := by decide +kernel
theorem dL_isSo_387 : decode cL_isSo 387 = .ok (.i2d, 1) := by decide +kernel
theorem dL_isSo_388 : decode cL_isSo 388 = .ok (.aload_n 1, 1) := by decide +kernel
theorem dL_isSo_389 : decode cL_isSo 389 = .ok (.iconst 0, 1) := by decide +kernel
theorem dL_isSo_390 : decode cL_isSo 390 = .ok (.iaload, 1) := by decide +kernel
theorem dL_isSo_391 : decode cL_isSo 391 = .ok (.i2d, 1) := by decide +kernel
theorem dL_isSo_392 : decode cL_isSo 392 = .ok (.ddiv, 1) := by decide +kernel
theorem dL_isSo_393 : decode cL_isSo 393 = .ok (.dcmp .l, 1) := by decide +kernel
theorem dL_isSo_394 : decode cL_isSo 394 = .ok (.ifCond .ne 7, 3) := by decide +kernel
theorem dL_isSo_397 : decode cL_isSo 397 = .ok (.iconst 1, 1) := by decide +kernel
theorem dL_isSo_398 : decode cL_isSo 398 = .ok (.goto 4, 3) := by decide +kernel
theorem dL_isSo_401 : decode cL_isSo 401 = .ok (.iconst 0, 1) := by decide +kernel
theorem dL_isSo_402 : decode cL_isSo 402 = .ok (.ireturn, 1) := by decide +kernel
set_option maxRecDepth 20000 in
theorem ggL_act_L_low : GoodIn wsL_act wsL_low := goodIn_r _ [4, 5] (by decide +kernel) (by decide +kernel)
set_option maxRecDepth 20000 in
theorem gL_act_L_low : GoodIn wsL_act (va_wsS RL 97 yL_low wsL_low) := goodIn_app (goodIn_of _ (by decide +kernel)) ggL_act_L_low
set_option maxRecDepth 20000 in
theorem ggL_act_L_wind : GoodIn wsL_act wsL_wind := goodIn_ca (goodIn_r _ [8, 9, 10, 11, 12, 13, 14, 15, 16, 17, 18, 19, 20, 21, 22, 23, 24, 25, 26, 27, 28, 29, 30, 31, 32, 33, 34, 35, 36, 37, 38, 39, 40, 41, 42, 43, 44, 45, 46, 47, 48, 49, 50, 51, 52, 53, 54, 55, 56, 57, 58, 59, 60, 61, 62, 63, 64, 65, 66, 67, 68, 69, 70, 71, 72, 73, 74, 75, 76, 77, 78, 79, 80, 81, 261, 262, 263, 264, 265, 266, 267, 268, 269, 270, 271, 272, 273, 274, 275, 276, 277, 278, 279, 280, 281, 282, 283, 284, 285, 286, 287, 288, 289] (by decide +kernel) (by decide +kernel)) (goodIn_sub (fun _ h => List.mem_cons_of_mem _ (List.mem_append_left _ (List.mem_append_left _ (List.mem_append_right _ h)))) (by decide +kernel))
set_option maxRecDepth 20000 in
theorem gL_act_L_wind : GoodIn wsL_act (va_wsS RL 122 yL_wind wsL_wind) := goodIn_app (goodIn_of _ (by decide +kernel)) ggL_act_L_wind
set_option maxRecDepth 20000 in
theorem ggL_act_L_why : GoodIn wsL_act wsL_why := goodIn_r _ [84, 85, 86, 3, 87, 88, 89, 90] (by decide +kernel) (by decide +kernel)
set_option maxRecDepth 20000 in
theorem gL_act_L_why : GoodIn wsL_act (va_wsS RL 88 yL_why wsL_why) := goodIn_app (goodIn_of _ (by decide +kernel)) ggL_act_L_why
set_option maxRecDepth 20000 in
theorem ggL_act_L_read : GoodIn wsL_act wsL_read := goodIn_ca (goodIn_ca (goodIn_r _ [93, 94, 95, 96, 97, 98, 13, 99, 100, 101, 16, 15, 17, 102, 103, 104, 105, 106, 107, 108, 109, 110, 111, 112, 39, 113, 41, 114, 43, 115, 42, 116, 117, 118, 55, 119, 61, 63, 120, 121, 34, 122, 123, 124, 125, 126, 60, 127, 128, 129, 130, 131, 132, 72, 133, 76, 24, 25, 26, 27, 28, 29, 30, 31, 32, 33, 35, 36, 37, 38, 40, 44, 45, 46, 47, 48, 49, 50, 51, 52, 53, 54, 56, 57, 58, 59, 62, 64, 65, 66, 67, 68, 69, 70, 71, 73, 74, 75, 134, 135, 136, 137, 138, 139, 140, 141, 142, 143, 144, 145, 146, 147, 148, 149, 150, 151, 152, 153, 154, 155, 156, 157, 158, 159, 160, 161, 261, 262, 263, 264, 265, 266, 267, 268, 269, 270, 271, 272, 273, 274, 275, 276, 277, 278, 279, 280, 281, 282, 283, 284, 288, 289, 285, 286, 287] (by decide +kernel) (by decide +kernel)) (goodIn_sub (fun _ h => List.mem_cons_of_mem _ (List.mem_append_left _ (List.mem_append_right _ h))) (by decide +kernel))) (goodIn_sub (fun _ h => List.mem_cons_of_mem _ (List.mem_append_right _ h)) (by decide +kernel))
set_option maxRecDepth 20000 in
theorem gL_act_L_read : GoodIn wsL_act (va_wsS RL 125 yL_read wsL_read) := goodIn_app (goodIn_of _ (by decide +kernel)) ggL_act_L_read
set_option maxRecDepth 20000 in
theorem ggL_act_L_rate : GoodIn wsL_act wsL_rate := goodIn_r _ [164, 85, 86, 3, 87, 165, 166, 167, 168] (by decide +kernel) (by decide +kernel)
set_option maxRecDepth 20000 in
theorem gL_act_L_rate : GoodIn wsL_act (va_wsS RL 73 yL_rate wsL_rate) := goodIn_app (goodIn_of _ (by decide +kernel)) ggL_act_L_rate
set_option maxRecDepth 20000 in
theorem ggL_act_L_beat : GoodIn wsL_act wsL_beat := goodIn_r _ [90] (by decide +kernel) (by decide +kernel)
set_option maxRecDepth 20000 in
theorem gL_act_L_beat : GoodIn wsL_act (va_wsS RL 66 yL_beat wsL_beat) := goodIn_app (goodIn_of _ (by decide +kernel)) ggL_act_L_beat
set_option maxRecDepth 20000 in
theorem ggL_act_L_swing : GoodIn wsL_act wsL_swing := goodIn_r _ [87] (by decide +kernel) (by decide +kernel)
set_option maxRecDepth 20000 in
theorem gL_act_L_swing : GoodIn wsL_act (va_wsS RL 56 yL_swing wsL_swing) := goodIn_app (goodIn_of _ (by decide +kernel)) ggL_act_L_swing
set_option maxRecDepth 20000 in
theorem ggL_act_L_hours : GoodIn wsL_act wsL_hours := goodIn_r _ [171, 172, 173, 3, 174, 175, 176, 177, 85, 86, 87, 162, 163, 164, 165, 166, 167, 168] (by decide +kernel) (by decide +kernel)
set_option maxRecDepth 20000 in
theorem gL_act_L_hours : GoodIn wsL_act (va_wsS RL 100 yL_hours wsL_hours) := goodIn_app (goodIn_of _ (by decide +kernel)) ggL_act_L_hours
set_option maxRecDepth 20000 in
theorem ggL_act_L_pass : GoodIn wsL_act wsL_pass := goodIn_ca (goodIn_r _ [180, 9, 181, 182, 183, 13, 184, 15, 16, 17, 19, 20, 21, 22, 23, 24, 25, 26, 27, 28, 29, 30, 31, 32, 33, 34, 35, 36, 37, 38, 39, 40, 41, 42, 43, 44, 45, 46, 47, 48, 49, 50, 51, 52, 53, 54, 55, 56, 57, 58, 59, 60, 61, 62, 63, 64, 65, 66, 67, 68, 69, 70, 71, 72, 73, 74, 75, 76, 185, 186, 187, 188, 189, 190, 191, 192, 81, 193, 194, 195, 196, 150, 117, 118, 119, 120, 121, 122, 197, 147, 148, 149, 151, 152, 153, 154, 108, 109, 155, 156, 157, 158, 261, 262, 263, 264, 265, 266, 267, 268, 269, 270, 271, 272, 273, 285, 286, 287, 274, 275, 276, 277, 278, 279, 280, 281, 282, 283, 284, 288, 289] (by decide +kernel) (by decide +kernel)) (goodIn_sub (fun _ h => List.mem_cons_of_mem _ (List.mem_append_left _ (List.mem_append_left _ (List.mem_append_right _ h)))) (by decide +kernel))
set_option maxRecDepth 20000 in
theorem gL_act_L_pass : GoodIn wsL_act (va_wsS RL 127 yL_pass wsL_pass) := goodIn_app (goodIn_of _ (by decide +kernel)) ggL_act_L_pass
set_option maxRecDepth 20000 in
theorem ggL_act_L_weigh : GoodIn wsL_act wsL_weigh := goodIn_ca (goodIn_ca (goodIn_r _ [200, 94, 9, 201, 202, 203, 13, 204, 15, 16, 17, 102, 103, 104, 105, 106, 107, 108, 109, 19, 20, 21, 22, 23, 24, 25, 26, 27, 28, 29, 30, 31, 32, 33, 34, 35, 36, 37, 38, 39, 40, 41, 42, 43, 44, 45, 46, 47, 48, 49, 50, 51, 52, 53, 54, 55, 56, 57, 58, 59, 60, 61, 62, 63, 64, 65, 66, 67, 68, 69, 70, 71, 72, 73, 74, 75, 76, 205, 152, 153, 154, 206, 207, 208, 209, 261, 262, 263, 264, 265, 266, 267, 268, 269, 270, 271, 272, 273, 285, 286, 287, 274, 275, 276, 277, 278, 279, 280, 281, 282, 283, 284, 288, 289] (by decide +kernel) (by decide +kernel)) (goodIn_sub (fun _ h => List.mem_cons_of_mem _ (List.mem_append_right _ h)) (by decide +kernel))) (goodIn_sub (fun _ h => List.mem_cons_of_mem _ (List.mem_append_left _ (List.mem_append_left _ (List.mem_append_right _ h)))) (by decide +kernel))
set_option maxRecDepth 20000 in
theorem gL_act_L_weigh : GoodIn wsL_act (va_wsS RL 129 yL_weigh wsL_weigh) := goodIn_app (goodIn_of _ (by decide +kernel)) ggL_act_L_weigh
set_option maxRecDepth 20000 in
theorem ggL_act_L_adjust : GoodIn wsL_act wsL_adjust := goodIn_ca (goodIn_r _ [212, 9, 213, 214, 215, 13, 216, 15, 16, 17, 217, 218, 19, 20, 21, 22, 23, 24, 25, 26, 27, 28, 29, 30, 31, 32, 33, 34, 35, 36, 37, 38, 39, 40, 41, 42, 43, 44, 45, 46, 47, 48, 49, 50, 51, 52, 53, 54, 55, 56, 57, 58, 59, 60, 61, 62, 63, 64, 65, 66, 67, 68, 69, 70, 71, 72, 73, 74, 75, 76, 261, 262, 263, 264, 265, 266, 267, 268, 269, 270, 271, 272, 273, 274, 275, 276, 277, 278, 279, 280, 281, 282, 283, 284, 285, 286, 287, 288, 289] (by decide +kernel) (by decide +kernel)) (goodIn_sub (fun _ h => List.mem_cons_of_mem _ (List.mem_append_left _ (List.mem_append_left _ (List.mem_append_right _ h)))) (by decide +kernel))
set_option maxRecDepth 20000 in
theorem gL_act_L_adjust : GoodIn wsL_act (va_wsS RL 132 yL_adjust wsL_adjust) := goodIn_app (goodIn_of _ (by decide +kernel)) ggL_act_L_adjust
set_option maxRecDepth 20000 in
theorem ggL_act_L_magnetise : GoodIn wsL_act wsL_magnetise := goodIn_ca (goodIn_r _ [221, 9, 222, 223, 224, 13, 225, 15, 16, 17, 226, 227, 33, 34, 35, 19, 20, 21, 22, 23, 24, 25, 26, 27, 28, 29, 30, 31, 32, 36, 37, 38, 39, 40, 41, 42, 43, 44, 45, 46, 47, 48, 49, 50, 51, 52, 53, 54, 55, 56, 57, 58, 59, 60, 61, 62, 63, 64, 65, 66, 67, 68, 69, 70, 71, 72, 73, 74, 75, 76, 261, 262, 263, 264, 265, 266, 267, 268, 269, 270, 271, 272, 273, 274, 275, 276, 277, 278, 279, 280, 281, 282, 283, 284, 285, 286, 287, 288, 289] (by decide +kernel) (by decide +kernel)) (goodIn_sub (fun _ h => List.mem_cons_of_mem _ (List.mem_append_left _ (List.mem_append_left _ (List.mem_append_right _ h)))) (by decide +kernel))
set_option maxRecDepth 20000 in
theorem gL_act_L_magnetise : GoodIn wsL_act (va_wsS RL 134 yL_magnetise wsL_magnetise) := goodIn_app (goodIn_of _ (by decide +kernel)) ggL_act_L_magnetise
set_option maxRecDepth 20000 in
theorem ggL_act_X5_demagnetise : GoodIn wsL_act wsX5_demagnetise := goodIn_r _ [231, 15, 16, 17, 226, 24, 25, 26, 27, 28, 29, 30, 31, 32, 33, 34, 35, 36, 37, 38, 39, 40, 41, 42, 43, 44, 45, 46, 47, 48, 49, 50, 51, 52, 53, 54, 55, 56, 57, 58, 59, 60, 61, 62, 63, 64, 65, 66, 67, 68, 69, 70, 71, 72, 73, 74, 75, 76, 261, 262, 263, 264, 265, 266, 267, 268, 269, 270, 271, 272, 273, 274, 275, 276, 277, 278, 279, 280, 281, 282, 283, 284, 285, 286, 287, 288, 289] (by decide +kernel) (by decide +kernel)
set_option maxRecDepth 20000 in
theorem gL_act_X5_demagnetise : GoodIn wsL_act (wsV RL 136 RX5 yX5_demagnetise wsX5_demagnetise) := goodIn_app (goodIn_of _ (by decide +kernel)) ggL_act_X5_demagnetise
set_option maxRecDepth 20000 in
theorem ggL_act_X5_clean : GoodIn wsL_act wsX5_clean := goodIn_r _ [235, 15, 16, 17, 236, 24, 25, 26, 27, 28, 29, 30, 31, 32, 33, 34, 35, 36, 37, 38, 39, 40, 41, 42, 43, 44, 45, 46, 47, 48, 49, 50, 51, 52, 53, 54, 55, 56, 57, 58, 59, 60, 61, 62, 63, 64, 65, 66, 67, 68, 69, 70, 71, 72, 73, 74, 75, 76, 261, 262, 263, 264, 265, 266, 267, 268, 269, 270, 271, 272, 273, 274, 275, 276, 277, 278, 279, 280, 281, 282, 283, 284, 285, 286, 287, 288, 289] (by decide +kernel) (by decide +kernel)
set_option maxRecDepth 20000 in
theorem gL_act_X5_clean : GoodIn wsL_act (wsV RL 139 RX5 yX5_clean wsX5_clean) := goodIn_app (goodIn_of _ (by decide +kernel)) ggL_act_X5_clean
set_option maxRecDepth 20000 in
theorem ggL_act_L_lay : GoodIn wsL_act wsL_lay := goodIn_ca (goodIn_r _ [239, 94, 240, 241, 242, 13, 243, 15, 16, 17, 244, 102, 103, 104, 105, 106, 107, 108, 109, 24, 25, 26, 27, 28, 29, 30, 31, 32, 33, 34, 35, 36, 37, 38, 39, 40, 41, 42, 43, 44, 45, 46, 47, 48, 49, 50, 51, 52, 53, 54, 55, 56, 57, 58, 59, 60, 61, 62, 63, 64, 65, 66, 67, 68, 69, 70, 71, 72, 73, 74, 75, 76, 261, 262, 263, 264, 265, 266, 267, 268, 269, 270, 271, 272, 273, 274, 275, 276, 277, 278, 279, 280, 281, 282, 283, 284, 285, 286, 287, 288, 289] (by decide +kernel) (by decide +kernel)) (goodIn_sub (fun _ h => List.mem_cons_of_mem _ (List.mem_append_right _ h)) (by decide +kernel))
set_option maxRecDepth 20000 in
theorem gL_act_L_lay : GoodIn wsL_act (va_wsS RL 142 yL_lay wsL_lay) := goodIn_app (goodIn_of _ (by decide +kernel)) ggL_act_L_lay
set_option maxRecDepth 20000 in
theorem ggL_act_X5_renew : GoodIn wsL_act wsX5_renew := goodIn_r _ [248, 15, 16, 249, 250, 24, 25, 26, 27, 28, 29, 30, 31, 32, 33, 34, 35, 36, 37, 38, 39, 40, 41, 42, 43, 44, 45, 46, 47, 48, 49, 50, 51, 52, 53, 54, 55, 56, 57, 58, 59, 60, 61, 62, 63, 64, 65, 66, 67, 68, 69, 70, 71, 72, 73, 74, 75, 76, 261, 262, 263, 264, 265, 266, 267, 268, 269, 270, 271, 272, 273, 288, 289, 285, 286, 287, 274, 275, 276, 277, 278, 279, 280, 281, 282, 283, 284] (by decide +kernel) (by decide +kernel)
set_option maxRecDepth 20000 in
theorem gL_act_X5_renew : GoodIn wsL_act (wsV RL 144 RX5 yX5_renew wsX5_renew) := goodIn_app (goodIn_of _ (by decide +kernel)) ggL_act_X5_renew
set_option maxRecDepth 20000 in
theorem ggL_act_L_set : GoodIn wsL_act wsL_set := goodIn_ca (goodIn_ca (goodIn_r _ [253, 94, 9, 254, 255, 256, 13, 257, 105, 106, 258, 259, 15, 16, 260, 19, 20, 21, 22, 23, 24, 25, 26, 27, 28, 29, 30, 31, 32, 33, 34, 35, 36, 37, 38, 39, 40, 41, 42, 43, 44, 45, 46, 47, 48, 49, 50, 51, 52, 53, 54, 55, 56, 57, 58, 59, 60, 61, 62, 63, 64, 65, 66, 67, 68, 69, 70, 71, 72, 73, 74, 75, 76, 261, 262, 263, 264, 265, 266, 267, 268, 269, 270, 271, 272, 273, 285, 286, 287, 274, 275, 276, 277, 278, 279, 280, 281, 282, 283, 284, 288, 289] (by decide +kernel) (by decide +kernel)) (goodIn_sub (fun _ h => List.mem_cons_of_mem _ (List.mem_append_right _ h)) (by decide +kernel))) (goodIn_sub (fun _ h => List.mem_cons_of_mem _ (List.mem_append_left _ (List.mem_append_left _ (List.mem_append_right _ h)))) (by decide +kernel))
set_option maxRecDepth 20000 in
theorem gL_act_L_set : GoodIn wsL_act (va_wsS RL 147 yL_set wsL_set) := goodIn_app (goodIn_of _ (by decide +kernel)) ggL_act_L_set
theorem dL_act_0 : decode cL_act 0 = .ok (.iload_n 1, 1) := by decide +kernel
theorem dL_act_1 : decode cL_act 1 = .ok (.bipush 20, 2) := by decide +kernel
theorem dL_act_3 : decode cL_act 3 = .ok (.invokestatic 97, 3) := by decide +kernel
theorem dL_act_6 : decode cL_act 6 = .ok (.istore 7, 2) := by decide +kernel
theorem dL_act_8 : decode cL_act 8 = .ok (.iload 7, 2) := by decide +kernel
theorem dL_act_10 : decode cL_act 10 = .ok (.iconst 3, 1) := by decide +kernel
theorem dL_act_11 : decode cL_act 11 = .ok (.if_icmp .ge 77, 3) := by decide +kernel
theorem dL_act_14 : decode cL_act 14 = .ok (.iconst 1, 1) := by decide +kernel
theorem dL_act_15 : decode cL_act 15 = .ok (.iload_n 2, 1) := by decide +kernel
theorem dL_act_16 : decode cL_act 16 = .ok (.bipush 48, 2) := by decide +kernel
theorem dL_act_18 : decode cL_act 18 = .ok (.invokestatic 97, 3) := by decide +kernel
theorem dL_act_21 : decode cL_act 21 = .ok (.iadd, 1) := by decide +kernel
theorem dL_act_22 : decode cL_act 22 = .ok (.istore 8, 2) := by decide +kernel
theorem dL_act_24 : decode cL_act 24 = .ok (.aload_n 3, 1) := by decide +kernel
theorem dL_act_25 : decode cL_act 25 = .ok (.iconst 1, 1) := by decide +kernel
theorem dL_act_26 : decode cL_act 26 = .ok (.aload_n 3, 1) := by decide +kernel
theorem dL_act_27 : decode cL_act 27 = .ok (.iconst 1, 1) := by decide +kernel
theorem dL_act_28 : decode cL_act 28 = .ok (.iaload, 1) := by decide +kernel
theorem dL_act_29 : decode cL_act 29 = .ok (.iload 8, 2) := by decide +kernel
theorem dL_act_31 : decode cL_act 31 = .ok (.iadd, 1) := by decide +kernel
theorem dL_act_32 : decode cL_act 32 = .ok (.bipush 48, 2) := by decide +kernel
theorem dL_act_34 : decode cL_act 34 = .ok (.if_icmp .le 8, 3) := by decide +kernel
theorem dL_act_37 : decode cL_act 37 = .ok (.bipush 48, 2) := by decide +kernel
theorem dL_act_39 : decode cL_act 39 = .ok (.goto 9, 3) := by decide +kernel
theorem dL_act_42 : decode cL_act 42 = .ok (.aload_n 3, 1) := by decide +kernel
theorem dL_act_43 : decode cL_act 43 = .ok (.iconst 1, 1) := by decide +kernel
theorem dL_act_44 : decode cL_act 44 = .ok (.iaload, 1) := by decide +kernel
theorem dL_act_45 : decode cL_act 45 = .ok (.iload 8, 2) := by decide +kernel
