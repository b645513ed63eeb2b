theorem dL_act_47 : decode cL_act 47 = .ok (.iadd, 1) := by decide +kernel
theorem dL_act_48 : decode cL_act 48 = .ok (.iastore, 1) := by decide +kernel
theorem dL_act_49 : decode cL_act 49 = .ok (.aload_n 0, 1) := by decide +kernel
theorem dL_act_50 : decode cL_act 50 = .ok (.iload 8, 2) := by decide +kernel
theorem dL_act_52 : decode cL_act 52 = .ok (.invokestatic 122, 3) := by decide +kernel
theorem dL_act_55 : decode cL_act 55 = .ok (.aload_n 3, 1) := by decide +kernel
theorem dL_act_56 : decode cL_act 56 = .ok (.iconst 1, 1) := by decide +kernel
theorem dL_act_57 : decode cL_act 57 = .ok (.iaload, 1) := by decide +kernel
theorem dL_act_58 : decode cL_act 58 = .ok (.if_icmp .ne 28, 3) := by decide +kernel
theorem dL_act_61 : decode cL_act 61 = .ok (.aload_n 0, 1) := by decide +kernel
theorem dL_act_62 : decode cL_act 62 = .ok (.iconst 0, 1) := by decide +kernel
theorem dL_act_63 : decode cL_act 63 = .ok (.invokestatic 122, 3) := by decide +kernel
theorem dL_act_66 : decode cL_act 66 = .ok (.bipush (-32), 2) := by decide +kernel
theorem dL_act_68 : decode cL_act 68 = .ok (.if_icmp .ne 18, 3) := by decide +kernel
theorem dL_act_71 : decode cL_act 71 = .ok (.aload_n 0, 1) := by decide +kernel
theorem dL_act_72 : decode cL_act 72 = .ok (.bipush 49, 2) := by decide +kernel
theorem dL_act_74 : decode cL_act 74 = .ok (.invokestatic 122, 3) := by decide +kernel
theorem dL_act_77 : decode cL_act 77 = .ok (.bipush (-32), 2) := by decide +kernel
theorem dL_act_79 : decode cL_act 79 = .ok (.if_icmp .ne 7, 3) := by decide +kernel
theorem dL_act_82 : decode cL_act 82 = .ok (.iconst 1, 1) := by decide +kernel
theorem dL_act_83 : decode cL_act 83 = .ok (.goto 4, 3) := by decide +kernel
theorem dL_act_86 : decode cL_act 86 = .ok (.iconst 0, 1) := by decide +kernel
theorem dL_act_87 : decode cL_act 87 = .ok (.ireturn, 1) := by decide +kernel
theorem dL_act_88 : decode cL_act 88 = .ok (.iload 7, 2) := by decide +kernel
theorem dL_act_90 : decode cL_act 90 = .ok (.bipush 10, 2) := by decide +kernel
theorem dL_act_92 : decode cL_act 92 = .ok (.if_icmp .ge 148, 3) := by decide +kernel
theorem dL_act_95 : decode cL_act 95 = .ok (.iload_n 2, 1) := by decide +kernel
theorem dL_act_96 : decode cL_act 96 = .ok (.bipush 6, 2) := by decide +kernel
theorem dL_act_98 : decode cL_act 98 = .ok (.invokestatic 97, 3) := by decide +kernel
theorem dL_act_101 : decode cL_act 101 = .ok (.istore 8, 2) := by decide +kernel
theorem dL_act_103 : decode cL_act 103 = .ok (.aload_n 3, 1) := by decide +kernel
theorem dL_act_104 : decode cL_act 104 = .ok (.iload 8, 2) := by decide +kernel
theorem dL_act_106 : decode cL_act 106 = .ok (.invokestatic 88, 3) := by decide +kernel
theorem dL_act_109 : decode cL_act 109 = .ok (.ifCond .le 31, 3) := by decide +kernel
theorem dL_act_112 : decode cL_act 112 = .ok (.aload_n 0, 1) := by decide +kernel
theorem dL_act_113 : decode cL_act 113 = .ok (.iload 8, 2) := by decide +kernel
theorem dL_act_115 : decode cL_act 115 = .ok (.invokestatic 125, 3) := by decide +kernel
theorem dL_act_118 : decode cL_act 118 = .ok (.bipush (-33), 2) := by decide +kernel
theorem dL_act_120 : decode cL_act 120 = .ok (.if_icmp .ne 18, 3) := by decide +kernel
theorem dL_act_123 : decode cL_act 123 = .ok (.aload_n 0, 1) := by decide +kernel
theorem dL_act_124 : decode cL_act 124 = .ok (.bipush 6, 2) := by decide +kernel
theorem dL_act_126 : decode cL_act 126 = .ok (.invokestatic 125, 3) := by decide +kernel
theorem dL_act_129 : decode cL_act 129 = .ok (.bipush (-31), 2) := by decide +kernel
theorem dL_act_131 : decode cL_act 131 = .ok (.if_icmp .ne 7, 3) := by decide +kernel
theorem dL_act_134 : decode cL_act 134 = .ok (.iconst 1, 1) := by decide +kernel
theorem dL_act_135 : decode cL_act 135 = .ok (.goto 4, 3) := by decide +kernel
theorem dL_act_138 : decode cL_act 138 = .ok (.iconst 0, 1) := by decide +kernel
theorem dL_act_139 : decode cL_act 139 = .ok (.ireturn, 1) := by decide +kernel
theorem dL_act_140 : decode cL_act 140 = .ok (.aload_n 3, 1) := by decide +kernel
theorem dL_act_141 : decode cL_act 141 = .ok (.bipush 6, 2) := by decide +kernel
theorem dL_act_143 : decode cL_act 143 = .ok (.iload 8, 2) := by decide +kernel
theorem dL_act_145 : decode cL_act 145 = .ok (.iastore, 1) := by decide +kernel
theorem dL_act_146 : decode cL_act 146 = .ok (.aload 4, 2) := by decide +kernel
theorem dL_act_148 : decode cL_act 148 = .ok (.aload_n 3, 1) := by decide +kernel
theorem dL_act_149 : decode cL_act 149 = .ok (.bipush 10, 2) := by decide +kernel
theorem dL_act_151 : decode cL_act 151 = .ok (.iaload, 1) := by decide +kernel
theorem dL_act_152 : decode cL_act 152 = .ok (.bipush 100, 2) := by decide +kernel
theorem dL_act_154 : decode cL_act 154 = .ok (.aload_n 3, 1) := by decide +kernel
theorem dL_act_155 : decode cL_act 155 = .ok (.iconst 0, 1) := by decide +kernel
theorem dL_act_156 : decode cL_act 156 = .ok (.iaload, 1) := by decide +kernel
theorem dL_act_157 : decode cL_act 157 = .ok (.imul, 1) := by decide +kernel
theorem dL_act_158 : decode cL_act 158 = .ok (.iload 8, 2) := by decide +kernel
theorem dL_act_160 : decode cL_act 160 = .ok (.iadd, 1) := by decide +kernel
theorem dL_act_161 : decode cL_act 161 = .ok (.iastore, 1) := by decide +kernel
theorem dL_act_162 : decode cL_act 162 = .ok (.aload 5, 2) := by decide +kernel
theorem dL_act_164 : decode cL_act 164 = .ok (.aload_n 3, 1) := by decide +kernel
theorem dL_act_165 : decode cL_act 165 = .ok (.bipush 10, 2) := by decide +kernel
theorem dL_act_167 : decode cL_act 167 = .ok (.iaload, 1) := by decide +kernel
theorem dL_act_168 : decode cL_act 168 = .ok (.aload_n 3, 1) := by decide +kernel
theorem dL_act_169 : decode cL_act 169 = .ok (.iload 8, 2) := by decide +kernel
theorem dL_act_171 : decode cL_act 171 = .ok (.invokestatic 73, 3) := by decide +kernel
theorem dL_act_174 : decode cL_act 174 = .ok (.iastore, 1) := by decide +kernel
theorem dL_act_175 : decode cL_act 175 = .ok (.aload 6, 2) := by decide +kernel
theorem dL_act_177 : decode cL_act 177 = .ok (.aload_n 3, 1) := by decide +kernel
theorem dL_act_178 : decode cL_act 178 = .ok (.bipush 10, 2) := by decide +kernel
theorem dL_act_180 : decode cL_act 180 = .ok (.iaload, 1) := by decide +kernel
theorem dL_act_181 : decode cL_act 181 = .ok (.sipush 1000, 3) := by decide +kernel
theorem dL_act_184 : decode cL_act 184 = .ok (.aload_n 3, 1) := by decide +kernel
theorem dL_act_185 : decode cL_act 185 = .ok (.iload 8, 2) := by decide +kernel
theorem dL_act_187 : decode cL_act 187 = .ok (.invokestatic 66, 3) := by decide +kernel
theorem dL_act_190 : decode cL_act 190 = .ok (.imul, 1) := by decide +kernel
theorem dL_act_191 : decode cL_act 191 = .ok (.aload_n 3, 1) := by decide +kernel
theorem dL_act_192 : decode cL_act 192 = .ok (.iload 8, 2) := by decide +kernel
theorem dL_act_194 : decode cL_act 194 = .ok (.invokestatic 56, 3) := by decide +kernel
theorem dL_act_197 : decode cL_act 197 = .ok (.iadd, 1) := by decide +kernel
theorem dL_act_198 : decode cL_act 198 = .ok (.iastore, 1) := by decide +kernel
theorem dL_act_199 : decode cL_act 199 = .ok (.aload_n 3, 1) := by decide +kernel
theorem dL_act_200 : decode cL_act 200 = .ok (.bipush 10, 2) := by decide +kernel
theorem dL_act_202 : decode cL_act 202 = .ok (.dup2, 1) := by decide +kernel
theorem dL_act_203 : decode cL_act 203 = .ok (.iaload, 1) := by decide +kernel
theorem dL_act_204 : decode cL_act 204 = .ok (.iconst 1, 1) := by decide +kernel
theorem dL_act_205 : decode cL_act 205 = .ok (.iadd, 1) := by decide +kernel
theorem dL_act_206 : decode cL_act 206 = .ok (.iastore, 1) := by decide +kernel
theorem dL_act_207 : decode cL_act 207 = .ok (.aload_n 3, 1) := by decide +kernel
theorem dL_act_208 : decode cL_act 208 = .ok (.bipush 11, 2) := by decide +kernel
theorem dL_act_210 : decode cL_act 210 = .ok (.dup2, 1) := by decide +kernel
theorem dL_act_211 : decode cL_act 211 = .ok (.iaload, 1) := by decide +kernel
theorem dL_act_212 : decode cL_act 212 = .ok (.iconst 1, 1) := by decide +kernel
theorem dL_act_213 : decode cL_act 213 = .ok (.iadd, 1) := by decide +kernel
theorem dL_act_214 : decode cL_act 214 = .ok (.iastore, 1) := by decide +kernel
theorem dL_act_215 : decode cL_act 215 = .ok (.aload_n 0, 1) := by decide +kernel
theorem dL_act_216 : decode cL_act 216 = .ok (.iload 8, 2) := by decide +kernel
theorem dL_act_218 : decode cL_act 218 = .ok (.invokestatic 125, 3) := by decide +kernel
theorem dL_act_221 : decode cL_act 221 = .ok (.aload_n 3, 1) := by decide +kernel
theorem dL_act_222 : decode cL_act 222 = .ok (.iload 8, 2) := by decide +kernel
theorem dL_act_224 : decode cL_act 224 = .ok (.invokestatic 73, 3) := by decide +kernel
theorem dL_act_227 : decode cL_act 227 = .ok (.sipush 10000, 3) := by decide +kernel
theorem dL_act_230 : decode cL_act 230 = .ok (.iadd, 1) := by decide +kernel
theorem dL_act_231 : decode cL_act 231 = .ok (.if_icmp .ne 7, 3) := by decide +kernel
theorem dL_act_234 : decode cL_act 234 = .ok (.iconst 1, 1) := by decide +kernel
theorem dL_act_235 : decode cL_act 235 = .ok (.goto 4, 3) := by decide +kernel
theorem dL_act_238 : decode cL_act 238 = .ok (.iconst 0, 1) := by decide +kernel
theorem dL_act_239 : decode cL_act 239 = .ok (.ireturn, 1) := by decide +kernel
theorem dL_act_240 : decode cL_act 240 = .ok (.iload 7, 2) := by decide +kernel
theorem dL_act_242 : decode cL_act 242 = .ok (.bipush 14, 2) := by decide +kernel
theorem dL_act_244 : decode cL_act 244 = .ok (.if_icmp .ge 63, 3) := by decide +kernel
theorem dL_act_247 : decode cL_act 247 = .ok (.iconst 1, 1) := by decide +kernel
theorem dL_act_248 : decode cL_act 248 = .ok (.iload_n 2, 1) := by decide +kernel
theorem dL_act_249 : decode cL_act 249 = .ok (.iload_n 2, 1) := by decide +kernel
theorem dL_act_250 : decode cL_act 250 = .ok (.bipush 8, 2) := by decide +kernel
theorem dL_act_252 : decode cL_act 252 = .ok (.ishr, 1) := by decide +kernel
theorem dL_act_253 : decode cL_act 253 = .ok (.iconst 3, 1) := by decide +kernel
theorem dL_act_254 : decode cL_act 254 = .ok (.iand, 1) := by decide +kernel
theorem dL_act_255 : decode cL_act 255 = .ok (.ifCond .ne 8, 3) := by decide +kernel
theorem dL_act_258 : decode cL_act 258 = .ok (.bipush 99, 2) := by decide +kernel
theorem dL_act_260 : decode cL_act 260 = .ok (.goto 5, 3) := by decide +kernel
theorem dL_act_263 : decode cL_act 263 = .ok (.bipush 6, 2) := by decide +kernel
theorem dL_act_265 : decode cL_act 265 = .ok (.invokestatic 97, 3) := by decide +kernel
theorem dL_act_268 : decode cL_act 268 = .ok (.iadd, 1) := by decide +kernel
theorem dL_act_269 : decode cL_act 269 = .ok (.istore 8, 2) := by decide +kernel
theorem dL_act_271 : decode cL_act 271 = .ok (.aload_n 3, 1) := by decide +kernel
theorem dL_act_272 : decode cL_act 272 = .ok (.iload 8, 2) := by decide +kernel
theorem dL_act_274 : decode cL_act 274 = .ok (.invokestatic 100, 3) := by decide +kernel
theorem dL_act_277 : decode cL_act 277 = .ok (.istore 9, 2) := by decide +kernel
theorem dL_act_279 : decode cL_act 279 = .ok (.aload_n 0, 1) := by decide +kernel
theorem dL_act_280 : decode cL_act 280 = .ok (.iload 8, 2) := by decide +kernel
theorem dL_act_282 : decode cL_act 282 = .ok (.invokestatic 127, 3) := by decide +kernel
theorem dL_act_285 : decode cL_act 285 = .ok (.iload 9, 2) := by decide +kernel
theorem dL_act_287 : decode cL_act 287 = .ok (.if_icmp .ne 18, 3) := by decide +kernel
theorem dL_act_290 : decode cL_act 290 = .ok (.aload_n 0, 1) := by decide +kernel
theorem dL_act_291 : decode cL_act 291 = .ok (.bipush 100, 2) := by decide +kernel
theorem dL_act_293 : decode cL_act 293 = .ok (.invokestatic 127, 3) := by decide +kernel
theorem dL_act_296 : decode cL_act 296 = .ok (.bipush (-32), 2) := by decide +kernel
theorem dL_act_298 : decode cL_act 298 = .ok (.if_icmp .ne 7, 3) := by decide +kernel
theorem dL_act_301 : decode cL_act 301 = .ok (.iconst 1, 1) := by decide +kernel
theorem dL_act_302 : decode cL_act 302 = .ok (.goto 4, 3) := by decide +kernel
theorem dL_act_305 : decode cL_act 305 = .ok (.iconst 0, 1) := by decide +kernel
theorem dL_act_306 : decode cL_act 306 = .ok (.ireturn, 1) := by decide +kernel
theorem dL_act_307 : decode cL_act 307 = .ok (.iload 7, 2) := by decide +kernel
theorem dL_act_309 : decode cL_act 309 = .ok (.bipush 14, 2) := by decide +kernel
theorem dL_act_311 : decode cL_act 311 = .ok (.if_icmp .ne 89, 3) := by decide +kernel
theorem dL_act_314 : decode cL_act 314 = .ok (.iload_n 2, 1) := by decide +kernel
theorem dL_act_315 : decode cL_act 315 = .ok (.bipush 6, 2) := by decide +kernel
theorem dL_act_317 : decode cL_act 317 = .ok (.invokestatic 97, 3) := by decide +kernel
theorem dL_act_320 : decode cL_act 320 = .ok (.istore 8, 2) := by decide +kernel
theorem dL_act_322 : decode cL_act 322 = .ok (.aload_n 3, 1) := by decide +kernel
theorem dL_act_323 : decode cL_act 323 = .ok (.bipush 16, 2) := by decide +kernel
theorem dL_act_325 : decode cL_act 325 = .ok (.iload 8, 2) := by decide +kernel
theorem dL_act_327 : decode cL_act 327 = .ok (.iadd, 1) := by decide +kernel
theorem dL_act_328 : decode cL_act 328 = .ok (.iaload, 1) := by decide +kernel
theorem dL_act_329 : decode cL_act 329 = .ok (.istore 9, 2) := by decide +kernel
theorem dL_act_331 : decode cL_act 331 = .ok (.aload_n 3, 1) := by decide +kernel
theorem dL_act_332 : decode cL_act 332 = .ok (.bipush 16, 2) := by decide +kernel
theorem dL_act_334 : decode cL_act 334 = .ok (.iload 8, 2) := by decide +kernel
theorem dL_act_336 : decode cL_act 336 = .ok (.iadd, 1) := by decide +kernel
theorem dL_act_337 : decode cL_act 337 = .ok (.iload_n 2, 1) := by decide +kernel
theorem dL_act_338 : decode cL_act 338 = .ok (.iconst 3, 1) := by decide +kernel
theorem dL_act_339 : decode cL_act 339 = .ok (.ishr, 1) := by decide +kernel
theorem dL_act_340 : decode cL_act 340 = .ok (.bipush 121, 2) := by decide +kernel
theorem dL_act_342 : decode cL_act 342 = .ok (.invokestatic 97, 3) := by decide +kernel
theorem dL_act_345 : decode cL_act 345 = .ok (.bipush 60, 2) := by decide +kernel
theorem dL_act_347 : decode cL_act 347 = .ok (.isub, 1) := by decide +kernel
theorem dL_act_348 : decode cL_act 348 = .ok (.iastore, 1) := by decide +kernel
theorem dL_act_349 : decode cL_act 349 = .ok (.aload_n 0, 1) := by decide +kernel
theorem dL_act_350 : decode cL_act 350 = .ok (.iload 8, 2) := by decide +kernel
theorem dL_act_352 : decode cL_act 352 = .ok (.aload_n 3, 1) := by decide +kernel
theorem dL_act_353 : decode cL_act 353 = .ok (.bipush 16, 2) := by decide +kernel
theorem dL_act_355 : decode cL_act 355 = .ok (.iload 8, 2) := by decide +kernel
theorem dL_act_357 : decode cL_act 357 = .ok (.iadd, 1) := by decide +kernel
theorem dL_act_358 : decode cL_act 358 = .ok (.iaload, 1) := by decide +kernel
theorem dL_act_359 : decode cL_act 359 = .ok (.invokestatic 129, 3) := by decide +kernel
theorem dL_act_362 : decode cL_act 362 = .ok (.iload 9, 2) := by decide +kernel
theorem dL_act_364 : decode cL_act 364 = .ok (.bipush 100, 2) := by decide +kernel
theorem dL_act_366 : decode cL_act 366 = .ok (.iadd, 1) := by decide +kernel
theorem dL_act_367 : decode cL_act 367 = .ok (.if_icmp .ne 31, 3) := by decide +kernel
theorem dL_act_370 : decode cL_act 370 = .ok (.aload_n 0, 1) := by decide +kernel
theorem dL_act_371 : decode cL_act 371 = .ok (.bipush 6, 2) := by decide +kernel
theorem dL_act_373 : decode cL_act 373 = .ok (.iconst 0, 1) := by decide +kernel
theorem dL_act_374 : decode cL_act 374 = .ok (.invokestatic 129, 3) := by decide +kernel
theorem dL_act_377 : decode cL_act 377 = .ok (.bipush (-31), 2) := by decide +kernel
theorem dL_act_379 : decode cL_act 379 = .ok (.if_icmp .ne 19, 3) := by decide +kernel
theorem dL_act_382 : decode cL_act 382 = .ok (.aload_n 0, 1) := by decide +kernel
theorem dL_act_383 : decode cL_act 383 = .ok (.iconst 0, 1) := by decide +kernel
theorem dL_act_384 : decode cL_act 384 = .ok (.bipush 61, 2) := by decide +kernel
theorem dL_act_386 : decode cL_act 386 = .ok (.invokestatic 129, 3) := by decide +kernel
theorem dL_act_389 : decode cL_act 389 = .ok (.bipush (-32), 2) := by decide +kernel
theorem dL_act_391 : decode cL_act 391 = .ok (.if_icmp .ne 7, 3) := by decide +kernel
theorem dL_act_394 : decode cL_act 394 = .ok (.iconst 1, 1) := by decide +kernel
theorem dL_act_395 : decode cL_act 395 = .ok (.goto 4, 3) := by decide +kernel
theorem dL_act_398 : decode cL_act 398 = .ok (.iconst 0, 1) := by decide +kernel
theorem dL_act_399 : decode cL_act 399 = .ok (.ireturn, 1) := by decide +kernel
theorem dL_act_400 : decode cL_act 400 = .ok (.iload 7, 2) := by decide +kernel
theorem dL_act_402 : decode cL_act 402 = .ok (.bipush 15, 2) := by decide +kernel
theorem dL_act_404 : decode cL_act 404 = .ok (.if_icmp .ne 122, 3) := by decide +kernel
theorem dL_act_407 : decode cL_act 407 = .ok (.aload_n 3, 1) := by decide +kernel
theorem dL_act_408 : decode cL_act 408 = .ok (.iconst 2, 1) := by decide +kernel
theorem dL_act_409 : decode cL_act 409 = .ok (.iaload, 1) := by decide +kernel
theorem dL_act_410 : decode cL_act 410 = .ok (.istore 8, 2) := by decide +kernel
theorem dL_act_412 : decode cL_act 412 = .ok (.aload_n 3, 1) := by decide +kernel
theorem dL_act_413 : decode cL_act 413 = .ok (.iconst 2, 1) := by decide +kernel
theorem dL_act_414 : decode cL_act 414 = .ok (.iload_n 2, 1) := by decide +kernel
theorem dL_act_415 : decode cL_act 415 = .ok (.sipush 199, 3) := by decide +kernel
theorem dL_act_418 : decode cL_act 418 = .ok (.invokestatic 97, 3) := by decide +kernel
theorem dL_act_421 : decode cL_act 421 = .ok (.bipush 99, 2) := by decide +kernel
theorem dL_act_423 : decode cL_act 423 = .ok (.isub, 1) := by decide +kernel
theorem dL_act_424 : decode cL_act 424 = .ok (.iastore, 1) := by decide +kernel
theorem dL_act_425 : decode cL_act 425 = .ok (.aload_n 3, 1) := by decide +kernel
theorem dL_act_426 : decode cL_act 426 = .ok (.iconst 3, 1) := by decide +kernel
theorem dL_act_427 : decode cL_act 427 = .ok (.iload_n 2, 1) := by decide +kernel
theorem dL_act_428 : decode cL_act 428 = .ok (.bipush 8, 2) := by decide +kernel
theorem dL_act_430 : decode cL_act 430 = .ok (.ishr, 1) := by decide +kernel
theorem dL_act_431 : decode cL_act 431 = .ok (.iload_n 2, 1) := by decide +kernel
theorem dL_act_432 : decode cL_act 432 = .ok (.bipush 20, 2) := by decide +kernel
theorem dL_act_434 : decode cL_act 434 = .ok (.ishr, 1) := by decide +kernel
theorem dL_act_435 : decode cL_act 435 = .ok (.iconst 1, 1) := by decide +kernel
theorem dL_act_436 : decode cL_act 436 = .ok (.iand, 1) := by decide +kernel
theorem dL_act_437 : decode cL_act 437 = .ok (.ifCond .ne 8, 3) := by decide +kernel
theorem dL_act_440 : decode cL_act 440 = .ok (.bipush 101, 2) := by decide +kernel
theorem dL_act_442 : decode cL_act 442 = .ok (.goto 5, 3) := by decide +kernel
theorem dL_act_445 : decode cL_act 445 = .ok (.bipush 20, 2) := by decide +kernel
theorem dL_act_447 : decode cL_act 447 = .ok (.invokestatic 97, 3) := by decide +kernel
theorem dL_act_450 : decode cL_act 450 = .ok (.bipush 50, 2) := by decide +kernel
theorem dL_act_452 : decode cL_act 452 = .ok (.isub, 1) := by decide +kernel
theorem dL_act_453 : decode cL_act 453 = .ok (.iastore, 1) := by decide +kernel
theorem dL_act_454 : decode cL_act 454 = .ok (.aload_n 3, 1) := by decide +kernel
theorem dL_act_455 : decode cL_act 455 = .ok (.iconst 3, 1) := by decide +kernel
theorem dL_act_456 : decode cL_act 456 = .ok (.iload_n 2, 1) := by decide +kernel
theorem dL_act_457 : decode cL_act 457 = .ok (.bipush 20, 2) := by decide +kernel
theorem dL_act_459 : decode cL_act 459 = .ok (.ishr, 1) := by decide +kernel
theorem dL_act_460 : decode cL_act 460 = .ok (.iconst 1, 1) := by decide +kernel
theorem dL_act_461 : decode cL_act 461 = .ok (.iand, 1) := by decide +kernel
theorem dL_act_462 : decode cL_act 462 = .ok (.ifCond .ne 9, 3) := by decide +kernel
theorem dL_act_465 : decode cL_act 465 = .ok (.aload_n 3, 1) := by decide +kernel
theorem dL_act_466 : decode cL_act 466 = .ok (.iconst 3, 1) := by decide +kernel
theorem dL_act_467 : decode cL_act 467 = .ok (.iaload, 1) := by decide +kernel
theorem dL_act_468 : decode cL_act 468 = .ok (.goto 9, 3) := by decide +kernel
theorem dL_act_471 : decode cL_act 471 = .ok (.aload_n 3, 1) := by decide +kernel
theorem dL_act_472 : decode cL_act 472 = .ok (.iconst 3, 1) := by decide +kernel
theorem dL_act_473 : decode cL_act 473 = .ok (.iaload, 1) := by decide +kernel
theorem dL_act_474 : decode cL_act 474 = .ok (.bipush 40, 2) := by decide +kernel
theorem dL_act_476 : decode cL_act 476 = .ok (.iadd, 1) := by decide +kernel
theorem dL_act_477 : decode cL_act 477 = .ok (.iastore, 1) := by decide +kernel
theorem dL_act_478 : decode cL_act 478 = .ok (.aload_n 0, 1) := by decide +kernel
theorem dL_act_479 : decode cL_act 479 = .ok (.aload_n 3, 1) := by decide +kernel
theorem dL_act_480 : decode cL_act 480 = .ok (.iconst 2, 1) := by decide +kernel
theorem dL_act_481 : decode cL_act 481 = .ok (.iaload, 1) := by decide +kernel
theorem dL_act_482 : decode cL_act 482 = .ok (.aload_n 3, 1) := by decide +kernel
theorem dL_act_483 : decode cL_act 483 = .ok (.iconst 3, 1) := by decide +kernel
theorem dL_act_484 : decode cL_act 484 = .ok (.iaload, 1) := by decide +kernel
theorem dL_act_485 : decode cL_act 485 = .ok (.invokestatic 132, 3) := by decide +kernel
theorem dL_act_488 : decode cL_act 488 = .ok (.iload 8, 2) := by decide +kernel
theorem dL_act_490 : decode cL_act 490 = .ok (.bipush 100, 2) := by decide +kernel
theorem dL_act_492 : decode cL_act 492 = .ok (.iadd, 1) := by decide +kernel
theorem dL_act_493 : decode cL_act 493 = .ok (.if_icmp .ne 31, 3) := by decide +kernel
theorem dL_act_496 : decode cL_act 496 = .ok (.aload_n 0, 1) := by decide +kernel
theorem dL_act_497 : decode cL_act 497 = .ok (.bipush 100, 2) := by decide +kernel
theorem dL_act_499 : decode cL_act 499 = .ok (.iconst 0, 1) := by decide +kernel
theorem dL_act_500 : decode cL_act 500 = .ok (.invokestatic 132, 3) := by decide +kernel
theorem dL_act_503 : decode cL_act 503 = .ok (.bipush (-32), 2) := by decide +kernel
theorem dL_act_505 : decode cL_act 505 = .ok (.if_icmp .ne 19, 3) := by decide +kernel
theorem dL_act_508 : decode cL_act 508 = .ok (.aload_n 0, 1) := by decide +kernel
theorem dL_act_509 : decode cL_act 509 = .ok (.iconst 0, 1) := by decide +kernel
theorem dL_act_510 : decode cL_act 510 = .ok (.bipush (-51), 2) := by decide +kernel
theorem dL_act_512 : decode cL_act 512 = .ok (.invokestatic 132, 3) := by decide +kernel
theorem dL_act_515 : decode cL_act 515 = .ok (.bipush (-32), 2) := by decide +kernel
theorem dL_act_517 : decode cL_act 517 = .ok (.if_icmp .ne 7, 3) := by decide +kernel
theorem dL_act_520 : decode cL_act 520 = .ok (.iconst 1, 1) := by decide +kernel
theorem dL_act_521 : decode cL_act 521 = .ok (.goto 4, 3) := by decide +kernel
theorem dL_act_524 : decode cL_act 524 = .ok (.iconst 0, 1) := by decide +kernel
theorem dL_act_525 : decode cL_act 525 = .ok (.ireturn, 1) := by decide +kernel
theorem dL_act_526 : decode cL_act 526 = .ok (.iload 7, 2) := by decide +kernel
theorem dL_act_528 : decode cL_act 528 = .ok (.bipush 16, 2) := by decide +kernel
theorem dL_act_530 : decode cL_act 530 = .ok (.if_icmp .ne 112, 3) := by decide +kernel
theorem dL_act_533 : decode cL_act 533 = .ok (.iload_n 2, 1) := by decide +kernel
theorem dL_act_534 : decode cL_act 534 = .ok (.iconst 1, 1) := by decide +kernel
theorem dL_act_535 : decode cL_act 535 = .ok (.iand, 1) := by decide +kernel
theorem dL_act_536 : decode cL_act 536 = .ok (.ifCond .ne 82, 3) := by decide +kernel
theorem dL_act_539 : decode cL_act 539 = .ok (.iconst 1, 1) := by decide +kernel
theorem dL_act_540 : decode cL_act 540 = .ok (.iload_n 2, 1) := by decide +kernel
theorem dL_act_541 : decode cL_act 541 = .ok (.iconst 1, 1) := by decide +kernel
theorem dL_act_542 : decode cL_act 542 = .ok (.ishr, 1) := by decide +kernel
theorem dL_act_543 : decode cL_act 543 = .ok (.iload_n 2, 1) := by decide +kernel
theorem dL_act_544 : decode cL_act 544 = .ok (.bipush 9, 2) := by decide +kernel
theorem dL_act_546 : decode cL_act 546 = .ok (.ishr, 1) := by decide +kernel
theorem dL_act_547 : decode cL_act 547 = .ok (.iconst 1, 1) := by decide +kernel
theorem dL_act_548 : decode cL_act 548 = .ok (.iand, 1) := by decide +kernel
theorem dL_act_549 : decode cL_act 549 = .ok (.ifCond .ne 8, 3) := by decide +kernel
theorem dL_act_552 : decode cL_act 552 = .ok (.bipush 20, 2) := by decide +kernel
theorem dL_act_554 : decode cL_act 554 = .ok (.goto 5, 3) := by decide +kernel
theorem dL_act_557 : decode cL_act 557 = .ok (.bipush 100, 2) := by decide +kernel
theorem dL_act_559 : decode cL_act 559 = .ok (.invokestatic 97, 3) := by decide +kernel
theorem dL_act_562 : decode cL_act 562 = .ok (.iadd, 1) := by decide +kernel
theorem dL_act_563 : decode cL_act 563 = .ok (.istore 8, 2) := by decide +kernel
theorem dL_act_565 : decode cL_act 565 = .ok (.aload_n 3, 1) := by decide +kernel
theorem dL_act_566 : decode cL_act 566 = .ok (.iconst 4, 1) := by decide +kernel
theorem dL_act_567 : decode cL_act 567 = .ok (.aload_n 3, 1) := by decide +kernel
theorem dL_act_568 : decode cL_act 568 = .ok (.iconst 4, 1) := by decide +kernel
theorem dL_act_569 : decode cL_act 569 = .ok (.iaload, 1) := by decide +kernel
theorem dL_act_570 : decode cL_act 570 = .ok (.iload 8, 2) := by decide +kernel
