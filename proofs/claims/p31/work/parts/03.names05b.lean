theorem dL_arePoses_375 : decode cL_arePoses 375 = .ok (.if_icmp .le 7, 3) := by decide +kernel
theorem dL_arePoses_378 : decode cL_arePoses 378 = .ok (.iconst 1, 1) := by decide +kernel
theorem dL_arePoses_379 : decode cL_arePoses 379 = .ok (.goto 4, 3) := by decide +kernel
theorem dL_arePoses_382 : decode cL_arePoses 382 = .ok (.iconst 0, 1) := by decide +kernel
theorem dL_arePoses_383 : decode cL_arePoses 383 = .ok (.istore 8, 2) := by decide +kernel
theorem dL_arePoses_385 : decode cL_arePoses 385 = .ok (.iinc 4 1, 3) := by decide +kernel
theorem dL_arePoses_388 : decode cL_arePoses 388 = .ok (.iinc 10 1, 3) := by decide +kernel
theorem dL_arePoses_391 : decode cL_arePoses 391 = .ok (.goto (-367), 3) := by decide +kernel
theorem dL_arePoses_394 : decode cL_arePoses 394 = .ok (.iload 4, 2) := by decide +kernel
theorem dL_arePoses_396 : decode cL_arePoses 396 = .ok (.bipush 6, 2) := by decide +kernel
theorem dL_arePoses_398 : decode cL_arePoses 398 = .ok (.if_icmp .ge 8, 3) := by decide +kernel
theorem dL_arePoses_401 : decode cL_arePoses 401 = .ok (.bipush 6, 2) := by decide +kernel
theorem dL_arePoses_403 : decode cL_arePoses 403 = .ok (.goto 31, 3) := by decide +kernel
theorem dL_arePoses_406 : decode cL_arePoses 406 = .ok (.iload 8, 2) := by decide +kernel
theorem dL_arePoses_408 : decode cL_arePoses 408 = .ok (.ifCond .eq 8, 3) := by decide +kernel
theorem dL_arePoses_411 : decode cL_arePoses 411 = .ok (.bipush 7, 2) := by decide +kernel
theorem dL_arePoses_413 : decode cL_arePoses 413 = .ok (.goto 21, 3) := by decide +kernel
theorem dL_arePoses_416 : decode cL_arePoses 416 = .ok (.iload 7, 2) := by decide +kernel
theorem dL_arePoses_418 : decode cL_arePoses 418 = .ok (.iload 6, 2) := by decide +kernel
theorem dL_arePoses_420 : decode cL_arePoses 420 = .ok (.isub, 1) := by decide +kernel
theorem dL_arePoses_421 : decode cL_arePoses 421 = .ok (.aload_n 1, 1) := by decide +kernel
theorem dL_arePoses_422 : decode cL_arePoses 422 = .ok (.bipush 15, 2) := by decide +kernel
theorem dL_arePoses_424 : decode cL_arePoses 424 = .ok (.iaload, 1) := by decide +kernel
theorem dL_arePoses_425 : decode cL_arePoses 425 = .ok (.if_icmp .le 8, 3) := by decide +kernel
theorem dL_arePoses_428 : decode cL_arePoses 428 = .ok (.bipush 8, 2) := by decide +kernel
theorem dL_arePoses_430 : decode cL_arePoses 430 = .ok (.goto 4, 3) := by decide +kernel
theorem dL_arePoses_433 : decode cL_arePoses 433 = .ok (.iconst 0, 1) := by decide +kernel
theorem dL_arePoses_434 : decode cL_arePoses 434 = .ok (.istore 10, 2) := by decide +kernel
theorem dL_arePoses_436 : decode cL_arePoses 436 = .ok (.iload 10, 2) := by decide +kernel
theorem dL_arePoses_438 : decode cL_arePoses 438 = .ok (.ifCond .le 7, 3) := by decide +kernel
theorem dL_arePoses_441 : decode cL_arePoses 441 = .ok (.iconst (-1), 1) := by decide +kernel
theorem dL_arePoses_442 : decode cL_arePoses 442 = .ok (.goto 14, 3) := by decide +kernel
theorem dL_arePoses_445 : decode cL_arePoses 445 = .ok (.iload 5, 2) := by decide +kernel
theorem dL_arePoses_447 : decode cL_arePoses 447 = .ok (.bipush 6, 2) := by decide +kernel
theorem dL_arePoses_449 : decode cL_arePoses 449 = .ok (.invokestatic 63, 3) := by decide +kernel
theorem dL_arePoses_452 : decode cL_arePoses 452 = .ok (.sipush 10000, 3) := by decide +kernel
theorem dL_arePoses_455 : decode cL_arePoses 455 = .ok (.iadd, 1) := by decide +kernel
theorem dL_arePoses_456 : decode cL_arePoses 456 = .ok (.istore 11, 2) := by decide +kernel
theorem dL_arePoses_458 : decode cL_arePoses 458 = .ok (.aload_n 0, 1) := by decide +kernel
theorem dL_arePoses_459 : decode cL_arePoses 459 = .ok (.bipush 12, 2) := by decide +kernel
theorem dL_arePoses_461 : decode cL_arePoses 461 = .ok (.invokevirtual 94, 3) := by decide +kernel
theorem dL_arePoses_464 : decode cL_arePoses 464 = .ok (.iload 11, 2) := by decide +kernel
theorem dL_arePoses_466 : decode cL_arePoses 466 = .ok (.if_icmp .ne 29, 3) := by decide +kernel
theorem dL_arePoses_469 : decode cL_arePoses 469 = .ok (.aload_n 0, 1) := by decide +kernel
theorem dL_arePoses_470 : decode cL_arePoses 470 = .ok (.bipush 13, 2) := by decide +kernel
theorem dL_arePoses_472 : decode cL_arePoses 472 = .ok (.invokevirtual 94, 3) := by decide +kernel
theorem dL_arePoses_475 : decode cL_arePoses 475 = .ok (.iload 11, 2) := by decide +kernel
theorem dL_arePoses_477 : decode cL_arePoses 477 = .ok (.if_icmp .ne 18, 3) := by decide +kernel
theorem dL_arePoses_480 : decode cL_arePoses 480 = .ok (.aload_n 0, 1) := by decide +kernel
theorem dL_arePoses_481 : decode cL_arePoses 481 = .ok (.bipush 14, 2) := by decide +kernel
theorem dL_arePoses_483 : decode cL_arePoses 483 = .ok (.invokevirtual 94, 3) := by decide +kernel
theorem dL_arePoses_486 : decode cL_arePoses 486 = .ok (.iload 10, 2) := by decide +kernel
theorem dL_arePoses_488 : decode cL_arePoses 488 = .ok (.if_icmp .ne 7, 3) := by decide +kernel
theorem dL_arePoses_491 : decode cL_arePoses 491 = .ok (.iconst 1, 1) := by decide +kernel
theorem dL_arePoses_492 : decode cL_arePoses 492 = .ok (.goto 4, 3) := by decide +kernel
theorem dL_arePoses_495 : decode cL_arePoses 495 = .ok (.iconst 0, 1) := by decide +kernel
theorem dL_arePoses_496 : decode cL_arePoses 496 = .ok (.ireturn, 1) := by decide +kernel
set_option maxRecDepth 20000 in
theorem ggL_isAhead_L_copy : GoodIn wsL_isAhead wsL_copy := goodIn_r _ [6] (by decide +kernel) (by decide +kernel)
set_option maxRecDepth 20000 in
theorem gL_isAhead_L_copy : GoodIn wsL_isAhead (va_wsS RL 84 yL_copy wsL_copy) := goodIn_app (goodIn_of _ (by decide +kernel)) ggL_isAhead_L_copy
set_option maxRecDepth 20000 in
theorem ggL_isAhead_L_low : GoodIn wsL_isAhead wsL_low := goodIn_r _ [9, 10] (by decide +kernel) (by decide +kernel)
set_option maxRecDepth 20000 in
theorem gL_isAhead_L_low : GoodIn wsL_isAhead (va_wsS RL 97 yL_low wsL_low) := goodIn_app (goodIn_of _ (by decide +kernel)) ggL_isAhead_L_low
set_option maxRecDepth 20000 in
theorem ggL_isAhead_L_hours : GoodIn wsL_isAhead wsL_hours := goodIn_r _ [13, 14, 15, 5, 16, 17, 18, 19, 20, 21, 22, 23, 24, 25, 26, 27, 28, 2] (by decide +kernel) (by decide +kernel)
set_option maxRecDepth 20000 in
theorem gL_isAhead_L_hours : GoodIn wsL_isAhead (va_wsS RL 100 yL_hours wsL_hours) := goodIn_app (goodIn_of _ (by decide +kernel)) ggL_isAhead_L_hours
set_option maxRecDepth 20000 in
theorem ggL_isAhead_X5_ifWorn : GoodIn wsL_isAhead wsX5_ifWorn := goodIn_ca (goodIn_ca (goodIn_r _ [33, 34, 35, 32, 36, 37, 38, 39, 40, 41, 42, 43, 44, 45, 46, 47, 48, 49, 50, 51, 52, 53, 54, 55, 56, 57, 58, 59, 60, 61, 62, 63, 64, 65, 66, 67, 68, 69, 70, 71, 72, 73, 74, 75, 76, 77, 78, 79, 80, 81, 82, 83, 84, 85, 86, 87, 88, 89, 90, 91, 92, 93, 94, 95, 96, 97, 98, 99, 100, 101, 102, 103, 104, 105, 106, 107, 108, 109, 110, 111, 126, 127, 128, 129, 130, 131, 132, 133, 134, 135, 136, 137, 138, 139, 140, 141, 142, 143, 144, 145, 146, 147, 148, 149] (by decide +kernel) (by decide +kernel)) (goodIn_sub (fun _ h => List.mem_cons_of_mem _ (List.mem_append_left _ (List.mem_append_right _ h))) (by decide +kernel))) (goodIn_sub (fun _ h => List.mem_cons_of_mem _ (List.mem_append_right _ h)) (by decide +kernel))
set_option maxRecDepth 20000 in
theorem gL_isAhead_X5_ifWorn : GoodIn wsL_isAhead (wsV RL 103 RX5 yX5_ifWorn wsX5_ifWorn) := goodIn_app (goodIn_of _ (by decide +kernel)) ggL_isAhead_X5_ifWorn
set_option maxRecDepth 20000 in
theorem ggL_isAhead_L_rate : GoodIn wsL_isAhead wsL_rate := goodIn_r _ [25, 20, 21, 5, 22, 26, 27, 28, 2] (by decide +kernel) (by decide +kernel)
set_option maxRecDepth 20000 in
theorem gL_isAhead_L_rate : GoodIn wsL_isAhead (va_wsS RL 73 yL_rate wsL_rate) := goodIn_app (goodIn_of _ (by decide +kernel)) ggL_isAhead_L_rate
set_option maxRecDepth 20000 in
theorem ggL_isAhead_X5_nightPose : GoodIn wsL_isAhead wsX5_nightPose := goodIn_r _ [115, 116, 51, 52, 53, 54, 55, 117, 118, 87, 119, 57, 58, 59, 60, 61, 62, 63, 64, 65, 66, 67, 68, 69, 70, 71, 72, 73, 74, 75, 76, 77, 78, 79, 80, 81, 82, 83, 84, 85, 86, 88, 89, 90, 91, 92, 93, 94, 95, 96, 97, 98, 99, 100, 101, 102, 103, 104, 105, 106, 107, 40, 32, 41, 108, 109, 110, 111, 126, 127, 128, 129, 130, 131, 132, 133, 134, 135, 136, 137, 138, 139, 140, 141, 142, 143, 144, 145, 146, 147, 148, 149] (by decide +kernel) (by decide +kernel)
set_option maxRecDepth 20000 in
theorem gL_isAhead_X5_nightPose : GoodIn wsL_isAhead (wsV RL 107 RX5 yX5_nightPose wsX5_nightPose) := goodIn_app (goodIn_of _ (by decide +kernel)) ggL_isAhead_X5_nightPose
set_option maxRecDepth 20000 in
theorem ggL_isAhead_X5_bestRegulator : GoodIn wsL_isAhead wsX5_bestRegulator := goodIn_r _ [123, 52, 53, 124, 117, 118, 87, 119, 125, 101, 102, 60, 103, 67, 70, 93, 94, 95, 96, 69, 71, 97, 98, 99, 104, 105, 106, 107, 62, 40, 32, 41, 108, 109, 110, 111, 126, 127, 128, 129, 130, 131, 132, 133, 134, 135, 136, 137, 138, 139, 140, 141, 142, 143, 144, 145, 146, 147, 148, 149] (by decide +kernel) (by decide +kernel)
set_option maxRecDepth 20000 in
theorem gL_isAhead_X5_bestRegulator : GoodIn wsL_isAhead (wsV RL 110 RX5 yX5_bestRegulator wsX5_bestRegulator) := goodIn_app (goodIn_of _ (by decide +kernel)) ggL_isAhead_X5_bestRegulator
theorem dL_isAhead_0 : decode cL_isAhead 0 = .ok (.bipush 22, 2) := by decide +kernel
theorem dL_isAhead_2 : decode cL_isAhead 2 = .ok (.newarray .int, 2) := by decide +kernel
theorem dL_isAhead_4 : decode cL_isAhead 4 = .ok (.astore_n 3, 1) := by decide +kernel
theorem dL_isAhead_5 : decode cL_isAhead 5 = .ok (.iconst 0, 1) := by decide +kernel
theorem dL_isAhead_6 : decode cL_isAhead 6 = .ok (.istore 4, 2) := by decide +kernel
theorem dL_isAhead_8 : decode cL_isAhead 8 = .ok (.iconst 0, 1) := by decide +kernel
theorem dL_isAhead_9 : decode cL_isAhead 9 = .ok (.istore 5, 2) := by decide +kernel
theorem dL_isAhead_11 : decode cL_isAhead 11 = .ok (.iconst 0, 1) := by decide +kernel
theorem dL_isAhead_12 : decode cL_isAhead 12 = .ok (.istore 6, 2) := by decide +kernel
theorem dL_isAhead_14 : decode cL_isAhead 14 = .ok (.iconst 0, 1) := by decide +kernel
theorem dL_isAhead_15 : decode cL_isAhead 15 = .ok (.istore 7, 2) := by decide +kernel
theorem dL_isAhead_17 : decode cL_isAhead 17 = .ok (.aload_n 1, 1) := by decide +kernel
theorem dL_isAhead_18 : decode cL_isAhead 18 = .ok (.aload_n 3, 1) := by decide +kernel
theorem dL_isAhead_19 : decode cL_isAhead 19 = .ok (.invokestatic 84, 3) := by decide +kernel
theorem dL_isAhead_22 : decode cL_isAhead 22 = .ok (.iconst 0, 1) := by decide +kernel
theorem dL_isAhead_23 : decode cL_isAhead 23 = .ok (.istore 8, 2) := by decide +kernel
theorem dL_isAhead_25 : decode cL_isAhead 25 = .ok (.iconst 0, 1) := by decide +kernel
theorem dL_isAhead_26 : decode cL_isAhead 26 = .ok (.istore 9, 2) := by decide +kernel
theorem dL_isAhead_28 : decode cL_isAhead 28 = .ok (.iload 9, 2) := by decide +kernel
theorem dL_isAhead_30 : decode cL_isAhead 30 = .ok (.iconst 3, 1) := by decide +kernel
theorem dL_isAhead_31 : decode cL_isAhead 31 = .ok (.if_icmp .ge 35, 3) := by decide +kernel
theorem dL_isAhead_34 : decode cL_isAhead 34 = .ok (.aload_n 3, 1) := by decide +kernel
theorem dL_isAhead_35 : decode cL_isAhead 35 = .ok (.bipush 6, 2) := by decide +kernel
theorem dL_isAhead_37 : decode cL_isAhead 37 = .ok (.iload_n 2, 1) := by decide +kernel
theorem dL_isAhead_38 : decode cL_isAhead 38 = .ok (.iconst 3, 1) := by decide +kernel
theorem dL_isAhead_39 : decode cL_isAhead 39 = .ok (.iload 9, 2) := by decide +kernel
theorem dL_isAhead_41 : decode cL_isAhead 41 = .ok (.imul, 1) := by decide +kernel
theorem dL_isAhead_42 : decode cL_isAhead 42 = .ok (.ishr, 1) := by decide +kernel
theorem dL_isAhead_43 : decode cL_isAhead 43 = .ok (.bipush 6, 2) := by decide +kernel
theorem dL_isAhead_45 : decode cL_isAhead 45 = .ok (.invokestatic 97, 3) := by decide +kernel
theorem dL_isAhead_48 : decode cL_isAhead 48 = .ok (.iastore, 1) := by decide +kernel
theorem dL_isAhead_49 : decode cL_isAhead 49 = .ok (.iload 8, 2) := by decide +kernel
theorem dL_isAhead_51 : decode cL_isAhead 51 = .ok (.aload_n 3, 1) := by decide +kernel
theorem dL_isAhead_52 : decode cL_isAhead 52 = .ok (.bipush 8, 2) := by decide +kernel
theorem dL_isAhead_54 : decode cL_isAhead 54 = .ok (.invokestatic 100, 3) := by decide +kernel
theorem dL_isAhead_57 : decode cL_isAhead 57 = .ok (.iadd, 1) := by decide +kernel
theorem dL_isAhead_58 : decode cL_isAhead 58 = .ok (.istore 8, 2) := by decide +kernel
theorem dL_isAhead_60 : decode cL_isAhead 60 = .ok (.iinc 9 1, 3) := by decide +kernel
theorem dL_isAhead_63 : decode cL_isAhead 63 = .ok (.goto (-35), 3) := by decide +kernel
theorem dL_isAhead_66 : decode cL_isAhead 66 = .ok (.iload_n 2, 1) := by decide +kernel
theorem dL_isAhead_67 : decode cL_isAhead 67 = .ok (.bipush 6, 2) := by decide +kernel
theorem dL_isAhead_69 : decode cL_isAhead 69 = .ok (.invokestatic 97, 3) := by decide +kernel
theorem dL_isAhead_72 : decode cL_isAhead 72 = .ok (.istore 9, 2) := by decide +kernel
theorem dL_isAhead_74 : decode cL_isAhead 74 = .ok (.iload_n 2, 1) := by decide +kernel
theorem dL_isAhead_75 : decode cL_isAhead 75 = .ok (.iconst 3, 1) := by decide +kernel
theorem dL_isAhead_76 : decode cL_isAhead 76 = .ok (.ishr, 1) := by decide +kernel
theorem dL_isAhead_77 : decode cL_isAhead 77 = .ok (.bipush 6, 2) := by decide +kernel
theorem dL_isAhead_79 : decode cL_isAhead 79 = .ok (.invokestatic 97, 3) := by decide +kernel
theorem dL_isAhead_82 : decode cL_isAhead 82 = .ok (.istore 10, 2) := by decide +kernel
theorem dL_isAhead_84 : decode cL_isAhead 84 = .ok (.iload_n 2, 1) := by decide +kernel
theorem dL_isAhead_85 : decode cL_isAhead 85 = .ok (.bipush 6, 2) := by decide +kernel
theorem dL_isAhead_87 : decode cL_isAhead 87 = .ok (.ishr, 1) := by decide +kernel
theorem dL_isAhead_88 : decode cL_isAhead 88 = .ok (.bipush 6, 2) := by decide +kernel
theorem dL_isAhead_90 : decode cL_isAhead 90 = .ok (.invokestatic 97, 3) := by decide +kernel
theorem dL_isAhead_93 : decode cL_isAhead 93 = .ok (.istore 11, 2) := by decide +kernel
theorem dL_isAhead_95 : decode cL_isAhead 95 = .ok (.aload_n 0, 1) := by decide +kernel
theorem dL_isAhead_96 : decode cL_isAhead 96 = .ok (.iload 9, 2) := by decide +kernel
theorem dL_isAhead_98 : decode cL_isAhead 98 = .ok (.iload 10, 2) := by decide +kernel
theorem dL_isAhead_100 : decode cL_isAhead 100 = .ok (.iload 11, 2) := by decide +kernel
theorem dL_isAhead_102 : decode cL_isAhead 102 = .ok (.iconst 0, 1) := by decide +kernel
theorem dL_isAhead_103 : decode cL_isAhead 103 = .ok (.invokevirtual 103, 3) := by decide +kernel
theorem dL_isAhead_106 : decode cL_isAhead 106 = .ok (.aload_n 3, 1) := by decide +kernel
theorem dL_isAhead_107 : decode cL_isAhead 107 = .ok (.bipush 7, 2) := by decide +kernel
theorem dL_isAhead_109 : decode cL_isAhead 109 = .ok (.iaload, 1) := by decide +kernel
theorem dL_isAhead_110 : decode cL_isAhead 110 = .ok (.aload_n 1, 1) := by decide +kernel
theorem dL_isAhead_111 : decode cL_isAhead 111 = .ok (.bipush 7, 2) := by decide +kernel
theorem dL_isAhead_113 : decode cL_isAhead 113 = .ok (.iaload, 1) := by decide +kernel
theorem dL_isAhead_114 : decode cL_isAhead 114 = .ok (.isub, 1) := by decide +kernel
theorem dL_isAhead_115 : decode cL_isAhead 115 = .ok (.ldc 62, 2) := by decide +kernel
theorem dL_isAhead_117 : decode cL_isAhead 117 = .ok (.iadd, 1) := by decide +kernel
theorem dL_isAhead_118 : decode cL_isAhead 118 = .ok (.if_icmp .ne 19, 3) := by decide +kernel
theorem dL_isAhead_121 : decode cL_isAhead 121 = .ok (.aload_n 0, 1) := by decide +kernel
theorem dL_isAhead_122 : decode cL_isAhead 122 = .ok (.iload 9, 2) := by decide +kernel
theorem dL_isAhead_124 : decode cL_isAhead 124 = .ok (.iload 10, 2) := by decide +kernel
theorem dL_isAhead_126 : decode cL_isAhead 126 = .ok (.iload 11, 2) := by decide +kernel
theorem dL_isAhead_128 : decode cL_isAhead 128 = .ok (.iconst 1, 1) := by decide +kernel
theorem dL_isAhead_129 : decode cL_isAhead 129 = .ok (.invokevirtual 103, 3) := by decide +kernel
theorem dL_isAhead_132 : decode cL_isAhead 132 = .ok (.iload 8, 2) := by decide +kernel
theorem dL_isAhead_134 : decode cL_isAhead 134 = .ok (.if_icmp .eq 5, 3) := by decide +kernel
theorem dL_isAhead_137 : decode cL_isAhead 137 = .ok (.iconst 0, 1) := by decide +kernel
theorem dL_isAhead_138 : decode cL_isAhead 138 = .ok (.ireturn, 1) := by decide +kernel
theorem dL_isAhead_139 : decode cL_isAhead 139 = .ok (.iconst 0, 1) := by decide +kernel
theorem dL_isAhead_140 : decode cL_isAhead 140 = .ok (.istore 12, 2) := by decide +kernel
theorem dL_isAhead_142 : decode cL_isAhead 142 = .ok (.iload 12, 2) := by decide +kernel
theorem dL_isAhead_144 : decode cL_isAhead 144 = .ok (.bipush 6, 2) := by decide +kernel
theorem dL_isAhead_146 : decode cL_isAhead 146 = .ok (.if_icmp .ge 105, 3) := by decide +kernel
theorem dL_isAhead_149 : decode cL_isAhead 149 = .ok (.aload_n 1, 1) := by decide +kernel
theorem dL_isAhead_150 : decode cL_isAhead 150 = .ok (.aload_n 3, 1) := by decide +kernel
theorem dL_isAhead_151 : decode cL_isAhead 151 = .ok (.invokestatic 84, 3) := by decide +kernel
theorem dL_isAhead_154 : decode cL_isAhead 154 = .ok (.aload_n 3, 1) := by decide +kernel
theorem dL_isAhead_155 : decode cL_isAhead 155 = .ok (.bipush 6, 2) := by decide +kernel
theorem dL_isAhead_157 : decode cL_isAhead 157 = .ok (.iload 12, 2) := by decide +kernel
theorem dL_isAhead_159 : decode cL_isAhead 159 = .ok (.iastore, 1) := by decide +kernel
theorem dL_isAhead_160 : decode cL_isAhead 160 = .ok (.aload_n 3, 1) := by decide +kernel
theorem dL_isAhead_161 : decode cL_isAhead 161 = .ok (.bipush 8, 2) := by decide +kernel
theorem dL_isAhead_163 : decode cL_isAhead 163 = .ok (.invokestatic 100, 3) := by decide +kernel
theorem dL_isAhead_166 : decode cL_isAhead 166 = .ok (.pop, 1) := by decide +kernel
theorem dL_isAhead_167 : decode cL_isAhead 167 = .ok (.aload_n 3, 1) := by decide +kernel
theorem dL_isAhead_168 : decode cL_isAhead 168 = .ok (.bipush 7, 2) := by decide +kernel
theorem dL_isAhead_170 : decode cL_isAhead 170 = .ok (.iaload, 1) := by decide +kernel
theorem dL_isAhead_171 : decode cL_isAhead 171 = .ok (.ifCond .ge 11, 3) := by decide +kernel
theorem dL_isAhead_174 : decode cL_isAhead 174 = .ok (.aload_n 3, 1) := by decide +kernel
theorem dL_isAhead_175 : decode cL_isAhead 175 = .ok (.bipush 7, 2) := by decide +kernel
theorem dL_isAhead_177 : decode cL_isAhead 177 = .ok (.iaload, 1) := by decide +kernel
theorem dL_isAhead_178 : decode cL_isAhead 178 = .ok (.ineg, 1) := by decide +kernel
theorem dL_isAhead_179 : decode cL_isAhead 179 = .ok (.goto 7, 3) := by decide +kernel
theorem dL_isAhead_182 : decode cL_isAhead 182 = .ok (.aload_n 3, 1) := by decide +kernel
theorem dL_isAhead_183 : decode cL_isAhead 183 = .ok (.bipush 7, 2) := by decide +kernel
theorem dL_isAhead_185 : decode cL_isAhead 185 = .ok (.iaload, 1) := by decide +kernel
theorem dL_isAhead_186 : decode cL_isAhead 186 = .ok (.istore 13, 2) := by decide +kernel
theorem dL_isAhead_188 : decode cL_isAhead 188 = .ok (.iload 12, 2) := by decide +kernel
theorem dL_isAhead_190 : decode cL_isAhead 190 = .ok (.ifCond .eq 10, 3) := by decide +kernel
theorem dL_isAhead_193 : decode cL_isAhead 193 = .ok (.iload 13, 2) := by decide +kernel
theorem dL_isAhead_195 : decode cL_isAhead 195 = .ok (.iload 6, 2) := by decide +kernel
theorem dL_isAhead_197 : decode cL_isAhead 197 = .ok (.if_icmp .ge 8, 3) := by decide +kernel
theorem dL_isAhead_200 : decode cL_isAhead 200 = .ok (.iload 12, 2) := by decide +kernel
theorem dL_isAhead_202 : decode cL_isAhead 202 = .ok (.goto 5, 3) := by decide +kernel
theorem dL_isAhead_205 : decode cL_isAhead 205 = .ok (.iload 5, 2) := by decide +kernel
theorem dL_isAhead_207 : decode cL_isAhead 207 = .ok (.istore 5, 2) := by decide +kernel
theorem dL_isAhead_209 : decode cL_isAhead 209 = .ok (.iload 12, 2) := by decide +kernel
theorem dL_isAhead_211 : decode cL_isAhead 211 = .ok (.ifCond .eq 10, 3) := by decide +kernel
theorem dL_isAhead_214 : decode cL_isAhead 214 = .ok (.iload 13, 2) := by decide +kernel
theorem dL_isAhead_216 : decode cL_isAhead 216 = .ok (.iload 6, 2) := by decide +kernel
theorem dL_isAhead_218 : decode cL_isAhead 218 = .ok (.if_icmp .ge 8, 3) := by decide +kernel
theorem dL_isAhead_221 : decode cL_isAhead 221 = .ok (.iload 13, 2) := by decide +kernel
theorem dL_isAhead_223 : decode cL_isAhead 223 = .ok (.goto 5, 3) := by decide +kernel
theorem dL_isAhead_226 : decode cL_isAhead 226 = .ok (.iload 6, 2) := by decide +kernel
theorem dL_isAhead_228 : decode cL_isAhead 228 = .ok (.istore 6, 2) := by decide +kernel
theorem dL_isAhead_230 : decode cL_isAhead 230 = .ok (.iload 7, 2) := by decide +kernel
theorem dL_isAhead_232 : decode cL_isAhead 232 = .ok (.aload_n 1, 1) := by decide +kernel
theorem dL_isAhead_233 : decode cL_isAhead 233 = .ok (.iload 12, 2) := by decide +kernel
theorem dL_isAhead_235 : decode cL_isAhead 235 = .ok (.invokestatic 73, 3) := by decide +kernel
theorem dL_isAhead_238 : decode cL_isAhead 238 = .ok (.aload_n 1, 1) := by decide +kernel
theorem dL_isAhead_239 : decode cL_isAhead 239 = .ok (.iconst 2, 1) := by decide +kernel
theorem dL_isAhead_240 : decode cL_isAhead 240 = .ok (.iaload, 1) := by decide +kernel
theorem dL_isAhead_241 : decode cL_isAhead 241 = .ok (.isub, 1) := by decide +kernel
theorem dL_isAhead_242 : decode cL_isAhead 242 = .ok (.iadd, 1) := by decide +kernel
theorem dL_isAhead_243 : decode cL_isAhead 243 = .ok (.istore 7, 2) := by decide +kernel
theorem dL_isAhead_245 : decode cL_isAhead 245 = .ok (.iinc 12 1, 3) := by decide +kernel
theorem dL_isAhead_248 : decode cL_isAhead 248 = .ok (.goto (-106), 3) := by decide +kernel
theorem dL_isAhead_251 : decode cL_isAhead 251 = .ok (.bipush 99, 2) := by decide +kernel
theorem dL_isAhead_253 : decode cL_isAhead 253 = .ok (.istore 12, 2) := by decide +kernel
theorem dL_isAhead_255 : decode cL_isAhead 255 = .ok (.iload 12, 2) := by decide +kernel
theorem dL_isAhead_257 : decode cL_isAhead 257 = .ok (.bipush (-99), 2) := by decide +kernel
theorem dL_isAhead_259 : decode cL_isAhead 259 = .ok (.if_icmp .lt 98, 3) := by decide +kernel
theorem dL_isAhead_262 : decode cL_isAhead 262 = .ok (.iload 7, 2) := by decide +kernel
theorem dL_isAhead_264 : decode cL_isAhead 264 = .ok (.bipush 6, 2) := by decide +kernel
theorem dL_isAhead_266 : decode cL_isAhead 266 = .ok (.iload 12, 2) := by decide +kernel
theorem dL_isAhead_268 : decode cL_isAhead 268 = .ok (.imul, 1) := by decide +kernel
theorem dL_isAhead_269 : decode cL_isAhead 269 = .ok (.iadd, 1) := by decide +kernel
theorem dL_isAhead_270 : decode cL_isAhead 270 = .ok (.ifCond .ge 15, 3) := by decide +kernel
theorem dL_isAhead_273 : decode cL_isAhead 273 = .ok (.iload 7, 2) := by decide +kernel
theorem dL_isAhead_275 : decode cL_isAhead 275 = .ok (.ineg, 1) := by decide +kernel
theorem dL_isAhead_276 : decode cL_isAhead 276 = .ok (.bipush 6, 2) := by decide +kernel
theorem dL_isAhead_278 : decode cL_isAhead 278 = .ok (.iload 12, 2) := by decide +kernel
theorem dL_isAhead_280 : decode cL_isAhead 280 = .ok (.imul, 1) := by decide +kernel
theorem dL_isAhead_281 : decode cL_isAhead 281 = .ok (.isub, 1) := by decide +kernel
theorem dL_isAhead_282 : decode cL_isAhead 282 = .ok (.goto 11, 3) := by decide +kernel
theorem dL_isAhead_285 : decode cL_isAhead 285 = .ok (.iload 7, 2) := by decide +kernel
theorem dL_isAhead_287 : decode cL_isAhead 287 = .ok (.bipush 6, 2) := by decide +kernel
theorem dL_isAhead_289 : decode cL_isAhead 289 = .ok (.iload 12, 2) := by decide +kernel
theorem dL_isAhead_291 : decode cL_isAhead 291 = .ok (.imul, 1) := by decide +kernel
theorem dL_isAhead_292 : decode cL_isAhead 292 = .ok (.iadd, 1) := by decide +kernel
theorem dL_isAhead_293 : decode cL_isAhead 293 = .ok (.istore 13, 2) := by decide +kernel
theorem dL_isAhead_295 : decode cL_isAhead 295 = .ok (.iload 7, 2) := by decide +kernel
theorem dL_isAhead_297 : decode cL_isAhead 297 = .ok (.bipush 6, 2) := by decide +kernel
theorem dL_isAhead_299 : decode cL_isAhead 299 = .ok (.iload 4, 2) := by decide +kernel
theorem dL_isAhead_301 : decode cL_isAhead 301 = .ok (.imul, 1) := by decide +kernel
theorem dL_isAhead_302 : decode cL_isAhead 302 = .ok (.iadd, 1) := by decide +kernel
theorem dL_isAhead_303 : decode cL_isAhead 303 = .ok (.ifCond .ge 15, 3) := by decide +kernel
theorem dL_isAhead_306 : decode cL_isAhead 306 = .ok (.iload 7, 2) := by decide +kernel
theorem dL_isAhead_308 : decode cL_isAhead 308 = .ok (.ineg, 1) := by decide +kernel
theorem dL_isAhead_309 : decode cL_isAhead 309 = .ok (.bipush 6, 2) := by decide +kernel
theorem dL_isAhead_311 : decode cL_isAhead 311 = .ok (.iload 4, 2) := by decide +kernel
theorem dL_isAhead_313 : decode cL_isAhead 313 = .ok (.imul, 1) := by decide +kernel
theorem dL_isAhead_314 : decode cL_isAhead 314 = .ok (.isub, 1) := by decide +kernel
theorem dL_isAhead_315 : decode cL_isAhead 315 = .ok (.goto 11, 3) := by decide +kernel
theorem dL_isAhead_318 : decode cL_isAhead 318 = .ok (.iload 7, 2) := by decide +kernel
theorem dL_isAhead_320 : decode cL_isAhead 320 = .ok (.bipush 6, 2) := by decide +kernel
theorem dL_isAhead_322 : decode cL_isAhead 322 = .ok (.iload 4, 2) := by decide +kernel
theorem dL_isAhead_324 : decode cL_isAhead 324 = .ok (.imul, 1) := by decide +kernel
theorem dL_isAhead_325 : decode cL_isAhead 325 = .ok (.iadd, 1) := by decide +kernel
theorem dL_isAhead_326 : decode cL_isAhead 326 = .ok (.istore 14, 2) := by decide +kernel
theorem dL_isAhead_328 : decode cL_isAhead 328 = .ok (.iload 12, 2) := by decide +kernel
theorem dL_isAhead_330 : decode cL_isAhead 330 = .ok (.bipush 99, 2) := by decide +kernel
theorem dL_isAhead_332 : decode cL_isAhead 332 = .ok (.if_icmp .eq 10, 3) := by decide +kernel
theorem dL_isAhead_335 : decode cL_isAhead 335 = .ok (.iload 13, 2) := by decide +kernel
theorem dL_isAhead_337 : decode cL_isAhead 337 = .ok (.iload 14, 2) := by decide +kernel
theorem dL_isAhead_339 : decode cL_isAhead 339 = .ok (.if_icmp .gt 8, 3) := by decide +kernel
theorem dL_isAhead_342 : decode cL_isAhead 342 = .ok (.iload 12, 2) := by decide +kernel
theorem dL_isAhead_344 : decode cL_isAhead 344 = .ok (.goto 5, 3) := by decide +kernel
theorem dL_isAhead_347 : decode cL_isAhead 347 = .ok (.iload 4, 2) := by decide +kernel
theorem dL_isAhead_349 : decode cL_isAhead 349 = .ok (.istore 4, 2) := by decide +kernel
theorem dL_isAhead_351 : decode cL_isAhead 351 = .ok (.iinc 12 (-1), 3) := by decide +kernel
theorem dL_isAhead_354 : decode cL_isAhead 354 = .ok (.goto (-99), 3) := by decide +kernel
theorem dL_isAhead_357 : decode cL_isAhead 357 = .ok (.aload_n 0, 1) := by decide +kernel
theorem dL_isAhead_358 : decode cL_isAhead 358 = .ok (.invokevirtual 107, 3) := by decide +kernel
theorem dL_isAhead_361 : decode cL_isAhead 361 = .ok (.iload 5, 2) := by decide +kernel
theorem dL_isAhead_363 : decode cL_isAhead 363 = .ok (.if_icmp .ne 19, 3) := by decide +kernel
theorem dL_isAhead_366 : decode cL_isAhead 366 = .ok (.aload_n 0, 1) := by decide +kernel
theorem dL_isAhead_367 : decode cL_isAhead 367 = .ok (.invokevirtual 110, 3) := by decide +kernel
theorem dL_isAhead_370 : decode cL_isAhead 370 = .ok (.iload 4, 2) := by decide +kernel
theorem dL_isAhead_372 : decode cL_isAhead 372 = .ok (.bipush 100, 2) := by decide +kernel
theorem dL_isAhead_374 : decode cL_isAhead 374 = .ok (.iadd, 1) := by decide +kernel
theorem dL_isAhead_375 : decode cL_isAhead 375 = .ok (.if_icmp .ne 7, 3) := by decide +kernel
theorem dL_isAhead_378 : decode cL_isAhead 378 = .ok (.iconst 1, 1) := by decide +kernel
theorem dL_isAhead_379 : decode cL_isAhead 379 = .ok (.goto 4, 3) := by decide +kernel
theorem dL_isAhead_382 : decode cL_isAhead 382 = .ok (.iconst 0, 1) := by decide +kernel
theorem dL_isAhead_383 : decode cL_isAhead 383 = .ok (.ireturn, 1) := by decide +kernel
set_option maxRecDepth 20000 in
theorem ggL_isSo_X5_reading : GoodIn wsL_isSo wsX5_reading := goodIn_ca (goodIn_r _ [6, 7, 8, 9, 10, 5, 11, 12, 13, 14, 15, 16, 17, 18, 19, 20, 21, 22, 23, 24, 25, 225, 226, 227, 228, 229, 230, 231, 232, 233, 234, 235, 236, 237, 238, 239] (by decide +kernel) (by decide +kernel)) (goodIn_sub (fun _ h => List.mem_cons_of_mem _ (List.mem_append_left _ (List.mem_append_right _ h))) (by decide +kernel))
set_option maxRecDepth 20000 in
theorem gL_isSo_X5_reading : GoodIn wsL_isSo (wsV RL 53 RX5 yX5_reading wsX5_reading) := goodIn_app (goodIn_of _ (by decide +kernel)) ggL_isSo_X5_reading
set_option maxRecDepth 20000 in
theorem ggL_isSo_X5_count : GoodIn wsL_isSo wsX5_count := goodIn_ca (goodIn_r _ [29, 9, 10, 5, 11, 7, 8, 30, 31, 32, 33, 16, 34, 35, 36, 37, 38, 39, 40, 41, 42, 43, 44, 17, 18, 45, 46, 47, 48, 49, 50, 51, 52, 53, 54, 55, 56, 57, 58, 59, 60, 61, 62, 63, 64, 65, 66, 67, 68, 69, 70, 71, 72, 73, 74, 75, 76, 77, 78, 79, 80, 81, 82, 83, 84, 85, 86, 87, 22, 88, 24, 89, 20, 21, 23, 25, 90, 91, 92, 93, 94, 95, 96, 97, 98, 99, 100, 225, 226, 227, 228, 229, 230, 231, 232, 233, 234, 235, 236, 237, 240, 241, 242, 243, 244, 245, 246, 247, 248, 249, 250, 238, 239, 251, 252, 253] (by decide +kernel) (by decide +kernel)) (goodIn_sub (fun _ h => List.mem_cons_of_mem _ (List.mem_append_left _ (List.mem_append_right _ h))) (by decide +kernel))
set_option maxRecDepth 20000 in
theorem gL_isSo_X5_count : GoodIn wsL_isSo (wsV RL 94 RX5 yX5_count wsX5_count) := goodIn_app (goodIn_of _ (by decide +kernel)) ggL_isSo_X5_count
set_option maxRecDepth 20000 in
theorem ggL_isSo_L_goes : GoodIn wsL_isSo wsL_goes := goodIn_r _ [104, 105, 106, 103, 107] (by decide +kernel) (by decide +kernel)
set_option maxRecDepth 20000 in
theorem gL_isSo_L_goes : GoodIn wsL_isSo (va_wsS RL 69 yL_goes wsL_goes) := goodIn_app (goodIn_of _ (by decide +kernel)) ggL_isSo_L_goes
