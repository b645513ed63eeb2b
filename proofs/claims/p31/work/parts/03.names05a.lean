theorem dL_hour_57 : decode cL_hour 57 = .ok (.dup2, 1) := by decide +kernel
theorem dL_hour_58 : decode cL_hour 58 = .ok (.iaload, 1) := by decide +kernel
theorem dL_hour_59 : decode cL_hour 59 = .ok (.iconst 1, 1) := by decide +kernel
theorem dL_hour_60 : decode cL_hour 60 = .ok (.iadd, 1) := by decide +kernel
theorem dL_hour_61 : decode cL_hour 61 = .ok (.iastore, 1) := by decide +kernel
theorem dL_hour_62 : decode cL_hour 62 = .ok (.aload_n 0, 1) := by decide +kernel
theorem dL_hour_63 : decode cL_hour 63 = .ok (.bipush 9, 2) := by decide +kernel
theorem dL_hour_65 : decode cL_hour 65 = .ok (.iaload, 1) := by decide +kernel
theorem dL_hour_66 : decode cL_hour 66 = .ok (.bipush 24, 2) := by decide +kernel
theorem dL_hour_68 : decode cL_hour 68 = .ok (.irem, 1) := by decide +kernel
theorem dL_hour_69 : decode cL_hour 69 = .ok (.ifCond .ne 18, 3) := by decide +kernel
theorem dL_hour_72 : decode cL_hour 72 = .ok (.aload_n 0, 1) := by decide +kernel
theorem dL_hour_73 : decode cL_hour 73 = .ok (.iconst 5, 1) := by decide +kernel
theorem dL_hour_74 : decode cL_hour 74 = .ok (.iaload, 1) := by decide +kernel
theorem dL_hour_75 : decode cL_hour 75 = .ok (.bipush 100, 2) := by decide +kernel
theorem dL_hour_77 : decode cL_hour 77 = .ok (.if_icmp .ge 10, 3) := by decide +kernel
theorem dL_hour_80 : decode cL_hour 80 = .ok (.aload_n 0, 1) := by decide +kernel
theorem dL_hour_81 : decode cL_hour 81 = .ok (.iconst 5, 1) := by decide +kernel
theorem dL_hour_82 : decode cL_hour 82 = .ok (.dup2, 1) := by decide +kernel
theorem dL_hour_83 : decode cL_hour 83 = .ok (.iaload, 1) := by decide +kernel
theorem dL_hour_84 : decode cL_hour 84 = .ok (.iconst 1, 1) := by decide +kernel
theorem dL_hour_85 : decode cL_hour 85 = .ok (.iadd, 1) := by decide +kernel
theorem dL_hour_86 : decode cL_hour 86 = .ok (.iastore, 1) := by decide +kernel
theorem dL_hour_87 : decode cL_hour 87 = .ok (.return_, 1) := by decide +kernel
set_option maxRecDepth 20000 in
theorem ggL_hours_L_hour : GoodIn wsL_hours wsL_hour := goodIn_r _ [4, 5, 6, 3, 7, 8, 9, 10, 11, 12, 13, 14, 15, 16, 17] (by decide +kernel) (by decide +kernel)
set_option maxRecDepth 20000 in
theorem gL_hours_L_hour : GoodIn wsL_hours (va_wsS RL 76 yL_hour wsL_hour) := goodIn_app (goodIn_of _ (by decide +kernel)) ggL_hours_L_hour
theorem dL_hours_0 : decode cL_hours 0 = .ok (.aload_n 0, 1) := by decide +kernel
theorem dL_hours_1 : decode cL_hours 1 = .ok (.bipush 9, 2) := by decide +kernel
theorem dL_hours_3 : decode cL_hours 3 = .ok (.iaload, 1) := by decide +kernel
theorem dL_hours_4 : decode cL_hours 4 = .ok (.istore_n 2, 1) := by decide +kernel
theorem dL_hours_5 : decode cL_hours 5 = .ok (.iconst 0, 1) := by decide +kernel
theorem dL_hours_6 : decode cL_hours 6 = .ok (.istore_n 3, 1) := by decide +kernel
theorem dL_hours_7 : decode cL_hours 7 = .ok (.iload_n 3, 1) := by decide +kernel
theorem dL_hours_8 : decode cL_hours 8 = .ok (.iload_n 1, 1) := by decide +kernel
theorem dL_hours_9 : decode cL_hours 9 = .ok (.if_icmp .ge 13, 3) := by decide +kernel
theorem dL_hours_12 : decode cL_hours 12 = .ok (.aload_n 0, 1) := by decide +kernel
theorem dL_hours_13 : decode cL_hours 13 = .ok (.invokestatic 76, 3) := by decide +kernel
theorem dL_hours_16 : decode cL_hours 16 = .ok (.iinc 3 1, 3) := by decide +kernel
theorem dL_hours_19 : decode cL_hours 19 = .ok (.goto (-12), 3) := by decide +kernel
theorem dL_hours_22 : decode cL_hours 22 = .ok (.aload_n 0, 1) := by decide +kernel
theorem dL_hours_23 : decode cL_hours 23 = .ok (.bipush 9, 2) := by decide +kernel
theorem dL_hours_25 : decode cL_hours 25 = .ok (.iaload, 1) := by decide +kernel
theorem dL_hours_26 : decode cL_hours 26 = .ok (.iload_n 2, 1) := by decide +kernel
theorem dL_hours_27 : decode cL_hours 27 = .ok (.isub, 1) := by decide +kernel
theorem dL_hours_28 : decode cL_hours 28 = .ok (.ireturn, 1) := by decide +kernel
theorem dL_copy_0 : decode cL_copy 0 = .ok (.iconst 0, 1) := by decide +kernel
theorem dL_copy_1 : decode cL_copy 1 = .ok (.istore_n 2, 1) := by decide +kernel
theorem dL_copy_2 : decode cL_copy 2 = .ok (.iload_n 2, 1) := by decide +kernel
theorem dL_copy_3 : decode cL_copy 3 = .ok (.aload_n 0, 1) := by decide +kernel
theorem dL_copy_4 : decode cL_copy 4 = .ok (.arraylength, 1) := by decide +kernel
theorem dL_copy_5 : decode cL_copy 5 = .ok (.if_icmp .ge 15, 3) := by decide +kernel
theorem dL_copy_8 : decode cL_copy 8 = .ok (.aload_n 1, 1) := by decide +kernel
theorem dL_copy_9 : decode cL_copy 9 = .ok (.iload_n 2, 1) := by decide +kernel
theorem dL_copy_10 : decode cL_copy 10 = .ok (.aload_n 0, 1) := by decide +kernel
theorem dL_copy_11 : decode cL_copy 11 = .ok (.iload_n 2, 1) := by decide +kernel
theorem dL_copy_12 : decode cL_copy 12 = .ok (.iaload, 1) := by decide +kernel
theorem dL_copy_13 : decode cL_copy 13 = .ok (.iastore, 1) := by decide +kernel
theorem dL_copy_14 : decode cL_copy 14 = .ok (.iinc 2 1, 3) := by decide +kernel
theorem dL_copy_17 : decode cL_copy 17 = .ok (.goto (-15), 3) := by decide +kernel
theorem dL_copy_20 : decode cL_copy 20 = .ok (.return_, 1) := by decide +kernel
theorem dL_latest_0 : decode cL_latest 0 = .ok (.aload_n 0, 1) := by decide +kernel
theorem dL_latest_1 : decode cL_latest 1 = .ok (.bipush 10, 2) := by decide +kernel
theorem dL_latest_3 : decode cL_latest 3 = .ok (.iaload, 1) := by decide +kernel
theorem dL_latest_4 : decode cL_latest 4 = .ok (.iconst 1, 1) := by decide +kernel
theorem dL_latest_5 : decode cL_latest 5 = .ok (.isub, 1) := by decide +kernel
theorem dL_latest_6 : decode cL_latest 6 = .ok (.istore_n 3, 1) := by decide +kernel
theorem dL_latest_7 : decode cL_latest 7 = .ok (.iload_n 3, 1) := by decide +kernel
theorem dL_latest_8 : decode cL_latest 8 = .ok (.ifCond .lt 21, 3) := by decide +kernel
theorem dL_latest_11 : decode cL_latest 11 = .ok (.aload_n 1, 1) := by decide +kernel
theorem dL_latest_12 : decode cL_latest 12 = .ok (.iload_n 3, 1) := by decide +kernel
theorem dL_latest_13 : decode cL_latest 13 = .ok (.iaload, 1) := by decide +kernel
theorem dL_latest_14 : decode cL_latest 14 = .ok (.bipush 100, 2) := by decide +kernel
theorem dL_latest_16 : decode cL_latest 16 = .ok (.irem, 1) := by decide +kernel
theorem dL_latest_17 : decode cL_latest 17 = .ok (.iload_n 2, 1) := by decide +kernel
theorem dL_latest_18 : decode cL_latest 18 = .ok (.if_icmp .ne 5, 3) := by decide +kernel
theorem dL_latest_21 : decode cL_latest 21 = .ok (.iload_n 3, 1) := by decide +kernel
theorem dL_latest_22 : decode cL_latest 22 = .ok (.ireturn, 1) := by decide +kernel
theorem dL_latest_23 : decode cL_latest 23 = .ok (.iinc 3 (-1), 3) := by decide +kernel
theorem dL_latest_26 : decode cL_latest 26 = .ok (.goto (-19), 3) := by decide +kernel
theorem dL_latest_29 : decode cL_latest 29 = .ok (.iconst (-1), 1) := by decide +kernel
theorem dL_latest_30 : decode cL_latest 30 = .ok (.ireturn, 1) := by decide +kernel
set_option maxRecDepth 20000 in
theorem ggL_arePoses_L_latest : GoodIn wsL_arePoses wsL_latest := goodIn_r _ [5] (by decide +kernel) (by decide +kernel)
set_option maxRecDepth 20000 in
theorem gL_arePoses_L_latest : GoodIn wsL_arePoses (va_wsS RL 80 yL_latest wsL_latest) := goodIn_app (goodIn_of _ (by decide +kernel)) ggL_arePoses_L_latest
set_option maxRecDepth 20000 in
theorem ggL_arePoses_L_copy : GoodIn wsL_arePoses wsL_copy := goodIn_r _ [8] (by decide +kernel) (by decide +kernel)
set_option maxRecDepth 20000 in
theorem gL_arePoses_L_copy : GoodIn wsL_arePoses (va_wsS RL 84 yL_copy wsL_copy) := goodIn_app (goodIn_of _ (by decide +kernel)) ggL_arePoses_L_copy
set_option maxRecDepth 20000 in
theorem ggL_arePoses_L_goes : GoodIn wsL_arePoses wsL_goes := goodIn_r _ [11, 12, 13, 4, 14] (by decide +kernel) (by decide +kernel)
set_option maxRecDepth 20000 in
theorem gL_arePoses_L_goes : GoodIn wsL_arePoses (va_wsS RL 69 yL_goes wsL_goes) := goodIn_app (goodIn_of _ (by decide +kernel)) ggL_arePoses_L_goes
set_option maxRecDepth 20000 in
theorem ggL_arePoses_L_hour : GoodIn wsL_arePoses wsL_hour := goodIn_r _ [17, 9, 10, 4, 11, 12, 13, 14, 18, 19, 20, 21, 22, 23, 24] (by decide +kernel) (by decide +kernel)
set_option maxRecDepth 20000 in
theorem gL_arePoses_L_hour : GoodIn wsL_arePoses (va_wsS RL 76 yL_hour wsL_hour) := goodIn_app (goodIn_of _ (by decide +kernel)) ggL_arePoses_L_hour
set_option maxRecDepth 20000 in
theorem ggL_arePoses_X5_pose : GoodIn wsL_arePoses wsX5_pose := goodIn_ca (goodIn_ca (goodIn_r _ [29, 30, 31, 28, 32, 33, 34, 35, 36, 37, 38, 39, 40, 41, 42, 43, 44, 45, 46, 47, 48, 49, 50, 51, 52, 53, 54, 55, 56, 57, 58, 59, 60, 61, 62, 63, 64, 65, 66, 67, 68, 69, 70, 71, 72, 73, 74, 75, 76, 77, 78, 79, 80, 81, 82, 83, 84, 85, 86, 87, 88, 89, 90, 91, 92, 93, 94, 95, 96, 97, 98, 99, 100, 101, 102, 103, 104, 105, 106, 107, 108, 109, 110, 111, 112, 113, 114, 115, 116, 117, 209, 210, 211, 212, 213, 214, 215, 216, 217, 218, 219, 220, 221, 222, 223, 224, 225, 226, 227, 228, 229, 230, 231, 232, 233, 234] (by decide +kernel) (by decide +kernel)) (goodIn_sub (fun _ h => List.mem_cons_of_mem _ (List.mem_append_left _ (List.mem_append_right _ h))) (by decide +kernel))) (goodIn_sub (fun _ h => List.mem_cons_of_mem _ (List.mem_append_right _ h)) (by decide +kernel))
set_option maxRecDepth 20000 in
theorem gL_arePoses_X5_pose : GoodIn wsL_arePoses (wsV RL 50 RX5 yX5_pose wsX5_pose) := goodIn_app (goodIn_of _ (by decide +kernel)) ggL_arePoses_X5_pose
set_option maxRecDepth 20000 in
theorem ggL_arePoses_L_swing : GoodIn wsL_arePoses wsL_swing := goodIn_r _ [14] (by decide +kernel) (by decide +kernel)
set_option maxRecDepth 20000 in
theorem gL_arePoses_L_swing : GoodIn wsL_arePoses (va_wsS RL 56 yL_swing wsL_swing) := goodIn_app (goodIn_of _ (by decide +kernel)) ggL_arePoses_L_swing
set_option maxRecDepth 20000 in
theorem ggL_arePoses_L_rate : GoodIn wsL_arePoses wsL_rate := goodIn_r _ [20, 12, 13, 4, 14, 21, 22, 23, 24] (by decide +kernel) (by decide +kernel)
set_option maxRecDepth 20000 in
theorem gL_arePoses_L_rate : GoodIn wsL_arePoses (va_wsS RL 73 yL_rate wsL_rate) := goodIn_app (goodIn_of _ (by decide +kernel)) ggL_arePoses_L_rate
set_option maxRecDepth 20000 in
theorem ggL_arePoses_L_beat : GoodIn wsL_arePoses wsL_beat := goodIn_r _ [120] (by decide +kernel) (by decide +kernel)
set_option maxRecDepth 20000 in
theorem gL_arePoses_L_beat : GoodIn wsL_arePoses (va_wsS RL 66 yL_beat wsL_beat) := goodIn_app (goodIn_of _ (by decide +kernel)) ggL_arePoses_L_beat
set_option maxRecDepth 20000 in
theorem ggL_arePoses_L_why : GoodIn wsL_arePoses wsL_why := goodIn_r _ [123, 12, 13, 4, 14, 118, 119, 120] (by decide +kernel) (by decide +kernel)
set_option maxRecDepth 20000 in
theorem gL_arePoses_L_why : GoodIn wsL_arePoses (va_wsS RL 88 yL_why wsL_why) := goodIn_app (goodIn_of _ (by decide +kernel)) ggL_arePoses_L_why
set_option maxRecDepth 20000 in
theorem ggL_arePoses_X5_stopsIn : GoodIn wsL_arePoses wsX5_stopsIn := goodIn_ca (goodIn_r _ [127, 30, 31, 28, 32, 33, 34, 35, 36, 37, 128, 129, 130, 131, 132, 47, 49, 133, 134, 135, 136, 64, 137, 66, 138, 139, 140, 141, 81, 93, 71, 82, 72, 142, 143, 144, 145, 146, 147, 148, 149, 150, 151, 152, 153, 154, 155, 156, 75, 157, 158, 159, 160, 161, 83, 68, 69, 70, 73, 74, 76, 162, 78, 79, 80, 84, 62, 63, 65, 85, 86, 87, 88, 209, 210, 211, 212, 213, 214, 215, 216, 217, 218, 219, 220, 221, 224, 225, 226, 227, 228, 229, 230, 231, 232, 233, 234] (by decide +kernel) (by decide +kernel)) (goodIn_sub (fun _ h => List.mem_cons_of_mem _ (List.mem_append_left _ (List.mem_append_right _ h))) (by decide +kernel))
set_option maxRecDepth 20000 in
theorem gL_arePoses_X5_stopsIn : GoodIn wsL_arePoses (wsV RL 91 RX5 yX5_stopsIn wsX5_stopsIn) := goodIn_app (goodIn_of _ (by decide +kernel)) ggL_arePoses_X5_stopsIn
set_option maxRecDepth 20000 in
theorem ggL_arePoses_L_down : GoodIn wsL_arePoses wsL_down := goodIn_r _ [23, 24] (by decide +kernel) (by decide +kernel)
set_option maxRecDepth 20000 in
theorem gL_arePoses_L_down : GoodIn wsL_arePoses (va_wsS RL 63 yL_down wsL_down) := goodIn_app (goodIn_of _ (by decide +kernel)) ggL_arePoses_L_down
set_option maxRecDepth 20000 in
theorem ggL_arePoses_X5_count : GoodIn wsL_arePoses wsX5_count := goodIn_ca (goodIn_r _ [166, 38, 39, 28, 40, 41, 42, 167, 168, 169, 170, 47, 49, 171, 172, 173, 174, 175, 176, 133, 177, 178, 179, 48, 180, 181, 182, 183, 184, 185, 186, 159, 160, 64, 161, 71, 142, 83, 68, 69, 70, 72, 73, 74, 75, 76, 187, 188, 189, 100, 190, 106, 191, 192, 193, 194, 195, 196, 197, 156, 157, 198, 102, 199, 104, 200, 51, 52, 53, 54, 55, 56, 57, 58, 59, 60, 201, 202, 86, 87, 88, 203, 204, 205, 206, 207, 208, 209, 210, 211, 212, 213, 214, 215, 216, 217, 218, 219, 220, 221, 224, 225, 226, 227, 228, 229, 230, 231, 232, 233, 234, 222, 223, 235, 236, 237] (by decide +kernel) (by decide +kernel)) (goodIn_sub (fun _ h => List.mem_cons_of_mem _ (List.mem_append_right _ h)) (by decide +kernel))
set_option maxRecDepth 20000 in
theorem gL_arePoses_X5_count : GoodIn wsL_arePoses (wsV RL 94 RX5 yX5_count wsX5_count) := goodIn_app (goodIn_of _ (by decide +kernel)) ggL_arePoses_X5_count
theorem dL_arePoses_0 : decode cL_arePoses 0 = .ok (.iconst 0, 1) := by decide +kernel
theorem dL_arePoses_1 : decode cL_arePoses 1 = .ok (.istore 4, 2) := by decide +kernel
theorem dL_arePoses_3 : decode cL_arePoses 3 = .ok (.iconst 0, 1) := by decide +kernel
theorem dL_arePoses_4 : decode cL_arePoses 4 = .ok (.istore 5, 2) := by decide +kernel
theorem dL_arePoses_6 : decode cL_arePoses 6 = .ok (.iconst 0, 1) := by decide +kernel
theorem dL_arePoses_7 : decode cL_arePoses 7 = .ok (.istore 6, 2) := by decide +kernel
theorem dL_arePoses_9 : decode cL_arePoses 9 = .ok (.iconst 0, 1) := by decide +kernel
theorem dL_arePoses_10 : decode cL_arePoses 10 = .ok (.istore 7, 2) := by decide +kernel
theorem dL_arePoses_12 : decode cL_arePoses 12 = .ok (.iconst 0, 1) := by decide +kernel
theorem dL_arePoses_13 : decode cL_arePoses 13 = .ok (.istore 8, 2) := by decide +kernel
theorem dL_arePoses_15 : decode cL_arePoses 15 = .ok (.bipush 22, 2) := by decide +kernel
theorem dL_arePoses_17 : decode cL_arePoses 17 = .ok (.newarray .int, 2) := by decide +kernel
theorem dL_arePoses_19 : decode cL_arePoses 19 = .ok (.astore 9, 2) := by decide +kernel
theorem dL_arePoses_21 : decode cL_arePoses 21 = .ok (.iconst 0, 1) := by decide +kernel
theorem dL_arePoses_22 : decode cL_arePoses 22 = .ok (.istore 10, 2) := by decide +kernel
theorem dL_arePoses_24 : decode cL_arePoses 24 = .ok (.iload 10, 2) := by decide +kernel
theorem dL_arePoses_26 : decode cL_arePoses 26 = .ok (.bipush 6, 2) := by decide +kernel
theorem dL_arePoses_28 : decode cL_arePoses 28 = .ok (.if_icmp .ge 366, 3) := by decide +kernel
theorem dL_arePoses_31 : decode cL_arePoses 31 = .ok (.aload_n 1, 1) := by decide +kernel
theorem dL_arePoses_32 : decode cL_arePoses 32 = .ok (.aload_n 2, 1) := by decide +kernel
theorem dL_arePoses_33 : decode cL_arePoses 33 = .ok (.iload 10, 2) := by decide +kernel
theorem dL_arePoses_35 : decode cL_arePoses 35 = .ok (.invokestatic 80, 3) := by decide +kernel
theorem dL_arePoses_38 : decode cL_arePoses 38 = .ok (.istore 11, 2) := by decide +kernel
theorem dL_arePoses_40 : decode cL_arePoses 40 = .ok (.iconst 0, 1) := by decide +kernel
theorem dL_arePoses_41 : decode cL_arePoses 41 = .ok (.istore 12, 2) := by decide +kernel
theorem dL_arePoses_43 : decode cL_arePoses 43 = .ok (.iconst 0, 1) := by decide +kernel
theorem dL_arePoses_44 : decode cL_arePoses 44 = .ok (.istore 13, 2) := by decide +kernel
theorem dL_arePoses_46 : decode cL_arePoses 46 = .ok (.iload 13, 2) := by decide +kernel
theorem dL_arePoses_48 : decode cL_arePoses 48 = .ok (.aload_n 1, 1) := by decide +kernel
theorem dL_arePoses_49 : decode cL_arePoses 49 = .ok (.bipush 10, 2) := by decide +kernel
theorem dL_arePoses_51 : decode cL_arePoses 51 = .ok (.iaload, 1) := by decide +kernel
theorem dL_arePoses_52 : decode cL_arePoses 52 = .ok (.if_icmp .ge 31, 3) := by decide +kernel
theorem dL_arePoses_55 : decode cL_arePoses 55 = .ok (.iload 12, 2) := by decide +kernel
theorem dL_arePoses_57 : decode cL_arePoses 57 = .ok (.aload_n 2, 1) := by decide +kernel
theorem dL_arePoses_58 : decode cL_arePoses 58 = .ok (.iload 13, 2) := by decide +kernel
theorem dL_arePoses_60 : decode cL_arePoses 60 = .ok (.iaload, 1) := by decide +kernel
theorem dL_arePoses_61 : decode cL_arePoses 61 = .ok (.bipush 100, 2) := by decide +kernel
theorem dL_arePoses_63 : decode cL_arePoses 63 = .ok (.irem, 1) := by decide +kernel
theorem dL_arePoses_64 : decode cL_arePoses 64 = .ok (.iload 10, 2) := by decide +kernel
theorem dL_arePoses_66 : decode cL_arePoses 66 = .ok (.if_icmp .ne 7, 3) := by decide +kernel
theorem dL_arePoses_69 : decode cL_arePoses 69 = .ok (.iconst 1, 1) := by decide +kernel
theorem dL_arePoses_70 : decode cL_arePoses 70 = .ok (.goto 4, 3) := by decide +kernel
theorem dL_arePoses_73 : decode cL_arePoses 73 = .ok (.iconst 0, 1) := by decide +kernel
theorem dL_arePoses_74 : decode cL_arePoses 74 = .ok (.iadd, 1) := by decide +kernel
theorem dL_arePoses_75 : decode cL_arePoses 75 = .ok (.istore 12, 2) := by decide +kernel
theorem dL_arePoses_77 : decode cL_arePoses 77 = .ok (.iinc 13 1, 3) := by decide +kernel
theorem dL_arePoses_80 : decode cL_arePoses 80 = .ok (.goto (-34), 3) := by decide +kernel
theorem dL_arePoses_83 : decode cL_arePoses 83 = .ok (.aload_n 1, 1) := by decide +kernel
theorem dL_arePoses_84 : decode cL_arePoses 84 = .ok (.aload 9, 2) := by decide +kernel
theorem dL_arePoses_86 : decode cL_arePoses 86 = .ok (.invokestatic 84, 3) := by decide +kernel
theorem dL_arePoses_89 : decode cL_arePoses 89 = .ok (.aload 9, 2) := by decide +kernel
theorem dL_arePoses_91 : decode cL_arePoses 91 = .ok (.bipush 6, 2) := by decide +kernel
theorem dL_arePoses_93 : decode cL_arePoses 93 = .ok (.iload 10, 2) := by decide +kernel
theorem dL_arePoses_95 : decode cL_arePoses 95 = .ok (.iastore, 1) := by decide +kernel
theorem dL_arePoses_96 : decode cL_arePoses 96 = .ok (.iconst 0, 1) := by decide +kernel
theorem dL_arePoses_97 : decode cL_arePoses 97 = .ok (.istore 13, 2) := by decide +kernel
theorem dL_arePoses_99 : decode cL_arePoses 99 = .ok (.aload 9, 2) := by decide +kernel
theorem dL_arePoses_101 : decode cL_arePoses 101 = .ok (.iload 10, 2) := by decide +kernel
theorem dL_arePoses_103 : decode cL_arePoses 103 = .ok (.invokestatic 69, 3) := by decide +kernel
theorem dL_arePoses_106 : decode cL_arePoses 106 = .ok (.ifCond .eq 14, 3) := by decide +kernel
theorem dL_arePoses_109 : decode cL_arePoses 109 = .ok (.aload 9, 2) := by decide +kernel
theorem dL_arePoses_111 : decode cL_arePoses 111 = .ok (.invokestatic 76, 3) := by decide +kernel
theorem dL_arePoses_114 : decode cL_arePoses 114 = .ok (.iinc 13 1, 3) := by decide +kernel
theorem dL_arePoses_117 : decode cL_arePoses 117 = .ok (.goto (-18), 3) := by decide +kernel
theorem dL_arePoses_120 : decode cL_arePoses 120 = .ok (.aload_n 0, 1) := by decide +kernel
theorem dL_arePoses_121 : decode cL_arePoses 121 = .ok (.iload 10, 2) := by decide +kernel
theorem dL_arePoses_123 : decode cL_arePoses 123 = .ok (.iconst 0, 1) := by decide +kernel
theorem dL_arePoses_124 : decode cL_arePoses 124 = .ok (.invokevirtual 50, 3) := by decide +kernel
theorem dL_arePoses_127 : decode cL_arePoses 127 = .ok (.aload_n 1, 1) := by decide +kernel
theorem dL_arePoses_128 : decode cL_arePoses 128 = .ok (.bipush 16, 2) := by decide +kernel
theorem dL_arePoses_130 : decode cL_arePoses 130 = .ok (.iload 10, 2) := by decide +kernel
theorem dL_arePoses_132 : decode cL_arePoses 132 = .ok (.iadd, 1) := by decide +kernel
theorem dL_arePoses_133 : decode cL_arePoses 133 = .ok (.iaload, 1) := by decide +kernel
theorem dL_arePoses_134 : decode cL_arePoses 134 = .ok (.bipush 100, 2) := by decide +kernel
theorem dL_arePoses_136 : decode cL_arePoses 136 = .ok (.iadd, 1) := by decide +kernel
theorem dL_arePoses_137 : decode cL_arePoses 137 = .ok (.if_icmp .ne 149, 3) := by decide +kernel
theorem dL_arePoses_140 : decode cL_arePoses 140 = .ok (.aload_n 0, 1) := by decide +kernel
theorem dL_arePoses_141 : decode cL_arePoses 141 = .ok (.iload 10, 2) := by decide +kernel
theorem dL_arePoses_143 : decode cL_arePoses 143 = .ok (.iconst 1, 1) := by decide +kernel
theorem dL_arePoses_144 : decode cL_arePoses 144 = .ok (.invokevirtual 50, 3) := by decide +kernel
theorem dL_arePoses_147 : decode cL_arePoses 147 = .ok (.aload_n 1, 1) := by decide +kernel
theorem dL_arePoses_148 : decode cL_arePoses 148 = .ok (.iload 10, 2) := by decide +kernel
theorem dL_arePoses_150 : decode cL_arePoses 150 = .ok (.invokestatic 56, 3) := by decide +kernel
theorem dL_arePoses_153 : decode cL_arePoses 153 = .ok (.if_icmp .ne 133, 3) := by decide +kernel
theorem dL_arePoses_156 : decode cL_arePoses 156 = .ok (.aload_n 0, 1) := by decide +kernel
theorem dL_arePoses_157 : decode cL_arePoses 157 = .ok (.iload 10, 2) := by decide +kernel
theorem dL_arePoses_159 : decode cL_arePoses 159 = .ok (.iconst 2, 1) := by decide +kernel
theorem dL_arePoses_160 : decode cL_arePoses 160 = .ok (.invokevirtual 50, 3) := by decide +kernel
theorem dL_arePoses_163 : decode cL_arePoses 163 = .ok (.aload_n 1, 1) := by decide +kernel
theorem dL_arePoses_164 : decode cL_arePoses 164 = .ok (.iload 10, 2) := by decide +kernel
theorem dL_arePoses_166 : decode cL_arePoses 166 = .ok (.invokestatic 73, 3) := by decide +kernel
theorem dL_arePoses_169 : decode cL_arePoses 169 = .ok (.sipush 10000, 3) := by decide +kernel
theorem dL_arePoses_172 : decode cL_arePoses 172 = .ok (.iadd, 1) := by decide +kernel
theorem dL_arePoses_173 : decode cL_arePoses 173 = .ok (.if_icmp .ne 113, 3) := by decide +kernel
theorem dL_arePoses_176 : decode cL_arePoses 176 = .ok (.aload_n 0, 1) := by decide +kernel
theorem dL_arePoses_177 : decode cL_arePoses 177 = .ok (.iload 10, 2) := by decide +kernel
theorem dL_arePoses_179 : decode cL_arePoses 179 = .ok (.iconst 3, 1) := by decide +kernel
theorem dL_arePoses_180 : decode cL_arePoses 180 = .ok (.invokevirtual 50, 3) := by decide +kernel
theorem dL_arePoses_183 : decode cL_arePoses 183 = .ok (.aload_n 1, 1) := by decide +kernel
theorem dL_arePoses_184 : decode cL_arePoses 184 = .ok (.iload 10, 2) := by decide +kernel
theorem dL_arePoses_186 : decode cL_arePoses 186 = .ok (.invokestatic 66, 3) := by decide +kernel
theorem dL_arePoses_189 : decode cL_arePoses 189 = .ok (.if_icmp .ne 97, 3) := by decide +kernel
theorem dL_arePoses_192 : decode cL_arePoses 192 = .ok (.aload_n 0, 1) := by decide +kernel
theorem dL_arePoses_193 : decode cL_arePoses 193 = .ok (.iload 10, 2) := by decide +kernel
theorem dL_arePoses_195 : decode cL_arePoses 195 = .ok (.iconst 4, 1) := by decide +kernel
theorem dL_arePoses_196 : decode cL_arePoses 196 = .ok (.invokevirtual 50, 3) := by decide +kernel
theorem dL_arePoses_199 : decode cL_arePoses 199 = .ok (.aload_n 1, 1) := by decide +kernel
theorem dL_arePoses_200 : decode cL_arePoses 200 = .ok (.iload 10, 2) := by decide +kernel
theorem dL_arePoses_202 : decode cL_arePoses 202 = .ok (.invokestatic 88, 3) := by decide +kernel
theorem dL_arePoses_205 : decode cL_arePoses 205 = .ok (.if_icmp .ne 81, 3) := by decide +kernel
theorem dL_arePoses_208 : decode cL_arePoses 208 = .ok (.aload_n 0, 1) := by decide +kernel
theorem dL_arePoses_209 : decode cL_arePoses 209 = .ok (.iload 10, 2) := by decide +kernel
theorem dL_arePoses_211 : decode cL_arePoses 211 = .ok (.iconst 5, 1) := by decide +kernel
theorem dL_arePoses_212 : decode cL_arePoses 212 = .ok (.invokevirtual 50, 3) := by decide +kernel
theorem dL_arePoses_215 : decode cL_arePoses 215 = .ok (.iload 11, 2) := by decide +kernel
theorem dL_arePoses_217 : decode cL_arePoses 217 = .ok (.ifCond .ge 7, 3) := by decide +kernel
theorem dL_arePoses_220 : decode cL_arePoses 220 = .ok (.iconst (-1), 1) := by decide +kernel
theorem dL_arePoses_221 : decode cL_arePoses 221 = .ok (.goto 10, 3) := by decide +kernel
theorem dL_arePoses_224 : decode cL_arePoses 224 = .ok (.aload_n 2, 1) := by decide +kernel
theorem dL_arePoses_225 : decode cL_arePoses 225 = .ok (.iload 11, 2) := by decide +kernel
theorem dL_arePoses_227 : decode cL_arePoses 227 = .ok (.iaload, 1) := by decide +kernel
theorem dL_arePoses_228 : decode cL_arePoses 228 = .ok (.bipush 100, 2) := by decide +kernel
theorem dL_arePoses_230 : decode cL_arePoses 230 = .ok (.idiv, 1) := by decide +kernel
theorem dL_arePoses_231 : decode cL_arePoses 231 = .ok (.if_icmp .ne 55, 3) := by decide +kernel
theorem dL_arePoses_234 : decode cL_arePoses 234 = .ok (.aload_n 0, 1) := by decide +kernel
theorem dL_arePoses_235 : decode cL_arePoses 235 = .ok (.iload 10, 2) := by decide +kernel
theorem dL_arePoses_237 : decode cL_arePoses 237 = .ok (.bipush 6, 2) := by decide +kernel
theorem dL_arePoses_239 : decode cL_arePoses 239 = .ok (.invokevirtual 50, 3) := by decide +kernel
theorem dL_arePoses_242 : decode cL_arePoses 242 = .ok (.iload 11, 2) := by decide +kernel
theorem dL_arePoses_244 : decode cL_arePoses 244 = .ok (.ifCond .ge 7, 3) := by decide +kernel
theorem dL_arePoses_247 : decode cL_arePoses 247 = .ok (.iconst (-1), 1) := by decide +kernel
theorem dL_arePoses_248 : decode cL_arePoses 248 = .ok (.goto 11, 3) := by decide +kernel
theorem dL_arePoses_251 : decode cL_arePoses 251 = .ok (.aload_n 3, 1) := by decide +kernel
theorem dL_arePoses_252 : decode cL_arePoses 252 = .ok (.iload 11, 2) := by decide +kernel
theorem dL_arePoses_254 : decode cL_arePoses 254 = .ok (.iaload, 1) := by decide +kernel
theorem dL_arePoses_255 : decode cL_arePoses 255 = .ok (.sipush 10000, 3) := by decide +kernel
theorem dL_arePoses_258 : decode cL_arePoses 258 = .ok (.iadd, 1) := by decide +kernel
theorem dL_arePoses_259 : decode cL_arePoses 259 = .ok (.if_icmp .ne 27, 3) := by decide +kernel
theorem dL_arePoses_262 : decode cL_arePoses 262 = .ok (.aload_n 0, 1) := by decide +kernel
theorem dL_arePoses_263 : decode cL_arePoses 263 = .ok (.iload 10, 2) := by decide +kernel
theorem dL_arePoses_265 : decode cL_arePoses 265 = .ok (.bipush 7, 2) := by decide +kernel
theorem dL_arePoses_267 : decode cL_arePoses 267 = .ok (.invokevirtual 50, 3) := by decide +kernel
theorem dL_arePoses_270 : decode cL_arePoses 270 = .ok (.iload 12, 2) := by decide +kernel
theorem dL_arePoses_272 : decode cL_arePoses 272 = .ok (.if_icmp .ne 14, 3) := by decide +kernel
theorem dL_arePoses_275 : decode cL_arePoses 275 = .ok (.aload_n 0, 1) := by decide +kernel
theorem dL_arePoses_276 : decode cL_arePoses 276 = .ok (.iload 10, 2) := by decide +kernel
theorem dL_arePoses_278 : decode cL_arePoses 278 = .ok (.invokevirtual 91, 3) := by decide +kernel
theorem dL_arePoses_281 : decode cL_arePoses 281 = .ok (.iload 13, 2) := by decide +kernel
theorem dL_arePoses_283 : decode cL_arePoses 283 = .ok (.if_icmp .eq 5, 3) := by decide +kernel
theorem dL_arePoses_286 : decode cL_arePoses 286 = .ok (.iconst 0, 1) := by decide +kernel
theorem dL_arePoses_287 : decode cL_arePoses 287 = .ok (.ireturn, 1) := by decide +kernel
theorem dL_arePoses_288 : decode cL_arePoses 288 = .ok (.iload 11, 2) := by decide +kernel
theorem dL_arePoses_290 : decode cL_arePoses 290 = .ok (.ifCond .ge 6, 3) := by decide +kernel
theorem dL_arePoses_293 : decode cL_arePoses 293 = .ok (.goto 95, 3) := by decide +kernel
theorem dL_arePoses_296 : decode cL_arePoses 296 = .ok (.iload 4, 2) := by decide +kernel
theorem dL_arePoses_298 : decode cL_arePoses 298 = .ok (.ifCond .eq 12, 3) := by decide +kernel
theorem dL_arePoses_301 : decode cL_arePoses 301 = .ok (.aload_n 3, 1) := by decide +kernel
theorem dL_arePoses_302 : decode cL_arePoses 302 = .ok (.iload 11, 2) := by decide +kernel
theorem dL_arePoses_304 : decode cL_arePoses 304 = .ok (.iaload, 1) := by decide +kernel
theorem dL_arePoses_305 : decode cL_arePoses 305 = .ok (.iload 6, 2) := by decide +kernel
theorem dL_arePoses_307 : decode cL_arePoses 307 = .ok (.if_icmp .ge 10, 3) := by decide +kernel
theorem dL_arePoses_310 : decode cL_arePoses 310 = .ok (.aload_n 3, 1) := by decide +kernel
theorem dL_arePoses_311 : decode cL_arePoses 311 = .ok (.iload 11, 2) := by decide +kernel
theorem dL_arePoses_313 : decode cL_arePoses 313 = .ok (.iaload, 1) := by decide +kernel
theorem dL_arePoses_314 : decode cL_arePoses 314 = .ok (.goto 5, 3) := by decide +kernel
theorem dL_arePoses_317 : decode cL_arePoses 317 = .ok (.iload 6, 2) := by decide +kernel
theorem dL_arePoses_319 : decode cL_arePoses 319 = .ok (.istore 6, 2) := by decide +kernel
theorem dL_arePoses_321 : decode cL_arePoses 321 = .ok (.iload 4, 2) := by decide +kernel
theorem dL_arePoses_323 : decode cL_arePoses 323 = .ok (.ifCond .eq 12, 3) := by decide +kernel
theorem dL_arePoses_326 : decode cL_arePoses 326 = .ok (.aload_n 3, 1) := by decide +kernel
theorem dL_arePoses_327 : decode cL_arePoses 327 = .ok (.iload 11, 2) := by decide +kernel
theorem dL_arePoses_329 : decode cL_arePoses 329 = .ok (.iaload, 1) := by decide +kernel
theorem dL_arePoses_330 : decode cL_arePoses 330 = .ok (.iload 7, 2) := by decide +kernel
theorem dL_arePoses_332 : decode cL_arePoses 332 = .ok (.if_icmp .le 10, 3) := by decide +kernel
theorem dL_arePoses_335 : decode cL_arePoses 335 = .ok (.aload_n 3, 1) := by decide +kernel
theorem dL_arePoses_336 : decode cL_arePoses 336 = .ok (.iload 11, 2) := by decide +kernel
theorem dL_arePoses_338 : decode cL_arePoses 338 = .ok (.iaload, 1) := by decide +kernel
theorem dL_arePoses_339 : decode cL_arePoses 339 = .ok (.goto 5, 3) := by decide +kernel
theorem dL_arePoses_342 : decode cL_arePoses 342 = .ok (.iload 7, 2) := by decide +kernel
theorem dL_arePoses_344 : decode cL_arePoses 344 = .ok (.istore 7, 2) := by decide +kernel
theorem dL_arePoses_346 : decode cL_arePoses 346 = .ok (.iload 5, 2) := by decide +kernel
theorem dL_arePoses_348 : decode cL_arePoses 348 = .ok (.aload_n 3, 1) := by decide +kernel
theorem dL_arePoses_349 : decode cL_arePoses 349 = .ok (.iload 11, 2) := by decide +kernel
theorem dL_arePoses_351 : decode cL_arePoses 351 = .ok (.iaload, 1) := by decide +kernel
theorem dL_arePoses_352 : decode cL_arePoses 352 = .ok (.iadd, 1) := by decide +kernel
theorem dL_arePoses_353 : decode cL_arePoses 353 = .ok (.istore 5, 2) := by decide +kernel
theorem dL_arePoses_355 : decode cL_arePoses 355 = .ok (.iload 8, 2) := by decide +kernel
theorem dL_arePoses_357 : decode cL_arePoses 357 = .ok (.ifCond .ne 21, 3) := by decide +kernel
theorem dL_arePoses_360 : decode cL_arePoses 360 = .ok (.aload_n 1, 1) := by decide +kernel
theorem dL_arePoses_361 : decode cL_arePoses 361 = .ok (.iconst 0, 1) := by decide +kernel
theorem dL_arePoses_362 : decode cL_arePoses 362 = .ok (.iaload, 1) := by decide +kernel
theorem dL_arePoses_363 : decode cL_arePoses 363 = .ok (.aload_n 2, 1) := by decide +kernel
theorem dL_arePoses_364 : decode cL_arePoses 364 = .ok (.iload 11, 2) := by decide +kernel
theorem dL_arePoses_366 : decode cL_arePoses 366 = .ok (.iaload, 1) := by decide +kernel
theorem dL_arePoses_367 : decode cL_arePoses 367 = .ok (.bipush 100, 2) := by decide +kernel
theorem dL_arePoses_369 : decode cL_arePoses 369 = .ok (.idiv, 1) := by decide +kernel
theorem dL_arePoses_370 : decode cL_arePoses 370 = .ok (.aload_n 1, 1) := by decide +kernel
theorem dL_arePoses_371 : decode cL_arePoses 371 = .ok (.bipush 14, 2) := by decide +kernel
theorem dL_arePoses_373 : decode cL_arePoses 373 = .ok (.iaload, 1) := by decide +kernel
theorem dL_arePoses_374 : decode cL_arePoses 374 = .ok (.iadd, 1) := by decide +kernel
