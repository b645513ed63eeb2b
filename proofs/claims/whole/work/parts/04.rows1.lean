theorem dX5_wind_19 : decode cX5_wind 19 = .ok (.getfield 10, 3) := by decide +kernel
theorem dX5_wind_22 : decode cX5_wind 22 = .ok (.getfield 52, 3) := by decide +kernel
theorem dX5_wind_25 : decode cX5_wind 25 = .ok (.iload_n 1, 1) := by decide +kernel
theorem dX5_wind_26 : decode cX5_wind 26 = .ok (.invokevirtual 55, 3) := by decide +kernel
theorem dX5_wind_29 : decode cX5_wind 29 = .ok (.aload_n 0, 1) := by decide +kernel
theorem dX5_wind_30 : decode cX5_wind 30 = .ok (.getfield 10, 3) := by decide +kernel
theorem dX5_wind_33 : decode cX5_wind 33 = .ok (.getfield 52, 3) := by decide +kernel
theorem dX5_wind_36 : decode cX5_wind 36 = .ok (.getfield 59, 3) := by decide +kernel
theorem dX5_wind_39 : decode cX5_wind 39 = .ok (.ireturn, 1) := by decide +kernel
set_option maxRecDepth 20000 in
theorem ggX5_weigh_X5_demandPose : GoodIn wsX5_weigh wsX5_demandPose := goodIn_ca (goodIn_r _ [7, 8, 9, 10, 11, 6, 12] (by decide +kernel) (by decide +kernel)) (goodIn_sub (fun _ h => List.mem_cons_of_mem _ (List.mem_append_left _ (List.mem_append_right _ h))) (by decide +kernel))
set_option maxRecDepth 20000 in
theorem gX5_weigh_X5_demandPose : GoodIn wsX5_weigh (va_wsS RX5 63 yX5_demandPose wsX5_demandPose) := goodIn_app (goodIn_of _ (by decide +kernel)) ggX5_weigh_X5_demandPose
set_option maxRecDepth 20000 in
theorem ggX5_weigh_X5_demandRange : GoodIn wsX5_weigh wsX5_demandRange := goodIn_ca (goodIn_r _ [15, 16, 17] (by decide +kernel) (by decide +kernel)) (goodIn_sub (fun _ h => List.mem_cons_of_mem _ (List.mem_append_right _ h)) (by decide +kernel))
set_option maxRecDepth 20000 in
theorem gX5_weigh_X5_demandRange : GoodIn wsX5_weigh (va_wsS RX5 44 yX5_demandRange wsX5_demandRange) := goodIn_app (goodIn_of _ (by decide +kernel)) ggX5_weigh_X5_demandRange
set_option maxRecDepth 20000 in
theorem ggX5_weigh_X2_push : GoodIn wsX5_weigh wsX2_push := goodIn_r _ [22, 23, 24, 25, 26, 27, 28, 29, 30, 31, 32, 33, 34, 35, 36, 37, 38, 39, 40, 41, 42, 43, 44, 45, 46, 47, 48, 49, 50, 51, 52, 53, 54, 55, 56, 57, 58, 59, 60, 61, 62, 63, 64, 65, 66, 67, 68, 69, 70, 92, 93, 94, 85, 86, 87, 88, 89, 90, 91, 95, 96, 97, 98, 99, 100, 101, 102, 103, 104, 105, 106, 107] (by decide +kernel) (by decide +kernel)
set_option maxRecDepth 20000 in
theorem gX5_weigh_X2_push : GoodIn wsX5_weigh (wsV RX5 48 RX2 yX2_push wsX2_push) := goodIn_app (goodIn_of _ (by decide +kernel)) ggX5_weigh_X2_push
set_option maxRecDepth 20000 in
theorem ggX5_weigh_X4_weightOf : GoodIn wsX5_weigh wsX4_weightOf := goodIn_r _ [74, 51, 11, 6, 12, 95, 96, 97, 98, 99, 100, 101, 102, 103, 104, 105] (by decide +kernel) (by decide +kernel)
set_option maxRecDepth 20000 in
theorem gX5_weigh_X4_weightOf : GoodIn wsX5_weigh (wsV RX5 66 RX4 yX4_weightOf wsX4_weightOf) := goodIn_app (goodIn_of _ (by decide +kernel)) ggX5_weigh_X4_weightOf
set_option maxRecDepth 20000 in
theorem ggX5_weigh_X4_putWeight : GoodIn wsX5_weigh wsX4_putWeight := goodIn_r _ [78, 51, 11, 6, 12, 95, 96, 97, 98, 99, 100, 101, 102, 103, 104, 105] (by decide +kernel) (by decide +kernel)
set_option maxRecDepth 20000 in
theorem gX5_weigh_X4_putWeight : GoodIn wsX5_weigh (wsV RX5 70 RX4 yX4_putWeight wsX4_putWeight) := goodIn_app (goodIn_of _ (by decide +kernel)) ggX5_weigh_X4_putWeight
theorem dX5_weigh_0 : decode cX5_weigh 0 = .ok (.iload_n 1, 1) := by decide +kernel
theorem dX5_weigh_1 : decode cX5_weigh 1 = .ok (.invokestatic 63, 3) := by decide +kernel
theorem dX5_weigh_4 : decode cX5_weigh 4 = .ok (.iload_n 2, 1) := by decide +kernel
theorem dX5_weigh_5 : decode cX5_weigh 5 = .ok (.bipush (-60), 2) := by decide +kernel
theorem dX5_weigh_7 : decode cX5_weigh 7 = .ok (.bipush 60, 2) := by decide +kernel
theorem dX5_weigh_9 : decode cX5_weigh 9 = .ok (.invokestatic 44, 3) := by decide +kernel
theorem dX5_weigh_12 : decode cX5_weigh 12 = .ok (.aload_n 0, 1) := by decide +kernel
theorem dX5_weigh_13 : decode cX5_weigh 13 = .ok (.getfield 22, 3) := by decide +kernel
theorem dX5_weigh_16 : decode cX5_weigh 16 = .ok (.aload_n 0, 1) := by decide +kernel
theorem dX5_weigh_17 : decode cX5_weigh 17 = .ok (.getfield 10, 3) := by decide +kernel
theorem dX5_weigh_20 : decode cX5_weigh 20 = .ok (.invokevirtual 48, 3) := by decide +kernel
theorem dX5_weigh_23 : decode cX5_weigh 23 = .ok (.aload_n 0, 1) := by decide +kernel
theorem dX5_weigh_24 : decode cX5_weigh 24 = .ok (.getfield 10, 3) := by decide +kernel
theorem dX5_weigh_27 : decode cX5_weigh 27 = .ok (.getfield 52, 3) := by decide +kernel
theorem dX5_weigh_30 : decode cX5_weigh 30 = .ok (.iload_n 1, 1) := by decide +kernel
theorem dX5_weigh_31 : decode cX5_weigh 31 = .ok (.invokevirtual 66, 3) := by decide +kernel
theorem dX5_weigh_34 : decode cX5_weigh 34 = .ok (.istore_n 3, 1) := by decide +kernel
theorem dX5_weigh_35 : decode cX5_weigh 35 = .ok (.aload_n 0, 1) := by decide +kernel
theorem dX5_weigh_36 : decode cX5_weigh 36 = .ok (.getfield 10, 3) := by decide +kernel
theorem dX5_weigh_39 : decode cX5_weigh 39 = .ok (.getfield 52, 3) := by decide +kernel
theorem dX5_weigh_42 : decode cX5_weigh 42 = .ok (.iload_n 1, 1) := by decide +kernel
theorem dX5_weigh_43 : decode cX5_weigh 43 = .ok (.iload_n 2, 1) := by decide +kernel
theorem dX5_weigh_44 : decode cX5_weigh 44 = .ok (.invokevirtual 70, 3) := by decide +kernel
theorem dX5_weigh_47 : decode cX5_weigh 47 = .ok (.iload_n 3, 1) := by decide +kernel
theorem dX5_weigh_48 : decode cX5_weigh 48 = .ok (.bipush 100, 2) := by decide +kernel
theorem dX5_weigh_50 : decode cX5_weigh 50 = .ok (.iadd, 1) := by decide +kernel
theorem dX5_weigh_51 : decode cX5_weigh 51 = .ok (.ireturn, 1) := by decide +kernel
set_option maxRecDepth 20000 in
theorem ggX5_adjust_X5_demandRange : GoodIn wsX5_adjust wsX5_demandRange := goodIn_ca (goodIn_r _ [9, 10, 11] (by decide +kernel) (by decide +kernel)) (goodIn_sub (fun _ h => List.mem_cons_of_mem _ (List.mem_append_right _ h)) (by decide +kernel))
set_option maxRecDepth 20000 in
theorem gX5_adjust_X5_demandRange : GoodIn wsX5_adjust (va_wsS RX5 44 yX5_demandRange wsX5_demandRange) := goodIn_app (goodIn_of _ (by decide +kernel)) ggX5_adjust_X5_demandRange
set_option maxRecDepth 20000 in
theorem ggX5_adjust_X2_push : GoodIn wsX5_adjust wsX2_push := goodIn_r _ [16, 17, 18, 19, 20, 21, 22, 23, 24, 25, 26, 27, 28, 29, 30, 31, 32, 33, 34, 35, 36, 37, 38, 39, 40, 41, 42, 43, 44, 45, 46, 47, 48, 49, 50, 51, 52, 53, 54, 55, 56, 57, 58, 59, 60, 61, 62, 63, 64, 89, 90, 91, 71, 72, 73, 74, 75, 76, 77, 78, 79, 80, 81, 82, 83, 84, 85, 86, 87, 88, 92, 93] (by decide +kernel) (by decide +kernel)
set_option maxRecDepth 20000 in
theorem gX5_adjust_X2_push : GoodIn wsX5_adjust (wsV RX5 48 RX2 yX2_push wsX2_push) := goodIn_app (goodIn_of _ (by decide +kernel)) ggX5_adjust_X2_push
theorem dX5_adjust_0 : decode cX5_adjust 0 = .ok (.iload_n 1, 1) := by decide +kernel
theorem dX5_adjust_1 : decode cX5_adjust 1 = .ok (.bipush (-99), 2) := by decide +kernel
theorem dX5_adjust_3 : decode cX5_adjust 3 = .ok (.bipush 99, 2) := by decide +kernel
theorem dX5_adjust_5 : decode cX5_adjust 5 = .ok (.invokestatic 44, 3) := by decide +kernel
theorem dX5_adjust_8 : decode cX5_adjust 8 = .ok (.iload_n 2, 1) := by decide +kernel
theorem dX5_adjust_9 : decode cX5_adjust 9 = .ok (.bipush (-50), 2) := by decide +kernel
theorem dX5_adjust_11 : decode cX5_adjust 11 = .ok (.bipush 50, 2) := by decide +kernel
theorem dX5_adjust_13 : decode cX5_adjust 13 = .ok (.invokestatic 44, 3) := by decide +kernel
theorem dX5_adjust_16 : decode cX5_adjust 16 = .ok (.aload_n 0, 1) := by decide +kernel
theorem dX5_adjust_17 : decode cX5_adjust 17 = .ok (.getfield 22, 3) := by decide +kernel
theorem dX5_adjust_20 : decode cX5_adjust 20 = .ok (.aload_n 0, 1) := by decide +kernel
theorem dX5_adjust_21 : decode cX5_adjust 21 = .ok (.getfield 10, 3) := by decide +kernel
theorem dX5_adjust_24 : decode cX5_adjust 24 = .ok (.invokevirtual 48, 3) := by decide +kernel
theorem dX5_adjust_27 : decode cX5_adjust 27 = .ok (.aload_n 0, 1) := by decide +kernel
theorem dX5_adjust_28 : decode cX5_adjust 28 = .ok (.getfield 10, 3) := by decide +kernel
theorem dX5_adjust_31 : decode cX5_adjust 31 = .ok (.getfield 52, 3) := by decide +kernel
theorem dX5_adjust_34 : decode cX5_adjust 34 = .ok (.getfield 74, 3) := by decide +kernel
theorem dX5_adjust_37 : decode cX5_adjust 37 = .ok (.istore_n 3, 1) := by decide +kernel
theorem dX5_adjust_38 : decode cX5_adjust 38 = .ok (.aload_n 0, 1) := by decide +kernel
theorem dX5_adjust_39 : decode cX5_adjust 39 = .ok (.getfield 10, 3) := by decide +kernel
theorem dX5_adjust_42 : decode cX5_adjust 42 = .ok (.getfield 52, 3) := by decide +kernel
theorem dX5_adjust_45 : decode cX5_adjust 45 = .ok (.iload_n 1, 1) := by decide +kernel
theorem dX5_adjust_46 : decode cX5_adjust 46 = .ok (.putfield 74, 3) := by decide +kernel
theorem dX5_adjust_49 : decode cX5_adjust 49 = .ok (.aload_n 0, 1) := by decide +kernel
theorem dX5_adjust_50 : decode cX5_adjust 50 = .ok (.getfield 10, 3) := by decide +kernel
theorem dX5_adjust_53 : decode cX5_adjust 53 = .ok (.getfield 52, 3) := by decide +kernel
theorem dX5_adjust_56 : decode cX5_adjust 56 = .ok (.iload_n 2, 1) := by decide +kernel
theorem dX5_adjust_57 : decode cX5_adjust 57 = .ok (.putfield 77, 3) := by decide +kernel
theorem dX5_adjust_60 : decode cX5_adjust 60 = .ok (.iload_n 3, 1) := by decide +kernel
theorem dX5_adjust_61 : decode cX5_adjust 61 = .ok (.bipush 100, 2) := by decide +kernel
theorem dX5_adjust_63 : decode cX5_adjust 63 = .ok (.iadd, 1) := by decide +kernel
theorem dX5_adjust_64 : decode cX5_adjust 64 = .ok (.ireturn, 1) := by decide +kernel
set_option maxRecDepth 20000 in
theorem ggX5_magnetise_X5_demandRange : GoodIn wsX5_magnetise wsX5_demandRange := goodIn_ca (goodIn_r _ [12, 13, 14] (by decide +kernel) (by decide +kernel)) (goodIn_sub (fun _ h => List.mem_cons_of_mem _ (List.mem_append_right _ h)) (by decide +kernel))
set_option maxRecDepth 20000 in
theorem gX5_magnetise_X5_demandRange : GoodIn wsX5_magnetise (va_wsS RX5 44 yX5_demandRange wsX5_demandRange) := goodIn_app (goodIn_of _ (by decide +kernel)) ggX5_magnetise_X5_demandRange
set_option maxRecDepth 20000 in
theorem ggX5_magnetise_X2_push : GoodIn wsX5_magnetise wsX2_push := goodIn_r _ [19, 20, 21, 22, 23, 6, 7, 8, 24, 25, 26, 27, 28, 29, 30, 31, 32, 33, 34, 35, 36, 37, 38, 39, 40, 41, 42, 43, 44, 45, 46, 47, 48, 49, 50, 51, 52, 53, 54, 55, 56, 57, 58, 59, 60, 61, 62, 63, 64, 89, 90, 91, 71, 72, 73, 74, 75, 76, 77, 78, 79, 80, 81, 82, 83, 84, 85, 86, 87, 88, 92, 93] (by decide +kernel) (by decide +kernel)
set_option maxRecDepth 20000 in
theorem gX5_magnetise_X2_push : GoodIn wsX5_magnetise (wsV RX5 48 RX2 yX2_push wsX2_push) := goodIn_app (goodIn_of _ (by decide +kernel)) ggX5_magnetise_X2_push
theorem dX5_magnetise_0 : decode cX5_magnetise 0 = .ok (.iload_n 1, 1) := by decide +kernel
theorem dX5_magnetise_1 : decode cX5_magnetise 1 = .ok (.iconst 1, 1) := by decide +kernel
theorem dX5_magnetise_2 : decode cX5_magnetise 2 = .ok (.bipush 100, 2) := by decide +kernel
theorem dX5_magnetise_4 : decode cX5_magnetise 4 = .ok (.invokestatic 44, 3) := by decide +kernel
theorem dX5_magnetise_7 : decode cX5_magnetise 7 = .ok (.aload_n 0, 1) := by decide +kernel
theorem dX5_magnetise_8 : decode cX5_magnetise 8 = .ok (.getfield 22, 3) := by decide +kernel
theorem dX5_magnetise_11 : decode cX5_magnetise 11 = .ok (.aload_n 0, 1) := by decide +kernel
theorem dX5_magnetise_12 : decode cX5_magnetise 12 = .ok (.getfield 10, 3) := by decide +kernel
theorem dX5_magnetise_15 : decode cX5_magnetise 15 = .ok (.invokevirtual 48, 3) := by decide +kernel
theorem dX5_magnetise_18 : decode cX5_magnetise 18 = .ok (.aload_n 0, 1) := by decide +kernel
theorem dX5_magnetise_19 : decode cX5_magnetise 19 = .ok (.getfield 10, 3) := by decide +kernel
theorem dX5_magnetise_22 : decode cX5_magnetise 22 = .ok (.getfield 52, 3) := by decide +kernel
theorem dX5_magnetise_25 : decode cX5_magnetise 25 = .ok (.bipush 100, 2) := by decide +kernel
theorem dX5_magnetise_27 : decode cX5_magnetise 27 = .ok (.aload_n 0, 1) := by decide +kernel
theorem dX5_magnetise_28 : decode cX5_magnetise 28 = .ok (.getfield 10, 3) := by decide +kernel
theorem dX5_magnetise_31 : decode cX5_magnetise 31 = .ok (.getfield 52, 3) := by decide +kernel
theorem dX5_magnetise_34 : decode cX5_magnetise 34 = .ok (.getfield 80, 3) := by decide +kernel
theorem dX5_magnetise_37 : decode cX5_magnetise 37 = .ok (.iload_n 1, 1) := by decide +kernel
theorem dX5_magnetise_38 : decode cX5_magnetise 38 = .ok (.iadd, 1) := by decide +kernel
theorem dX5_magnetise_39 : decode cX5_magnetise 39 = .ok (.invokestatic 83, 3) := by decide +kernel
theorem dX5_magnetise_42 : decode cX5_magnetise 42 = .ok (.putfield 80, 3) := by decide +kernel
theorem dX5_magnetise_45 : decode cX5_magnetise 45 = .ok (.aload_n 0, 1) := by decide +kernel
theorem dX5_magnetise_46 : decode cX5_magnetise 46 = .ok (.getfield 10, 3) := by decide +kernel
theorem dX5_magnetise_49 : decode cX5_magnetise 49 = .ok (.getfield 52, 3) := by decide +kernel
theorem dX5_magnetise_52 : decode cX5_magnetise 52 = .ok (.getfield 80, 3) := by decide +kernel
theorem dX5_magnetise_55 : decode cX5_magnetise 55 = .ok (.ireturn, 1) := by decide +kernel
set_option maxRecDepth 20000 in
theorem ggX5_demagnetise_X2_push : GoodIn wsX5_demagnetise wsX2_push := goodIn_r _ [9, 10, 11, 12, 13, 14, 15, 16, 17, 18, 19, 20, 21, 22, 23, 24, 25, 26, 27, 28, 29, 30, 31, 32, 33, 34, 35, 36, 37, 38, 39, 40, 41, 42, 43, 44, 45, 46, 47, 48, 49, 50, 51, 52, 53, 54, 55, 56, 57, 82, 83, 84, 64, 65, 66, 67, 68, 69, 70, 71, 72, 73, 74, 75, 76, 77, 78, 79, 80, 81, 85, 86] (by decide +kernel) (by decide +kernel)
set_option maxRecDepth 20000 in
theorem gX5_demagnetise_X2_push : GoodIn wsX5_demagnetise (wsV RX5 48 RX2 yX2_push wsX2_push) := goodIn_app (goodIn_of _ (by decide +kernel)) ggX5_demagnetise_X2_push
theorem dX5_demagnetise_0 : decode cX5_demagnetise 0 = .ok (.aload_n 0, 1) := by decide +kernel
theorem dX5_demagnetise_1 : decode cX5_demagnetise 1 = .ok (.getfield 22, 3) := by decide +kernel
theorem dX5_demagnetise_4 : decode cX5_demagnetise 4 = .ok (.aload_n 0, 1) := by decide +kernel
theorem dX5_demagnetise_5 : decode cX5_demagnetise 5 = .ok (.getfield 10, 3) := by decide +kernel
theorem dX5_demagnetise_8 : decode cX5_demagnetise 8 = .ok (.invokevirtual 48, 3) := by decide +kernel
theorem dX5_demagnetise_11 : decode cX5_demagnetise 11 = .ok (.aload_n 0, 1) := by decide +kernel
theorem dX5_demagnetise_12 : decode cX5_demagnetise 12 = .ok (.getfield 10, 3) := by decide +kernel
theorem dX5_demagnetise_15 : decode cX5_demagnetise 15 = .ok (.getfield 52, 3) := by decide +kernel
theorem dX5_demagnetise_18 : decode cX5_demagnetise 18 = .ok (.getfield 80, 3) := by decide +kernel
theorem dX5_demagnetise_21 : decode cX5_demagnetise 21 = .ok (.istore_n 1, 1) := by decide +kernel
theorem dX5_demagnetise_22 : decode cX5_demagnetise 22 = .ok (.aload_n 0, 1) := by decide +kernel
theorem dX5_demagnetise_23 : decode cX5_demagnetise 23 = .ok (.getfield 10, 3) := by decide +kernel
theorem dX5_demagnetise_26 : decode cX5_demagnetise 26 = .ok (.getfield 52, 3) := by decide +kernel
theorem dX5_demagnetise_29 : decode cX5_demagnetise 29 = .ok (.iconst 0, 1) := by decide +kernel
theorem dX5_demagnetise_30 : decode cX5_demagnetise 30 = .ok (.putfield 80, 3) := by decide +kernel
theorem dX5_demagnetise_33 : decode cX5_demagnetise 33 = .ok (.iload_n 1, 1) := by decide +kernel
theorem dX5_demagnetise_34 : decode cX5_demagnetise 34 = .ok (.ireturn, 1) := by decide +kernel
set_option maxRecDepth 20000 in
theorem ggX5_clean_X2_push : GoodIn wsX5_clean wsX2_push := goodIn_r _ [9, 10, 11, 12, 13, 14, 15, 16, 17, 18, 19, 20, 21, 22, 23, 24, 25, 26, 27, 28, 29, 30, 31, 32, 33, 34, 35, 36, 37, 38, 39, 40, 41, 42, 43, 44, 45, 46, 47, 48, 49, 50, 51, 52, 53, 54, 55, 56, 57, 82, 83, 84, 64, 65, 66, 67, 68, 69, 70, 71, 72, 73, 74, 75, 76, 77, 78, 79, 80, 81, 85, 86] (by decide +kernel) (by decide +kernel)
set_option maxRecDepth 20000 in
theorem gX5_clean_X2_push : GoodIn wsX5_clean (wsV RX5 48 RX2 yX2_push wsX2_push) := goodIn_app (goodIn_of _ (by decide +kernel)) ggX5_clean_X2_push
theorem dX5_clean_0 : decode cX5_clean 0 = .ok (.aload_n 0, 1) := by decide +kernel
theorem dX5_clean_1 : decode cX5_clean 1 = .ok (.getfield 22, 3) := by decide +kernel
theorem dX5_clean_4 : decode cX5_clean 4 = .ok (.aload_n 0, 1) := by decide +kernel
theorem dX5_clean_5 : decode cX5_clean 5 = .ok (.getfield 10, 3) := by decide +kernel
theorem dX5_clean_8 : decode cX5_clean 8 = .ok (.invokevirtual 48, 3) := by decide +kernel
theorem dX5_clean_11 : decode cX5_clean 11 = .ok (.aload_n 0, 1) := by decide +kernel
theorem dX5_clean_12 : decode cX5_clean 12 = .ok (.getfield 10, 3) := by decide +kernel
theorem dX5_clean_15 : decode cX5_clean 15 = .ok (.getfield 52, 3) := by decide +kernel
theorem dX5_clean_18 : decode cX5_clean 18 = .ok (.getfield 89, 3) := by decide +kernel
theorem dX5_clean_21 : decode cX5_clean 21 = .ok (.istore_n 1, 1) := by decide +kernel
theorem dX5_clean_22 : decode cX5_clean 22 = .ok (.aload_n 0, 1) := by decide +kernel
theorem dX5_clean_23 : decode cX5_clean 23 = .ok (.getfield 10, 3) := by decide +kernel
theorem dX5_clean_26 : decode cX5_clean 26 = .ok (.getfield 52, 3) := by decide +kernel
theorem dX5_clean_29 : decode cX5_clean 29 = .ok (.iconst 0, 1) := by decide +kernel
theorem dX5_clean_30 : decode cX5_clean 30 = .ok (.putfield 89, 3) := by decide +kernel
theorem dX5_clean_33 : decode cX5_clean 33 = .ok (.iload_n 1, 1) := by decide +kernel
theorem dX5_clean_34 : decode cX5_clean 34 = .ok (.ireturn, 1) := by decide +kernel
set_option maxRecDepth 20000 in
theorem ggX5_lay_X5_demandPose : GoodIn wsX5_lay wsX5_demandPose := goodIn_ca (goodIn_r _ [8, 9, 10, 11, 12, 7, 13] (by decide +kernel) (by decide +kernel)) (goodIn_sub (fun _ h => List.mem_cons_of_mem _ (List.mem_append_right _ h)) (by decide +kernel))
set_option maxRecDepth 20000 in
theorem gX5_lay_X5_demandPose : GoodIn wsX5_lay (va_wsS RX5 63 yX5_demandPose wsX5_demandPose) := goodIn_app (goodIn_of _ (by decide +kernel)) ggX5_lay_X5_demandPose
set_option maxRecDepth 20000 in
theorem ggX5_lay_X2_push : GoodIn wsX5_lay wsX2_push := goodIn_r _ [18, 19, 20, 21, 22, 23, 24, 25, 26, 27, 28, 29, 30, 31, 32, 33, 34, 35, 36, 37, 38, 39, 40, 41, 42, 43, 44, 45, 46, 47, 48, 49, 50, 51, 52, 53, 54, 55, 56, 57, 58, 59, 60, 61, 62, 63, 64, 65, 66, 91, 92, 93, 73, 74, 75, 76, 77, 78, 79, 80, 81, 82, 83, 84, 85, 86, 87, 88, 89, 90, 94, 95] (by decide +kernel) (by decide +kernel)
set_option maxRecDepth 20000 in
theorem gX5_lay_X2_push : GoodIn wsX5_lay (wsV RX5 48 RX2 yX2_push wsX2_push) := goodIn_app (goodIn_of _ (by decide +kernel)) ggX5_lay_X2_push
theorem dX5_lay_0 : decode cX5_lay 0 = .ok (.iload_n 1, 1) := by decide +kernel
theorem dX5_lay_1 : decode cX5_lay 1 = .ok (.invokestatic 63, 3) := by decide +kernel
theorem dX5_lay_4 : decode cX5_lay 4 = .ok (.aload_n 0, 1) := by decide +kernel
theorem dX5_lay_5 : decode cX5_lay 5 = .ok (.getfield 22, 3) := by decide +kernel
theorem dX5_lay_8 : decode cX5_lay 8 = .ok (.aload_n 0, 1) := by decide +kernel
theorem dX5_lay_9 : decode cX5_lay 9 = .ok (.getfield 10, 3) := by decide +kernel
theorem dX5_lay_12 : decode cX5_lay 12 = .ok (.invokevirtual 48, 3) := by decide +kernel
theorem dX5_lay_15 : decode cX5_lay 15 = .ok (.aload_n 0, 1) := by decide +kernel
theorem dX5_lay_16 : decode cX5_lay 16 = .ok (.getfield 10, 3) := by decide +kernel
theorem dX5_lay_19 : decode cX5_lay 19 = .ok (.getfield 52, 3) := by decide +kernel
theorem dX5_lay_22 : decode cX5_lay 22 = .ok (.getfield 92, 3) := by decide +kernel
theorem dX5_lay_25 : decode cX5_lay 25 = .ok (.istore_n 2, 1) := by decide +kernel
theorem dX5_lay_26 : decode cX5_lay 26 = .ok (.aload_n 0, 1) := by decide +kernel
theorem dX5_lay_27 : decode cX5_lay 27 = .ok (.getfield 10, 3) := by decide +kernel
theorem dX5_lay_30 : decode cX5_lay 30 = .ok (.getfield 52, 3) := by decide +kernel
theorem dX5_lay_33 : decode cX5_lay 33 = .ok (.iload_n 1, 1) := by decide +kernel
theorem dX5_lay_34 : decode cX5_lay 34 = .ok (.putfield 92, 3) := by decide +kernel
theorem dX5_lay_37 : decode cX5_lay 37 = .ok (.iload_n 2, 1) := by decide +kernel
theorem dX5_lay_38 : decode cX5_lay 38 = .ok (.ireturn, 1) := by decide +kernel
set_option maxRecDepth 20000 in
theorem ggX5_pass_X5_demandRange : GoodIn wsX5_pass wsX5_demandRange := goodIn_ca (goodIn_r _ [7, 8, 9] (by decide +kernel) (by decide +kernel)) (goodIn_sub (fun _ h => List.mem_cons_of_mem _ (List.mem_append_right _ h)) (by decide +kernel))
set_option maxRecDepth 20000 in
theorem gX5_pass_X5_demandRange : GoodIn wsX5_pass (va_wsS RX5 44 yX5_demandRange wsX5_demandRange) := goodIn_app (goodIn_of _ (by decide +kernel)) ggX5_pass_X5_demandRange
set_option maxRecDepth 20000 in
theorem ggX5_pass_X2_push : GoodIn wsX5_pass wsX2_push := goodIn_r _ [14, 15, 16, 17, 18, 19, 20, 21, 22, 23, 24, 25, 26, 27, 28, 29, 30, 31, 32, 33, 34, 35, 36, 37, 38, 39, 40, 41, 42, 43, 44, 45, 46, 47, 48, 49, 50, 51, 52, 53, 54, 55, 56, 57, 58, 59, 60, 61, 62, 110, 111, 112, 103, 104, 105, 106, 107, 108, 109, 113, 114, 115, 116, 117, 118, 119, 120, 121, 122, 123, 124, 125] (by decide +kernel) (by decide +kernel)
set_option maxRecDepth 20000 in
theorem gX5_pass_X2_push : GoodIn wsX5_pass (wsV RX5 48 RX2 yX2_push wsX2_push) := goodIn_app (goodIn_of _ (by decide +kernel)) ggX5_pass_X2_push
set_option maxRecDepth 20000 in
theorem ggX5_pass_X4_run : GoodIn wsX5_pass wsX4_run := goodIn_r _ [66, 54, 67, 68, 69, 41, 70, 51, 53, 52, 50, 47, 49, 71, 19, 20, 21, 72, 73, 74, 75, 76, 77, 78, 79, 80, 81, 82, 83, 84, 85, 86, 45, 48, 87, 88, 89, 90, 43, 91, 6, 92, 93, 94, 95, 96, 113, 114, 115, 116, 117, 118, 119, 120, 121, 122, 123] (by decide +kernel) (by decide +kernel)
set_option maxRecDepth 20000 in
theorem gX5_pass_X4_run : GoodIn wsX5_pass (wsV RX5 95 RX4 yX4_run wsX4_run) := goodIn_app (goodIn_of _ (by decide +kernel)) ggX5_pass_X4_run
theorem dX5_pass_0 : decode cX5_pass 0 = .ok (.iload_n 1, 1) := by decide +kernel
theorem dX5_pass_1 : decode cX5_pass 1 = .ok (.iconst 1, 1) := by decide +kernel
theorem dX5_pass_2 : decode cX5_pass 2 = .ok (.bipush 99, 2) := by decide +kernel
theorem dX5_pass_4 : decode cX5_pass 4 = .ok (.invokestatic 44, 3) := by decide +kernel
theorem dX5_pass_7 : decode cX5_pass 7 = .ok (.aload_n 0, 1) := by decide +kernel
theorem dX5_pass_8 : decode cX5_pass 8 = .ok (.getfield 22, 3) := by decide +kernel
theorem dX5_pass_11 : decode cX5_pass 11 = .ok (.aload_n 0, 1) := by decide +kernel
theorem dX5_pass_12 : decode cX5_pass 12 = .ok (.getfield 10, 3) := by decide +kernel
theorem dX5_pass_15 : decode cX5_pass 15 = .ok (.invokevirtual 48, 3) := by decide +kernel
theorem dX5_pass_18 : decode cX5_pass 18 = .ok (.aload_n 0, 1) := by decide +kernel
theorem dX5_pass_19 : decode cX5_pass 19 = .ok (.getfield 10, 3) := by decide +kernel
theorem dX5_pass_22 : decode cX5_pass 22 = .ok (.getfield 52, 3) := by decide +kernel
theorem dX5_pass_25 : decode cX5_pass 25 = .ok (.iload_n 1, 1) := by decide +kernel
theorem dX5_pass_26 : decode cX5_pass 26 = .ok (.invokevirtual 95, 3) := by decide +kernel
theorem dX5_pass_29 : decode cX5_pass 29 = .ok (.ireturn, 1) := by decide +kernel
set_option maxRecDepth 20000 in
theorem ggX5_read_X5_demandPose : GoodIn wsX5_read wsX5_demandPose := goodIn_ca (goodIn_r _ [9, 10, 11, 12, 13, 8, 14] (by decide +kernel) (by decide +kernel)) (goodIn_sub (fun _ h => List.mem_cons_of_mem _ (List.mem_append_right _ h)) (by decide +kernel))
set_option maxRecDepth 20000 in
theorem gX5_read_X5_demandPose : GoodIn wsX5_read (va_wsS RX5 63 yX5_demandPose wsX5_demandPose) := goodIn_app (goodIn_of _ (by decide +kernel)) ggX5_read_X5_demandPose
set_option maxRecDepth 20000 in
theorem ggX5_read_X3_whyNoReading : GoodIn wsX5_read wsX3_whyNoReading := goodIn_r _ [19, 20, 21, 22, 23, 24, 25, 26, 27, 28, 29, 30, 31, 32, 33, 34, 35, 36, 37, 38, 39, 40, 41, 42, 43, 44, 45, 46, 47, 48, 49, 126, 127, 128, 129, 130, 131, 132, 133, 134, 135, 136, 137, 138, 139, 140, 141, 142, 143, 144, 145] (by decide +kernel) (by decide +kernel)
set_option maxRecDepth 20000 in
theorem gX5_read_X3_whyNoReading : GoodIn wsX5_read (wsV RX5 98 RX3 yX3_whyNoReading wsX3_whyNoReading) := goodIn_app (goodIn_of _ (by decide +kernel)) ggX5_read_X3_whyNoReading
set_option maxRecDepth 20000 in
theorem ggX5_read_X2_push : GoodIn wsX5_read wsX2_push := goodIn_r _ [54, 55, 56, 57, 58, 59, 34, 60, 61, 62, 63, 18, 64, 20, 24, 22, 65, 66, 67, 68, 69, 70, 71, 72, 73, 74, 75, 28, 76, 77, 78, 79, 40, 30, 80, 31, 81, 82, 83, 84, 85, 86, 87, 88, 47, 89, 90, 91, 49, 146, 147, 148, 126, 127, 128, 129, 130, 131, 132, 133, 134, 135, 136, 137, 138, 139, 140, 141, 142, 143, 144, 145] (by decide +kernel) (by decide +kernel)
set_option maxRecDepth 20000 in
theorem gX5_read_X2_push : GoodIn wsX5_read (wsV RX5 48 RX2 yX2_push wsX2_push) := goodIn_app (goodIn_of _ (by decide +kernel)) ggX5_read_X2_push
set_option maxRecDepth 20000 in
theorem ggX5_read_X3_makeReading : GoodIn wsX5_read wsX3_makeReading := goodIn_r _ [95, 20, 96, 24, 69, 97, 98, 99, 47, 100, 49, 90, 101, 102, 103, 45, 46, 48, 104, 105, 106, 28, 107, 79, 80, 108, 26, 27, 29, 30, 31, 32, 33, 34, 35, 109, 110, 111, 112, 77, 13, 8, 14, 113, 114, 115, 116, 117, 37, 38, 39, 40, 41, 42, 43, 118, 126, 127, 128, 129, 130, 131, 132, 133, 134, 135, 136, 137, 138, 139, 140, 141, 142, 143, 144, 145] (by decide +kernel) (by decide +kernel)
set_option maxRecDepth 20000 in
theorem gX5_read_X3_makeReading : GoodIn wsX5_read (wsV RX5 108 RX3 yX3_makeReading wsX3_makeReading) := goodIn_app (goodIn_of _ (by decide +kernel)) ggX5_read_X3_makeReading
set_option maxRecDepth 20000 in
theorem ggX5_read_X4_rateIn : GoodIn wsX5_read wsX4_rateIn := goodIn_r _ [107, 79, 80, 108, 26, 27, 28, 29, 30, 31, 32, 33, 34, 35, 109, 110, 111, 112, 77, 13, 8, 14, 113, 114, 115, 116, 133, 134, 135, 136, 137, 138, 139, 140, 141, 142, 143] (by decide +kernel) (by decide +kernel)
set_option maxRecDepth 20000 in
theorem gX5_read_X4_rateIn : GoodIn wsX5_read (wsV RX5 111 RX4 yX4_rateIn wsX4_rateIn) := goodIn_app (goodIn_of _ (by decide +kernel)) ggX5_read_X4_rateIn
theorem dX5_read_0 : decode cX5_read 0 = .ok (.iload_n 1, 1) := by decide +kernel
theorem dX5_read_1 : decode cX5_read 1 = .ok (.invokestatic 63, 3) := by decide +kernel
theorem dX5_read_4 : decode cX5_read 4 = .ok (.aload_n 0, 1) := by decide +kernel
theorem dX5_read_5 : decode cX5_read 5 = .ok (.getfield 10, 3) := by decide +kernel
theorem dX5_read_8 : decode cX5_read 8 = .ok (.iload_n 1, 1) := by decide +kernel
theorem dX5_read_9 : decode cX5_read 9 = .ok (.invokevirtual 98, 3) := by decide +kernel
theorem dX5_read_12 : decode cX5_read 12 = .ok (.ifCond .eq 13, 3) := by decide +kernel
theorem dX5_read_15 : decode cX5_read 15 = .ok (.new 101, 3) := by decide +kernel
theorem dX5_read_18 : decode cX5_read 18 = .ok (.dup, 1) := by decide +kernel
theorem dX5_read_19 : decode cX5_read 19 = .ok (.ldc 103, 2) := by decide +kernel
theorem dX5_read_21 : decode cX5_read 21 = .ok (.invokespecial 105, 3) := by decide +kernel
theorem dX5_read_24 : decode cX5_read 24 = .ok (.athrow, 1) := by decide +kernel
theorem dX5_read_25 : decode cX5_read 25 = .ok (.aload_n 0, 1) := by decide +kernel
theorem dX5_read_26 : decode cX5_read 26 = .ok (.getfield 22, 3) := by decide +kernel
theorem dX5_read_29 : decode cX5_read 29 = .ok (.aload_n 0, 1) := by decide +kernel
theorem dX5_read_30 : decode cX5_read 30 = .ok (.getfield 10, 3) := by decide +kernel
theorem dX5_read_33 : decode cX5_read 33 = .ok (.invokevirtual 48, 3) := by decide +kernel
theorem dX5_read_36 : decode cX5_read 36 = .ok (.aload_n 0, 1) := by decide +kernel
theorem dX5_read_37 : decode cX5_read 37 = .ok (.getfield 10, 3) := by decide +kernel
theorem dX5_read_40 : decode cX5_read 40 = .ok (.iload_n 1, 1) := by decide +kernel
theorem dX5_read_41 : decode cX5_read 41 = .ok (.invokevirtual 108, 3) := by decide +kernel
theorem dX5_read_44 : decode cX5_read 44 = .ok (.aload_n 0, 1) := by decide +kernel
theorem dX5_read_45 : decode cX5_read 45 = .ok (.getfield 10, 3) := by decide +kernel
theorem dX5_read_48 : decode cX5_read 48 = .ok (.getfield 52, 3) := by decide +kernel
theorem dX5_read_51 : decode cX5_read 51 = .ok (.iload_n 1, 1) := by decide +kernel
theorem dX5_read_52 : decode cX5_read 52 = .ok (.invokevirtual 111, 3) := by decide +kernel
theorem dX5_read_55 : decode cX5_read 55 = .ok (.sipush 10000, 3) := by decide +kernel
theorem dX5_read_58 : decode cX5_read 58 = .ok (.iadd, 1) := by decide +kernel
theorem dX5_read_59 : decode cX5_read 59 = .ok (.ireturn, 1) := by decide +kernel
set_option maxRecDepth 20000 in
theorem ggX5_renew_X2_push : GoodIn wsX5_renew wsX2_push := goodIn_r _ [9, 10, 11, 12, 13, 14, 15, 16, 17, 18, 19, 20, 21, 22, 23, 24, 25, 26, 27, 28, 29, 30, 31, 32, 33, 34, 35, 36, 37, 38, 39, 40, 41, 42, 43, 44, 45, 46, 47, 48, 49, 50, 51, 52, 53, 54, 55, 56, 57, 73, 74, 75, 64, 65, 66, 67, 68, 69, 70, 76, 77, 78, 79, 80, 81, 82, 83, 84, 85, 86, 71, 72] (by decide +kernel) (by decide +kernel)
set_option maxRecDepth 20000 in
theorem gX5_renew_X2_push : GoodIn wsX5_renew (wsV RX5 48 RX2 yX2_push wsX2_push) := goodIn_app (goodIn_of _ (by decide +kernel)) ggX5_renew_X2_push
theorem dX5_renew_0 : decode cX5_renew 0 = .ok (.aload_n 0, 1) := by decide +kernel
theorem dX5_renew_1 : decode cX5_renew 1 = .ok (.getfield 22, 3) := by decide +kernel
theorem dX5_renew_4 : decode cX5_renew 4 = .ok (.aload_n 0, 1) := by decide +kernel
theorem dX5_renew_5 : decode cX5_renew 5 = .ok (.getfield 10, 3) := by decide +kernel
theorem dX5_renew_8 : decode cX5_renew 8 = .ok (.invokevirtual 48, 3) := by decide +kernel
theorem dX5_renew_11 : decode cX5_renew 11 = .ok (.aload_n 0, 1) := by decide +kernel
theorem dX5_renew_12 : decode cX5_renew 12 = .ok (.getfield 10, 3) := by decide +kernel
theorem dX5_renew_15 : decode cX5_renew 15 = .ok (.getfield 114, 3) := by decide +kernel
theorem dX5_renew_18 : decode cX5_renew 18 = .ok (.getfield 118, 3) := by decide +kernel
theorem dX5_renew_21 : decode cX5_renew 21 = .ok (.istore_n 1, 1) := by decide +kernel
theorem dX5_renew_22 : decode cX5_renew 22 = .ok (.aload_n 0, 1) := by decide +kernel
theorem dX5_renew_23 : decode cX5_renew 23 = .ok (.getfield 10, 3) := by decide +kernel
theorem dX5_renew_26 : decode cX5_renew 26 = .ok (.getfield 114, 3) := by decide +kernel
theorem dX5_renew_29 : decode cX5_renew 29 = .ok (.iconst 0, 1) := by decide +kernel
theorem dX5_renew_30 : decode cX5_renew 30 = .ok (.putfield 118, 3) := by decide +kernel
theorem dX5_renew_33 : decode cX5_renew 33 = .ok (.iload_n 1, 1) := by decide +kernel
theorem dX5_renew_34 : decode cX5_renew 34 = .ok (.ireturn, 1) := by decide +kernel
set_option maxRecDepth 20000 in
theorem ggX5_set_X5_demandRange : GoodIn wsX5_set wsX5_demandRange := goodIn_ca (goodIn_r _ [11, 12, 13] (by decide +kernel) (by decide +kernel)) (goodIn_sub (fun _ h => List.mem_cons_of_mem _ (List.mem_append_right _ h)) (by decide +kernel))
set_option maxRecDepth 20000 in
theorem gX5_set_X5_demandRange : GoodIn wsX5_set (va_wsS RX5 44 yX5_demandRange wsX5_demandRange) := goodIn_app (goodIn_of _ (by decide +kernel)) ggX5_set_X5_demandRange
set_option maxRecDepth 20000 in
theorem ggX5_set_X2_push : GoodIn wsX5_set wsX2_push := goodIn_r _ [18, 19, 20, 21, 22, 23, 24, 25, 26, 27, 28, 29, 30, 31, 32, 33, 34, 35, 36, 37, 38, 39, 40, 41, 42, 43, 44, 45, 46, 47, 48, 49, 50, 51, 52, 53, 54, 55, 56, 57, 58, 59, 60, 61, 62, 63, 64, 65, 66, 80, 81, 82, 73, 74, 75, 76, 77, 78, 79, 83, 84, 85, 86, 87, 88, 89, 90, 91, 92, 93, 94, 95] (by decide +kernel) (by decide +kernel)
set_option maxRecDepth 20000 in
theorem gX5_set_X2_push : GoodIn wsX5_set (wsV RX5 48 RX2 yX2_push wsX2_push) := goodIn_app (goodIn_of _ (by decide +kernel)) ggX5_set_X2_push
theorem dX5_set_0 : decode cX5_set 0 = .ok (.iload_n 1, 1) := by decide +kernel
theorem dX5_set_1 : decode cX5_set 1 = .ok (.ifCond .lt 8, 3) := by decide +kernel
theorem dX5_set_4 : decode cX5_set 4 = .ok (.iload_n 1, 1) := by decide +kernel
theorem dX5_set_5 : decode cX5_set 5 = .ok (.iconst 4, 1) := by decide +kernel
theorem dX5_set_6 : decode cX5_set 6 = .ok (.if_icmp .lt 13, 3) := by decide +kernel
theorem dX5_set_9 : decode cX5_set 9 = .ok (.new 123, 3) := by decide +kernel
theorem dX5_set_12 : decode cX5_set 12 = .ok (.dup, 1) := by decide +kernel
theorem dX5_set_13 : decode cX5_set 13 = .ok (.ldc 125, 2) := by decide +kernel
theorem dX5_set_15 : decode cX5_set 15 = .ok (.invokespecial 127, 3) := by decide +kernel
theorem dX5_set_18 : decode cX5_set 18 = .ok (.athrow, 1) := by decide +kernel
theorem dX5_set_19 : decode cX5_set 19 = .ok (.iload_n 2, 1) := by decide +kernel
theorem dX5_set_20 : decode cX5_set 20 = .ok (.getstatic 128, 3) := by decide +kernel
theorem dX5_set_23 : decode cX5_set 23 = .ok (.iload_n 1, 1) := by decide +kernel
theorem dX5_set_24 : decode cX5_set 24 = .ok (.iaload, 1) := by decide +kernel
theorem dX5_set_25 : decode cX5_set 25 = .ok (.getstatic 132, 3) := by decide +kernel
theorem dX5_set_28 : decode cX5_set 28 = .ok (.iload_n 1, 1) := by decide +kernel
theorem dX5_set_29 : decode cX5_set 29 = .ok (.iaload, 1) := by decide +kernel
theorem dX5_set_30 : decode cX5_set 30 = .ok (.invokestatic 44, 3) := by decide +kernel
theorem dX5_set_33 : decode cX5_set 33 = .ok (.aload_n 0, 1) := by decide +kernel
theorem dX5_set_34 : decode cX5_set 34 = .ok (.getfield 22, 3) := by decide +kernel
theorem dX5_set_37 : decode cX5_set 37 = .ok (.aload_n 0, 1) := by decide +kernel
theorem dX5_set_38 : decode cX5_set 38 = .ok (.getfield 10, 3) := by decide +kernel
theorem dX5_set_41 : decode cX5_set 41 = .ok (.invokevirtual 48, 3) := by decide +kernel
theorem dX5_set_44 : decode cX5_set 44 = .ok (.aload_n 0, 1) := by decide +kernel
theorem dX5_set_45 : decode cX5_set 45 = .ok (.getfield 10, 3) := by decide +kernel
theorem dX5_set_48 : decode cX5_set 48 = .ok (.getfield 135, 3) := by decide +kernel
theorem dX5_set_51 : decode cX5_set 51 = .ok (.iload_n 1, 1) := by decide +kernel
theorem dX5_set_52 : decode cX5_set 52 = .ok (.iaload, 1) := by decide +kernel
theorem dX5_set_53 : decode cX5_set 53 = .ok (.istore_n 3, 1) := by decide +kernel
theorem dX5_set_54 : decode cX5_set 54 = .ok (.aload_n 0, 1) := by decide +kernel
theorem dX5_set_55 : decode cX5_set 55 = .ok (.getfield 10, 3) := by decide +kernel
theorem dX5_set_58 : decode cX5_set 58 = .ok (.getfield 135, 3) := by decide +kernel
theorem dX5_set_61 : decode cX5_set 61 = .ok (.iload_n 1, 1) := by decide +kernel
theorem dX5_set_62 : decode cX5_set 62 = .ok (.iload_n 2, 1) := by decide +kernel
theorem dX5_set_63 : decode cX5_set 63 = .ok (.iastore, 1) := by decide +kernel
theorem dX5_set_64 : decode cX5_set 64 = .ok (.iload_n 3, 1) := by decide +kernel
theorem dX5_set_65 : decode cX5_set 65 = .ok (.ireturn, 1) := by decide +kernel
set_option maxRecDepth 20000 in
theorem ggX5_append_X5_demandRange : GoodIn wsX5_append wsX5_demandRange := goodIn_ca (goodIn_r _ [9, 10, 11] (by decide +kernel) (by decide +kernel)) (goodIn_sub (fun _ h => List.mem_cons_of_mem _ (List.mem_append_right _ h)) (by decide +kernel))
set_option maxRecDepth 20000 in
theorem gX5_append_X5_demandRange : GoodIn wsX5_append (va_wsS RX5 44 yX5_demandRange wsX5_demandRange) := goodIn_app (goodIn_of _ (by decide +kernel)) ggX5_append_X5_demandRange
theorem dX5_append_0 : decode cX5_append 0 = .ok (.iload_n 1, 1) := by decide +kernel
theorem dX5_append_1 : decode cX5_append 1 = .ok (.bipush 33, 2) := by decide +kernel
theorem dX5_append_3 : decode cX5_append 3 = .ok (.bipush 126, 2) := by decide +kernel
theorem dX5_append_5 : decode cX5_append 5 = .ok (.invokestatic 44, 3) := by decide +kernel
theorem dX5_append_8 : decode cX5_append 8 = .ok (.aload_n 0, 1) := by decide +kernel
theorem dX5_append_9 : decode cX5_append 9 = .ok (.getfield 29, 3) := by decide +kernel
theorem dX5_append_12 : decode cX5_append 12 = .ok (.getfield 138, 3) := by decide +kernel
theorem dX5_append_15 : decode cX5_append 15 = .ok (.bipush 60, 2) := by decide +kernel
theorem dX5_append_17 : decode cX5_append 17 = .ok (.if_icmp .lt 13, 3) := by decide +kernel
theorem dX5_append_20 : decode cX5_append 20 = .ok (.new 101, 3) := by decide +kernel
theorem dX5_append_23 : decode cX5_append 23 = .ok (.dup, 1) := by decide +kernel
theorem dX5_append_24 : decode cX5_append 24 = .ok (.ldc 139, 2) := by decide +kernel
theorem dX5_append_26 : decode cX5_append 26 = .ok (.invokespecial 105, 3) := by decide +kernel
theorem dX5_append_29 : decode cX5_append 29 = .ok (.athrow, 1) := by decide +kernel
theorem dX5_append_30 : decode cX5_append 30 = .ok (.aload_n 0, 1) := by decide +kernel
theorem dX5_append_31 : decode cX5_append 31 = .ok (.getfield 29, 3) := by decide +kernel
theorem dX5_append_34 : decode cX5_append 34 = .ok (.getfield 141, 3) := by decide +kernel
theorem dX5_append_37 : decode cX5_append 37 = .ok (.aload_n 0, 1) := by decide +kernel
theorem dX5_append_38 : decode cX5_append 38 = .ok (.getfield 29, 3) := by decide +kernel
theorem dX5_append_41 : decode cX5_append 41 = .ok (.getfield 138, 3) := by decide +kernel
theorem dX5_append_44 : decode cX5_append 44 = .ok (.iload_n 1, 1) := by decide +kernel
theorem dX5_append_45 : decode cX5_append 45 = .ok (.iastore, 1) := by decide +kernel
theorem dX5_append_46 : decode cX5_append 46 = .ok (.aload_n 0, 1) := by decide +kernel
theorem dX5_append_47 : decode cX5_append 47 = .ok (.getfield 29, 3) := by decide +kernel
theorem dX5_append_50 : decode cX5_append 50 = .ok (.dup, 1) := by decide +kernel
theorem dX5_append_51 : decode cX5_append 51 = .ok (.getfield 138, 3) := by decide +kernel
theorem dX5_append_54 : decode cX5_append 54 = .ok (.iconst 1, 1) := by decide +kernel
theorem dX5_append_55 : decode cX5_append 55 = .ok (.iadd, 1) := by decide +kernel
theorem dX5_append_56 : decode cX5_append 56 = .ok (.putfield 138, 3) := by decide +kernel
theorem dX5_append_59 : decode cX5_append 59 = .ok (.aload_n 0, 1) := by decide +kernel
theorem dX5_append_60 : decode cX5_append 60 = .ok (.getfield 29, 3) := by decide +kernel
theorem dX5_append_63 : decode cX5_append 63 = .ok (.getfield 138, 3) := by decide +kernel
theorem dX5_append_66 : decode cX5_append 66 = .ok (.ireturn, 1) := by decide +kernel
theorem dX5_clearBuffer_0 : decode cX5_clearBuffer 0 = .ok (.aload_n 0, 1) := by decide +kernel
theorem dX5_clearBuffer_1 : decode cX5_clearBuffer 1 = .ok (.getfield 29, 3) := by decide +kernel
theorem dX5_clearBuffer_4 : decode cX5_clearBuffer 4 = .ok (.getfield 138, 3) := by decide +kernel
theorem dX5_clearBuffer_7 : decode cX5_clearBuffer 7 = .ok (.istore_n 1, 1) := by decide +kernel
theorem dX5_clearBuffer_8 : decode cX5_clearBuffer 8 = .ok (.aload_n 0, 1) := by decide +kernel
theorem dX5_clearBuffer_9 : decode cX5_clearBuffer 9 = .ok (.getfield 29, 3) := by decide +kernel
theorem dX5_clearBuffer_12 : decode cX5_clearBuffer 12 = .ok (.iconst 0, 1) := by decide +kernel
theorem dX5_clearBuffer_13 : decode cX5_clearBuffer 13 = .ok (.putfield 138, 3) := by decide +kernel
theorem dX5_clearBuffer_16 : decode cX5_clearBuffer 16 = .ok (.iload_n 1, 1) := by decide +kernel
theorem dX5_clearBuffer_17 : decode cX5_clearBuffer 17 = .ok (.ireturn, 1) := by decide +kernel
set_option maxRecDepth 20000 in
theorem ggX5_firstError_X0_scan : GoodIn wsX5_firstError wsX0_scan := goodIn_r _ [6, 7, 8, 9, 10, 11, 12, 5, 13, 14, 15, 16, 17, 18, 19, 20, 21, 22, 23, 24, 25, 26, 27, 28, 29, 30, 31, 32, 33, 34, 35, 36, 37, 38, 39, 40, 41, 42, 43, 44, 45, 46, 47, 48, 49, 50, 51, 52, 53, 54, 55, 62, 63, 64, 65, 66, 67, 68, 69, 70] (by decide +kernel) (by decide +kernel)
set_option maxRecDepth 20000 in
theorem gX5_firstError_X0_scan : GoodIn wsX5_firstError (wsV RX5 144 RX0 yX0_scan wsX0_scan) := goodIn_app (goodIn_of _ (by decide +kernel)) ggX5_firstError_X0_scan
theorem dX5_firstError_0 : decode cX5_firstError 0 = .ok (.aload_n 0, 1) := by decide +kernel
theorem dX5_firstError_1 : decode cX5_firstError 1 = .ok (.getfield 29, 3) := by decide +kernel
theorem dX5_firstError_4 : decode cX5_firstError 4 = .ok (.invokevirtual 144, 3) := by decide +kernel
theorem dX5_firstError_7 : decode cX5_firstError 7 = .ok (.ireturn, 1) := by decide +kernel
set_option maxRecDepth 20000 in
theorem ggX5_obey_X0_isComplete : GoodIn wsX5_obey wsX0_isComplete := goodIn_r _ [12, 13, 14, 15, 16, 11, 17, 18, 19, 20, 21, 22, 23, 24, 25, 26, 27, 28, 29, 30, 31, 32, 33, 34, 35, 36, 37, 38, 39, 40, 41, 42, 43, 44, 45, 46, 47, 48, 49, 50, 51, 52, 53, 54, 55, 56, 57, 58, 59, 60, 61, 62, 63, 64, 65, 220, 221, 222, 223, 224, 225, 226, 227, 228] (by decide +kernel) (by decide +kernel)
set_option maxRecDepth 20000 in
theorem gX5_obey_X0_isComplete : GoodIn wsX5_obey (wsV RX5 148 RX0 yX0_isComplete wsX0_isComplete) := goodIn_app (goodIn_of _ (by decide +kernel)) ggX5_obey_X0_isComplete
set_option maxRecDepth 20000 in
theorem ggX5_obey_X2_push : GoodIn wsX5_obey wsX2_push := goodIn_r _ [70, 71, 72, 73, 74, 75, 76, 77, 78, 79, 80, 81, 82, 83, 84, 85, 86, 87, 88, 89, 90, 91, 92, 93, 94, 95, 96, 97, 98, 99, 100, 101, 102, 103, 104, 105, 106, 107, 108, 109, 110, 111, 112, 113, 114, 115, 116, 117, 118, 229, 230, 231, 232, 233, 234, 235, 236, 237, 238, 239, 240, 241, 242, 243, 244, 245, 246, 247, 248, 249, 250, 251] (by decide +kernel) (by decide +kernel)
set_option maxRecDepth 20000 in
theorem gX5_obey_X2_push : GoodIn wsX5_obey (wsV RX5 48 RX2 yX2_push wsX2_push) := goodIn_app (goodIn_of _ (by decide +kernel)) ggX5_obey_X2_push
set_option maxRecDepth 20000 in
theorem ggX5_obey_X3_forgetStop : GoodIn wsX5_obey wsX3_forgetStop := goodIn_r _ [122, 123, 124, 125, 81, 126, 91, 92, 93, 232, 233, 234, 235, 236, 237, 238] (by decide +kernel) (by decide +kernel)
set_option maxRecDepth 20000 in
theorem gX5_obey_X3_forgetStop : GoodIn wsX5_obey (wsV RX5 157 RX3 yX3_forgetStop wsX3_forgetStop) := goodIn_app (goodIn_of _ (by decide +kernel)) ggX5_obey_X3_forgetStop
set_option maxRecDepth 20000 in
theorem ggX5_obey_X5_doPart : GoodIn wsX5_obey wsX5_doPart := goodIn_r _ [131, 3, 132, 133, 5, 134, 135, 136, 137, 138, 139, 140, 97, 141, 103, 142, 75, 76, 77, 143, 144, 145, 130, 146, 147, 148, 149, 81, 150, 83, 151, 85, 152, 84, 153, 154, 155, 156, 105, 157, 158, 159, 160, 161, 162, 163, 102, 164, 165, 166, 167, 168, 169, 114, 170, 118, 171, 124, 125, 126, 91, 92, 93, 172, 173, 174, 175, 176, 90, 177, 178, 179, 180, 116, 181, 182, 183, 184, 185, 186, 187, 101, 104, 188, 189, 190, 191, 192, 99, 193, 194, 195, 196, 197, 198, 199, 200, 201, 202, 203, 204, 110, 205, 206, 207, 208, 107, 109, 108, 106, 209, 210, 211, 212, 213, 214, 215, 216, 217, 218, 219, 220, 221, 222, 223, 224, 225, 226, 227, 228, 232, 233, 234, 235, 236, 237, 238, 239, 240, 241, 242, 243, 244, 245, 246, 247, 248, 249, 250, 251] (by decide +kernel) (by decide +kernel)
set_option maxRecDepth 20000 in
theorem gX5_obey_X5_doPart : GoodIn wsX5_obey (wsV RX5 163 RX5 yX5_doPart wsX5_doPart) := goodIn_app (goodIn_of _ (by decide +kernel)) ggX5_obey_X5_doPart
theorem dX5_obey_0 : decode cX5_obey 0 = .ok (.aload_n 0, 1) := by decide +kernel
theorem dX5_obey_1 : decode cX5_obey 1 = .ok (.getfield 29, 3) := by decide +kernel
theorem dX5_obey_4 : decode cX5_obey 4 = .ok (.invokevirtual 148, 3) := by decide +kernel
theorem dX5_obey_7 : decode cX5_obey 7 = .ok (.ifCond .ne 13, 3) := by decide +kernel
theorem dX5_obey_10 : decode cX5_obey 10 = .ok (.new 152, 3) := by decide +kernel
theorem dX5_obey_13 : decode cX5_obey 13 = .ok (.dup, 1) := by decide +kernel
theorem dX5_obey_14 : decode cX5_obey 14 = .ok (.ldc 154, 2) := by decide +kernel
theorem dX5_obey_16 : decode cX5_obey 16 = .ok (.invokespecial 156, 3) := by decide +kernel
theorem dX5_obey_19 : decode cX5_obey 19 = .ok (.athrow, 1) := by decide +kernel
theorem dX5_obey_20 : decode cX5_obey 20 = .ok (.aload_n 0, 1) := by decide +kernel
theorem dX5_obey_21 : decode cX5_obey 21 = .ok (.getfield 22, 3) := by decide +kernel
theorem dX5_obey_24 : decode cX5_obey 24 = .ok (.aload_n 0, 1) := by decide +kernel
theorem dX5_obey_25 : decode cX5_obey 25 = .ok (.getfield 10, 3) := by decide +kernel
theorem dX5_obey_28 : decode cX5_obey 28 = .ok (.invokevirtual 48, 3) := by decide +kernel
theorem dX5_obey_31 : decode cX5_obey 31 = .ok (.aload_n 0, 1) := by decide +kernel
theorem dX5_obey_32 : decode cX5_obey 32 = .ok (.getfield 10, 3) := by decide +kernel
theorem dX5_obey_35 : decode cX5_obey 35 = .ok (.invokevirtual 157, 3) := by decide +kernel
theorem dX5_obey_38 : decode cX5_obey 38 = .ok (.iconst 0, 1) := by decide +kernel
theorem dX5_obey_39 : decode cX5_obey 39 = .ok (.istore_n 1, 1) := by decide +kernel
theorem dX5_obey_40 : decode cX5_obey 40 = .ok (.iload_n 1, 1) := by decide +kernel
theorem dX5_obey_41 : decode cX5_obey 41 = .ok (.aload_n 0, 1) := by decide +kernel
theorem dX5_obey_42 : decode cX5_obey 42 = .ok (.getfield 29, 3) := by decide +kernel
theorem dX5_obey_45 : decode cX5_obey 45 = .ok (.getfield 160, 3) := by decide +kernel
theorem dX5_obey_48 : decode cX5_obey 48 = .ok (.if_icmp .ge 17, 3) := by decide +kernel
theorem dX5_obey_51 : decode cX5_obey 51 = .ok (.aload_n 0, 1) := by decide +kernel
theorem dX5_obey_52 : decode cX5_obey 52 = .ok (.iload_n 1, 1) := by decide +kernel
theorem dX5_obey_53 : decode cX5_obey 53 = .ok (.invokevirtual 163, 3) := by decide +kernel
theorem dX5_obey_56 : decode cX5_obey 56 = .ok (.ifCond .eq 9, 3) := by decide +kernel
theorem dX5_obey_59 : decode cX5_obey 59 = .ok (.iinc 1 1, 3) := by decide +kernel
theorem dX5_obey_62 : decode cX5_obey 62 = .ok (.goto (-22), 3) := by decide +kernel
theorem dX5_obey_65 : decode cX5_obey 65 = .ok (.aload_n 0, 1) := by decide +kernel
theorem dX5_obey_66 : decode cX5_obey 66 = .ok (.getfield 29, 3) := by decide +kernel
theorem dX5_obey_69 : decode cX5_obey 69 = .ok (.iconst 0, 1) := by decide +kernel
theorem dX5_obey_70 : decode cX5_obey 70 = .ok (.putfield 138, 3) := by decide +kernel
theorem dX5_obey_73 : decode cX5_obey 73 = .ok (.iload_n 1, 1) := by decide +kernel
theorem dX5_obey_74 : decode cX5_obey 74 = .ok (.ireturn, 1) := by decide +kernel
set_option maxRecDepth 20000 in
theorem ggX5_stopped_X5_demandRange : GoodIn wsX5_stopped wsX5_demandRange := goodIn_ca (goodIn_r _ [5, 6, 7] (by decide +kernel) (by decide +kernel)) (goodIn_sub (fun _ h => List.mem_cons_of_mem _ (List.mem_append_right _ h)) (by decide +kernel))
set_option maxRecDepth 20000 in
theorem gX5_stopped_X5_demandRange : GoodIn wsX5_stopped (va_wsS RX5 44 yX5_demandRange wsX5_demandRange) := goodIn_app (goodIn_of _ (by decide +kernel)) ggX5_stopped_X5_demandRange
set_option maxRecDepth 20000 in
theorem ggX5_stopped_X3_stopNumber : GoodIn wsX5_stopped wsX3_stopNumber := goodIn_r _ [12, 13, 14, 15, 22, 23, 24, 25, 26, 27, 28] (by decide +kernel) (by decide +kernel)
set_option maxRecDepth 20000 in
theorem gX5_stopped_X3_stopNumber : GoodIn wsX5_stopped (wsV RX5 167 RX3 yX3_stopNumber wsX3_stopNumber) := goodIn_app (goodIn_of _ (by decide +kernel)) ggX5_stopped_X3_stopNumber
theorem dX5_stopped_0 : decode cX5_stopped 0 = .ok (.iload_n 1, 1) := by decide +kernel
theorem dX5_stopped_1 : decode cX5_stopped 1 = .ok (.iconst 0, 1) := by decide +kernel
theorem dX5_stopped_2 : decode cX5_stopped 2 = .ok (.iconst 2, 1) := by decide +kernel
theorem dX5_stopped_3 : decode cX5_stopped 3 = .ok (.invokestatic 44, 3) := by decide +kernel
theorem dX5_stopped_6 : decode cX5_stopped 6 = .ok (.aload_n 0, 1) := by decide +kernel
theorem dX5_stopped_7 : decode cX5_stopped 7 = .ok (.getfield 10, 3) := by decide +kernel
theorem dX5_stopped_10 : decode cX5_stopped 10 = .ok (.iload_n 1, 1) := by decide +kernel
theorem dX5_stopped_11 : decode cX5_stopped 11 = .ok (.invokevirtual 167, 3) := by decide +kernel
theorem dX5_stopped_14 : decode cX5_stopped 14 = .ok (.ireturn, 1) := by decide +kernel
set_option maxRecDepth 20000 in
theorem ggX5_undo_X2_popInto : GoodIn wsX5_undo wsX2_popInto := goodIn_r _ [10, 11, 12, 13, 14, 15, 16, 17, 18, 19, 20, 21, 22, 23, 24, 25, 26, 27, 28, 29, 30, 31, 32, 33, 34, 35, 36, 37, 38, 39, 40, 41, 42, 43, 44, 45, 46, 47, 48, 49, 50, 51, 52, 53, 54, 61, 62, 63, 64, 65, 66, 67, 68, 69, 70, 71, 72, 73, 74, 75, 76, 77, 78, 79, 80, 81, 82, 83] (by decide +kernel) (by decide +kernel)
set_option maxRecDepth 20000 in
theorem gX5_undo_X2_popInto : GoodIn wsX5_undo (wsV RX5 175 RX2 yX2_popInto wsX2_popInto) := goodIn_app (goodIn_of _ (by decide +kernel)) ggX5_undo_X2_popInto
theorem dX5_undo_0 : decode cX5_undo 0 = .ok (.aload_n 0, 1) := by decide +kernel
theorem dX5_undo_1 : decode cX5_undo 1 = .ok (.getfield 22, 3) := by decide +kernel
theorem dX5_undo_4 : decode cX5_undo 4 = .ok (.getfield 170, 3) := by decide +kernel
theorem dX5_undo_7 : decode cX5_undo 7 = .ok (.ifCond .ne 13, 3) := by decide +kernel
theorem dX5_undo_10 : decode cX5_undo 10 = .ok (.new 101, 3) := by decide +kernel
theorem dX5_undo_13 : decode cX5_undo 13 = .ok (.dup, 1) := by decide +kernel
theorem dX5_undo_14 : decode cX5_undo 14 = .ok (.ldc 173, 2) := by decide +kernel
theorem dX5_undo_16 : decode cX5_undo 16 = .ok (.invokespecial 105, 3) := by decide +kernel
theorem dX5_undo_19 : decode cX5_undo 19 = .ok (.athrow, 1) := by decide +kernel
theorem dX5_undo_20 : decode cX5_undo 20 = .ok (.aload_n 0, 1) := by decide +kernel
theorem dX5_undo_21 : decode cX5_undo 21 = .ok (.getfield 22, 3) := by decide +kernel
theorem dX5_undo_24 : decode cX5_undo 24 = .ok (.aload_n 0, 1) := by decide +kernel
theorem dX5_undo_25 : decode cX5_undo 25 = .ok (.getfield 10, 3) := by decide +kernel
theorem dX5_undo_28 : decode cX5_undo 28 = .ok (.invokevirtual 175, 3) := by decide +kernel
theorem dX5_undo_31 : decode cX5_undo 31 = .ok (.aload_n 0, 1) := by decide +kernel
theorem dX5_undo_32 : decode cX5_undo 32 = .ok (.getfield 22, 3) := by decide +kernel
theorem dX5_undo_35 : decode cX5_undo 35 = .ok (.getfield 170, 3) := by decide +kernel
theorem dX5_undo_38 : decode cX5_undo 38 = .ok (.ireturn, 1) := by decide +kernel
set_option maxRecDepth 20000 in
theorem ggX5_keep_X3_copyFrom : GoodIn wsX5_keep wsX3_copyFrom := goodIn_r _ [10, 11, 12, 13, 14, 15, 16, 17, 18, 19, 20, 21, 22, 23, 24, 25, 26, 27, 28, 29, 30, 31, 32, 33, 34, 35, 36, 37, 38, 39, 40, 41, 42, 43, 44, 45, 46, 53, 54, 55, 56, 57, 58, 59, 60, 61, 62, 63, 64, 65, 66, 67, 68, 69, 70, 71, 72] (by decide +kernel) (by decide +kernel)
set_option maxRecDepth 20000 in
theorem gX5_keep_X3_copyFrom : GoodIn wsX5_keep (wsV RX5 178 RX3 yX3_copyFrom wsX3_copyFrom) := goodIn_app (goodIn_of _ (by decide +kernel)) ggX5_keep_X3_copyFrom
theorem dX5_keep_0 : decode cX5_keep 0 = .ok (.aload_n 0, 1) := by decide +kernel
theorem dX5_keep_1 : decode cX5_keep 1 = .ok (.getfield 16, 3) := by decide +kernel
theorem dX5_keep_4 : decode cX5_keep 4 = .ok (.aload_n 0, 1) := by decide +kernel
theorem dX5_keep_5 : decode cX5_keep 5 = .ok (.getfield 10, 3) := by decide +kernel
theorem dX5_keep_8 : decode cX5_keep 8 = .ok (.invokevirtual 178, 3) := by decide +kernel
theorem dX5_keep_11 : decode cX5_keep 11 = .ok (.aload_n 0, 1) := by decide +kernel
theorem dX5_keep_12 : decode cX5_keep 12 = .ok (.iconst 1, 1) := by decide +kernel
theorem dX5_keep_13 : decode cX5_keep 13 = .ok (.putfield 40, 3) := by decide +kernel
theorem dX5_keep_16 : decode cX5_keep 16 = .ok (.aload_n 0, 1) := by decide +kernel
theorem dX5_keep_17 : decode cX5_keep 17 = .ok (.getfield 10, 3) := by decide +kernel
theorem dX5_keep_20 : decode cX5_keep 20 = .ok (.getfield 52, 3) := by decide +kernel
theorem dX5_keep_23 : decode cX5_keep 23 = .ok (.getfield 181, 3) := by decide +kernel
theorem dX5_keep_26 : decode cX5_keep 26 = .ok (.ireturn, 1) := by decide +kernel
set_option maxRecDepth 20000 in
theorem ggX5_restore_X2_push : GoodIn wsX5_restore wsX2_push := goodIn_r _ [13, 14, 15, 16, 17, 18, 19, 20, 21, 22, 23, 24, 25, 26, 27, 28, 29, 30, 31, 32, 33, 34, 35, 36, 37, 38, 39, 40, 41, 42, 43, 44, 45, 46, 47, 48, 49, 50, 51, 52, 53, 54, 55, 56, 57, 58, 59, 60, 61, 87, 88, 89, 69, 70, 71, 72, 73, 74, 75, 76, 77, 78, 79, 80, 81, 82, 83, 84, 85, 86, 90, 91] (by decide +kernel) (by decide +kernel)
set_option maxRecDepth 20000 in
theorem gX5_restore_X2_push : GoodIn wsX5_restore (wsV RX5 48 RX2 yX2_push wsX2_push) := goodIn_app (goodIn_of _ (by decide +kernel)) ggX5_restore_X2_push
set_option maxRecDepth 20000 in
theorem ggX5_restore_X3_copyFrom : GoodIn wsX5_restore wsX3_copyFrom := goodIn_r _ [25, 26, 27, 28, 29, 30, 31, 32, 33, 34, 35, 36, 37, 38, 39, 40, 41, 42, 43, 44, 45, 46, 47, 48, 49, 50, 51, 52, 53, 54, 55, 56, 57, 58, 59, 60, 61, 69, 70, 71, 72, 73, 74, 75, 76, 77, 78, 79, 80, 81, 82, 83, 84, 85, 86, 90, 91] (by decide +kernel) (by decide +kernel)
set_option maxRecDepth 20000 in
theorem gX5_restore_X3_copyFrom : GoodIn wsX5_restore (wsV RX5 178 RX3 yX3_copyFrom wsX3_copyFrom) := goodIn_app (goodIn_of _ (by decide +kernel)) ggX5_restore_X3_copyFrom
theorem dX5_restore_0 : decode cX5_restore 0 = .ok (.aload_n 0, 1) := by decide +kernel
theorem dX5_restore_1 : decode cX5_restore 1 = .ok (.getfield 40, 3) := by decide +kernel
theorem dX5_restore_4 : decode cX5_restore 4 = .ok (.ifCond .ne 13, 3) := by decide +kernel
theorem dX5_restore_7 : decode cX5_restore 7 = .ok (.new 101, 3) := by decide +kernel
theorem dX5_restore_10 : decode cX5_restore 10 = .ok (.dup, 1) := by decide +kernel
theorem dX5_restore_11 : decode cX5_restore 11 = .ok (.ldc 184, 2) := by decide +kernel
theorem dX5_restore_13 : decode cX5_restore 13 = .ok (.invokespecial 105, 3) := by decide +kernel
theorem dX5_restore_16 : decode cX5_restore 16 = .ok (.athrow, 1) := by decide +kernel
theorem dX5_restore_17 : decode cX5_restore 17 = .ok (.aload_n 0, 1) := by decide +kernel
theorem dX5_restore_18 : decode cX5_restore 18 = .ok (.getfield 22, 3) := by decide +kernel
theorem dX5_restore_21 : decode cX5_restore 21 = .ok (.aload_n 0, 1) := by decide +kernel
theorem dX5_restore_22 : decode cX5_restore 22 = .ok (.getfield 10, 3) := by decide +kernel
theorem dX5_restore_25 : decode cX5_restore 25 = .ok (.invokevirtual 48, 3) := by decide +kernel
theorem dX5_restore_28 : decode cX5_restore 28 = .ok (.aload_n 0, 1) := by decide +kernel
theorem dX5_restore_29 : decode cX5_restore 29 = .ok (.getfield 10, 3) := by decide +kernel
theorem dX5_restore_32 : decode cX5_restore 32 = .ok (.aload_n 0, 1) := by decide +kernel
theorem dX5_restore_33 : decode cX5_restore 33 = .ok (.getfield 16, 3) := by decide +kernel
theorem dX5_restore_36 : decode cX5_restore 36 = .ok (.invokevirtual 178, 3) := by decide +kernel
theorem dX5_restore_39 : decode cX5_restore 39 = .ok (.aload_n 0, 1) := by decide +kernel
theorem dX5_restore_40 : decode cX5_restore 40 = .ok (.getfield 10, 3) := by decide +kernel
theorem dX5_restore_43 : decode cX5_restore 43 = .ok (.getfield 52, 3) := by decide +kernel
theorem dX5_restore_46 : decode cX5_restore 46 = .ok (.getfield 181, 3) := by decide +kernel
theorem dX5_restore_49 : decode cX5_restore 49 = .ok (.ireturn, 1) := by decide +kernel
set_option maxRecDepth 20000 in
theorem ggX5_pose_X5_demandPose : GoodIn wsX5_pose wsX5_demandPose := goodIn_ca (goodIn_r _ [4, 5, 6, 7, 8, 3, 9] (by decide +kernel) (by decide +kernel)) (goodIn_sub (fun _ h => List.mem_cons_of_mem _ (List.mem_append_left _ (List.mem_append_right _ h))) (by decide +kernel))
set_option maxRecDepth 20000 in
theorem gX5_pose_X5_demandPose : GoodIn wsX5_pose (va_wsS RX5 63 yX5_demandPose wsX5_demandPose) := goodIn_app (goodIn_of _ (by decide +kernel)) ggX5_pose_X5_demandPose
set_option maxRecDepth 20000 in
theorem ggX5_pose_X5_demandRange : GoodIn wsX5_pose wsX5_demandRange := goodIn_ca (goodIn_r _ [12, 13, 14] (by decide +kernel) (by decide +kernel)) (goodIn_sub (fun _ h => List.mem_cons_of_mem _ (List.mem_append_right _ h)) (by decide +kernel))
set_option maxRecDepth 20000 in
theorem gX5_pose_X5_demandRange : GoodIn wsX5_pose (va_wsS RX5 44 yX5_demandRange wsX5_demandRange) := goodIn_app (goodIn_of _ (by decide +kernel)) ggX5_pose_X5_demandRange
set_option maxRecDepth 20000 in
theorem ggX5_pose_X5_poseNumber : GoodIn wsX5_pose wsX5_poseNumber := goodIn_r _ [18, 19, 20, 21, 22, 23, 24, 25, 26, 27, 28, 29, 30, 31, 32, 33, 34, 35, 36, 37, 38, 8, 3, 9, 39, 40, 41, 42, 43, 44, 45, 46, 47, 48, 49, 50, 51, 52, 53, 54, 55, 56, 57, 58, 59, 60, 61, 62, 63, 64, 65, 66, 67, 68, 69, 70, 71, 72, 73, 74, 75, 76, 77, 78, 79, 80, 81, 82, 83, 84, 85, 86, 87, 88, 89, 90, 91, 92, 93, 94, 95, 96, 97, 98, 99, 100, 101, 102, 103, 104, 105, 106, 107, 108, 109, 110, 111, 112, 113, 114, 115] (by decide +kernel) (by decide +kernel)
set_option maxRecDepth 20000 in
theorem gX5_pose_X5_poseNumber : GoodIn wsX5_pose (wsV RX5 186 RX5 yX5_poseNumber wsX5_poseNumber) := goodIn_app (goodIn_of _ (by decide +kernel)) ggX5_pose_X5_poseNumber
theorem dX5_pose_0 : decode cX5_pose 0 = .ok (.iload_n 1, 1) := by decide +kernel
theorem dX5_pose_1 : decode cX5_pose 1 = .ok (.invokestatic 63, 3) := by decide +kernel
theorem dX5_pose_4 : decode cX5_pose 4 = .ok (.iload_n 2, 1) := by decide +kernel
theorem dX5_pose_5 : decode cX5_pose 5 = .ok (.iconst 0, 1) := by decide +kernel
theorem dX5_pose_6 : decode cX5_pose 6 = .ok (.bipush 7, 2) := by decide +kernel
theorem dX5_pose_8 : decode cX5_pose 8 = .ok (.invokestatic 44, 3) := by decide +kernel
theorem dX5_pose_11 : decode cX5_pose 11 = .ok (.aload_n 0, 1) := by decide +kernel
theorem dX5_pose_12 : decode cX5_pose 12 = .ok (.iload_n 1, 1) := by decide +kernel
theorem dX5_pose_13 : decode cX5_pose 13 = .ok (.iload_n 2, 1) := by decide +kernel
theorem dX5_pose_14 : decode cX5_pose 14 = .ok (.invokevirtual 186, 3) := by decide +kernel
theorem dX5_pose_17 : decode cX5_pose 17 = .ok (.ireturn, 1) := by decide +kernel
set_option maxRecDepth 20000 in
theorem ggX5_reading_X5_demandRange : GoodIn wsX5_reading wsX5_demandRange := goodIn_ca (goodIn_r _ [6, 1, 2] (by decide +kernel) (by decide +kernel)) (goodIn_sub (fun _ h => List.mem_cons_of_mem _ (List.mem_append_right _ h)) (by decide +kernel))
set_option maxRecDepth 20000 in
theorem gX5_reading_X5_demandRange : GoodIn wsX5_reading (va_wsS RX5 44 yX5_demandRange wsX5_demandRange) := goodIn_app (goodIn_of _ (by decide +kernel)) ggX5_reading_X5_demandRange
set_option maxRecDepth 20000 in
theorem ggX5_reading_X5_readingNumber : GoodIn wsX5_reading wsX5_readingNumber := goodIn_r _ [10, 11, 12, 13, 14, 15, 16, 17, 18, 19, 20, 21, 22, 23, 24, 25, 26, 27, 28, 29, 30, 31, 32, 33, 34, 35] (by decide +kernel) (by decide +kernel)
set_option maxRecDepth 20000 in
theorem gX5_reading_X5_readingNumber : GoodIn wsX5_reading (wsV RX5 191 RX5 yX5_readingNumber wsX5_readingNumber) := goodIn_app (goodIn_of _ (by decide +kernel)) ggX5_reading_X5_readingNumber
theorem dX5_reading_0 : decode cX5_reading 0 = .ok (.iload_n 1, 1) := by decide +kernel
theorem dX5_reading_1 : decode cX5_reading 1 = .ok (.ifCond .ge 13, 3) := by decide +kernel
theorem dX5_reading_4 : decode cX5_reading 4 = .ok (.new 152, 3) := by decide +kernel
theorem dX5_reading_7 : decode cX5_reading 7 = .ok (.dup, 1) := by decide +kernel
theorem dX5_reading_8 : decode cX5_reading 8 = .ok (.ldc 189, 2) := by decide +kernel
theorem dX5_reading_10 : decode cX5_reading 10 = .ok (.invokespecial 156, 3) := by decide +kernel
theorem dX5_reading_13 : decode cX5_reading 13 = .ok (.athrow, 1) := by decide +kernel
theorem dX5_reading_14 : decode cX5_reading 14 = .ok (.iload_n 2, 1) := by decide +kernel
theorem dX5_reading_15 : decode cX5_reading 15 = .ok (.iconst 0, 1) := by decide +kernel
theorem dX5_reading_16 : decode cX5_reading 16 = .ok (.iconst 4, 1) := by decide +kernel
theorem dX5_reading_17 : decode cX5_reading 17 = .ok (.invokestatic 44, 3) := by decide +kernel
theorem dX5_reading_20 : decode cX5_reading 20 = .ok (.aload_n 0, 1) := by decide +kernel
theorem dX5_reading_21 : decode cX5_reading 21 = .ok (.iload_n 1, 1) := by decide +kernel
theorem dX5_reading_22 : decode cX5_reading 22 = .ok (.iload_n 2, 1) := by decide +kernel
theorem dX5_reading_23 : decode cX5_reading 23 = .ok (.invokevirtual 191, 3) := by decide +kernel
theorem dX5_reading_26 : decode cX5_reading 26 = .ok (.ireturn, 1) := by decide +kernel
set_option maxRecDepth 20000 in
theorem ggX5_count_X5_demandRange : GoodIn wsX5_count wsX5_demandRange := goodIn_ca (goodIn_r _ [4, 5, 6] (by decide +kernel) (by decide +kernel)) (goodIn_sub (fun _ h => List.mem_cons_of_mem _ (List.mem_append_right _ h)) (by decide +kernel))
set_option maxRecDepth 20000 in
theorem gX5_count_X5_demandRange : GoodIn wsX5_count (va_wsS RX5 44 yX5_demandRange wsX5_demandRange) := goodIn_app (goodIn_of _ (by decide +kernel)) ggX5_count_X5_demandRange
set_option maxRecDepth 20000 in
theorem ggX5_count_X5_countNumber : GoodIn wsX5_count wsX5_countNumber := goodIn_r _ [10, 11, 12, 13, 14, 15, 16, 17, 18, 19, 20, 21, 22, 23, 24, 25, 26, 27, 28, 29, 30, 31, 32, 33, 34, 35, 36, 37, 38, 39, 40, 41, 42, 43, 44, 45, 46, 47, 48, 49, 50, 51, 52, 53, 54, 55, 56, 57, 58, 59, 60, 61, 62, 63, 64, 65, 66, 67, 68, 69, 70, 71, 72, 73, 74, 75, 76, 77, 78, 79, 80, 81, 82, 83, 84, 85, 86, 87, 88, 89, 90, 91, 92, 93, 94, 95, 96, 97, 98, 99, 100, 101, 102, 103, 104, 105, 106, 107, 108, 109, 110, 111, 112, 113, 114, 115] (by decide +kernel) (by decide +kernel)
set_option maxRecDepth 20000 in
theorem gX5_count_X5_countNumber : GoodIn wsX5_count (wsV RX5 194 RX5 yX5_countNumber wsX5_countNumber) := goodIn_app (goodIn_of _ (by decide +kernel)) ggX5_count_X5_countNumber
theorem dX5_count_0 : decode cX5_count 0 = .ok (.iload_n 1, 1) := by decide +kernel
theorem dX5_count_1 : decode cX5_count 1 = .ok (.iconst 0, 1) := by decide +kernel
theorem dX5_count_2 : decode cX5_count 2 = .ok (.bipush 20, 2) := by decide +kernel
theorem dX5_count_4 : decode cX5_count 4 = .ok (.invokestatic 44, 3) := by decide +kernel
theorem dX5_count_7 : decode cX5_count 7 = .ok (.aload_n 0, 1) := by decide +kernel
theorem dX5_count_8 : decode cX5_count 8 = .ok (.iload_n 1, 1) := by decide +kernel
theorem dX5_count_9 : decode cX5_count 9 = .ok (.invokevirtual 194, 3) := by decide +kernel
theorem dX5_count_12 : decode cX5_count 12 = .ok (.ireturn, 1) := by decide +kernel
set_option maxRecDepth 20000 in
theorem ggX5_ifWorn_X5_demandPose : GoodIn wsX5_ifWorn wsX5_demandPose := goodIn_ca (goodIn_r _ [4, 5, 6, 7, 8, 3, 9] (by decide +kernel) (by decide +kernel)) (goodIn_sub (fun _ h => List.mem_cons_of_mem _ (List.mem_append_left _ (List.mem_append_right _ h))) (by decide +kernel))
set_option maxRecDepth 20000 in
theorem gX5_ifWorn_X5_demandPose : GoodIn wsX5_ifWorn (va_wsS RX5 63 yX5_demandPose wsX5_demandPose) := goodIn_app (goodIn_of _ (by decide +kernel)) ggX5_ifWorn_X5_demandPose
set_option maxRecDepth 20000 in
theorem ggX5_ifWorn_X5_demandRange : GoodIn wsX5_ifWorn wsX5_demandRange := goodIn_ca (goodIn_r _ [12, 13, 14] (by decide +kernel) (by decide +kernel)) (goodIn_sub (fun _ h => List.mem_cons_of_mem _ (List.mem_append_right _ h)) (by decide +kernel))
set_option maxRecDepth 20000 in
theorem gX5_ifWorn_X5_demandRange : GoodIn wsX5_ifWorn (va_wsS RX5 44 yX5_demandRange wsX5_demandRange) := goodIn_app (goodIn_of _ (by decide +kernel)) ggX5_ifWorn_X5_demandRange
set_option maxRecDepth 20000 in
theorem ggX5_ifWorn_X5_wornNumber : GoodIn wsX5_ifWorn wsX5_wornNumber := goodIn_r _ [18, 19, 20, 21, 22, 23, 24, 25, 26, 27, 28, 29, 30, 31, 32, 33, 34, 35, 36, 37, 38, 39, 40, 41, 42, 43, 44, 45, 46, 47, 48, 49, 50, 51, 52, 53, 54, 55, 56, 57, 58, 59, 60, 61, 62, 63, 64, 65, 66, 67, 68, 69, 70, 71, 72, 73, 74, 75, 8, 3, 9, 76, 77, 78, 79, 80, 81, 82, 83, 84, 85, 86, 87, 88, 89, 90, 91, 92, 93, 94, 95, 96, 97, 98, 99, 100, 101, 102, 103] (by decide +kernel) (by decide +kernel)
set_option maxRecDepth 20000 in
theorem gX5_ifWorn_X5_wornNumber : GoodIn wsX5_ifWorn (wsV RX5 197 RX5 yX5_wornNumber wsX5_wornNumber) := goodIn_app (goodIn_of _ (by decide +kernel)) ggX5_ifWorn_X5_wornNumber
theorem dX5_ifWorn_0 : decode cX5_ifWorn 0 = .ok (.iload_n 1, 1) := by decide +kernel
theorem dX5_ifWorn_1 : decode cX5_ifWorn 1 = .ok (.invokestatic 63, 3) := by decide +kernel
theorem dX5_ifWorn_4 : decode cX5_ifWorn 4 = .ok (.iload_n 2, 1) := by decide +kernel
theorem dX5_ifWorn_5 : decode cX5_ifWorn 5 = .ok (.invokestatic 63, 3) := by decide +kernel
theorem dX5_ifWorn_8 : decode cX5_ifWorn 8 = .ok (.iload_n 3, 1) := by decide +kernel
theorem dX5_ifWorn_9 : decode cX5_ifWorn 9 = .ok (.invokestatic 63, 3) := by decide +kernel
theorem dX5_ifWorn_12 : decode cX5_ifWorn 12 = .ok (.iload 4, 2) := by decide +kernel
theorem dX5_ifWorn_14 : decode cX5_ifWorn 14 = .ok (.iconst 0, 1) := by decide +kernel
theorem dX5_ifWorn_15 : decode cX5_ifWorn 15 = .ok (.iconst 1, 1) := by decide +kernel
theorem dX5_ifWorn_16 : decode cX5_ifWorn 16 = .ok (.invokestatic 44, 3) := by decide +kernel
theorem dX5_ifWorn_19 : decode cX5_ifWorn 19 = .ok (.aload_n 0, 1) := by decide +kernel
theorem dX5_ifWorn_20 : decode cX5_ifWorn 20 = .ok (.iload_n 1, 1) := by decide +kernel
theorem dX5_ifWorn_21 : decode cX5_ifWorn 21 = .ok (.iload_n 2, 1) := by decide +kernel
theorem dX5_ifWorn_22 : decode cX5_ifWorn 22 = .ok (.iload_n 3, 1) := by decide +kernel
theorem dX5_ifWorn_23 : decode cX5_ifWorn 23 = .ok (.iload 4, 2) := by decide +kernel
theorem dX5_ifWorn_25 : decode cX5_ifWorn 25 = .ok (.invokevirtual 197, 3) := by decide +kernel
theorem dX5_ifWorn_28 : decode cX5_ifWorn 28 = .ok (.ireturn, 1) := by decide +kernel
set_option maxRecDepth 20000 in
theorem ggX5_bestRegulator_X4_rateIn : GoodIn wsX5_bestRegulator wsX4_rateIn := goodIn_r _ [12, 13, 14, 15, 16, 17, 11, 18, 19, 20, 21, 22, 6, 23, 24, 25, 26, 27, 28, 29, 30, 31, 32, 33, 34, 35, 49, 50, 51, 52, 53, 54, 55, 56, 57, 58, 59] (by decide +kernel) (by decide +kernel)
set_option maxRecDepth 20000 in
theorem gX5_bestRegulator_X4_rateIn : GoodIn wsX5_bestRegulator (wsV RX5 111 RX4 yX4_rateIn wsX4_rateIn) := goodIn_app (goodIn_of _ (by decide +kernel)) ggX5_bestRegulator_X4_rateIn
theorem dX5_bestRegulator_0 : decode cX5_bestRegulator 0 = .ok (.iconst 0, 1) := by decide +kernel
theorem dX5_bestRegulator_1 : decode cX5_bestRegulator 1 = .ok (.istore_n 1, 1) := by decide +kernel
theorem dX5_bestRegulator_2 : decode cX5_bestRegulator 2 = .ok (.iconst 0, 1) := by decide +kernel
theorem dX5_bestRegulator_3 : decode cX5_bestRegulator 3 = .ok (.istore_n 2, 1) := by decide +kernel
theorem dX5_bestRegulator_4 : decode cX5_bestRegulator 4 = .ok (.iload_n 2, 1) := by decide +kernel
theorem dX5_bestRegulator_5 : decode cX5_bestRegulator 5 = .ok (.bipush 6, 2) := by decide +kernel
theorem dX5_bestRegulator_7 : decode cX5_bestRegulator 7 = .ok (.if_icmp .ge 34, 3) := by decide +kernel
theorem dX5_bestRegulator_10 : decode cX5_bestRegulator 10 = .ok (.iload_n 1, 1) := by decide +kernel
theorem dX5_bestRegulator_11 : decode cX5_bestRegulator 11 = .ok (.aload_n 0, 1) := by decide +kernel
theorem dX5_bestRegulator_12 : decode cX5_bestRegulator 12 = .ok (.getfield 10, 3) := by decide +kernel
theorem dX5_bestRegulator_15 : decode cX5_bestRegulator 15 = .ok (.getfield 52, 3) := by decide +kernel
theorem dX5_bestRegulator_18 : decode cX5_bestRegulator 18 = .ok (.iload_n 2, 1) := by decide +kernel
theorem dX5_bestRegulator_19 : decode cX5_bestRegulator 19 = .ok (.invokevirtual 111, 3) := by decide +kernel
theorem dX5_bestRegulator_22 : decode cX5_bestRegulator 22 = .ok (.aload_n 0, 1) := by decide +kernel
theorem dX5_bestRegulator_23 : decode cX5_bestRegulator 23 = .ok (.getfield 10, 3) := by decide +kernel
theorem dX5_bestRegulator_26 : decode cX5_bestRegulator 26 = .ok (.getfield 52, 3) := by decide +kernel
theorem dX5_bestRegulator_29 : decode cX5_bestRegulator 29 = .ok (.getfield 74, 3) := by decide +kernel
theorem dX5_bestRegulator_32 : decode cX5_bestRegulator 32 = .ok (.isub, 1) := by decide +kernel
theorem dX5_bestRegulator_33 : decode cX5_bestRegulator 33 = .ok (.iadd, 1) := by decide +kernel
theorem dX5_bestRegulator_34 : decode cX5_bestRegulator 34 = .ok (.istore_n 1, 1) := by decide +kernel
theorem dX5_bestRegulator_35 : decode cX5_bestRegulator 35 = .ok (.iinc 2 1, 3) := by decide +kernel
theorem dX5_bestRegulator_38 : decode cX5_bestRegulator 38 = .ok (.goto (-34), 3) := by decide +kernel
theorem dX5_bestRegulator_41 : decode cX5_bestRegulator 41 = .ok (.bipush (-99), 2) := by decide +kernel
theorem dX5_bestRegulator_43 : decode cX5_bestRegulator 43 = .ok (.istore_n 2, 1) := by decide +kernel
theorem dX5_bestRegulator_44 : decode cX5_bestRegulator 44 = .ok (.bipush (-99), 2) := by decide +kernel
theorem dX5_bestRegulator_46 : decode cX5_bestRegulator 46 = .ok (.istore_n 3, 1) := by decide +kernel
theorem dX5_bestRegulator_47 : decode cX5_bestRegulator 47 = .ok (.iload_n 3, 1) := by decide +kernel
theorem dX5_bestRegulator_48 : decode cX5_bestRegulator 48 = .ok (.bipush 99, 2) := by decide +kernel
theorem dX5_bestRegulator_50 : decode cX5_bestRegulator 50 = .ok (.if_icmp .gt 32, 3) := by decide +kernel
theorem dX5_bestRegulator_53 : decode cX5_bestRegulator 53 = .ok (.iload_n 1, 1) := by decide +kernel
theorem dX5_bestRegulator_54 : decode cX5_bestRegulator 54 = .ok (.bipush 6, 2) := by decide +kernel
theorem dX5_bestRegulator_56 : decode cX5_bestRegulator 56 = .ok (.iload_n 3, 1) := by decide +kernel
theorem dX5_bestRegulator_57 : decode cX5_bestRegulator 57 = .ok (.imul, 1) := by decide +kernel
theorem dX5_bestRegulator_58 : decode cX5_bestRegulator 58 = .ok (.iadd, 1) := by decide +kernel
theorem dX5_bestRegulator_59 : decode cX5_bestRegulator 59 = .ok (.invokestatic 201, 3) := by decide +kernel
theorem dX5_bestRegulator_62 : decode cX5_bestRegulator 62 = .ok (.iload_n 1, 1) := by decide +kernel
theorem dX5_bestRegulator_63 : decode cX5_bestRegulator 63 = .ok (.bipush 6, 2) := by decide +kernel
theorem dX5_bestRegulator_65 : decode cX5_bestRegulator 65 = .ok (.iload_n 2, 1) := by decide +kernel
theorem dX5_bestRegulator_66 : decode cX5_bestRegulator 66 = .ok (.imul, 1) := by decide +kernel
theorem dX5_bestRegulator_67 : decode cX5_bestRegulator 67 = .ok (.iadd, 1) := by decide +kernel
theorem dX5_bestRegulator_68 : decode cX5_bestRegulator 68 = .ok (.invokestatic 201, 3) := by decide +kernel
theorem dX5_bestRegulator_71 : decode cX5_bestRegulator 71 = .ok (.if_icmp .ge 5, 3) := by decide +kernel
theorem dX5_bestRegulator_74 : decode cX5_bestRegulator 74 = .ok (.iload_n 3, 1) := by decide +kernel
theorem dX5_bestRegulator_75 : decode cX5_bestRegulator 75 = .ok (.istore_n 2, 1) := by decide +kernel
theorem dX5_bestRegulator_76 : decode cX5_bestRegulator 76 = .ok (.iinc 3 1, 3) := by decide +kernel
theorem dX5_bestRegulator_79 : decode cX5_bestRegulator 79 = .ok (.goto (-32), 3) := by decide +kernel
theorem dX5_bestRegulator_82 : decode cX5_bestRegulator 82 = .ok (.iload_n 2, 1) := by decide +kernel
theorem dX5_bestRegulator_83 : decode cX5_bestRegulator 83 = .ok (.bipush 100, 2) := by decide +kernel
theorem dX5_bestRegulator_85 : decode cX5_bestRegulator 85 = .ok (.iadd, 1) := by decide +kernel
theorem dX5_bestRegulator_86 : decode cX5_bestRegulator 86 = .ok (.ireturn, 1) := by decide +kernel
set_option maxRecDepth 20000 in
theorem ggX5_stopsIn_X5_demandPose : GoodIn wsX5_stopsIn wsX5_demandPose := goodIn_ca (goodIn_r _ [4, 5, 6, 7, 8, 3, 9] (by decide +kernel) (by decide +kernel)) (goodIn_sub (fun _ h => List.mem_cons_of_mem _ (List.mem_append_right _ h)) (by decide +kernel))
set_option maxRecDepth 20000 in
theorem gX5_stopsIn_X5_demandPose : GoodIn wsX5_stopsIn (va_wsS RX5 63 yX5_demandPose wsX5_demandPose) := goodIn_app (goodIn_of _ (by decide +kernel)) ggX5_stopsIn_X5_demandPose
set_option maxRecDepth 20000 in
theorem ggX5_stopsIn_X5_hoursUntilStop : GoodIn wsX5_stopsIn wsX5_hoursUntilStop := goodIn_r _ [13, 14, 15, 16, 17, 18, 19, 20, 21, 22, 23, 24, 25, 26, 27, 28, 29, 30, 31, 32, 33, 34, 35, 36, 37, 38, 39, 40, 41, 42, 43, 44, 45, 46, 47, 48, 49, 50, 51, 52, 53, 54, 55, 56, 57, 58, 59, 60, 61, 62, 63, 64, 65, 66, 67, 68, 8, 3, 9, 69, 70, 71, 72, 73, 74, 75, 76, 77, 78, 79, 80, 81, 82, 83, 84, 85, 86, 87, 88, 89, 90, 91, 92, 93, 94, 95, 96] (by decide +kernel) (by decide +kernel)
set_option maxRecDepth 20000 in
theorem gX5_stopsIn_X5_hoursUntilStop : GoodIn wsX5_stopsIn (wsV RX5 204 RX5 yX5_hoursUntilStop wsX5_hoursUntilStop) := goodIn_app (goodIn_of _ (by decide +kernel)) ggX5_stopsIn_X5_hoursUntilStop
theorem dX5_stopsIn_0 : decode cX5_stopsIn 0 = .ok (.iload_n 1, 1) := by decide +kernel
theorem dX5_stopsIn_1 : decode cX5_stopsIn 1 = .ok (.invokestatic 63, 3) := by decide +kernel
theorem dX5_stopsIn_4 : decode cX5_stopsIn 4 = .ok (.aload_n 0, 1) := by decide +kernel
theorem dX5_stopsIn_5 : decode cX5_stopsIn 5 = .ok (.iload_n 1, 1) := by decide +kernel
theorem dX5_stopsIn_6 : decode cX5_stopsIn 6 = .ok (.invokevirtual 204, 3) := by decide +kernel
theorem dX5_stopsIn_9 : decode cX5_stopsIn 9 = .ok (.ireturn, 1) := by decide +kernel
set_option maxRecDepth 20000 in
theorem ggX5_nightPose_X4_copyFrom : GoodIn wsX5_nightPose wsX4_copyFrom := goodIn_r _ [15, 16, 17, 18, 19, 20, 21, 22, 23, 24, 25, 26, 27, 28, 29, 30, 81, 82, 83, 84, 85, 86, 87, 88, 89, 90, 91] (by decide +kernel) (by decide +kernel)
set_option maxRecDepth 20000 in
theorem gX5_nightPose_X4_copyFrom : GoodIn wsX5_nightPose (wsV RX5 208 RX4 yX4_copyFrom wsX4_copyFrom) := goodIn_app (goodIn_of _ (by decide +kernel)) ggX5_nightPose_X4_copyFrom
set_option maxRecDepth 20000 in
theorem ggX5_nightPose_X4_run : GoodIn wsX5_nightPose wsX4_run := goodIn_r _ [34, 30, 35, 36, 37, 14, 38, 27, 29, 28, 26, 23, 25, 39, 40, 9, 41, 42, 43, 44, 45, 46, 47, 48, 49, 50, 51, 52, 53, 54, 55, 56, 21, 24, 57, 58, 59, 60, 16, 61, 62, 63, 64, 65, 66, 67, 81, 82, 83, 84, 85, 86, 87, 88, 89, 90, 91] (by decide +kernel) (by decide +kernel)
set_option maxRecDepth 20000 in
theorem gX5_nightPose_X4_run : GoodIn wsX5_nightPose (wsV RX5 95 RX4 yX4_run wsX4_run) := goodIn_app (goodIn_of _ (by decide +kernel)) ggX5_nightPose_X4_run
theorem dX5_nightPose_0 : decode cX5_nightPose 0 = .ok (.iconst 0, 1) := by decide +kernel
theorem dX5_nightPose_1 : decode cX5_nightPose 1 = .ok (.istore_n 1, 1) := by decide +kernel
theorem dX5_nightPose_2 : decode cX5_nightPose 2 = .ok (.ldc 207, 2) := by decide +kernel
theorem dX5_nightPose_4 : decode cX5_nightPose 4 = .ok (.istore_n 2, 1) := by decide +kernel
theorem dX5_nightPose_5 : decode cX5_nightPose 5 = .ok (.iconst 0, 1) := by decide +kernel
theorem dX5_nightPose_6 : decode cX5_nightPose 6 = .ok (.istore_n 3, 1) := by decide +kernel
theorem dX5_nightPose_7 : decode cX5_nightPose 7 = .ok (.iload_n 3, 1) := by decide +kernel
theorem dX5_nightPose_8 : decode cX5_nightPose 8 = .ok (.bipush 6, 2) := by decide +kernel
theorem dX5_nightPose_10 : decode cX5_nightPose 10 = .ok (.if_icmp .ge 68, 3) := by decide +kernel
theorem dX5_nightPose_13 : decode cX5_nightPose 13 = .ok (.aload_n 0, 1) := by decide +kernel
theorem dX5_nightPose_14 : decode cX5_nightPose 14 = .ok (.getfield 36, 3) := by decide +kernel
theorem dX5_nightPose_17 : decode cX5_nightPose 17 = .ok (.aload_n 0, 1) := by decide +kernel
theorem dX5_nightPose_18 : decode cX5_nightPose 18 = .ok (.getfield 10, 3) := by decide +kernel
theorem dX5_nightPose_21 : decode cX5_nightPose 21 = .ok (.getfield 52, 3) := by decide +kernel
theorem dX5_nightPose_24 : decode cX5_nightPose 24 = .ok (.invokevirtual 208, 3) := by decide +kernel
theorem dX5_nightPose_27 : decode cX5_nightPose 27 = .ok (.aload_n 0, 1) := by decide +kernel
theorem dX5_nightPose_28 : decode cX5_nightPose 28 = .ok (.getfield 36, 3) := by decide +kernel
theorem dX5_nightPose_31 : decode cX5_nightPose 31 = .ok (.iload_n 3, 1) := by decide +kernel
theorem dX5_nightPose_32 : decode cX5_nightPose 32 = .ok (.putfield 92, 3) := by decide +kernel
theorem dX5_nightPose_35 : decode cX5_nightPose 35 = .ok (.aload_n 0, 1) := by decide +kernel
theorem dX5_nightPose_36 : decode cX5_nightPose 36 = .ok (.getfield 36, 3) := by decide +kernel
theorem dX5_nightPose_39 : decode cX5_nightPose 39 = .ok (.bipush 8, 2) := by decide +kernel
theorem dX5_nightPose_41 : decode cX5_nightPose 41 = .ok (.invokevirtual 95, 3) := by decide +kernel
theorem dX5_nightPose_44 : decode cX5_nightPose 44 = .ok (.pop, 1) := by decide +kernel
theorem dX5_nightPose_45 : decode cX5_nightPose 45 = .ok (.aload_n 0, 1) := by decide +kernel
theorem dX5_nightPose_46 : decode cX5_nightPose 46 = .ok (.getfield 36, 3) := by decide +kernel
theorem dX5_nightPose_49 : decode cX5_nightPose 49 = .ok (.getfield 211, 3) := by decide +kernel
theorem dX5_nightPose_52 : decode cX5_nightPose 52 = .ok (.invokestatic 201, 3) := by decide +kernel
theorem dX5_nightPose_55 : decode cX5_nightPose 55 = .ok (.iload_n 2, 1) := by decide +kernel
theorem dX5_nightPose_56 : decode cX5_nightPose 56 = .ok (.if_icmp .ge 16, 3) := by decide +kernel
theorem dX5_nightPose_59 : decode cX5_nightPose 59 = .ok (.aload_n 0, 1) := by decide +kernel
theorem dX5_nightPose_60 : decode cX5_nightPose 60 = .ok (.getfield 36, 3) := by decide +kernel
theorem dX5_nightPose_63 : decode cX5_nightPose 63 = .ok (.getfield 211, 3) := by decide +kernel
theorem dX5_nightPose_66 : decode cX5_nightPose 66 = .ok (.invokestatic 201, 3) := by decide +kernel
theorem dX5_nightPose_69 : decode cX5_nightPose 69 = .ok (.istore_n 2, 1) := by decide +kernel
theorem dX5_nightPose_70 : decode cX5_nightPose 70 = .ok (.iload_n 3, 1) := by decide +kernel
theorem dX5_nightPose_71 : decode cX5_nightPose 71 = .ok (.istore_n 1, 1) := by decide +kernel
theorem dX5_nightPose_72 : decode cX5_nightPose 72 = .ok (.iinc 3 1, 3) := by decide +kernel
theorem dX5_nightPose_75 : decode cX5_nightPose 75 = .ok (.goto (-68), 3) := by decide +kernel
theorem dX5_nightPose_78 : decode cX5_nightPose 78 = .ok (.iload_n 1, 1) := by decide +kernel
theorem dX5_nightPose_79 : decode cX5_nightPose 79 = .ok (.ireturn, 1) := by decide +kernel
theorem dX5_going_0 : decode cX5_going 0 = .ok (.aload_n 0, 1) := by decide +kernel
theorem dX5_going_1 : decode cX5_going 1 = .ok (.getfield 10, 3) := by decide +kernel
theorem dX5_going_4 : decode cX5_going 4 = .ok (.getfield 52, 3) := by decide +kernel
theorem dX5_going_7 : decode cX5_going 7 = .ok (.getfield 181, 3) := by decide +kernel
theorem dX5_going_10 : decode cX5_going 10 = .ok (.istore_n 1, 1) := by decide +kernel
theorem dX5_going_11 : decode cX5_going 11 = .ok (.iload_n 1, 1) := by decide +kernel
theorem dX5_going_12 : decode cX5_going 12 = .ok (.ifCond .le 20, 3) := by decide +kernel
theorem dX5_going_15 : decode cX5_going 15 = .ok (.aload_n 0, 1) := by decide +kernel
theorem dX5_going_16 : decode cX5_going 16 = .ok (.getfield 10, 3) := by decide +kernel
theorem dX5_going_19 : decode cX5_going 19 = .ok (.getfield 52, 3) := by decide +kernel
theorem dX5_going_22 : decode cX5_going 22 = .ok (.getfield 214, 3) := by decide +kernel
theorem dX5_going_25 : decode cX5_going 25 = .ok (.i2d, 1) := by decide +kernel
theorem dX5_going_26 : decode cX5_going 26 = .ok (.iload_n 1, 1) := by decide +kernel
theorem dX5_going_27 : decode cX5_going 27 = .ok (.i2d, 1) := by decide +kernel
theorem dX5_going_28 : decode cX5_going 28 = .ok (.ddiv, 1) := by decide +kernel
theorem dX5_going_29 : decode cX5_going 29 = .ok (.goto 4, 3) := by decide +kernel
theorem dX5_going_32 : decode cX5_going 32 = .ok (.dconst 1, 1) := by decide +kernel
theorem dX5_going_33 : decode cX5_going 33 = .ok (.dreturn, 1) := by decide +kernel
set_option maxRecDepth 20000 in
theorem ggX5_digest_X5_countNumber : GoodIn wsX5_digest wsX5_countNumber := goodIn_r _ [10, 2, 11, 12, 13, 14, 15, 16, 17, 18, 19, 20, 21, 22, 23, 24, 25, 26, 27, 28, 29, 30, 31, 32, 33, 34, 35, 36, 37, 38, 39, 40, 41, 42, 43, 44, 45, 46, 47, 48, 49, 50, 51, 52, 53, 54, 55, 56, 57, 58, 59, 60, 61, 62, 63, 64, 65, 66, 67, 68, 69, 70, 71, 72, 73, 74, 75, 76, 77, 78, 79, 80, 81, 82, 83, 84, 85, 208, 209, 210, 211, 212, 213, 223, 224, 225, 226, 227, 228, 229, 230, 231, 232, 233, 234, 235, 236, 237, 238, 239, 240, 241, 242, 243, 244, 245] (by decide +kernel) (by decide +kernel)
set_option maxRecDepth 20000 in
theorem gX5_digest_X5_countNumber : GoodIn wsX5_digest (wsV RX5 194 RX5 yX5_countNumber wsX5_countNumber) := goodIn_app (goodIn_of _ (by decide +kernel)) ggX5_digest_X5_countNumber
set_option maxRecDepth 20000 in
theorem ggX5_digest_X5_mix : GoodIn wsX5_digest wsX5_mix := goodIn_r _ [88, 89] (by decide +kernel) (by decide +kernel)
set_option maxRecDepth 20000 in
theorem gX5_digest_X5_mix : GoodIn wsX5_digest (va_wsS RX5 219 yX5_mix wsX5_mix) := goodIn_app (goodIn_of _ (by decide +kernel)) ggX5_digest_X5_mix
set_option maxRecDepth 20000 in
theorem ggX5_digest_X5_mixPoses : GoodIn wsX5_digest wsX5_mixPoses := goodIn_r _ [93, 94, 95, 96, 9, 97, 2, 22, 11, 98, 65, 66, 67, 68, 69, 70, 71, 72, 73, 74, 99, 100, 101, 32, 102, 103, 104, 105, 106, 37, 38, 39, 34, 40, 41, 42, 43, 44, 107, 108, 109, 110, 111, 112, 36, 113, 114, 77, 78, 79, 115, 116, 117, 118, 119, 120, 121, 122, 123, 124, 125, 48, 126, 61, 127, 63, 128, 50, 129, 130, 131, 132, 133, 134, 135, 136, 137, 138, 139, 86, 87, 88, 89, 140, 141, 142, 143, 144, 18, 145, 146, 147, 148, 149, 150, 151, 152, 35, 153, 154, 155, 156, 157, 158, 159, 160, 161, 162, 163, 164, 165, 58, 59, 166, 30, 31, 33, 167, 208, 209, 210, 211, 212, 213, 223, 224, 225, 226, 227, 228, 229, 241, 242, 230, 231, 232, 233, 234, 235, 236, 237, 238, 239, 240] (by decide +kernel) (by decide +kernel)
set_option maxRecDepth 20000 in
theorem gX5_digest_X5_mixPoses : GoodIn wsX5_digest (wsV RX5 223 RX5 yX5_mixPoses wsX5_mixPoses) := goodIn_app (goodIn_of _ (by decide +kernel)) ggX5_digest_X5_mixPoses
set_option maxRecDepth 20000 in
theorem ggX5_digest_X5_mixPaper : GoodIn wsX5_digest wsX5_mixPaper := goodIn_r _ [171, 2, 22, 23, 172, 173, 174, 9, 175, 135, 71, 72, 67, 73, 69, 74, 86, 87, 88, 89, 208, 209, 210, 211, 212, 213, 223, 224, 225, 226, 227, 228, 229, 241, 242] (by decide +kernel) (by decide +kernel)
set_option maxRecDepth 20000 in
theorem gX5_digest_X5_mixPaper : GoodIn wsX5_digest (wsV RX5 227 RX5 yX5_mixPaper wsX5_mixPaper) := goodIn_app (goodIn_of _ (by decide +kernel)) ggX5_digest_X5_mixPaper
set_option maxRecDepth 20000 in
theorem ggX5_digest_X3_stopNumber : GoodIn wsX5_digest wsX3_stopNumber := goodIn_r _ [179, 180, 181, 182, 223, 224, 225, 226, 227, 228, 229] (by decide +kernel) (by decide +kernel)
set_option maxRecDepth 20000 in
theorem gX5_digest_X3_stopNumber : GoodIn wsX5_digest (wsV RX5 167 RX3 yX3_stopNumber wsX3_stopNumber) := goodIn_app (goodIn_of _ (by decide +kernel)) ggX5_digest_X3_stopNumber
set_option maxRecDepth 20000 in
theorem ggX5_digest_X5_wornNumber : GoodIn wsX5_digest wsX5_wornNumber := goodIn_r _ [186, 144, 2, 11, 18, 19, 187, 145, 146, 147, 32, 148, 103, 149, 150, 151, 152, 111, 119, 34, 112, 40, 35, 153, 154, 155, 156, 157, 158, 159, 160, 161, 162, 163, 164, 165, 58, 43, 59, 166, 30, 31, 33, 36, 37, 38, 39, 41, 42, 44, 167, 108, 109, 110, 113, 100, 101, 102, 104, 9, 105, 114, 77, 78, 79, 208, 209, 210, 211, 212, 213, 223, 224, 225, 226, 227, 228, 229, 230, 231, 232, 233, 234, 235, 236, 237, 238, 239, 240] (by decide +kernel) (by decide +kernel)
set_option maxRecDepth 20000 in
theorem gX5_digest_X5_wornNumber : GoodIn wsX5_digest (wsV RX5 197 RX5 yX5_wornNumber wsX5_wornNumber) := goodIn_app (goodIn_of _ (by decide +kernel)) ggX5_digest_X5_wornNumber
set_option maxRecDepth 20000 in
theorem ggX5_digest_X5_bestRegulator : GoodIn wsX5_digest wsX5_bestRegulator := goodIn_r _ [191, 2, 11, 14, 192, 121, 43, 122, 107, 108, 109, 32, 110, 111, 112, 36, 37, 38, 39, 34, 40, 41, 42, 44, 113, 100, 101, 102, 103, 104, 9, 105, 114, 77, 78, 79, 208, 209, 210, 211, 212, 213, 223, 224, 225, 226, 227, 228, 229, 230, 231, 232, 233, 234, 235, 236, 237, 238, 239, 240] (by decide +kernel) (by decide +kernel)
set_option maxRecDepth 20000 in
theorem gX5_digest_X5_bestRegulator : GoodIn wsX5_digest (wsV RX5 230 RX5 yX5_bestRegulator wsX5_bestRegulator) := goodIn_app (goodIn_of _ (by decide +kernel)) ggX5_digest_X5_bestRegulator
set_option maxRecDepth 20000 in
theorem ggX5_digest_X5_nightPose : GoodIn wsX5_digest wsX5_nightPose := goodIn_r _ [196, 197, 144, 2, 11, 18, 19, 192, 121, 43, 122, 145, 146, 147, 32, 148, 103, 149, 150, 151, 152, 111, 119, 34, 112, 40, 35, 153, 154, 155, 156, 157, 158, 159, 160, 161, 162, 163, 164, 165, 58, 59, 166, 30, 31, 33, 36, 37, 38, 39, 41, 42, 44, 167, 108, 109, 110, 113, 100, 101, 102, 104, 9, 105, 114, 77, 78, 79, 208, 209, 210, 211, 212, 213, 223, 224, 225, 226, 227, 228, 229, 230, 231, 232, 233, 234, 235, 236, 237, 238, 239, 240] (by decide +kernel) (by decide +kernel)
set_option maxRecDepth 20000 in
theorem gX5_digest_X5_nightPose : GoodIn wsX5_digest (wsV RX5 233 RX5 yX5_nightPose wsX5_nightPose) := goodIn_app (goodIn_of _ (by decide +kernel)) ggX5_digest_X5_nightPose
set_option maxRecDepth 20000 in
theorem ggX5_digest_X5_going : GoodIn wsX5_digest wsX5_going := goodIn_r _ [201, 2, 11, 12, 25, 208, 209, 210, 211, 212, 213, 223, 224, 225, 226, 227, 228, 229, 230, 231, 232, 233, 234, 235, 236, 237, 238, 239, 240] (by decide +kernel) (by decide +kernel)
set_option maxRecDepth 20000 in
theorem gX5_digest_X5_going : GoodIn wsX5_digest (wsV RX5 236 RX5 yX5_going wsX5_going) := goodIn_app (goodIn_of _ (by decide +kernel)) ggX5_digest_X5_going
set_option maxRecDepth 20000 in
theorem ggX5_digest_X5_bitsOfShare : GoodIn wsX5_digest wsX5_bitsOfShare := goodIn_r _ [204, 205, 206, 207] (by decide +kernel) (by decide +kernel)
set_option maxRecDepth 20000 in
theorem gX5_digest_X5_bitsOfShare : GoodIn wsX5_digest (va_wsS RX5 240 yX5_bitsOfShare wsX5_bitsOfShare) := goodIn_app (goodIn_of _ (by decide +kernel)) ggX5_digest_X5_bitsOfShare
theorem dX5_digest_0 : decode cX5_digest 0 = .ok (.ldc2_w 217, 3) := by decide +kernel
theorem dX5_digest_3 : decode cX5_digest 3 = .ok (.lstore_n 1, 1) := by decide +kernel
theorem dX5_digest_4 : decode cX5_digest 4 = .ok (.iconst 0, 1) := by decide +kernel
theorem dX5_digest_5 : decode cX5_digest 5 = .ok (.istore_n 3, 1) := by decide +kernel
theorem dX5_digest_6 : decode cX5_digest 6 = .ok (.iload_n 3, 1) := by decide +kernel
theorem dX5_digest_7 : decode cX5_digest 7 = .ok (.bipush 20, 2) := by decide +kernel
theorem dX5_digest_9 : decode cX5_digest 9 = .ok (.if_icmp .gt 20, 3) := by decide +kernel
theorem dX5_digest_12 : decode cX5_digest 12 = .ok (.lload_n 1, 1) := by decide +kernel
theorem dX5_digest_13 : decode cX5_digest 13 = .ok (.aload_n 0, 1) := by decide +kernel
theorem dX5_digest_14 : decode cX5_digest 14 = .ok (.iload_n 3, 1) := by decide +kernel
theorem dX5_digest_15 : decode cX5_digest 15 = .ok (.invokevirtual 194, 3) := by decide +kernel
theorem dX5_digest_18 : decode cX5_digest 18 = .ok (.i2l, 1) := by decide +kernel
theorem dX5_digest_19 : decode cX5_digest 19 = .ok (.invokestatic 219, 3) := by decide +kernel
theorem dX5_digest_22 : decode cX5_digest 22 = .ok (.lstore_n 1, 1) := by decide +kernel
theorem dX5_digest_23 : decode cX5_digest 23 = .ok (.iinc 3 1, 3) := by decide +kernel
theorem dX5_digest_26 : decode cX5_digest 26 = .ok (.goto (-20), 3) := by decide +kernel
theorem dX5_digest_29 : decode cX5_digest 29 = .ok (.aload_n 0, 1) := by decide +kernel
theorem dX5_digest_30 : decode cX5_digest 30 = .ok (.lload_n 1, 1) := by decide +kernel
theorem dX5_digest_31 : decode cX5_digest 31 = .ok (.invokevirtual 223, 3) := by decide +kernel
theorem dX5_digest_34 : decode cX5_digest 34 = .ok (.lstore_n 1, 1) := by decide +kernel
theorem dX5_digest_35 : decode cX5_digest 35 = .ok (.aload_n 0, 1) := by decide +kernel
theorem dX5_digest_36 : decode cX5_digest 36 = .ok (.lload_n 1, 1) := by decide +kernel
theorem dX5_digest_37 : decode cX5_digest 37 = .ok (.invokevirtual 227, 3) := by decide +kernel
theorem dX5_digest_40 : decode cX5_digest 40 = .ok (.lstore_n 1, 1) := by decide +kernel
theorem dX5_digest_41 : decode cX5_digest 41 = .ok (.iconst 0, 1) := by decide +kernel
theorem dX5_digest_42 : decode cX5_digest 42 = .ok (.istore_n 3, 1) := by decide +kernel
theorem dX5_digest_43 : decode cX5_digest 43 = .ok (.iload_n 3, 1) := by decide +kernel
theorem dX5_digest_44 : decode cX5_digest 44 = .ok (.iconst 2, 1) := by decide +kernel
theorem dX5_digest_45 : decode cX5_digest 45 = .ok (.if_icmp .gt 23, 3) := by decide +kernel
theorem dX5_digest_48 : decode cX5_digest 48 = .ok (.lload_n 1, 1) := by decide +kernel
theorem dX5_digest_49 : decode cX5_digest 49 = .ok (.aload_n 0, 1) := by decide +kernel
theorem dX5_digest_50 : decode cX5_digest 50 = .ok (.getfield 10, 3) := by decide +kernel
theorem dX5_digest_53 : decode cX5_digest 53 = .ok (.iload_n 3, 1) := by decide +kernel
theorem dX5_digest_54 : decode cX5_digest 54 = .ok (.invokevirtual 167, 3) := by decide +kernel
theorem dX5_digest_57 : decode cX5_digest 57 = .ok (.i2l, 1) := by decide +kernel
theorem dX5_digest_58 : decode cX5_digest 58 = .ok (.invokestatic 219, 3) := by decide +kernel
theorem dX5_digest_61 : decode cX5_digest 61 = .ok (.lstore_n 1, 1) := by decide +kernel
theorem dX5_digest_62 : decode cX5_digest 62 = .ok (.iinc 3 1, 3) := by decide +kernel
theorem dX5_digest_65 : decode cX5_digest 65 = .ok (.goto (-22), 3) := by decide +kernel
theorem dX5_digest_68 : decode cX5_digest 68 = .ok (.iconst 0, 1) := by decide +kernel
theorem dX5_digest_69 : decode cX5_digest 69 = .ok (.istore_n 3, 1) := by decide +kernel
theorem dX5_digest_70 : decode cX5_digest 70 = .ok (.iload_n 3, 1) := by decide +kernel
theorem dX5_digest_71 : decode cX5_digest 71 = .ok (.iconst 1, 1) := by decide +kernel
theorem dX5_digest_72 : decode cX5_digest 72 = .ok (.if_icmp .gt 23, 3) := by decide +kernel
theorem dX5_digest_75 : decode cX5_digest 75 = .ok (.lload_n 1, 1) := by decide +kernel
theorem dX5_digest_76 : decode cX5_digest 76 = .ok (.aload_n 0, 1) := by decide +kernel
theorem dX5_digest_77 : decode cX5_digest 77 = .ok (.iconst 0, 1) := by decide +kernel
theorem dX5_digest_78 : decode cX5_digest 78 = .ok (.iconst 2, 1) := by decide +kernel
theorem dX5_digest_79 : decode cX5_digest 79 = .ok (.iconst 4, 1) := by decide +kernel
theorem dX5_digest_80 : decode cX5_digest 80 = .ok (.iload_n 3, 1) := by decide +kernel
theorem dX5_digest_81 : decode cX5_digest 81 = .ok (.invokevirtual 197, 3) := by decide +kernel
theorem dX5_digest_84 : decode cX5_digest 84 = .ok (.i2l, 1) := by decide +kernel
theorem dX5_digest_85 : decode cX5_digest 85 = .ok (.invokestatic 219, 3) := by decide +kernel
theorem dX5_digest_88 : decode cX5_digest 88 = .ok (.lstore_n 1, 1) := by decide +kernel
theorem dX5_digest_89 : decode cX5_digest 89 = .ok (.iinc 3 1, 3) := by decide +kernel
theorem dX5_digest_92 : decode cX5_digest 92 = .ok (.goto (-22), 3) := by decide +kernel
theorem dX5_digest_95 : decode cX5_digest 95 = .ok (.iconst 0, 1) := by decide +kernel
theorem dX5_digest_96 : decode cX5_digest 96 = .ok (.istore_n 3, 1) := by decide +kernel
theorem dX5_digest_97 : decode cX5_digest 97 = .ok (.iload_n 3, 1) := by decide +kernel
theorem dX5_digest_98 : decode cX5_digest 98 = .ok (.iconst 1, 1) := by decide +kernel
theorem dX5_digest_99 : decode cX5_digest 99 = .ok (.if_icmp .gt 23, 3) := by decide +kernel
theorem dX5_digest_102 : decode cX5_digest 102 = .ok (.lload_n 1, 1) := by decide +kernel
theorem dX5_digest_103 : decode cX5_digest 103 = .ok (.aload_n 0, 1) := by decide +kernel
theorem dX5_digest_104 : decode cX5_digest 104 = .ok (.iconst 1, 1) := by decide +kernel
theorem dX5_digest_105 : decode cX5_digest 105 = .ok (.iconst 1, 1) := by decide +kernel
theorem dX5_digest_106 : decode cX5_digest 106 = .ok (.iconst 5, 1) := by decide +kernel
theorem dX5_digest_107 : decode cX5_digest 107 = .ok (.iload_n 3, 1) := by decide +kernel
theorem dX5_digest_108 : decode cX5_digest 108 = .ok (.invokevirtual 197, 3) := by decide +kernel
theorem dX5_digest_111 : decode cX5_digest 111 = .ok (.i2l, 1) := by decide +kernel
theorem dX5_digest_112 : decode cX5_digest 112 = .ok (.invokestatic 219, 3) := by decide +kernel
theorem dX5_digest_115 : decode cX5_digest 115 = .ok (.lstore_n 1, 1) := by decide +kernel
theorem dX5_digest_116 : decode cX5_digest 116 = .ok (.iinc 3 1, 3) := by decide +kernel
theorem dX5_digest_119 : decode cX5_digest 119 = .ok (.goto (-22), 3) := by decide +kernel
theorem dX5_digest_122 : decode cX5_digest 122 = .ok (.lload_n 1, 1) := by decide +kernel
theorem dX5_digest_123 : decode cX5_digest 123 = .ok (.aload_n 0, 1) := by decide +kernel
theorem dX5_digest_124 : decode cX5_digest 124 = .ok (.invokevirtual 230, 3) := by decide +kernel
theorem dX5_digest_127 : decode cX5_digest 127 = .ok (.i2l, 1) := by decide +kernel
theorem dX5_digest_128 : decode cX5_digest 128 = .ok (.invokestatic 219, 3) := by decide +kernel
theorem dX5_digest_131 : decode cX5_digest 131 = .ok (.lstore_n 1, 1) := by decide +kernel
theorem dX5_digest_132 : decode cX5_digest 132 = .ok (.lload_n 1, 1) := by decide +kernel
theorem dX5_digest_133 : decode cX5_digest 133 = .ok (.aload_n 0, 1) := by decide +kernel
theorem dX5_digest_134 : decode cX5_digest 134 = .ok (.invokevirtual 233, 3) := by decide +kernel
theorem dX5_digest_137 : decode cX5_digest 137 = .ok (.i2l, 1) := by decide +kernel
theorem dX5_digest_138 : decode cX5_digest 138 = .ok (.invokestatic 219, 3) := by decide +kernel
theorem dX5_digest_141 : decode cX5_digest 141 = .ok (.lstore_n 1, 1) := by decide +kernel
theorem dX5_digest_142 : decode cX5_digest 142 = .ok (.lload_n 1, 1) := by decide +kernel
theorem dX5_digest_143 : decode cX5_digest 143 = .ok (.aload_n 0, 1) := by decide +kernel
theorem dX5_digest_144 : decode cX5_digest 144 = .ok (.invokevirtual 236, 3) := by decide +kernel
theorem dX5_digest_147 : decode cX5_digest 147 = .ok (.invokestatic 240, 3) := by decide +kernel
theorem dX5_digest_150 : decode cX5_digest 150 = .ok (.invokestatic 219, 3) := by decide +kernel
theorem dX5_digest_153 : decode cX5_digest 153 = .ok (.lstore_n 1, 1) := by decide +kernel
theorem dX5_digest_154 : decode cX5_digest 154 = .ok (.lload_n 1, 1) := by decide +kernel
theorem dX5_digest_155 : decode cX5_digest 155 = .ok (.aload_n 0, 1) := by decide +kernel
theorem dX5_digest_156 : decode cX5_digest 156 = .ok (.getfield 29, 3) := by decide +kernel
theorem dX5_digest_159 : decode cX5_digest 159 = .ok (.getfield 138, 3) := by decide +kernel
theorem dX5_digest_162 : decode cX5_digest 162 = .ok (.i2l, 1) := by decide +kernel
theorem dX5_digest_163 : decode cX5_digest 163 = .ok (.invokestatic 219, 3) := by decide +kernel
theorem dX5_digest_166 : decode cX5_digest 166 = .ok (.lstore_n 1, 1) := by decide +kernel
theorem dX5_digest_167 : decode cX5_digest 167 = .ok (.iconst 0, 1) := by decide +kernel
theorem dX5_digest_168 : decode cX5_digest 168 = .ok (.istore_n 3, 1) := by decide +kernel
theorem dX5_digest_169 : decode cX5_digest 169 = .ok (.iload_n 3, 1) := by decide +kernel
theorem dX5_digest_170 : decode cX5_digest 170 = .ok (.aload_n 0, 1) := by decide +kernel
theorem dX5_digest_171 : decode cX5_digest 171 = .ok (.getfield 29, 3) := by decide +kernel
theorem dX5_digest_174 : decode cX5_digest 174 = .ok (.getfield 138, 3) := by decide +kernel
theorem dX5_digest_177 : decode cX5_digest 177 = .ok (.if_icmp .ge 24, 3) := by decide +kernel
theorem dX5_digest_180 : decode cX5_digest 180 = .ok (.lload_n 1, 1) := by decide +kernel
theorem dX5_digest_181 : decode cX5_digest 181 = .ok (.aload_n 0, 1) := by decide +kernel
theorem dX5_digest_182 : decode cX5_digest 182 = .ok (.getfield 29, 3) := by decide +kernel
theorem dX5_digest_185 : decode cX5_digest 185 = .ok (.getfield 141, 3) := by decide +kernel
theorem dX5_digest_188 : decode cX5_digest 188 = .ok (.iload_n 3, 1) := by decide +kernel
theorem dX5_digest_189 : decode cX5_digest 189 = .ok (.iaload, 1) := by decide +kernel
theorem dX5_digest_190 : decode cX5_digest 190 = .ok (.i2l, 1) := by decide +kernel
theorem dX5_digest_191 : decode cX5_digest 191 = .ok (.invokestatic 219, 3) := by decide +kernel
theorem dX5_digest_194 : decode cX5_digest 194 = .ok (.lstore_n 1, 1) := by decide +kernel
theorem dX5_digest_195 : decode cX5_digest 195 = .ok (.iinc 3 1, 3) := by decide +kernel
theorem dX5_digest_198 : decode cX5_digest 198 = .ok (.goto (-29), 3) := by decide +kernel
theorem dX5_digest_201 : decode cX5_digest 201 = .ok (.lload_n 1, 1) := by decide +kernel
theorem dX5_digest_202 : decode cX5_digest 202 = .ok (.lreturn, 1) := by decide +kernel
theorem dX5_isPose_0 : decode cX5_isPose 0 = .ok (.iload_n 0, 1) := by decide +kernel
theorem dX5_isPose_1 : decode cX5_isPose 1 = .ok (.ifCond .lt 13, 3) := by decide +kernel
theorem dX5_isPose_4 : decode cX5_isPose 4 = .ok (.iload_n 0, 1) := by decide +kernel
theorem dX5_isPose_5 : decode cX5_isPose 5 = .ok (.bipush 6, 2) := by decide +kernel
theorem dX5_isPose_7 : decode cX5_isPose 7 = .ok (.if_icmp .ge 7, 3) := by decide +kernel
theorem dX5_isPose_10 : decode cX5_isPose 10 = .ok (.iconst 1, 1) := by decide +kernel
theorem dX5_isPose_11 : decode cX5_isPose 11 = .ok (.goto 4, 3) := by decide +kernel
theorem dX5_isPose_14 : decode cX5_isPose 14 = .ok (.iconst 0, 1) := by decide +kernel
theorem dX5_isPose_15 : decode cX5_isPose 15 = .ok (.ireturn, 1) := by decide +kernel
set_option maxRecDepth 20000 in
theorem ggX5_demandPose_X5_isPose : GoodIn wsX5_demandPose wsX5_isPose := goodIn_r _ [6] (by decide +kernel) (by decide +kernel)
set_option maxRecDepth 20000 in
theorem gX5_demandPose_X5_isPose : GoodIn wsX5_demandPose (va_wsS RX5 244 yX5_isPose wsX5_isPose) := goodIn_app (goodIn_of _ (by decide +kernel)) ggX5_demandPose_X5_isPose
theorem dX5_demandPose_0 : decode cX5_demandPose 0 = .ok (.iload_n 0, 1) := by decide +kernel
theorem dX5_demandPose_1 : decode cX5_demandPose 1 = .ok (.invokestatic 244, 3) := by decide +kernel
theorem dX5_demandPose_4 : decode cX5_demandPose 4 = .ok (.ifCond .ne 13, 3) := by decide +kernel
theorem dX5_demandPose_7 : decode cX5_demandPose 7 = .ok (.new 123, 3) := by decide +kernel
theorem dX5_demandPose_10 : decode cX5_demandPose 10 = .ok (.dup, 1) := by decide +kernel
theorem dX5_demandPose_11 : decode cX5_demandPose 11 = .ok (.ldc 247, 2) := by decide +kernel
theorem dX5_demandPose_13 : decode cX5_demandPose 13 = .ok (.invokespecial 127, 3) := by decide +kernel
theorem dX5_demandPose_16 : decode cX5_demandPose 16 = .ok (.athrow, 1) := by decide +kernel
theorem dX5_demandPose_17 : decode cX5_demandPose 17 = .ok (.return_, 1) := by decide +kernel
theorem dX5_demandRange_0 : decode cX5_demandRange 0 = .ok (.iload_n 0, 1) := by decide +kernel
theorem dX5_demandRange_1 : decode cX5_demandRange 1 = .ok (.iload_n 1, 1) := by decide +kernel
theorem dX5_demandRange_2 : decode cX5_demandRange 2 = .ok (.if_icmp .lt 8, 3) := by decide +kernel
theorem dX5_demandRange_5 : decode cX5_demandRange 5 = .ok (.iload_n 0, 1) := by decide +kernel
theorem dX5_demandRange_6 : decode cX5_demandRange 6 = .ok (.iload_n 2, 1) := by decide +kernel
theorem dX5_demandRange_7 : decode cX5_demandRange 7 = .ok (.if_icmp .le 13, 3) := by decide +kernel
theorem dX5_demandRange_10 : decode cX5_demandRange 10 = .ok (.new 152, 3) := by decide +kernel
theorem dX5_demandRange_13 : decode cX5_demandRange 13 = .ok (.dup, 1) := by decide +kernel
theorem dX5_demandRange_14 : decode cX5_demandRange 14 = .ok (.ldc 249, 2) := by decide +kernel
theorem dX5_demandRange_16 : decode cX5_demandRange 16 = .ok (.invokespecial 156, 3) := by decide +kernel
theorem dX5_demandRange_19 : decode cX5_demandRange 19 = .ok (.athrow, 1) := by decide +kernel
theorem dX5_demandRange_20 : decode cX5_demandRange 20 = .ok (.return_, 1) := by decide +kernel
set_option maxRecDepth 20000 in
theorem ggX5_doPart_X4_tighten : GoodIn wsX5_doPart wsX4_tighten := goodIn_r _ [13, 14, 15, 16, 17, 18, 137, 138, 139, 140, 141, 142, 143, 144, 145, 146, 147] (by decide +kernel) (by decide +kernel)
set_option maxRecDepth 20000 in
theorem gX5_doPart_X4_tighten : GoodIn wsX5_doPart (wsV RX5 55 RX4 yX4_tighten wsX4_tighten) := goodIn_app (goodIn_of _ (by decide +kernel)) ggX5_doPart_X4_tighten
set_option maxRecDepth 20000 in
theorem ggX5_doPart_X5_readOrStop : GoodIn wsX5_doPart wsX5_readOrStop := goodIn_r _ [23, 4, 24, 25, 26, 27, 28, 29, 30, 31, 32, 33, 34, 35, 36, 12, 37, 14, 38, 39, 40, 17, 41, 42, 43, 44, 45, 46, 47, 48, 49, 50, 51, 52, 53, 54, 55, 56, 57, 58, 59, 60, 61, 62, 63, 64, 65, 66, 67, 68, 69, 70, 71, 72, 73, 74, 75, 76, 77, 78, 79, 80, 81, 82, 83, 84, 85, 86, 87, 88, 89, 22, 90, 91, 92, 93, 94, 95, 96, 115, 116, 117, 118, 119, 120, 130, 131, 132, 133, 134, 135, 136, 137, 138, 139, 140, 141, 142, 143, 144, 145, 146, 147, 148, 149] (by decide +kernel) (by decide +kernel)
set_option maxRecDepth 20000 in
theorem gX5_doPart_X5_readOrStop : GoodIn wsX5_doPart (wsV RX5 257 RX5 yX5_readOrStop wsX5_readOrStop) := goodIn_app (goodIn_of _ (by decide +kernel)) ggX5_doPart_X5_readOrStop
set_option maxRecDepth 20000 in
theorem ggX5_doPart_X4_run : GoodIn wsX5_doPart wsX4_run := goodIn_r _ [100, 101, 102, 103, 104, 12, 105, 106, 107, 108, 109, 14, 38, 15, 16, 17, 18, 110, 111, 112, 113, 83, 35, 36, 37, 39, 40, 41, 114, 78, 79, 80, 81, 82, 84, 85, 86, 87, 88, 89, 22, 90, 91, 92, 93, 94, 137, 138, 139, 140, 141, 142, 143, 144, 145, 146, 147] (by decide +kernel) (by decide +kernel)
set_option maxRecDepth 20000 in
theorem gX5_doPart_X4_run : GoodIn wsX5_doPart (wsV RX5 95 RX4 yX4_run wsX4_run) := goodIn_app (goodIn_of _ (by decide +kernel)) ggX5_doPart_X4_run
theorem dX5_doPart_0 : decode cX5_doPart 0 = .ok (.aload_n 0, 1) := by decide +kernel
theorem dX5_doPart_1 : decode cX5_doPart 1 = .ok (.getfield 29, 3) := by decide +kernel
theorem dX5_doPart_4 : decode cX5_doPart 4 = .ok (.getfield 251, 3) := by decide +kernel
theorem dX5_doPart_7 : decode cX5_doPart 7 = .ok (.iload_n 1, 1) := by decide +kernel
theorem dX5_doPart_8 : decode cX5_doPart 8 = .ok (.iaload, 1) := by decide +kernel
theorem dX5_doPart_9 : decode cX5_doPart 9 = .ok (.istore_n 2, 1) := by decide +kernel
theorem dX5_doPart_10 : decode cX5_doPart 10 = .ok (.aload_n 0, 1) := by decide +kernel
theorem dX5_doPart_11 : decode cX5_doPart 11 = .ok (.getfield 29, 3) := by decide +kernel
theorem dX5_doPart_14 : decode cX5_doPart 14 = .ok (.getfield 254, 3) := by decide +kernel
theorem dX5_doPart_17 : decode cX5_doPart 17 = .ok (.iload_n 1, 1) := by decide +kernel
theorem dX5_doPart_18 : decode cX5_doPart 18 = .ok (.iaload, 1) := by decide +kernel
theorem dX5_doPart_19 : decode cX5_doPart 19 = .ok (.lookupswitch 108 #[(100, 95), (103, 82), (112, 62), (114, 75), (119, 49)], 49) := by decide +kernel
theorem dX5_doPart_68 : decode cX5_doPart 68 = .ok (.aload_n 0, 1) := by decide +kernel
theorem dX5_doPart_69 : decode cX5_doPart 69 = .ok (.getfield 10, 3) := by decide +kernel
theorem dX5_doPart_72 : decode cX5_doPart 72 = .ok (.getfield 52, 3) := by decide +kernel
theorem dX5_doPart_75 : decode cX5_doPart 75 = .ok (.iload_n 2, 1) := by decide +kernel
theorem dX5_doPart_76 : decode cX5_doPart 76 = .ok (.invokevirtual 55, 3) := by decide +kernel
theorem dX5_doPart_79 : decode cX5_doPart 79 = .ok (.iconst 1, 1) := by decide +kernel
theorem dX5_doPart_80 : decode cX5_doPart 80 = .ok (.ireturn, 1) := by decide +kernel
theorem dX5_doPart_81 : decode cX5_doPart 81 = .ok (.aload_n 0, 1) := by decide +kernel
theorem dX5_doPart_82 : decode cX5_doPart 82 = .ok (.getfield 10, 3) := by decide +kernel
theorem dX5_doPart_85 : decode cX5_doPart 85 = .ok (.getfield 52, 3) := by decide +kernel
theorem dX5_doPart_88 : decode cX5_doPart 88 = .ok (.iload_n 2, 1) := by decide +kernel
theorem dX5_doPart_89 : decode cX5_doPart 89 = .ok (.putfield 92, 3) := by decide +kernel
theorem dX5_doPart_92 : decode cX5_doPart 92 = .ok (.iconst 1, 1) := by decide +kernel
theorem dX5_doPart_93 : decode cX5_doPart 93 = .ok (.ireturn, 1) := by decide +kernel
theorem dX5_doPart_94 : decode cX5_doPart 94 = .ok (.aload_n 0, 1) := by decide +kernel
theorem dX5_doPart_95 : decode cX5_doPart 95 = .ok (.iload_n 1, 1) := by decide +kernel
theorem dX5_doPart_96 : decode cX5_doPart 96 = .ok (.iload_n 2, 1) := by decide +kernel
theorem dX5_doPart_97 : decode cX5_doPart 97 = .ok (.invokevirtual 257, 3) := by decide +kernel
theorem dX5_doPart_100 : decode cX5_doPart 100 = .ok (.ireturn, 1) := by decide +kernel
theorem dX5_doPart_101 : decode cX5_doPart 101 = .ok (.aload_n 0, 1) := by decide +kernel
theorem dX5_doPart_102 : decode cX5_doPart 102 = .ok (.getfield 10, 3) := by decide +kernel
theorem dX5_doPart_105 : decode cX5_doPart 105 = .ok (.getfield 52, 3) := by decide +kernel
theorem dX5_doPart_108 : decode cX5_doPart 108 = .ok (.iload_n 2, 1) := by decide +kernel
theorem dX5_doPart_109 : decode cX5_doPart 109 = .ok (.putfield 74, 3) := by decide +kernel
theorem dX5_doPart_112 : decode cX5_doPart 112 = .ok (.iconst 1, 1) := by decide +kernel
theorem dX5_doPart_113 : decode cX5_doPart 113 = .ok (.ireturn, 1) := by decide +kernel
theorem dX5_doPart_114 : decode cX5_doPart 114 = .ok (.aload_n 0, 1) := by decide +kernel
theorem dX5_doPart_115 : decode cX5_doPart 115 = .ok (.getfield 10, 3) := by decide +kernel
theorem dX5_doPart_118 : decode cX5_doPart 118 = .ok (.getfield 52, 3) := by decide +kernel
theorem dX5_doPart_121 : decode cX5_doPart 121 = .ok (.iconst 0, 1) := by decide +kernel
theorem dX5_doPart_122 : decode cX5_doPart 122 = .ok (.putfield 80, 3) := by decide +kernel
theorem dX5_doPart_125 : decode cX5_doPart 125 = .ok (.iconst 1, 1) := by decide +kernel
theorem dX5_doPart_126 : decode cX5_doPart 126 = .ok (.ireturn, 1) := by decide +kernel
theorem dX5_doPart_127 : decode cX5_doPart 127 = .ok (.aload_n 0, 1) := by decide +kernel
theorem dX5_doPart_128 : decode cX5_doPart 128 = .ok (.getfield 10, 3) := by decide +kernel
theorem dX5_doPart_131 : decode cX5_doPart 131 = .ok (.getfield 52, 3) := by decide +kernel
theorem dX5_doPart_134 : decode cX5_doPart 134 = .ok (.iload_n 2, 1) := by decide +kernel
theorem dX5_doPart_135 : decode cX5_doPart 135 = .ok (.invokevirtual 95, 3) := by decide +kernel
theorem dX5_doPart_138 : decode cX5_doPart 138 = .ok (.pop, 1) := by decide +kernel
theorem dX5_doPart_139 : decode cX5_doPart 139 = .ok (.iconst 1, 1) := by decide +kernel
theorem dX5_doPart_140 : decode cX5_doPart 140 = .ok (.ireturn, 1) := by decide +kernel
set_option maxRecDepth 20000 in
theorem ggX5_readOrStop_X3_whyNoReading : GoodIn wsX5_readOrStop wsX3_whyNoReading := goodIn_r _ [6, 7, 8, 9, 10, 11, 12, 13, 14, 15, 16, 17, 18, 19, 20, 21, 22, 23, 24, 25, 26, 27, 28, 29, 30, 31, 32, 33, 34, 35, 36, 85, 86, 87, 88, 89, 90, 91, 92, 93, 94, 95, 96, 97, 98, 99, 100, 101, 102, 103, 104] (by decide +kernel) (by decide +kernel)
set_option maxRecDepth 20000 in
theorem gX5_readOrStop_X3_whyNoReading : GoodIn wsX5_readOrStop (wsV RX5 98 RX3 yX3_whyNoReading wsX3_whyNoReading) := goodIn_app (goodIn_of _ (by decide +kernel)) ggX5_readOrStop_X3_whyNoReading
set_option maxRecDepth 20000 in
theorem ggX5_readOrStop_X3_noteStop : GoodIn wsX5_readOrStop wsX3_noteStop := goodIn_r _ [40, 41, 42, 43, 85, 86, 87, 88, 89, 90, 91] (by decide +kernel) (by decide +kernel)
set_option maxRecDepth 20000 in
theorem gX5_readOrStop_X3_noteStop : GoodIn wsX5_readOrStop (wsV RX5 261 RX3 yX3_noteStop wsX3_noteStop) := goodIn_app (goodIn_of _ (by decide +kernel)) ggX5_readOrStop_X3_noteStop
set_option maxRecDepth 20000 in
theorem ggX5_readOrStop_X3_makeReading : GoodIn wsX5_readOrStop wsX3_makeReading := goodIn_r _ [47, 7, 48, 11, 49, 50, 51, 52, 34, 53, 36, 54, 55, 56, 57, 32, 33, 35, 58, 59, 60, 15, 61, 62, 63, 64, 13, 14, 16, 17, 18, 19, 20, 21, 22, 65, 66, 67, 68, 69, 70, 71, 72, 73, 74, 75, 76, 77, 24, 25, 26, 27, 28, 29, 30, 78, 85, 86, 87, 88, 89, 90, 91, 92, 93, 94, 95, 96, 97, 98, 99, 100, 101, 102, 103, 104] (by decide +kernel) (by decide +kernel)
set_option maxRecDepth 20000 in
theorem gX5_readOrStop_X3_makeReading : GoodIn wsX5_readOrStop (wsV RX5 108 RX3 yX3_makeReading wsX3_makeReading) := goodIn_app (goodIn_of _ (by decide +kernel)) ggX5_readOrStop_X3_makeReading
theorem dX5_readOrStop_0 : decode cX5_readOrStop 0 = .ok (.aload_n 0, 1) := by decide +kernel
theorem dX5_readOrStop_1 : decode cX5_readOrStop 1 = .ok (.getfield 10, 3) := by decide +kernel
theorem dX5_readOrStop_4 : decode cX5_readOrStop 4 = .ok (.iload_n 2, 1) := by decide +kernel
theorem dX5_readOrStop_5 : decode cX5_readOrStop 5 = .ok (.invokevirtual 98, 3) := by decide +kernel
theorem dX5_readOrStop_8 : decode cX5_readOrStop 8 = .ok (.istore_n 3, 1) := by decide +kernel
theorem dX5_readOrStop_9 : decode cX5_readOrStop 9 = .ok (.iload_n 3, 1) := by decide +kernel
theorem dX5_readOrStop_10 : decode cX5_readOrStop 10 = .ok (.ifCond .eq 15, 3) := by decide +kernel
theorem dX5_readOrStop_13 : decode cX5_readOrStop 13 = .ok (.aload_n 0, 1) := by decide +kernel
theorem dX5_readOrStop_14 : decode cX5_readOrStop 14 = .ok (.getfield 10, 3) := by decide +kernel
theorem dX5_readOrStop_17 : decode cX5_readOrStop 17 = .ok (.iload_n 1, 1) := by decide +kernel
theorem dX5_readOrStop_18 : decode cX5_readOrStop 18 = .ok (.iload_n 3, 1) := by decide +kernel
theorem dX5_readOrStop_19 : decode cX5_readOrStop 19 = .ok (.iload_n 2, 1) := by decide +kernel
theorem dX5_readOrStop_20 : decode cX5_readOrStop 20 = .ok (.invokevirtual 261, 3) := by decide +kernel
theorem dX5_readOrStop_23 : decode cX5_readOrStop 23 = .ok (.iconst 0, 1) := by decide +kernel
theorem dX5_readOrStop_24 : decode cX5_readOrStop 24 = .ok (.ireturn, 1) := by decide +kernel
theorem dX5_readOrStop_25 : decode cX5_readOrStop 25 = .ok (.aload_n 0, 1) := by decide +kernel
theorem dX5_readOrStop_26 : decode cX5_readOrStop 26 = .ok (.getfield 10, 3) := by decide +kernel
theorem dX5_readOrStop_29 : decode cX5_readOrStop 29 = .ok (.iload_n 2, 1) := by decide +kernel
theorem dX5_readOrStop_30 : decode cX5_readOrStop 30 = .ok (.invokevirtual 108, 3) := by decide +kernel
theorem dX5_readOrStop_33 : decode cX5_readOrStop 33 = .ok (.iconst 1, 1) := by decide +kernel
theorem dX5_readOrStop_34 : decode cX5_readOrStop 34 = .ok (.ireturn, 1) := by decide +kernel
set_option maxRecDepth 20000 in
theorem ggX5_poseNumber_X1_latestIn : GoodIn wsX5_poseNumber wsX1_latestIn := goodIn_r _ [8, 9, 10, 11, 12, 7, 13, 14, 88, 89] (by decide +kernel) (by decide +kernel)
set_option maxRecDepth 20000 in
theorem gX5_poseNumber_X1_latestIn : GoodIn wsX5_poseNumber (wsV RX5 264 RX1 yX1_latestIn wsX1_latestIn) := goodIn_app (goodIn_of _ (by decide +kernel)) ggX5_poseNumber_X1_latestIn
set_option maxRecDepth 20000 in
theorem ggX5_poseNumber_X4_weightOf : GoodIn wsX5_poseNumber wsX4_weightOf := goodIn_r _ [19, 20, 21, 22, 23, 90, 91, 92, 93, 94, 95, 96, 97, 98, 99, 100] (by decide +kernel) (by decide +kernel)
set_option maxRecDepth 20000 in
theorem gX5_poseNumber_X4_weightOf : GoodIn wsX5_poseNumber (wsV RX5 66 RX4 yX4_weightOf wsX4_weightOf) := goodIn_app (goodIn_of _ (by decide +kernel)) ggX5_poseNumber_X4_weightOf
set_option maxRecDepth 20000 in
theorem ggX5_poseNumber_X4_swingIn : GoodIn wsX5_poseNumber wsX4_swingIn := goodIn_r _ [27, 28, 29, 30, 31, 32, 33, 90, 91, 92, 93, 94, 95, 96, 97, 98, 99, 100] (by decide +kernel) (by decide +kernel)
set_option maxRecDepth 20000 in
theorem gX5_poseNumber_X4_swingIn : GoodIn wsX5_poseNumber (wsV RX5 267 RX4 yX4_swingIn wsX4_swingIn) := goodIn_app (goodIn_of _ (by decide +kernel)) ggX5_poseNumber_X4_swingIn
set_option maxRecDepth 20000 in
theorem ggX5_poseNumber_X4_rateIn : GoodIn wsX5_poseNumber wsX4_rateIn := goodIn_r _ [37, 38, 39, 40, 25, 26, 18, 27, 28, 29, 30, 31, 32, 33, 41, 16, 17, 19, 20, 21, 22, 23, 42, 43, 44, 45, 90, 91, 92, 93, 94, 95, 96, 97, 98, 99, 100] (by decide +kernel) (by decide +kernel)
set_option maxRecDepth 20000 in
theorem gX5_poseNumber_X4_rateIn : GoodIn wsX5_poseNumber (wsV RX5 111 RX4 yX4_rateIn wsX4_rateIn) := goodIn_app (goodIn_of _ (by decide +kernel)) ggX5_poseNumber_X4_rateIn
set_option maxRecDepth 20000 in
theorem ggX5_poseNumber_X4_beatErrorIn : GoodIn wsX5_poseNumber wsX4_beatErrorIn := goodIn_r _ [49, 50, 51, 52, 32, 53, 29, 90, 91, 92, 93, 94, 95, 96, 97, 98, 99, 100] (by decide +kernel) (by decide +kernel)
set_option maxRecDepth 20000 in
theorem gX5_poseNumber_X4_beatErrorIn : GoodIn wsX5_poseNumber (wsV RX5 270 RX4 yX4_beatErrorIn wsX4_beatErrorIn) := goodIn_app (goodIn_of _ (by decide +kernel)) ggX5_poseNumber_X4_beatErrorIn
set_option maxRecDepth 20000 in
theorem ggX5_poseNumber_X3_whyNoReading : GoodIn wsX5_poseNumber wsX3_whyNoReading := goodIn_r _ [58, 59, 60, 61, 62, 63, 64, 25, 26, 18, 27, 28, 29, 30, 31, 32, 33, 65, 47, 48, 49, 50, 51, 52, 53, 66, 67, 68, 7, 69, 9, 81, 82, 83, 84, 85, 86, 87, 90, 91, 92, 93, 94, 95, 96, 97, 98, 99, 100, 88, 89] (by decide +kernel) (by decide +kernel)
set_option maxRecDepth 20000 in
theorem gX5_poseNumber_X3_whyNoReading : GoodIn wsX5_poseNumber (wsV RX5 98 RX3 yX3_whyNoReading wsX3_whyNoReading) := goodIn_app (goodIn_of _ (by decide +kernel)) ggX5_poseNumber_X3_whyNoReading
set_option maxRecDepth 20000 in
theorem ggX5_poseNumber_X1_number : GoodIn wsX5_poseNumber wsX1_number := goodIn_r _ [13, 9, 14, 88, 89] (by decide +kernel) (by decide +kernel)
set_option maxRecDepth 20000 in
theorem gX5_poseNumber_X1_number : GoodIn wsX5_poseNumber (wsV RX5 273 RX1 yX1_number wsX1_number) := goodIn_app (goodIn_of _ (by decide +kernel)) ggX5_poseNumber_X1_number
set_option maxRecDepth 20000 in
theorem ggX5_poseNumber_X1_readingsIn : GoodIn wsX5_poseNumber wsX1_readingsIn := goodIn_r _ [74, 9, 10, 11, 12, 7, 13, 14, 88, 89] (by decide +kernel) (by decide +kernel)
set_option maxRecDepth 20000 in
theorem gX5_poseNumber_X1_readingsIn : GoodIn wsX5_poseNumber (wsV RX5 276 RX1 yX1_readingsIn wsX1_readingsIn) := goodIn_app (goodIn_of _ (by decide +kernel)) ggX5_poseNumber_X1_readingsIn
theorem dX5_poseNumber_0 : decode cX5_poseNumber 0 = .ok (.aload_n 0, 1) := by decide +kernel
theorem dX5_poseNumber_1 : decode cX5_poseNumber 1 = .ok (.getfield 10, 3) := by decide +kernel
theorem dX5_poseNumber_4 : decode cX5_poseNumber 4 = .ok (.getfield 114, 3) := by decide +kernel
theorem dX5_poseNumber_7 : decode cX5_poseNumber 7 = .ok (.iload_n 1, 1) := by decide +kernel
theorem dX5_poseNumber_8 : decode cX5_poseNumber 8 = .ok (.invokevirtual 264, 3) := by decide +kernel
theorem dX5_poseNumber_11 : decode cX5_poseNumber 11 = .ok (.istore_n 3, 1) := by decide +kernel
theorem dX5_poseNumber_12 : decode cX5_poseNumber 12 = .ok (.iload_n 2, 1) := by decide +kernel
theorem dX5_poseNumber_13 : decode cX5_poseNumber 13 = .ok (.tableswitch 155 0 6 #[43, 58, 70, 86, 98, 107, 129], 43) := by decide +kernel
theorem dX5_poseNumber_56 : decode cX5_poseNumber 56 = .ok (.aload_n 0, 1) := by decide +kernel
theorem dX5_poseNumber_57 : decode cX5_poseNumber 57 = .ok (.getfield 10, 3) := by decide +kernel
theorem dX5_poseNumber_60 : decode cX5_poseNumber 60 = .ok (.getfield 52, 3) := by decide +kernel
theorem dX5_poseNumber_63 : decode cX5_poseNumber 63 = .ok (.iload_n 1, 1) := by decide +kernel
theorem dX5_poseNumber_64 : decode cX5_poseNumber 64 = .ok (.invokevirtual 66, 3) := by decide +kernel
theorem dX5_poseNumber_67 : decode cX5_poseNumber 67 = .ok (.bipush 100, 2) := by decide +kernel
theorem dX5_poseNumber_69 : decode cX5_poseNumber 69 = .ok (.iadd, 1) := by decide +kernel
theorem dX5_poseNumber_70 : decode cX5_poseNumber 70 = .ok (.ireturn, 1) := by decide +kernel
theorem dX5_poseNumber_71 : decode cX5_poseNumber 71 = .ok (.aload_n 0, 1) := by decide +kernel
theorem dX5_poseNumber_72 : decode cX5_poseNumber 72 = .ok (.getfield 10, 3) := by decide +kernel
theorem dX5_poseNumber_75 : decode cX5_poseNumber 75 = .ok (.getfield 52, 3) := by decide +kernel
theorem dX5_poseNumber_78 : decode cX5_poseNumber 78 = .ok (.iload_n 1, 1) := by decide +kernel
theorem dX5_poseNumber_79 : decode cX5_poseNumber 79 = .ok (.invokevirtual 267, 3) := by decide +kernel
theorem dX5_poseNumber_82 : decode cX5_poseNumber 82 = .ok (.ireturn, 1) := by decide +kernel
theorem dX5_poseNumber_83 : decode cX5_poseNumber 83 = .ok (.aload_n 0, 1) := by decide +kernel
theorem dX5_poseNumber_84 : decode cX5_poseNumber 84 = .ok (.getfield 10, 3) := by decide +kernel
theorem dX5_poseNumber_87 : decode cX5_poseNumber 87 = .ok (.getfield 52, 3) := by decide +kernel
theorem dX5_poseNumber_90 : decode cX5_poseNumber 90 = .ok (.iload_n 1, 1) := by decide +kernel
theorem dX5_poseNumber_91 : decode cX5_poseNumber 91 = .ok (.invokevirtual 111, 3) := by decide +kernel
theorem dX5_poseNumber_94 : decode cX5_poseNumber 94 = .ok (.sipush 10000, 3) := by decide +kernel
theorem dX5_poseNumber_97 : decode cX5_poseNumber 97 = .ok (.iadd, 1) := by decide +kernel
theorem dX5_poseNumber_98 : decode cX5_poseNumber 98 = .ok (.ireturn, 1) := by decide +kernel
theorem dX5_poseNumber_99 : decode cX5_poseNumber 99 = .ok (.aload_n 0, 1) := by decide +kernel
theorem dX5_poseNumber_100 : decode cX5_poseNumber 100 = .ok (.getfield 10, 3) := by decide +kernel
theorem dX5_poseNumber_103 : decode cX5_poseNumber 103 = .ok (.getfield 52, 3) := by decide +kernel
theorem dX5_poseNumber_106 : decode cX5_poseNumber 106 = .ok (.iload_n 1, 1) := by decide +kernel
theorem dX5_poseNumber_107 : decode cX5_poseNumber 107 = .ok (.invokevirtual 270, 3) := by decide +kernel
theorem dX5_poseNumber_110 : decode cX5_poseNumber 110 = .ok (.ireturn, 1) := by decide +kernel
theorem dX5_poseNumber_111 : decode cX5_poseNumber 111 = .ok (.aload_n 0, 1) := by decide +kernel
theorem dX5_poseNumber_112 : decode cX5_poseNumber 112 = .ok (.getfield 10, 3) := by decide +kernel
theorem dX5_poseNumber_115 : decode cX5_poseNumber 115 = .ok (.iload_n 1, 1) := by decide +kernel
theorem dX5_poseNumber_116 : decode cX5_poseNumber 116 = .ok (.invokevirtual 98, 3) := by decide +kernel
theorem dX5_poseNumber_119 : decode cX5_poseNumber 119 = .ok (.ireturn, 1) := by decide +kernel
theorem dX5_poseNumber_120 : decode cX5_poseNumber 120 = .ok (.iload_n 3, 1) := by decide +kernel
theorem dX5_poseNumber_121 : decode cX5_poseNumber 121 = .ok (.iconst (-1), 1) := by decide +kernel
theorem dX5_poseNumber_122 : decode cX5_poseNumber 122 = .ok (.if_icmp .ne 7, 3) := by decide +kernel
theorem dX5_poseNumber_125 : decode cX5_poseNumber 125 = .ok (.iconst (-1), 1) := by decide +kernel
theorem dX5_poseNumber_126 : decode cX5_poseNumber 126 = .ok (.goto 15, 3) := by decide +kernel
theorem dX5_poseNumber_129 : decode cX5_poseNumber 129 = .ok (.aload_n 0, 1) := by decide +kernel
theorem dX5_poseNumber_130 : decode cX5_poseNumber 130 = .ok (.getfield 10, 3) := by decide +kernel
theorem dX5_poseNumber_133 : decode cX5_poseNumber 133 = .ok (.getfield 114, 3) := by decide +kernel
theorem dX5_poseNumber_136 : decode cX5_poseNumber 136 = .ok (.iload_n 3, 1) := by decide +kernel
theorem dX5_poseNumber_137 : decode cX5_poseNumber 137 = .ok (.iconst 0, 1) := by decide +kernel
theorem dX5_poseNumber_138 : decode cX5_poseNumber 138 = .ok (.invokevirtual 273, 3) := by decide +kernel
theorem dX5_poseNumber_141 : decode cX5_poseNumber 141 = .ok (.ireturn, 1) := by decide +kernel
theorem dX5_poseNumber_142 : decode cX5_poseNumber 142 = .ok (.iload_n 3, 1) := by decide +kernel
theorem dX5_poseNumber_143 : decode cX5_poseNumber 143 = .ok (.iconst (-1), 1) := by decide +kernel
theorem dX5_poseNumber_144 : decode cX5_poseNumber 144 = .ok (.if_icmp .ne 7, 3) := by decide +kernel
theorem dX5_poseNumber_147 : decode cX5_poseNumber 147 = .ok (.iconst (-1), 1) := by decide +kernel
theorem dX5_poseNumber_148 : decode cX5_poseNumber 148 = .ok (.goto 19, 3) := by decide +kernel
theorem dX5_poseNumber_151 : decode cX5_poseNumber 151 = .ok (.aload_n 0, 1) := by decide +kernel
theorem dX5_poseNumber_152 : decode cX5_poseNumber 152 = .ok (.getfield 10, 3) := by decide +kernel
theorem dX5_poseNumber_155 : decode cX5_poseNumber 155 = .ok (.getfield 114, 3) := by decide +kernel
theorem dX5_poseNumber_158 : decode cX5_poseNumber 158 = .ok (.iload_n 3, 1) := by decide +kernel
theorem dX5_poseNumber_159 : decode cX5_poseNumber 159 = .ok (.iconst 2, 1) := by decide +kernel
theorem dX5_poseNumber_160 : decode cX5_poseNumber 160 = .ok (.invokevirtual 273, 3) := by decide +kernel
theorem dX5_poseNumber_163 : decode cX5_poseNumber 163 = .ok (.sipush 10000, 3) := by decide +kernel
theorem dX5_poseNumber_166 : decode cX5_poseNumber 166 = .ok (.iadd, 1) := by decide +kernel
theorem dX5_poseNumber_167 : decode cX5_poseNumber 167 = .ok (.ireturn, 1) := by decide +kernel
theorem dX5_poseNumber_168 : decode cX5_poseNumber 168 = .ok (.aload_n 0, 1) := by decide +kernel
theorem dX5_poseNumber_169 : decode cX5_poseNumber 169 = .ok (.getfield 10, 3) := by decide +kernel
theorem dX5_poseNumber_172 : decode cX5_poseNumber 172 = .ok (.getfield 114, 3) := by decide +kernel
theorem dX5_poseNumber_175 : decode cX5_poseNumber 175 = .ok (.iload_n 1, 1) := by decide +kernel
theorem dX5_poseNumber_176 : decode cX5_poseNumber 176 = .ok (.invokevirtual 276, 3) := by decide +kernel
theorem dX5_poseNumber_179 : decode cX5_poseNumber 179 = .ok (.ireturn, 1) := by decide +kernel
set_option maxRecDepth 20000 in
theorem ggX5_readingNumber_X1_number : GoodIn wsX5_readingNumber wsX1_number := goodIn_r _ [8, 9, 10, 24, 25] (by decide +kernel) (by decide +kernel)
set_option maxRecDepth 20000 in
theorem gX5_readingNumber_X1_number : GoodIn wsX5_readingNumber (wsV RX5 273 RX1 yX1_number wsX1_number) := goodIn_app (goodIn_of _ (by decide +kernel)) ggX5_readingNumber_X1_number
theorem dX5_readingNumber_0 : decode cX5_readingNumber 0 = .ok (.iload_n 1, 1) := by decide +kernel
theorem dX5_readingNumber_1 : decode cX5_readingNumber 1 = .ok (.aload_n 0, 1) := by decide +kernel
theorem dX5_readingNumber_2 : decode cX5_readingNumber 2 = .ok (.getfield 10, 3) := by decide +kernel
theorem dX5_readingNumber_5 : decode cX5_readingNumber 5 = .ok (.getfield 114, 3) := by decide +kernel
theorem dX5_readingNumber_8 : decode cX5_readingNumber 8 = .ok (.getfield 118, 3) := by decide +kernel
theorem dX5_readingNumber_11 : decode cX5_readingNumber 11 = .ok (.if_icmp .lt 5, 3) := by decide +kernel
theorem dX5_readingNumber_14 : decode cX5_readingNumber 14 = .ok (.iconst (-1), 1) := by decide +kernel
theorem dX5_readingNumber_15 : decode cX5_readingNumber 15 = .ok (.ireturn, 1) := by decide +kernel
theorem dX5_readingNumber_16 : decode cX5_readingNumber 16 = .ok (.aload_n 0, 1) := by decide +kernel
theorem dX5_readingNumber_17 : decode cX5_readingNumber 17 = .ok (.getfield 10, 3) := by decide +kernel
theorem dX5_readingNumber_20 : decode cX5_readingNumber 20 = .ok (.getfield 114, 3) := by decide +kernel
theorem dX5_readingNumber_23 : decode cX5_readingNumber 23 = .ok (.iload_n 1, 1) := by decide +kernel
theorem dX5_readingNumber_24 : decode cX5_readingNumber 24 = .ok (.iload_n 2, 1) := by decide +kernel
theorem dX5_readingNumber_25 : decode cX5_readingNumber 25 = .ok (.invokevirtual 273, 3) := by decide +kernel
theorem dX5_readingNumber_28 : decode cX5_readingNumber 28 = .ok (.istore_n 3, 1) := by decide +kernel
theorem dX5_readingNumber_29 : decode cX5_readingNumber 29 = .ok (.iload_n 2, 1) := by decide +kernel
theorem dX5_readingNumber_30 : decode cX5_readingNumber 30 = .ok (.iconst 2, 1) := by decide +kernel
theorem dX5_readingNumber_31 : decode cX5_readingNumber 31 = .ok (.if_icmp .ne 11, 3) := by decide +kernel
theorem dX5_readingNumber_34 : decode cX5_readingNumber 34 = .ok (.iload_n 3, 1) := by decide +kernel
theorem dX5_readingNumber_35 : decode cX5_readingNumber 35 = .ok (.sipush 10000, 3) := by decide +kernel
theorem dX5_readingNumber_38 : decode cX5_readingNumber 38 = .ok (.iadd, 1) := by decide +kernel
theorem dX5_readingNumber_39 : decode cX5_readingNumber 39 = .ok (.goto 4, 3) := by decide +kernel
theorem dX5_readingNumber_42 : decode cX5_readingNumber 42 = .ok (.iload_n 3, 1) := by decide +kernel
theorem dX5_readingNumber_43 : decode cX5_readingNumber 43 = .ok (.ireturn, 1) := by decide +kernel
set_option maxRecDepth 20000 in
theorem ggX5_countNumber_X4_goes : GoodIn wsX5_countNumber wsX4_goes := goodIn_r _ [24, 25, 26, 27, 28, 29, 23, 30, 31, 32, 33, 34, 35, 90, 91, 92, 93, 94, 95, 96, 97, 98, 99, 100] (by decide +kernel) (by decide +kernel)
set_option maxRecDepth 20000 in
theorem gX5_countNumber_X4_goes : GoodIn wsX5_countNumber (wsV RX5 279 RX4 yX4_goes wsX4_goes) := goodIn_app (goodIn_of _ (by decide +kernel)) ggX5_countNumber_X4_goes
set_option maxRecDepth 20000 in
theorem ggX5_countNumber_X3_dayRateByPoses : GoodIn wsX5_countNumber wsX3_dayRateByPoses := goodIn_r _ [40, 41, 42, 43, 44, 39, 45, 46, 47, 48, 49, 34, 50, 51, 33, 35, 52, 53, 54, 55, 56, 57, 58, 59, 60, 61, 62, 63, 64, 65, 66, 67, 68, 69, 70, 83, 84, 85, 86, 87, 88, 89, 90, 91, 92, 93, 94, 95, 96, 97, 98, 99, 100, 101, 102] (by decide +kernel) (by decide +kernel)
set_option maxRecDepth 20000 in
theorem gX5_countNumber_X3_dayRateByPoses : GoodIn wsX5_countNumber (wsV RX5 289 RX3 yX3_dayRateByPoses wsX3_dayRateByPoses) := goodIn_app (goodIn_of _ (by decide +kernel)) ggX5_countNumber_X3_dayRateByPoses
set_option maxRecDepth 20000 in
theorem ggX5_countNumber_X3_dayRateByPaper : GoodIn wsX5_countNumber wsX3_dayRateByPaper := goodIn_r _ [74, 46, 47, 41, 75, 52, 53, 54, 48, 49, 34, 50, 51, 33, 35, 66, 62, 63, 58, 64, 60, 65, 67, 68, 69, 70, 83, 84, 85, 86, 87, 88, 89, 101, 102, 90, 91, 92, 93, 94, 95, 96, 97, 98, 99, 100] (by decide +kernel) (by decide +kernel)
set_option maxRecDepth 20000 in
theorem gX5_countNumber_X3_dayRateByPaper : GoodIn wsX5_countNumber (wsV RX5 292 RX3 yX3_dayRateByPaper wsX3_dayRateByPaper) := goodIn_app (goodIn_of _ (by decide +kernel)) ggX5_countNumber_X3_dayRateByPaper
set_option maxRecDepth 20000 in
theorem ggX5_countNumber_X3_whyNoDayRate : GoodIn wsX5_countNumber wsX3_whyNoDayRate := goodIn_r _ [45, 46, 47, 41, 48, 49, 34, 50, 51, 33, 35, 52, 53, 54, 55, 56, 57, 58, 59, 60, 61, 62, 63, 64, 65, 66, 83, 84, 85, 86, 87, 88, 89, 90, 91, 92, 93, 94, 95, 96, 97, 98, 99, 100, 101, 102] (by decide +kernel) (by decide +kernel)
set_option maxRecDepth 20000 in
theorem gX5_countNumber_X3_whyNoDayRate : GoodIn wsX5_countNumber (wsV RX5 295 RX3 yX3_whyNoDayRate wsX3_whyNoDayRate) := goodIn_app (goodIn_of _ (by decide +kernel)) ggX5_countNumber_X3_whyNoDayRate
theorem dX5_countNumber_0 : decode cX5_countNumber 0 = .ok (.aload_n 0, 1) := by decide +kernel
theorem dX5_countNumber_1 : decode cX5_countNumber 1 = .ok (.getfield 10, 3) := by decide +kernel
theorem dX5_countNumber_4 : decode cX5_countNumber 4 = .ok (.getfield 52, 3) := by decide +kernel
theorem dX5_countNumber_7 : decode cX5_countNumber 7 = .ok (.astore_n 2, 1) := by decide +kernel
theorem dX5_countNumber_8 : decode cX5_countNumber 8 = .ok (.iload_n 1, 1) := by decide +kernel
theorem dX5_countNumber_9 : decode cX5_countNumber 9 = .ok (.tableswitch 251 0 19 #[95, 100, 105, 113, 121, 126, 131, 136, 149, 158, 163, 174, 182, 190, 198, 206, 211, 221, 231, 241], 95) := by decide +kernel
theorem dX5_countNumber_104 : decode cX5_countNumber 104 = .ok (.aload_n 2, 1) := by decide +kernel
theorem dX5_countNumber_105 : decode cX5_countNumber 105 = .ok (.getfield 181, 3) := by decide +kernel
theorem dX5_countNumber_108 : decode cX5_countNumber 108 = .ok (.ireturn, 1) := by decide +kernel
theorem dX5_countNumber_109 : decode cX5_countNumber 109 = .ok (.aload_n 2, 1) := by decide +kernel
theorem dX5_countNumber_110 : decode cX5_countNumber 110 = .ok (.getfield 59, 3) := by decide +kernel
theorem dX5_countNumber_113 : decode cX5_countNumber 113 = .ok (.ireturn, 1) := by decide +kernel
theorem dX5_countNumber_114 : decode cX5_countNumber 114 = .ok (.aload_n 2, 1) := by decide +kernel
theorem dX5_countNumber_115 : decode cX5_countNumber 115 = .ok (.getfield 74, 3) := by decide +kernel
theorem dX5_countNumber_118 : decode cX5_countNumber 118 = .ok (.bipush 100, 2) := by decide +kernel
theorem dX5_countNumber_120 : decode cX5_countNumber 120 = .ok (.iadd, 1) := by decide +kernel
theorem dX5_countNumber_121 : decode cX5_countNumber 121 = .ok (.ireturn, 1) := by decide +kernel
theorem dX5_countNumber_122 : decode cX5_countNumber 122 = .ok (.aload_n 2, 1) := by decide +kernel
theorem dX5_countNumber_123 : decode cX5_countNumber 123 = .ok (.getfield 77, 3) := by decide +kernel
theorem dX5_countNumber_126 : decode cX5_countNumber 126 = .ok (.bipush 100, 2) := by decide +kernel
theorem dX5_countNumber_128 : decode cX5_countNumber 128 = .ok (.iadd, 1) := by decide +kernel
theorem dX5_countNumber_129 : decode cX5_countNumber 129 = .ok (.ireturn, 1) := by decide +kernel
theorem dX5_countNumber_130 : decode cX5_countNumber 130 = .ok (.aload_n 2, 1) := by decide +kernel
theorem dX5_countNumber_131 : decode cX5_countNumber 131 = .ok (.getfield 80, 3) := by decide +kernel
theorem dX5_countNumber_134 : decode cX5_countNumber 134 = .ok (.ireturn, 1) := by decide +kernel
theorem dX5_countNumber_135 : decode cX5_countNumber 135 = .ok (.aload_n 2, 1) := by decide +kernel
theorem dX5_countNumber_136 : decode cX5_countNumber 136 = .ok (.getfield 89, 3) := by decide +kernel
theorem dX5_countNumber_139 : decode cX5_countNumber 139 = .ok (.ireturn, 1) := by decide +kernel
theorem dX5_countNumber_140 : decode cX5_countNumber 140 = .ok (.aload_n 2, 1) := by decide +kernel
theorem dX5_countNumber_141 : decode cX5_countNumber 141 = .ok (.getfield 92, 3) := by decide +kernel
theorem dX5_countNumber_144 : decode cX5_countNumber 144 = .ok (.ireturn, 1) := by decide +kernel
theorem dX5_countNumber_145 : decode cX5_countNumber 145 = .ok (.aload_n 2, 1) := by decide +kernel
theorem dX5_countNumber_146 : decode cX5_countNumber 146 = .ok (.invokevirtual 279, 3) := by decide +kernel
theorem dX5_countNumber_149 : decode cX5_countNumber 149 = .ok (.ifCond .eq 7, 3) := by decide +kernel
theorem dX5_countNumber_152 : decode cX5_countNumber 152 = .ok (.iconst 1, 1) := by decide +kernel
theorem dX5_countNumber_153 : decode cX5_countNumber 153 = .ok (.goto 4, 3) := by decide +kernel
theorem dX5_countNumber_156 : decode cX5_countNumber 156 = .ok (.iconst 0, 1) := by decide +kernel
theorem dX5_countNumber_157 : decode cX5_countNumber 157 = .ok (.ireturn, 1) := by decide +kernel
theorem dX5_countNumber_158 : decode cX5_countNumber 158 = .ok (.aload_n 2, 1) := by decide +kernel
theorem dX5_countNumber_159 : decode cX5_countNumber 159 = .ok (.getfield 211, 3) := by decide +kernel
theorem dX5_countNumber_162 : decode cX5_countNumber 162 = .ok (.ldc_w 282, 3) := by decide +kernel
theorem dX5_countNumber_165 : decode cX5_countNumber 165 = .ok (.iadd, 1) := by decide +kernel
theorem dX5_countNumber_166 : decode cX5_countNumber 166 = .ok (.ireturn, 1) := by decide +kernel
theorem dX5_countNumber_167 : decode cX5_countNumber 167 = .ok (.aload_n 2, 1) := by decide +kernel
theorem dX5_countNumber_168 : decode cX5_countNumber 168 = .ok (.getfield 283, 3) := by decide +kernel
theorem dX5_countNumber_171 : decode cX5_countNumber 171 = .ok (.ireturn, 1) := by decide +kernel
theorem dX5_countNumber_172 : decode cX5_countNumber 172 = .ok (.aload_n 0, 1) := by decide +kernel
theorem dX5_countNumber_173 : decode cX5_countNumber 173 = .ok (.getfield 10, 3) := by decide +kernel
theorem dX5_countNumber_176 : decode cX5_countNumber 176 = .ok (.getfield 114, 3) := by decide +kernel
theorem dX5_countNumber_179 : decode cX5_countNumber 179 = .ok (.getfield 118, 3) := by decide +kernel
theorem dX5_countNumber_182 : decode cX5_countNumber 182 = .ok (.ireturn, 1) := by decide +kernel
theorem dX5_countNumber_183 : decode cX5_countNumber 183 = .ok (.aload_n 0, 1) := by decide +kernel
theorem dX5_countNumber_184 : decode cX5_countNumber 184 = .ok (.getfield 10, 3) := by decide +kernel
theorem dX5_countNumber_187 : decode cX5_countNumber 187 = .ok (.getfield 286, 3) := by decide +kernel
theorem dX5_countNumber_190 : decode cX5_countNumber 190 = .ok (.ireturn, 1) := by decide +kernel
theorem dX5_countNumber_191 : decode cX5_countNumber 191 = .ok (.aload_n 0, 1) := by decide +kernel
theorem dX5_countNumber_192 : decode cX5_countNumber 192 = .ok (.getfield 10, 3) := by decide +kernel
theorem dX5_countNumber_195 : decode cX5_countNumber 195 = .ok (.invokevirtual 289, 3) := by decide +kernel
theorem dX5_countNumber_198 : decode cX5_countNumber 198 = .ok (.ireturn, 1) := by decide +kernel
theorem dX5_countNumber_199 : decode cX5_countNumber 199 = .ok (.aload_n 0, 1) := by decide +kernel
theorem dX5_countNumber_200 : decode cX5_countNumber 200 = .ok (.getfield 10, 3) := by decide +kernel
theorem dX5_countNumber_203 : decode cX5_countNumber 203 = .ok (.invokevirtual 292, 3) := by decide +kernel
theorem dX5_countNumber_206 : decode cX5_countNumber 206 = .ok (.ireturn, 1) := by decide +kernel
theorem dX5_countNumber_207 : decode cX5_countNumber 207 = .ok (.aload_n 0, 1) := by decide +kernel
theorem dX5_countNumber_208 : decode cX5_countNumber 208 = .ok (.getfield 10, 3) := by decide +kernel
theorem dX5_countNumber_211 : decode cX5_countNumber 211 = .ok (.invokevirtual 295, 3) := by decide +kernel
theorem dX5_countNumber_214 : decode cX5_countNumber 214 = .ok (.ireturn, 1) := by decide +kernel
theorem dX5_countNumber_215 : decode cX5_countNumber 215 = .ok (.aload_n 2, 1) := by decide +kernel
theorem dX5_countNumber_216 : decode cX5_countNumber 216 = .ok (.getfield 214, 3) := by decide +kernel
theorem dX5_countNumber_219 : decode cX5_countNumber 219 = .ok (.ireturn, 1) := by decide +kernel
theorem dX5_countNumber_220 : decode cX5_countNumber 220 = .ok (.aload_n 0, 1) := by decide +kernel
theorem dX5_countNumber_221 : decode cX5_countNumber 221 = .ok (.getfield 10, 3) := by decide +kernel
theorem dX5_countNumber_224 : decode cX5_countNumber 224 = .ok (.getfield 135, 3) := by decide +kernel
theorem dX5_countNumber_227 : decode cX5_countNumber 227 = .ok (.iconst 0, 1) := by decide +kernel
theorem dX5_countNumber_228 : decode cX5_countNumber 228 = .ok (.iaload, 1) := by decide +kernel
theorem dX5_countNumber_229 : decode cX5_countNumber 229 = .ok (.ireturn, 1) := by decide +kernel
theorem dX5_countNumber_230 : decode cX5_countNumber 230 = .ok (.aload_n 0, 1) := by decide +kernel
theorem dX5_countNumber_231 : decode cX5_countNumber 231 = .ok (.getfield 10, 3) := by decide +kernel
theorem dX5_countNumber_234 : decode cX5_countNumber 234 = .ok (.getfield 135, 3) := by decide +kernel
theorem dX5_countNumber_237 : decode cX5_countNumber 237 = .ok (.iconst 1, 1) := by decide +kernel
theorem dX5_countNumber_238 : decode cX5_countNumber 238 = .ok (.iaload, 1) := by decide +kernel
theorem dX5_countNumber_239 : decode cX5_countNumber 239 = .ok (.ireturn, 1) := by decide +kernel
theorem dX5_countNumber_240 : decode cX5_countNumber 240 = .ok (.aload_n 0, 1) := by decide +kernel
theorem dX5_countNumber_241 : decode cX5_countNumber 241 = .ok (.getfield 10, 3) := by decide +kernel
theorem dX5_countNumber_244 : decode cX5_countNumber 244 = .ok (.getfield 135, 3) := by decide +kernel
theorem dX5_countNumber_247 : decode cX5_countNumber 247 = .ok (.iconst 2, 1) := by decide +kernel
theorem dX5_countNumber_248 : decode cX5_countNumber 248 = .ok (.iaload, 1) := by decide +kernel
theorem dX5_countNumber_249 : decode cX5_countNumber 249 = .ok (.ireturn, 1) := by decide +kernel
theorem dX5_countNumber_250 : decode cX5_countNumber 250 = .ok (.aload_n 0, 1) := by decide +kernel
theorem dX5_countNumber_251 : decode cX5_countNumber 251 = .ok (.getfield 10, 3) := by decide +kernel
theorem dX5_countNumber_254 : decode cX5_countNumber 254 = .ok (.getfield 135, 3) := by decide +kernel
theorem dX5_countNumber_257 : decode cX5_countNumber 257 = .ok (.iconst 3, 1) := by decide +kernel
theorem dX5_countNumber_258 : decode cX5_countNumber 258 = .ok (.iaload, 1) := by decide +kernel
theorem dX5_countNumber_259 : decode cX5_countNumber 259 = .ok (.ireturn, 1) := by decide +kernel
theorem dX5_countNumber_260 : decode cX5_countNumber 260 = .ok (.aload_n 0, 1) := by decide +kernel
theorem dX5_countNumber_261 : decode cX5_countNumber 261 = .ok (.getfield 22, 3) := by decide +kernel
theorem dX5_countNumber_264 : decode cX5_countNumber 264 = .ok (.getfield 170, 3) := by decide +kernel
theorem dX5_countNumber_267 : decode cX5_countNumber 267 = .ok (.ireturn, 1) := by decide +kernel
set_option maxRecDepth 20000 in
theorem ggX5_wornNumber_X4_copyFrom : GoodIn wsX5_wornNumber wsX4_copyFrom := goodIn_r _ [11, 12, 13, 14, 15, 16, 17, 18, 19, 20, 21, 22, 23, 24, 25, 26, 78, 79, 80, 81, 82, 83, 84, 85, 86, 87, 88] (by decide +kernel) (by decide +kernel)
set_option maxRecDepth 20000 in
theorem gX5_wornNumber_X4_copyFrom : GoodIn wsX5_wornNumber (wsV RX5 208 RX4 yX4_copyFrom wsX4_copyFrom) := goodIn_app (goodIn_of _ (by decide +kernel)) ggX5_wornNumber_X4_copyFrom
set_option maxRecDepth 20000 in
theorem ggX5_wornNumber_X4_run : GoodIn wsX5_wornNumber wsX4_run := goodIn_r _ [30, 26, 31, 32, 33, 10, 34, 23, 25, 24, 22, 19, 21, 35, 36, 37, 38, 39, 40, 41, 42, 43, 44, 45, 46, 47, 48, 49, 50, 51, 52, 53, 17, 20, 54, 55, 56, 57, 12, 58, 59, 60, 61, 62, 63, 64, 78, 79, 80, 81, 82, 83, 84, 85, 86, 87, 88] (by decide +kernel) (by decide +kernel)
set_option maxRecDepth 20000 in
theorem gX5_wornNumber_X4_run : GoodIn wsX5_wornNumber (wsV RX5 95 RX4 yX4_run wsX4_run) := goodIn_app (goodIn_of _ (by decide +kernel)) ggX5_wornNumber_X4_run
theorem dX5_wornNumber_0 : decode cX5_wornNumber 0 = .ok (.aload_n 0, 1) := by decide +kernel
theorem dX5_wornNumber_1 : decode cX5_wornNumber 1 = .ok (.getfield 36, 3) := by decide +kernel
theorem dX5_wornNumber_4 : decode cX5_wornNumber 4 = .ok (.aload_n 0, 1) := by decide +kernel
theorem dX5_wornNumber_5 : decode cX5_wornNumber 5 = .ok (.getfield 10, 3) := by decide +kernel
theorem dX5_wornNumber_8 : decode cX5_wornNumber 8 = .ok (.getfield 52, 3) := by decide +kernel
theorem dX5_wornNumber_11 : decode cX5_wornNumber 11 = .ok (.invokevirtual 208, 3) := by decide +kernel
theorem dX5_wornNumber_14 : decode cX5_wornNumber 14 = .ok (.aload_n 0, 1) := by decide +kernel
theorem dX5_wornNumber_15 : decode cX5_wornNumber 15 = .ok (.getfield 36, 3) := by decide +kernel
theorem dX5_wornNumber_18 : decode cX5_wornNumber 18 = .ok (.iload_n 1, 1) := by decide +kernel
theorem dX5_wornNumber_19 : decode cX5_wornNumber 19 = .ok (.putfield 92, 3) := by decide +kernel
theorem dX5_wornNumber_22 : decode cX5_wornNumber 22 = .ok (.aload_n 0, 1) := by decide +kernel
theorem dX5_wornNumber_23 : decode cX5_wornNumber 23 = .ok (.getfield 36, 3) := by decide +kernel
theorem dX5_wornNumber_26 : decode cX5_wornNumber 26 = .ok (.bipush 8, 2) := by decide +kernel
theorem dX5_wornNumber_28 : decode cX5_wornNumber 28 = .ok (.invokevirtual 95, 3) := by decide +kernel
theorem dX5_wornNumber_31 : decode cX5_wornNumber 31 = .ok (.istore 5, 2) := by decide +kernel
theorem dX5_wornNumber_33 : decode cX5_wornNumber 33 = .ok (.aload_n 0, 1) := by decide +kernel
theorem dX5_wornNumber_34 : decode cX5_wornNumber 34 = .ok (.getfield 36, 3) := by decide +kernel
theorem dX5_wornNumber_37 : decode cX5_wornNumber 37 = .ok (.iload_n 2, 1) := by decide +kernel
theorem dX5_wornNumber_38 : decode cX5_wornNumber 38 = .ok (.putfield 92, 3) := by decide +kernel
theorem dX5_wornNumber_41 : decode cX5_wornNumber 41 = .ok (.iload 5, 2) := by decide +kernel
theorem dX5_wornNumber_43 : decode cX5_wornNumber 43 = .ok (.aload_n 0, 1) := by decide +kernel
theorem dX5_wornNumber_44 : decode cX5_wornNumber 44 = .ok (.getfield 36, 3) := by decide +kernel
theorem dX5_wornNumber_47 : decode cX5_wornNumber 47 = .ok (.bipush 8, 2) := by decide +kernel
theorem dX5_wornNumber_49 : decode cX5_wornNumber 49 = .ok (.invokevirtual 95, 3) := by decide +kernel
theorem dX5_wornNumber_52 : decode cX5_wornNumber 52 = .ok (.iadd, 1) := by decide +kernel
theorem dX5_wornNumber_53 : decode cX5_wornNumber 53 = .ok (.istore 5, 2) := by decide +kernel
theorem dX5_wornNumber_55 : decode cX5_wornNumber 55 = .ok (.aload_n 0, 1) := by decide +kernel
theorem dX5_wornNumber_56 : decode cX5_wornNumber 56 = .ok (.getfield 36, 3) := by decide +kernel
theorem dX5_wornNumber_59 : decode cX5_wornNumber 59 = .ok (.iload_n 3, 1) := by decide +kernel
theorem dX5_wornNumber_60 : decode cX5_wornNumber 60 = .ok (.putfield 92, 3) := by decide +kernel
theorem dX5_wornNumber_63 : decode cX5_wornNumber 63 = .ok (.iload 5, 2) := by decide +kernel
theorem dX5_wornNumber_65 : decode cX5_wornNumber 65 = .ok (.aload_n 0, 1) := by decide +kernel
theorem dX5_wornNumber_66 : decode cX5_wornNumber 66 = .ok (.getfield 36, 3) := by decide +kernel
theorem dX5_wornNumber_69 : decode cX5_wornNumber 69 = .ok (.bipush 8, 2) := by decide +kernel
theorem dX5_wornNumber_71 : decode cX5_wornNumber 71 = .ok (.invokevirtual 95, 3) := by decide +kernel
theorem dX5_wornNumber_74 : decode cX5_wornNumber 74 = .ok (.iadd, 1) := by decide +kernel
theorem dX5_wornNumber_75 : decode cX5_wornNumber 75 = .ok (.istore 5, 2) := by decide +kernel
theorem dX5_wornNumber_77 : decode cX5_wornNumber 77 = .ok (.iload 4, 2) := by decide +kernel
theorem dX5_wornNumber_79 : decode cX5_wornNumber 79 = .ok (.ifCond .ne 28, 3) := by decide +kernel
theorem dX5_wornNumber_82 : decode cX5_wornNumber 82 = .ok (.aload_n 0, 1) := by decide +kernel
theorem dX5_wornNumber_83 : decode cX5_wornNumber 83 = .ok (.getfield 36, 3) := by decide +kernel
theorem dX5_wornNumber_86 : decode cX5_wornNumber 86 = .ok (.getfield 211, 3) := by decide +kernel
theorem dX5_wornNumber_89 : decode cX5_wornNumber 89 = .ok (.aload_n 0, 1) := by decide +kernel
theorem dX5_wornNumber_90 : decode cX5_wornNumber 90 = .ok (.getfield 10, 3) := by decide +kernel
theorem dX5_wornNumber_93 : decode cX5_wornNumber 93 = .ok (.getfield 52, 3) := by decide +kernel
theorem dX5_wornNumber_96 : decode cX5_wornNumber 96 = .ok (.getfield 211, 3) := by decide +kernel
theorem dX5_wornNumber_99 : decode cX5_wornNumber 99 = .ok (.isub, 1) := by decide +kernel
theorem dX5_wornNumber_100 : decode cX5_wornNumber 100 = .ok (.ldc_w 298, 3) := by decide +kernel
theorem dX5_wornNumber_103 : decode cX5_wornNumber 103 = .ok (.iadd, 1) := by decide +kernel
theorem dX5_wornNumber_104 : decode cX5_wornNumber 104 = .ok (.goto 5, 3) := by decide +kernel
theorem dX5_wornNumber_107 : decode cX5_wornNumber 107 = .ok (.iload 5, 2) := by decide +kernel
theorem dX5_wornNumber_109 : decode cX5_wornNumber 109 = .ok (.ireturn, 1) := by decide +kernel
set_option maxRecDepth 20000 in
theorem ggX5_hoursUntilStop_X4_copyFrom : GoodIn wsX5_hoursUntilStop wsX4_copyFrom := goodIn_r _ [9, 10, 11, 12, 13, 14, 15, 16, 17, 18, 19, 20, 21, 22, 23, 24, 76, 77, 78, 79, 80, 81, 82, 83, 84, 85, 86] (by decide +kernel) (by decide +kernel)
set_option maxRecDepth 20000 in
theorem gX5_hoursUntilStop_X4_copyFrom : GoodIn wsX5_hoursUntilStop (wsV RX5 208 RX4 yX4_copyFrom wsX4_copyFrom) := goodIn_app (goodIn_of _ (by decide +kernel)) ggX5_hoursUntilStop_X4_copyFrom
set_option maxRecDepth 20000 in
theorem ggX5_hoursUntilStop_X4_run : GoodIn wsX5_hoursUntilStop wsX4_run := goodIn_r _ [28, 24, 29, 30, 31, 8, 32, 21, 23, 22, 20, 17, 19, 33, 34, 35, 36, 37, 38, 39, 40, 41, 42, 43, 44, 45, 46, 47, 48, 49, 50, 51, 15, 18, 52, 53, 54, 55, 10, 56, 57, 58, 59, 60, 61, 62, 76, 77, 78, 79, 80, 81, 82, 83, 84, 85, 86] (by decide +kernel) (by decide +kernel)
set_option maxRecDepth 20000 in
theorem gX5_hoursUntilStop_X4_run : GoodIn wsX5_hoursUntilStop (wsV RX5 95 RX4 yX4_run wsX4_run) := goodIn_app (goodIn_of _ (by decide +kernel)) ggX5_hoursUntilStop_X4_run
theorem dX5_hoursUntilStop_0 : decode cX5_hoursUntilStop 0 = .ok (.aload_n 0, 1) := by decide +kernel
theorem dX5_hoursUntilStop_1 : decode cX5_hoursUntilStop 1 = .ok (.getfield 36, 3) := by decide +kernel
theorem dX5_hoursUntilStop_4 : decode cX5_hoursUntilStop 4 = .ok (.aload_n 0, 1) := by decide +kernel
theorem dX5_hoursUntilStop_5 : decode cX5_hoursUntilStop 5 = .ok (.getfield 10, 3) := by decide +kernel
theorem dX5_hoursUntilStop_8 : decode cX5_hoursUntilStop 8 = .ok (.getfield 52, 3) := by decide +kernel
theorem dX5_hoursUntilStop_11 : decode cX5_hoursUntilStop 11 = .ok (.invokevirtual 208, 3) := by decide +kernel
theorem dX5_hoursUntilStop_14 : decode cX5_hoursUntilStop 14 = .ok (.aload_n 0, 1) := by decide +kernel
theorem dX5_hoursUntilStop_15 : decode cX5_hoursUntilStop 15 = .ok (.getfield 36, 3) := by decide +kernel
theorem dX5_hoursUntilStop_18 : decode cX5_hoursUntilStop 18 = .ok (.iload_n 1, 1) := by decide +kernel
theorem dX5_hoursUntilStop_19 : decode cX5_hoursUntilStop 19 = .ok (.putfield 92, 3) := by decide +kernel
theorem dX5_hoursUntilStop_22 : decode cX5_hoursUntilStop 22 = .ok (.aload_n 0, 1) := by decide +kernel
theorem dX5_hoursUntilStop_23 : decode cX5_hoursUntilStop 23 = .ok (.getfield 36, 3) := by decide +kernel
theorem dX5_hoursUntilStop_26 : decode cX5_hoursUntilStop 26 = .ok (.bipush 48, 2) := by decide +kernel
theorem dX5_hoursUntilStop_28 : decode cX5_hoursUntilStop 28 = .ok (.invokevirtual 95, 3) := by decide +kernel
theorem dX5_hoursUntilStop_31 : decode cX5_hoursUntilStop 31 = .ok (.ireturn, 1) := by decide +kernel
theorem dX5_mix_0 : decode cX5_mix 0 = .ok (.ldc2_w 299, 3) := by decide +kernel
theorem dX5_mix_3 : decode cX5_mix 3 = .ok (.lload_n 0, 1) := by decide +kernel
theorem dX5_mix_4 : decode cX5_mix 4 = .ok (.lmul, 1) := by decide +kernel
theorem dX5_mix_5 : decode cX5_mix 5 = .ok (.lload_n 2, 1) := by decide +kernel
theorem dX5_mix_6 : decode cX5_mix 6 = .ok (.ladd, 1) := by decide +kernel
theorem dX5_mix_7 : decode cX5_mix 7 = .ok (.lreturn, 1) := by decide +kernel
set_option maxRecDepth 20000 in
theorem ggX5_mixPoses_X5_poseNumber : GoodIn wsX5_mixPoses wsX5_poseNumber := goodIn_r _ [5, 6, 7, 8, 9, 10, 11, 12, 13, 14, 15, 16, 17, 18, 19, 20, 21, 22, 23, 24, 25, 26, 4, 27, 28, 29, 30, 31, 32, 33, 34, 35, 36, 37, 38, 39, 40, 41, 42, 43, 44, 45, 46, 47, 48, 49, 50, 51, 52, 53, 54, 55, 56, 57, 58, 59, 60, 61, 62, 63, 64, 65, 66, 67, 68, 69, 70, 71, 72, 73, 74, 75, 76, 77, 78, 118, 119, 120, 121, 122, 123, 124, 125, 126, 127, 128, 129, 130, 131, 132, 133, 134, 135, 136, 137, 138, 139, 140, 141, 142, 143] (by decide +kernel) (by decide +kernel)
set_option maxRecDepth 20000 in
theorem gX5_mixPoses_X5_poseNumber : GoodIn wsX5_mixPoses (wsV RX5 186 RX5 yX5_poseNumber wsX5_poseNumber) := goodIn_app (goodIn_of _ (by decide +kernel)) ggX5_mixPoses_X5_poseNumber
set_option maxRecDepth 20000 in
theorem ggX5_mixPoses_X5_mix : GoodIn wsX5_mixPoses wsX5_mix := goodIn_r _ [81, 82] (by decide +kernel) (by decide +kernel)
set_option maxRecDepth 20000 in
theorem gX5_mixPoses_X5_mix : GoodIn wsX5_mixPoses (va_wsS RX5 219 yX5_mix wsX5_mix) := goodIn_app (goodIn_of _ (by decide +kernel)) ggX5_mixPoses_X5_mix
set_option maxRecDepth 20000 in
theorem ggX5_mixPoses_X5_hoursUntilStop : GoodIn wsX5_mixPoses wsX5_hoursUntilStop := goodIn_r _ [86, 87, 6, 8, 88, 89, 90, 91, 23, 92, 25, 93, 94, 95, 96, 42, 54, 32, 43, 33, 97, 98, 99, 100, 101, 102, 103, 104, 105, 106, 107, 108, 109, 110, 111, 36, 112, 113, 114, 115, 116, 44, 29, 30, 31, 34, 35, 37, 117, 39, 40, 41, 45, 21, 22, 24, 26, 4, 27, 46, 47, 48, 49, 118, 119, 120, 121, 122, 123, 124, 125, 126, 127, 128, 129, 130, 133, 134, 135, 136, 137, 138, 139, 140, 141, 142, 143] (by decide +kernel) (by decide +kernel)
set_option maxRecDepth 20000 in
theorem gX5_mixPoses_X5_hoursUntilStop : GoodIn wsX5_mixPoses (wsV RX5 204 RX5 yX5_hoursUntilStop wsX5_hoursUntilStop) := goodIn_app (goodIn_of _ (by decide +kernel)) ggX5_mixPoses_X5_hoursUntilStop
theorem dX5_mixPoses_0 : decode cX5_mixPoses 0 = .ok (.lload_n 1, 1) := by decide +kernel
theorem dX5_mixPoses_1 : decode cX5_mixPoses 1 = .ok (.lstore_n 3, 1) := by decide +kernel
theorem dX5_mixPoses_2 : decode cX5_mixPoses 2 = .ok (.iconst 0, 1) := by decide +kernel
theorem dX5_mixPoses_3 : decode cX5_mixPoses 3 = .ok (.istore 5, 2) := by decide +kernel
theorem dX5_mixPoses_5 : decode cX5_mixPoses 5 = .ok (.iload 5, 2) := by decide +kernel
theorem dX5_mixPoses_7 : decode cX5_mixPoses 7 = .ok (.bipush 6, 2) := by decide +kernel
theorem dX5_mixPoses_9 : decode cX5_mixPoses 9 = .ok (.if_icmp .ge 51, 3) := by decide +kernel
theorem dX5_mixPoses_12 : decode cX5_mixPoses 12 = .ok (.iconst 0, 1) := by decide +kernel
theorem dX5_mixPoses_13 : decode cX5_mixPoses 13 = .ok (.istore 6, 2) := by decide +kernel
theorem dX5_mixPoses_15 : decode cX5_mixPoses 15 = .ok (.iload 6, 2) := by decide +kernel
theorem dX5_mixPoses_17 : decode cX5_mixPoses 17 = .ok (.bipush 7, 2) := by decide +kernel
