theorem dX5_lay_15 : decode cX5_lay 15 = .ok (.aload_n 0, 1) := by decide +kernel
theorem dX5_lay_16 : decode cX5_lay 16 = .ok (.getfield 10, 3) := by decide +kernel
theorem dX5_lay_19 : decode cX5_lay 19 = .ok (.getfield 52, 3) := by decide +kernel
theorem dX5_lay_22 : decode cX5_lay 22 = .ok (.getfield 92, 3) := by decide +kernel
theorem dX5_lay_25 : decode cX5_lay 25 = .ok (.istore_n 2, 1) := by decide +kernel
theorem dX5_lay_26 : decode cX5_lay 26 = .ok (.aload_n 0, 1) := by decide +kernel
theorem dX5_lay_27 : decode cX5_lay 27 = .ok (.getfield 10, 3) := by decide +kernel
theorem dX5_lay_30 : decode cX5_lay 30 = .ok (.getfield 52, 3) := by decide +kernel
theorem dX5_lay_33 : decode cX5_lay 33 = .ok (.iload_n 1, 1) := by decide +kernel
theorem dX5_lay_34 : decode cX5_lay 34 = .ok (.putfield 92, 3) := by decide +kernel
theorem dX5_lay_37 : decode cX5_lay 37 = .ok (.iload_n 2, 1) := by decide +kernel
theorem dX5_lay_38 : decode cX5_lay 38 = .ok (.ireturn, 1) := by decide +kernel
set_option maxRecDepth 20000 in
theorem ggX5_pass_X5_demandRange : GoodIn wsX5_pass wsX5_demandRange := goodIn_ca (goodIn_r _ [7, 8, 9] (by decide +kernel) (by decide +kernel)) (goodIn_sub (fun _ h => List.mem_cons_of_mem _ (List.mem_append_right _ h)) (by decide +kernel))
set_option maxRecDepth 20000 in
theorem gX5_pass_X5_demandRange : GoodIn wsX5_pass (va_wsS RX5 44 yX5_demandRange wsX5_demandRange) := goodIn_app (goodIn_of _ (by decide +kernel)) ggX5_pass_X5_demandRange
set_option maxRecDepth 20000 in
theorem ggX5_pass_X2_push : GoodIn wsX5_pass wsX2_push := goodIn_r _ [14, 15, 16, 17, 18, 19, 20, 21, 22, 23, 24, 25, 26, 27, 28, 29, 30, 31, 32, 33, 34, 35, 36, 37, 38, 39, 40, 41, 42, 43, 44, 45, 46, 47, 48, 49, 50, 51, 52, 53, 54, 55, 56, 57, 58, 59, 60, 61, 62, 110, 111, 112, 103, 104, 105, 106, 107, 108, 109, 113, 114, 115, 116, 117, 118, 119, 120, 121, 122, 123, 124, 125] (by decide +kernel) (by decide +kernel)
set_option maxRecDepth 20000 in
theorem gX5_pass_X2_push : GoodIn wsX5_pass (wsV RX5 48 RX2 yX2_push wsX2_push) := goodIn_app (goodIn_of _ (by decide +kernel)) ggX5_pass_X2_push
set_option maxRecDepth 20000 in
theorem ggX5_pass_X4_run : GoodIn wsX5_pass wsX4_run := goodIn_r _ [66, 54, 67, 68, 69, 41, 70, 51, 53, 52, 50, 47, 49, 71, 19, 20, 21, 72, 73, 74, 75, 76, 77, 78, 79, 80, 81, 82, 83, 84, 85, 86, 45, 48, 87, 88, 89, 90, 43, 91, 6, 92, 93, 94, 95, 96, 113, 114, 115, 116, 117, 118, 119, 120, 121, 122, 123] (by decide +kernel) (by decide +kernel)
set_option maxRecDepth 20000 in
theorem gX5_pass_X4_run : GoodIn wsX5_pass (wsV RX5 95 RX4 yX4_run wsX4_run) := goodIn_app (goodIn_of _ (by decide +kernel)) ggX5_pass_X4_run
theorem dX5_pass_0 : decode cX5_pass 0 = .ok (.iload_n 1, 1) := by decide +kernel
theorem dX5_pass_1 : decode cX5_pass 1 = .ok (.iconst 1, 1) := by decide +kernel
theorem dX5_pass_2 : decode cX5_pass 2 = .ok (.bipush 99, 2) := by decide +kernel
theorem dX5_pass_4 : decode cX5_pass 4 = .ok (.invokestatic 44, 3) := by decide +kernel
theorem dX5_pass_7 : decode cX5_pass 7 = .ok (.aload_n 0, 1) := by decide +kernel
theorem dX5_pass_8 : decode cX5_pass 8 = .ok (.getfield 22, 3) := by decide +kernel
theorem dX5_pass_11 : decode cX5_pass 11 = .ok (.aload_n 0, 1) := by decide +kernel
theorem dX5_pass_12 : decode cX5_pass 12 = .ok (.getfield 10, 3) := by decide +kernel
theorem dX5_pass_15 : decode cX5_pass 15 = .ok (.invokevirtual 48, 3) := by decide +kernel
theorem dX5_pass_18 : decode cX5_pass 18 = .ok (.aload_n 0, 1) := by decide +kernel
theorem dX5_pass_19 : decode cX5_pass 19 = .ok (.getfield 10, 3) := by decide +kernel
theorem dX5_pass_22 : decode cX5_pass 22 = .ok (.getfield 52, 3) := by decide +kernel
theorem dX5_pass_25 : decode cX5_pass 25 = .ok (.iload_n 1, 1) := by decide +kernel
theorem dX5_pass_26 : decode cX5_pass 26 = .ok (.invokevirtual 95, 3) := by decide +kernel
theorem dX5_pass_29 : decode cX5_pass 29 = .ok (.ireturn, 1) := by decide +kernel
set_option maxRecDepth 20000 in
theorem ggX5_read_X5_demandPose : GoodIn wsX5_read wsX5_demandPose := goodIn_ca (goodIn_r _ [9, 10, 11, 12, 13, 8, 14] (by decide +kernel) (by decide +kernel)) (goodIn_sub (fun _ h => List.mem_cons_of_mem _ (List.mem_append_right _ h)) (by decide +kernel))
set_option maxRecDepth 20000 in
theorem gX5_read_X5_demandPose : GoodIn wsX5_read (va_wsS RX5 63 yX5_demandPose wsX5_demandPose) := goodIn_app (goodIn_of _ (by decide +kernel)) ggX5_read_X5_demandPose
set_option maxRecDepth 20000 in
theorem ggX5_read_X3_whyNoReading : GoodIn wsX5_read wsX3_whyNoReading := goodIn_r _ [19, 20, 21, 22, 23, 24, 25, 26, 27, 28, 29, 30, 31, 32, 33, 34, 35, 36, 37, 38, 39, 40, 41, 42, 43, 44, 45, 46, 47, 48, 49, 126, 127, 128, 129, 130, 131, 132, 133, 134, 135, 136, 137, 138, 139, 140, 141, 142, 143, 144, 145] (by decide +kernel) (by decide +kernel)
set_option maxRecDepth 20000 in
theorem gX5_read_X3_whyNoReading : GoodIn wsX5_read (wsV RX5 98 RX3 yX3_whyNoReading wsX3_whyNoReading) := goodIn_app (goodIn_of _ (by decide +kernel)) ggX5_read_X3_whyNoReading
set_option maxRecDepth 20000 in
theorem ggX5_read_X2_push : GoodIn wsX5_read wsX2_push := goodIn_r _ [54, 55, 56, 57, 58, 59, 34, 60, 61, 62, 63, 18, 64, 20, 24, 22, 65, 66, 67, 68, 69, 70, 71, 72, 73, 74, 75, 28, 76, 77, 78, 79, 40, 30, 80, 31, 81, 82, 83, 84, 85, 86, 87, 88, 47, 89, 90, 91, 49, 146, 147, 148, 126, 127, 128, 129, 130, 131, 132, 133, 134, 135, 136, 137, 138, 139, 140, 141, 142, 143, 144, 145] (by decide +kernel) (by decide +kernel)
set_option maxRecDepth 20000 in
theorem gX5_read_X2_push : GoodIn wsX5_read (wsV RX5 48 RX2 yX2_push wsX2_push) := goodIn_app (goodIn_of _ (by decide +kernel)) ggX5_read_X2_push
set_option maxRecDepth 20000 in
theorem ggX5_read_X3_makeReading : GoodIn wsX5_read wsX3_makeReading := goodIn_r _ [95, 20, 96, 24, 69, 97, 98, 99, 47, 100, 49, 90, 101, 102, 103, 45, 46, 48, 104, 105, 106, 28, 107, 79, 80, 108, 26, 27, 29, 30, 31, 32, 33, 34, 35, 109, 110, 111, 112, 77, 13, 8, 14, 113, 114, 115, 116, 117, 37, 38, 39, 40, 41, 42, 43, 118, 126, 127, 128, 129, 130, 131, 132, 133, 134, 135, 136, 137, 138, 139, 140, 141, 142, 143, 144, 145] (by decide +kernel) (by decide +kernel)
set_option maxRecDepth 20000 in
theorem gX5_read_X3_makeReading : GoodIn wsX5_read (wsV RX5 108 RX3 yX3_makeReading wsX3_makeReading) := goodIn_app (goodIn_of _ (by decide +kernel)) ggX5_read_X3_makeReading
set_option maxRecDepth 20000 in
theorem ggX5_read_X4_rateIn : GoodIn wsX5_read wsX4_rateIn := goodIn_r _ [107, 79, 80, 108, 26, 27, 28, 29, 30, 31, 32, 33, 34, 35, 109, 110, 111, 112, 77, 13, 8, 14, 113, 114, 115, 116, 133, 134, 135, 136, 137, 138, 139, 140, 141, 142, 143] (by decide +kernel) (by decide +kernel)
set_option maxRecDepth 20000 in
theorem gX5_read_X4_rateIn : GoodIn wsX5_read (wsV RX5 111 RX4 yX4_rateIn wsX4_rateIn) := goodIn_app (goodIn_of _ (by decide +kernel)) ggX5_read_X4_rateIn
theorem dX5_read_0 : decode cX5_read 0 = .ok (.iload_n 1, 1) := by decide +kernel
theorem dX5_read_1 : decode cX5_read 1 = .ok (.invokestatic 63, 3) := by decide +kernel
theorem dX5_read_4 : decode cX5_read 4 = .ok (.aload_n 0, 1) := by decide +kernel
theorem dX5_read_5 : decode cX5_read 5 = .ok (.getfield 10, 3) := by decide +kernel
theorem dX5_read_8 : decode cX5_read 8 = .ok (.iload_n 1, 1) := by decide +kernel
theorem dX5_read_9 : decode cX5_read 9 = .ok (.invokevirtual 98, 3) := by decide +kernel
theorem dX5_read_12 : decode cX5_read 12 = .ok (.ifCond .eq 13, 3) := by decide +kernel
theorem dX5_read_15 : decode cX5_read 15 = .ok (.new 101, 3) := by decide +kernel
theorem dX5_read_18 : decode cX5_read 18 = .ok (.dup, 1) := by decide +kernel
theorem dX5_read_19 : decode cX5_read 19 = .ok (.ldc 103, 2) := by decide +kernel
theorem dX5_read_21 : decode cX5_read 21 = .ok (.invokespecial 105, 3) := by decide +kernel
theorem dX5_read_24 : decode cX5_read 24 = .ok (.athrow, 1) := by decide +kernel
theorem dX5_read_25 : decode cX5_read 25 = .ok (.aload_n 0, 1) := by decide +kernel
theorem dX5_read_26 : decode cX5_read 26 = .ok (.getfield 22, 3) := by decide +kernel
theorem dX5_read_29 : decode cX5_read 29 = .ok (.aload_n 0, 1) := by decide +kernel
theorem dX5_read_30 : decode cX5_read 30 = .ok (.getfield 10, 3) := by decide +kernel
theorem dX5_read_33 : decode cX5_read 33 = .ok (.invokevirtual 48, 3) := by decide +kernel
theorem dX5_read_36 : decode cX5_read 36 = .ok (.aload_n 0, 1) := by decide +kernel
theorem dX5_read_37 : decode cX5_read 37 = .ok (.getfield 10, 3) := by decide +kernel
theorem dX5_read_40 : decode cX5_read 40 = .ok (.iload_n 1, 1) := by decide +kernel
theorem dX5_read_41 : decode cX5_read 41 = .ok (.invokevirtual 108, 3) := by decide +kernel
theorem dX5_read_44 : decode cX5_read 44 = .ok (.aload_n 0, 1) := by decide +kernel
theorem dX5_read_45 : decode cX5_read 45 = .ok (.getfield 10, 3) := by decide +kernel
theorem dX5_read_48 : decode cX5_read 48 = .ok (.getfield 52, 3) := by decide +kernel
theorem dX5_read_51 : decode cX5_read 51 = .ok (.iload_n 1, 1) := by decide +kernel
theorem dX5_read_52 : decode cX5_read 52 = .ok (.invokevirtual 111, 3) := by decide +kernel
theorem dX5_read_55 : decode cX5_read 55 = .ok (.sipush 10000, 3) := by decide +kernel
theorem dX5_read_58 : decode cX5_read 58 = .ok (.iadd, 1) := by decide +kernel
theorem dX5_read_59 : decode cX5_read 59 = .ok (.ireturn, 1) := by decide +kernel
set_option maxRecDepth 20000 in
theorem ggX5_renew_X2_push : GoodIn wsX5_renew wsX2_push := goodIn_r _ [9, 10, 11, 12, 13, 14, 15, 16, 17, 18, 19, 20, 21, 22, 23, 24, 25, 26, 27, 28, 29, 30, 31, 32, 33, 34, 35, 36, 37, 38, 39, 40, 41, 42, 43, 44, 45, 46, 47, 48, 49, 50, 51, 52, 53, 54, 55, 56, 57, 73, 74, 75, 64, 65, 66, 67, 68, 69, 70, 76, 77, 78, 79, 80, 81, 82, 83, 84, 85, 86, 71, 72] (by decide +kernel) (by decide +kernel)
set_option maxRecDepth 20000 in
theorem gX5_renew_X2_push : GoodIn wsX5_renew (wsV RX5 48 RX2 yX2_push wsX2_push) := goodIn_app (goodIn_of _ (by decide +kernel)) ggX5_renew_X2_push
theorem dX5_renew_0 : decode cX5_renew 0 = .ok (.aload_n 0, 1) := by decide +kernel
theorem dX5_renew_1 : decode cX5_renew 1 = .ok (.getfield 22, 3) := by decide +kernel
theorem dX5_renew_4 : decode cX5_renew 4 = .ok (.aload_n 0, 1) := by decide +kernel
theorem dX5_renew_5 : decode cX5_renew 5 = .ok (.getfield 10, 3) := by decide +kernel
theorem dX5_renew_8 : decode cX5_renew 8 = .ok (.invokevirtual 48, 3) := by decide +kernel
theorem dX5_renew_11 : decode cX5_renew 11 = .ok (.aload_n 0, 1) := by decide +kernel
theorem dX5_renew_12 : decode cX5_renew 12 = .ok (.getfield 10, 3) := by decide +kernel
theorem dX5_renew_15 : decode cX5_renew 15 = .ok (.getfield 114, 3) := by decide +kernel
theorem dX5_renew_18 : decode cX5_renew 18 = .ok (.getfield 118, 3) := by decide +kernel
theorem dX5_renew_21 : decode cX5_renew 21 = .ok (.istore_n 1, 1) := by decide +kernel
theorem dX5_renew_22 : decode cX5_renew 22 = .ok (.aload_n 0, 1) := by decide +kernel
theorem dX5_renew_23 : decode cX5_renew 23 = .ok (.getfield 10, 3) := by decide +kernel
theorem dX5_renew_26 : decode cX5_renew 26 = .ok (.getfield 114, 3) := by decide +kernel
theorem dX5_renew_29 : decode cX5_renew 29 = .ok (.iconst 0, 1) := by decide +kernel
theorem dX5_renew_30 : decode cX5_renew 30 = .ok (.putfield 118, 3) := by decide +kernel
theorem dX5_renew_33 : decode cX5_renew 33 = .ok (.iload_n 1, 1) := by decide +kernel
theorem dX5_renew_34 : decode cX5_renew 34 = .ok (.ireturn, 1) := by decide +kernel
set_option maxRecDepth 20000 in
theorem ggX5_set_X5_demandRange : GoodIn wsX5_set wsX5_demandRange := goodIn_ca (goodIn_r _ [11, 12, 13] (by decide +kernel) (by decide +kernel)) (goodIn_sub (fun _ h => List.mem_cons_of_mem _ (List.mem_append_right _ h)) (by decide +kernel))
set_option maxRecDepth 20000 in
theorem gX5_set_X5_demandRange : GoodIn wsX5_set (va_wsS RX5 44 yX5_demandRange wsX5_demandRange) := goodIn_app (goodIn_of _ (by decide +kernel)) ggX5_set_X5_demandRange
set_option maxRecDepth 20000 in
theorem ggX5_set_X2_push : GoodIn wsX5_set wsX2_push := goodIn_r _ [18, 19, 20, 21, 22, 23, 24, 25, 26, 27, 28, 29, 30, 31, 32, 33, 34, 35, 36, 37, 38, 39, 40, 41, 42, 43, 44, 45, 46, 47, 48, 49, 50, 51, 52, 53, 54, 55, 56, 57, 58, 59, 60, 61, 62, 63, 64, 65, 66, 80, 81, 82, 73, 74, 75, 76, 77, 78, 79, 83, 84, 85, 86, 87, 88, 89, 90, 91, 92, 93, 94, 95] (by decide +kernel) (by decide +kernel)
set_option maxRecDepth 20000 in
theorem gX5_set_X2_push : GoodIn wsX5_set (wsV RX5 48 RX2 yX2_push wsX2_push) := goodIn_app (goodIn_of _ (by decide +kernel)) ggX5_set_X2_push
theorem dX5_set_0 : decode cX5_set 0 = .ok (.iload_n 1, 1) := by decide +kernel
theorem dX5_set_1 : decode cX5_set 1 = .ok (.ifCond .lt 8, 3) := by decide +kernel
theorem dX5_set_4 : decode cX5_set 4 = .ok (.iload_n 1, 1) := by decide +kernel
theorem dX5_set_5 : decode cX5_set 5 = .ok (.iconst 4, 1) := by decide +kernel
theorem dX5_set_6 : decode cX5_set 6 = .ok (.if_icmp .lt 13, 3) := by decide +kernel
theorem dX5_set_9 : decode cX5_set 9 = .ok (.new 123, 3) := by decide +kernel
theorem dX5_set_12 : decode cX5_set 12 = .ok (.dup, 1) := by decide +kernel
theorem dX5_set_13 : decode cX5_set 13 = .ok (.ldc 125, 2) := by decide +kernel
theorem dX5_set_15 : decode cX5_set 15 = .ok (.invokespecial 127, 3) := by decide +kernel
theorem dX5_set_18 : decode cX5_set 18 = .ok (.athrow, 1) := by decide +kernel
theorem dX5_set_19 : decode cX5_set 19 = .ok (.iload_n 2, 1) := by decide +kernel
theorem dX5_set_20 : decode cX5_set 20 = .ok (.getstatic 128, 3) := by decide +kernel
theorem dX5_set_23 : decode cX5_set 23 = .ok (.iload_n 1, 1) := by decide +kernel
theorem dX5_set_24 : decode cX5_set 24 = .ok (.iaload, 1) := by decide +kernel
theorem dX5_set_25 : decode cX5_set 25 = .ok (.getstatic 132, 3) := by decide +kernel
theorem dX5_set_28 : decode cX5_set 28 = .ok (.iload_n 1, 1) := by decide +kernel
theorem dX5_set_29 : decode cX5_set 29 = .ok (.iaload, 1) := by decide +kernel
theorem dX5_set_30 : decode cX5_set 30 = .ok (.invokestatic 44, 3) := by decide +kernel
theorem dX5_set_33 : decode cX5_set 33 = .ok (.aload_n 0, 1) := by decide +kernel
theorem dX5_set_34 : decode cX5_set 34 = .ok (.getfield 22, 3) := by decide +kernel
theorem dX5_set_37 : decode cX5_set 37 = .ok (.aload_n 0, 1) := by decide +kernel
theorem dX5_set_38 : decode cX5_set 38 = .ok (.getfield 10, 3) := by decide +kernel
theorem dX5_set_41 : decode cX5_set 41 = .ok (.invokevirtual 48, 3) := by decide +kernel
theorem dX5_set_44 : decode cX5_set 44 = .ok (.aload_n 0, 1) := by decide +kernel
theorem dX5_set_45 : decode cX5_set 45 = .ok (.getfield 10, 3) := by decide +kernel
theorem dX5_set_48 : decode cX5_set 48 = .ok (.getfield 135, 3) := by decide +kernel
theorem dX5_set_51 : decode cX5_set 51 = .ok (.iload_n 1, 1) := by decide +kernel
theorem dX5_set_52 : decode cX5_set 52 = .ok (.iaload, 1) := by decide +kernel
theorem dX5_set_53 : decode cX5_set 53 = .ok (.istore_n 3, 1) := by decide +kernel
theorem dX5_set_54 : decode cX5_set 54 = .ok (.aload_n 0, 1) := by decide +kernel
theorem dX5_set_55 : decode cX5_set 55 = .ok (.getfield 10, 3) := by decide +kernel
theorem dX5_set_58 : decode cX5_set 58 = .ok (.getfield 135, 3) := by decide +kernel
theorem dX5_set_61 : decode cX5_set 61 = .ok (.iload_n 1, 1) := by decide +kernel
theorem dX5_set_62 : decode cX5_set 62 = .ok (.iload_n 2, 1) := by decide +kernel
theorem dX5_set_63 : decode cX5_set 63 = .ok (.iastore, 1) := by decide +kernel
theorem dX5_set_64 : decode cX5_set 64 = .ok (.iload_n 3, 1) := by decide +kernel
theorem dX5_set_65 : decode cX5_set 65 = .ok (.ireturn, 1) := by decide +kernel
set_option maxRecDepth 20000 in
theorem ggX5_undo_X2_popInto : GoodIn wsX5_undo wsX2_popInto := goodIn_r _ [10, 11, 12, 13, 14, 15, 16, 17, 18, 19, 20, 21, 22, 23, 24, 25, 26, 27, 28, 29, 30, 31, 32, 33, 34, 35, 36, 37, 38, 39, 40, 41, 42, 43, 44, 45, 46, 47, 48, 49, 50, 51, 52, 53, 54, 61, 62, 63, 64, 65, 66, 67, 68, 69, 70, 71, 72, 73, 74, 75, 76, 77, 78, 79, 80, 81, 82, 83] (by decide +kernel) (by decide +kernel)
set_option maxRecDepth 20000 in
theorem gX5_undo_X2_popInto : GoodIn wsX5_undo (wsV RX5 175 RX2 yX2_popInto wsX2_popInto) := goodIn_app (goodIn_of _ (by decide +kernel)) ggX5_undo_X2_popInto
theorem dX5_undo_0 : decode cX5_undo 0 = .ok (.aload_n 0, 1) := by decide +kernel
theorem dX5_undo_1 : decode cX5_undo 1 = .ok (.getfield 22, 3) := by decide +kernel
theorem dX5_undo_4 : decode cX5_undo 4 = .ok (.getfield 170, 3) := by decide +kernel
theorem dX5_undo_7 : decode cX5_undo 7 = .ok (.ifCond .ne 13, 3) := by decide +kernel
theorem dX5_undo_10 : decode cX5_undo 10 = .ok (.new 101, 3) := by decide +kernel
theorem dX5_undo_13 : decode cX5_undo 13 = .ok (.dup, 1) := by decide +kernel
theorem dX5_undo_14 : decode cX5_undo 14 = .ok (.ldc 173, 2) := by decide +kernel
theorem dX5_undo_16 : decode cX5_undo 16 = .ok (.invokespecial 105, 3) := by decide +kernel
theorem dX5_undo_19 : decode cX5_undo 19 = .ok (.athrow, 1) := by decide +kernel
theorem dX5_undo_20 : decode cX5_undo 20 = .ok (.aload_n 0, 1) := by decide +kernel
theorem dX5_undo_21 : decode cX5_undo 21 = .ok (.getfield 22, 3) := by decide +kernel
theorem dX5_undo_24 : decode cX5_undo 24 = .ok (.aload_n 0, 1) := by decide +kernel
theorem dX5_undo_25 : decode cX5_undo 25 = .ok (.getfield 10, 3) := by decide +kernel
theorem dX5_undo_28 : decode cX5_undo 28 = .ok (.invokevirtual 175, 3) := by decide +kernel
theorem dX5_undo_31 : decode cX5_undo 31 = .ok (.aload_n 0, 1) := by decide +kernel
theorem dX5_undo_32 : decode cX5_undo 32 = .ok (.getfield 22, 3) := by decide +kernel
theorem dX5_undo_35 : decode cX5_undo 35 = .ok (.getfield 170, 3) := by decide +kernel
theorem dX5_undo_38 : decode cX5_undo 38 = .ok (.ireturn, 1) := by decide +kernel
set_option maxRecDepth 20000 in
theorem ggX5_restore_X2_push : GoodIn wsX5_restore wsX2_push := goodIn_r _ [13, 14, 15, 16, 17, 18, 19, 20, 21, 22, 23, 24, 25, 26, 27, 28, 29, 30, 31, 32, 33, 34, 35, 36, 37, 38, 39, 40, 41, 42, 43, 44, 45, 46, 47, 48, 49, 50, 51, 52, 53, 54, 55, 56, 57, 58, 59, 60, 61, 87, 88, 89, 69, 70, 71, 72, 73, 74, 75, 76, 77, 78, 79, 80, 81, 82, 83, 84, 85, 86, 90, 91] (by decide +kernel) (by decide +kernel)
set_option maxRecDepth 20000 in
theorem gX5_restore_X2_push : GoodIn wsX5_restore (wsV RX5 48 RX2 yX2_push wsX2_push) := goodIn_app (goodIn_of _ (by decide +kernel)) ggX5_restore_X2_push
set_option maxRecDepth 20000 in
theorem ggX5_restore_X3_copyFrom : GoodIn wsX5_restore wsX3_copyFrom := goodIn_r _ [25, 26, 27, 28, 29, 30, 31, 32, 33, 34, 35, 36, 37, 38, 39, 40, 41, 42, 43, 44, 45, 46, 47, 48, 49, 50, 51, 52, 53, 54, 55, 56, 57, 58, 59, 60, 61, 69, 70, 71, 72, 73, 74, 75, 76, 77, 78, 79, 80, 81, 82, 83, 84, 85, 86, 90, 91] (by decide +kernel) (by decide +kernel)
set_option maxRecDepth 20000 in
theorem gX5_restore_X3_copyFrom : GoodIn wsX5_restore (wsV RX5 178 RX3 yX3_copyFrom wsX3_copyFrom) := goodIn_app (goodIn_of _ (by decide +kernel)) ggX5_restore_X3_copyFrom
theorem dX5_restore_0 : decode cX5_restore 0 = .ok (.aload_n 0, 1) := by decide +kernel
theorem dX5_restore_1 : decode cX5_restore 1 = .ok (.getfield 40, 3) := by decide +kernel
theorem dX5_restore_4 : decode cX5_restore 4 = .ok (.ifCond .ne 13, 3) := by decide +kernel
theorem dX5_restore_7 : decode cX5_restore 7 = .ok (.new 101, 3) := by decide +kernel
theorem dX5_restore_10 : decode cX5_restore 10 = .ok (.dup, 1) := by decide +kernel
theorem dX5_restore_11 : decode cX5_restore 11 = .ok (.ldc 184, 2) := by decide +kernel
theorem dX5_restore_13 : decode cX5_restore 13 = .ok (.invokespecial 105, 3) := by decide +kernel
theorem dX5_restore_16 : decode cX5_restore 16 = .ok (.athrow, 1) := by decide +kernel
theorem dX5_restore_17 : decode cX5_restore 17 = .ok (.aload_n 0, 1) := by decide +kernel
theorem dX5_restore_18 : decode cX5_restore 18 = .ok (.getfield 22, 3) := by decide +kernel
theorem dX5_restore_21 : decode cX5_restore 21 = .ok (.aload_n 0, 1) := by decide +kernel
theorem dX5_restore_22 : decode cX5_restore 22 = .ok (.getfield 10, 3) := by decide +kernel
theorem dX5_restore_25 : decode cX5_restore 25 = .ok (.invokevirtual 48, 3) := by decide +kernel
theorem dX5_restore_28 : decode cX5_restore 28 = .ok (.aload_n 0, 1) := by decide +kernel
theorem dX5_restore_29 : decode cX5_restore 29 = .ok (.getfield 10, 3) := by decide +kernel
theorem dX5_restore_32 : decode cX5_restore 32 = .ok (.aload_n 0, 1) := by decide +kernel
theorem dX5_restore_33 : decode cX5_restore 33 = .ok (.getfield 16, 3) := by decide +kernel
theorem dX5_restore_36 : decode cX5_restore 36 = .ok (.invokevirtual 178, 3) := by decide +kernel
theorem dX5_restore_39 : decode cX5_restore 39 = .ok (.aload_n 0, 1) := by decide +kernel
theorem dX5_restore_40 : decode cX5_restore 40 = .ok (.getfield 10, 3) := by decide +kernel
theorem dX5_restore_43 : decode cX5_restore 43 = .ok (.getfield 52, 3) := by decide +kernel
theorem dX5_restore_46 : decode cX5_restore 46 = .ok (.getfield 181, 3) := by decide +kernel
theorem dX5_restore_49 : decode cX5_restore 49 = .ok (.ireturn, 1) := by decide +kernel
set_option maxRecDepth 20000 in
theorem ggX5_pose_X5_demandPose : GoodIn wsX5_pose wsX5_demandPose := goodIn_ca (goodIn_r _ [4, 5, 6, 7, 8, 3, 9] (by decide +kernel) (by decide +kernel)) (goodIn_sub (fun _ h => List.mem_cons_of_mem _ (List.mem_append_left _ (List.mem_append_right _ h))) (by decide +kernel))
set_option maxRecDepth 20000 in
theorem gX5_pose_X5_demandPose : GoodIn wsX5_pose (va_wsS RX5 63 yX5_demandPose wsX5_demandPose) := goodIn_app (goodIn_of _ (by decide +kernel)) ggX5_pose_X5_demandPose
set_option maxRecDepth 20000 in
theorem ggX5_pose_X5_demandRange : GoodIn wsX5_pose wsX5_demandRange := goodIn_ca (goodIn_r _ [12, 13, 14] (by decide +kernel) (by decide +kernel)) (goodIn_sub (fun _ h => List.mem_cons_of_mem _ (List.mem_append_right _ h)) (by decide +kernel))
set_option maxRecDepth 20000 in
theorem gX5_pose_X5_demandRange : GoodIn wsX5_pose (va_wsS RX5 44 yX5_demandRange wsX5_demandRange) := goodIn_app (goodIn_of _ (by decide +kernel)) ggX5_pose_X5_demandRange
set_option maxRecDepth 20000 in
theorem ggX5_pose_X5_poseNumber : GoodIn wsX5_pose wsX5_poseNumber := goodIn_r _ [18, 19, 20, 21, 22, 23, 24, 25, 26, 27, 28, 29, 30, 31, 32, 33, 34, 35, 36, 37, 38, 8, 3, 9, 39, 40, 41, 42, 43, 44, 45, 46, 47, 48, 49, 50, 51, 52, 53, 54, 55, 56, 57, 58, 59, 60, 61, 62, 63, 64, 65, 66, 67, 68, 69, 70, 71, 72, 73, 74, 75, 76, 77, 78, 79, 80, 81, 82, 83, 84, 85, 86, 87, 88, 89, 90, 91, 92, 93, 94, 95, 96, 97, 98, 99, 100, 101, 102, 103, 104, 105, 106, 107, 108, 109, 110, 111, 112, 113, 114, 115] (by decide +kernel) (by decide +kernel)
set_option maxRecDepth 20000 in
theorem gX5_pose_X5_poseNumber : GoodIn wsX5_pose (wsV RX5 186 RX5 yX5_poseNumber wsX5_poseNumber) := goodIn_app (goodIn_of _ (by decide +kernel)) ggX5_pose_X5_poseNumber
theorem dX5_pose_0 : decode cX5_pose 0 = .ok (.iload_n 1, 1) := by decide +kernel
theorem dX5_pose_1 : decode cX5_pose 1 = .ok (.invokestatic 63, 3) := by decide +kernel
theorem dX5_pose_4 : decode cX5_pose 4 = .ok (.iload_n 2, 1) := by decide +kernel
theorem dX5_pose_5 : decode cX5_pose 5 = .ok (.iconst 0, 1) := by decide +kernel
theorem dX5_pose_6 : decode cX5_pose 6 = .ok (.bipush 7, 2) := by decide +kernel
theorem dX5_pose_8 : decode cX5_pose 8 = .ok (.invokestatic 44, 3) := by decide +kernel
theorem dX5_pose_11 : decode cX5_pose 11 = .ok (.aload_n 0, 1) := by decide +kernel
theorem dX5_pose_12 : decode cX5_pose 12 = .ok (.iload_n 1, 1) := by decide +kernel
theorem dX5_pose_13 : decode cX5_pose 13 = .ok (.iload_n 2, 1) := by decide +kernel
theorem dX5_pose_14 : decode cX5_pose 14 = .ok (.invokevirtual 186, 3) := by decide +kernel
theorem dX5_pose_17 : decode cX5_pose 17 = .ok (.ireturn, 1) := by decide +kernel
set_option maxRecDepth 20000 in
theorem ggX5_reading_X5_demandRange : GoodIn wsX5_reading wsX5_demandRange := goodIn_ca (goodIn_r _ [6, 1, 2] (by decide +kernel) (by decide +kernel)) (goodIn_sub (fun _ h => List.mem_cons_of_mem _ (List.mem_append_right _ h)) (by decide +kernel))
set_option maxRecDepth 20000 in
theorem gX5_reading_X5_demandRange : GoodIn wsX5_reading (va_wsS RX5 44 yX5_demandRange wsX5_demandRange) := goodIn_app (goodIn_of _ (by decide +kernel)) ggX5_reading_X5_demandRange
set_option maxRecDepth 20000 in
theorem ggX5_reading_X5_readingNumber : GoodIn wsX5_reading wsX5_readingNumber := goodIn_r _ [10, 11, 12, 13, 14, 15, 16, 17, 18, 19, 20, 21, 22, 23, 24, 25, 26, 27, 28, 29, 30, 31, 32, 33, 34, 35] (by decide +kernel) (by decide +kernel)
set_option maxRecDepth 20000 in
theorem gX5_reading_X5_readingNumber : GoodIn wsX5_reading (wsV RX5 191 RX5 yX5_readingNumber wsX5_readingNumber) := goodIn_app (goodIn_of _ (by decide +kernel)) ggX5_reading_X5_readingNumber
theorem dX5_reading_0 : decode cX5_reading 0 = .ok (.iload_n 1, 1) := by decide +kernel
theorem dX5_reading_1 : decode cX5_reading 1 = .ok (.ifCond .ge 13, 3) := by decide +kernel
theorem dX5_reading_4 : decode cX5_reading 4 = .ok (.new 152, 3) := by decide +kernel
theorem dX5_reading_7 : decode cX5_reading 7 = .ok (.dup, 1) := by decide +kernel
theorem dX5_reading_8 : decode cX5_reading 8 = .ok (.ldc 189, 2) := by decide +kernel
theorem dX5_reading_10 : decode cX5_reading 10 = .ok (.invokespecial 156, 3) := by decide +kernel
theorem dX5_reading_13 : decode cX5_reading 13 = .ok (.athrow, 1) := by decide +kernel
theorem dX5_reading_14 : decode cX5_reading 14 = .ok (.iload_n 2, 1) := by decide +kernel
theorem dX5_reading_15 : decode cX5_reading 15 = .ok (.iconst 0, 1) := by decide +kernel
theorem dX5_reading_16 : decode cX5_reading 16 = .ok (.iconst 4, 1) := by decide +kernel
theorem dX5_reading_17 : decode cX5_reading 17 = .ok (.invokestatic 44, 3) := by decide +kernel
theorem dX5_reading_20 : decode cX5_reading 20 = .ok (.aload_n 0, 1) := by decide +kernel
theorem dX5_reading_21 : decode cX5_reading 21 = .ok (.iload_n 1, 1) := by decide +kernel
theorem dX5_reading_22 : decode cX5_reading 22 = .ok (.iload_n 2, 1) := by decide +kernel
theorem dX5_reading_23 : decode cX5_reading 23 = .ok (.invokevirtual 191, 3) := by decide +kernel
theorem dX5_reading_26 : decode cX5_reading 26 = .ok (.ireturn, 1) := by decide +kernel
set_option maxRecDepth 20000 in
theorem ggX5_count_X5_demandRange : GoodIn wsX5_count wsX5_demandRange := goodIn_ca (goodIn_r _ [4, 5, 6] (by decide +kernel) (by decide +kernel)) (goodIn_sub (fun _ h => List.mem_cons_of_mem _ (List.mem_append_right _ h)) (by decide +kernel))
set_option maxRecDepth 20000 in
theorem gX5_count_X5_demandRange : GoodIn wsX5_count (va_wsS RX5 44 yX5_demandRange wsX5_demandRange) := goodIn_app (goodIn_of _ (by decide +kernel)) ggX5_count_X5_demandRange
set_option maxRecDepth 20000 in
theorem ggX5_count_X5_countNumber : GoodIn wsX5_count wsX5_countNumber := goodIn_r _ [10, 11, 12, 13, 14, 15, 16, 17, 18, 19, 20, 21, 22, 23, 24, 25, 26, 27, 28, 29, 30, 31, 32, 33, 34, 35, 36, 37, 38, 39, 40, 41, 42, 43, 44, 45, 46, 47, 48, 49, 50, 51, 52, 53, 54, 55, 56, 57, 58, 59, 60, 61, 62, 63, 64, 65, 66, 67, 68, 69, 70, 71, 72, 73, 74, 75, 76, 77, 78, 79, 80, 81, 82, 83, 84, 85, 86, 87, 88, 89, 90, 91, 92, 93, 94, 95, 96, 97, 98, 99, 100, 101, 102, 103, 104, 105, 106, 107, 108, 109, 110, 111, 112, 113, 114, 115] (by decide +kernel) (by decide +kernel)
set_option maxRecDepth 20000 in
theorem gX5_count_X5_countNumber : GoodIn wsX5_count (wsV RX5 194 RX5 yX5_countNumber wsX5_countNumber) := goodIn_app (goodIn_of _ (by decide +kernel)) ggX5_count_X5_countNumber
theorem dX5_count_0 : decode cX5_count 0 = .ok (.iload_n 1, 1) := by decide +kernel
theorem dX5_count_1 : decode cX5_count 1 = .ok (.iconst 0, 1) := by decide +kernel
theorem dX5_count_2 : decode cX5_count 2 = .ok (.bipush 20, 2) := by decide +kernel
theorem dX5_count_4 : decode cX5_count 4 = .ok (.invokestatic 44, 3) := by decide +kernel
theorem dX5_count_7 : decode cX5_count 7 = .ok (.aload_n 0, 1) := by decide +kernel
theorem dX5_count_8 : decode cX5_count 8 = .ok (.iload_n 1, 1) := by decide +kernel
theorem dX5_count_9 : decode cX5_count 9 = .ok (.invokevirtual 194, 3) := by decide +kernel
theorem dX5_count_12 : decode cX5_count 12 = .ok (.ireturn, 1) := by decide +kernel
set_option maxRecDepth 20000 in
theorem ggX5_ifWorn_X5_demandPose : GoodIn wsX5_ifWorn wsX5_demandPose := goodIn_ca (goodIn_r _ [4, 5, 6, 7, 8, 3, 9] (by decide +kernel) (by decide +kernel)) (goodIn_sub (fun _ h => List.mem_cons_of_mem _ (List.mem_append_left _ (List.mem_append_right _ h))) (by decide +kernel))
set_option maxRecDepth 20000 in
theorem gX5_ifWorn_X5_demandPose : GoodIn wsX5_ifWorn (va_wsS RX5 63 yX5_demandPose wsX5_demandPose) := goodIn_app (goodIn_of _ (by decide +kernel)) ggX5_ifWorn_X5_demandPose
set_option maxRecDepth 20000 in
theorem ggX5_ifWorn_X5_demandRange : GoodIn wsX5_ifWorn wsX5_demandRange := goodIn_ca (goodIn_r _ [12, 13, 14] (by decide +kernel) (by decide +kernel)) (goodIn_sub (fun _ h => List.mem_cons_of_mem _ (List.mem_append_right _ h)) (by decide +kernel))
set_option maxRecDepth 20000 in
theorem gX5_ifWorn_X5_demandRange : GoodIn wsX5_ifWorn (va_wsS RX5 44 yX5_demandRange wsX5_demandRange) := goodIn_app (goodIn_of _ (by decide +kernel)) ggX5_ifWorn_X5_demandRange
set_option maxRecDepth 20000 in
theorem ggX5_ifWorn_X5_wornNumber : GoodIn wsX5_ifWorn wsX5_wornNumber := goodIn_r _ [18, 19, 20, 21, 22, 23, 24, 25, 26, 27, 28, 29, 30, 31, 32, 33, 34, 35, 36, 37, 38, 39, 40, 41, 42, 43, 44, 45, 46, 47, 48, 49, 50, 51, 52, 53, 54, 55, 56, 57, 58, 59, 60, 61, 62, 63, 64, 65, 66, 67, 68, 69, 70, 71, 72, 73, 74, 75, 8, 3, 9, 76, 77, 78, 79, 80, 81, 82, 83, 84, 85, 86, 87, 88, 89, 90, 91, 92, 93, 94, 95, 96, 97, 98, 99, 100, 101, 102, 103] (by decide +kernel) (by decide +kernel)
set_option maxRecDepth 20000 in
theorem gX5_ifWorn_X5_wornNumber : GoodIn wsX5_ifWorn (wsV RX5 197 RX5 yX5_wornNumber wsX5_wornNumber) := goodIn_app (goodIn_of _ (by decide +kernel)) ggX5_ifWorn_X5_wornNumber
theorem dX5_ifWorn_0 : decode cX5_ifWorn 0 = .ok (.iload_n 1, 1) := by decide +kernel
theorem dX5_ifWorn_1 : decode cX5_ifWorn 1 = .ok (.invokestatic 63, 3) := by decide +kernel
theorem dX5_ifWorn_4 : decode cX5_ifWorn 4 = .ok (.iload_n 2, 1) := by decide +kernel
theorem dX5_ifWorn_5 : decode cX5_ifWorn 5 = .ok (.invokestatic 63, 3) := by decide +kernel
theorem dX5_ifWorn_8 : decode cX5_ifWorn 8 = .ok (.iload_n 3, 1) := by decide +kernel
theorem dX5_ifWorn_9 : decode cX5_ifWorn 9 = .ok (.invokestatic 63, 3) := by decide +kernel
theorem dX5_ifWorn_12 : decode cX5_ifWorn 12 = .ok (.iload 4, 2) := by decide +kernel
theorem dX5_ifWorn_14 : decode cX5_ifWorn 14 = .ok (.iconst 0, 1) := by decide +kernel
theorem dX5_ifWorn_15 : decode cX5_ifWorn 15 = .ok (.iconst 1, 1) := by decide +kernel
theorem dX5_ifWorn_16 : decode cX5_ifWorn 16 = .ok (.invokestatic 44, 3) := by decide +kernel
theorem dX5_ifWorn_19 : decode cX5_ifWorn 19 = .ok (.aload_n 0, 1) := by decide +kernel
theorem dX5_ifWorn_20 : decode cX5_ifWorn 20 = .ok (.iload_n 1, 1) := by decide +kernel
theorem dX5_ifWorn_21 : decode cX5_ifWorn 21 = .ok (.iload_n 2, 1) := by decide +kernel
theorem dX5_ifWorn_22 : decode cX5_ifWorn 22 = .ok (.iload_n 3, 1) := by decide +kernel
theorem dX5_ifWorn_23 : decode cX5_ifWorn 23 = .ok (.iload 4, 2) := by decide +kernel
theorem dX5_ifWorn_25 : decode cX5_ifWorn 25 = .ok (.invokevirtual 197, 3) := by decide +kernel
theorem dX5_ifWorn_28 : decode cX5_ifWorn 28 = .ok (.ireturn, 1) := by decide +kernel
set_option maxRecDepth 20000 in
theorem ggX5_bestRegulator_X4_rateIn : GoodIn wsX5_bestRegulator wsX4_rateIn := goodIn_r _ [12, 13, 14, 15, 16, 17, 11, 18, 19, 20, 21, 22, 6, 23, 24, 25, 26, 27, 28, 29, 30, 31, 32, 33, 34, 35, 49, 50, 51, 52, 53, 54, 55, 56, 57, 58, 59] (by decide +kernel) (by decide +kernel)
set_option maxRecDepth 20000 in
theorem gX5_bestRegulator_X4_rateIn : GoodIn wsX5_bestRegulator (wsV RX5 111 RX4 yX4_rateIn wsX4_rateIn) := goodIn_app (goodIn_of _ (by decide +kernel)) ggX5_bestRegulator_X4_rateIn
theorem dX5_bestRegulator_0 : decode cX5_bestRegulator 0 = .ok (.iconst 0, 1) := by decide +kernel
theorem dX5_bestRegulator_1 : decode cX5_bestRegulator 1 = .ok (.istore_n 1, 1) := by decide +kernel
theorem dX5_bestRegulator_2 : decode cX5_bestRegulator 2 = .ok (.iconst 0, 1) := by decide +kernel
theorem dX5_bestRegulator_3 : decode cX5_bestRegulator 3 = .ok (.istore_n 2, 1) := by decide +kernel
theorem dX5_bestRegulator_4 : decode cX5_bestRegulator 4 = .ok (.iload_n 2, 1) := by decide +kernel
theorem dX5_bestRegulator_5 : decode cX5_bestRegulator 5 = .ok (.bipush 6, 2) := by decide +kernel
theorem dX5_bestRegulator_7 : decode cX5_bestRegulator 7 = .ok (.if_icmp .ge 34, 3) := by decide +kernel
theorem dX5_bestRegulator_10 : decode cX5_bestRegulator 10 = .ok (.iload_n 1, 1) := by decide +kernel
theorem dX5_bestRegulator_11 : decode cX5_bestRegulator 11 = .ok (.aload_n 0, 1) := by decide +kernel
theorem dX5_bestRegulator_12 : decode cX5_bestRegulator 12 = .ok (.getfield 10, 3) := by decide +kernel
theorem dX5_bestRegulator_15 : decode cX5_bestRegulator 15 = .ok (.getfield 52, 3) := by decide +kernel
theorem dX5_bestRegulator_18 : decode cX5_bestRegulator 18 = .ok (.iload_n 2, 1) := by decide +kernel
theorem dX5_bestRegulator_19 : decode cX5_bestRegulator 19 = .ok (.invokevirtual 111, 3) := by decide +kernel
theorem dX5_bestRegulator_22 : decode cX5_bestRegulator 22 = .ok (.aload_n 0, 1) := by decide +kernel
theorem dX5_bestRegulator_23 : decode cX5_bestRegulator 23 = .ok (.getfield 10, 3) := by decide +kernel
theorem dX5_bestRegulator_26 : decode cX5_bestRegulator 26 = .ok (.getfield 52, 3) := by decide +kernel
theorem dX5_bestRegulator_29 : decode cX5_bestRegulator 29 = .ok (.getfield 74, 3) := by decide +kernel
theorem dX5_bestRegulator_32 : decode cX5_bestRegulator 32 = .ok (.isub, 1) := by decide +kernel
theorem dX5_bestRegulator_33 : decode cX5_bestRegulator 33 = .ok (.iadd, 1) := by decide +kernel
theorem dX5_bestRegulator_34 : decode cX5_bestRegulator 34 = .ok (.istore_n 1, 1) := by decide +kernel
theorem dX5_bestRegulator_35 : decode cX5_bestRegulator 35 = .ok (.iinc 2 1, 3) := by decide +kernel
theorem dX5_bestRegulator_38 : decode cX5_bestRegulator 38 = .ok (.goto (-34), 3) := by decide +kernel
theorem dX5_bestRegulator_41 : decode cX5_bestRegulator 41 = .ok (.bipush (-99), 2) := by decide +kernel
theorem dX5_bestRegulator_43 : decode cX5_bestRegulator 43 = .ok (.istore_n 2, 1) := by decide +kernel
theorem dX5_bestRegulator_44 : decode cX5_bestRegulator 44 = .ok (.bipush (-99), 2) := by decide +kernel
theorem dX5_bestRegulator_46 : decode cX5_bestRegulator 46 = .ok (.istore_n 3, 1) := by decide +kernel
theorem dX5_bestRegulator_47 : decode cX5_bestRegulator 47 = .ok (.iload_n 3, 1) := by decide +kernel
theorem dX5_bestRegulator_48 : decode cX5_bestRegulator 48 = .ok (.bipush 99, 2) := by decide +kernel
theorem dX5_bestRegulator_50 : decode cX5_bestRegulator 50 = .ok (.if_icmp .gt 32, 3) := by decide +kernel
theorem dX5_bestRegulator_53 : decode cX5_bestRegulator 53 = .ok (.iload_n 1, 1) := by decide +kernel
theorem dX5_bestRegulator_54 : decode cX5_bestRegulator 54 = .ok (.bipush 6, 2) := by decide +kernel
theorem dX5_bestRegulator_56 : decode cX5_bestRegulator 56 = .ok (.iload_n 3, 1) := by decide +kernel
theorem dX5_bestRegulator_57 : decode cX5_bestRegulator 57 = .ok (.imul, 1) := by decide +kernel
theorem dX5_bestRegulator_58 : decode cX5_bestRegulator 58 = .ok (.iadd, 1) := by decide +kernel
theorem dX5_bestRegulator_59 : decode cX5_bestRegulator 59 = .ok (.invokestatic 201, 3) := by decide +kernel
theorem dX5_bestRegulator_62 : decode cX5_bestRegulator 62 = .ok (.iload_n 1, 1) := by decide +kernel
theorem dX5_bestRegulator_63 : decode cX5_bestRegulator 63 = .ok (.bipush 6, 2) := by decide +kernel
theorem dX5_bestRegulator_65 : decode cX5_bestRegulator 65 = .ok (.iload_n 2, 1) := by decide +kernel
theorem dX5_bestRegulator_66 : decode cX5_bestRegulator 66 = .ok (.imul, 1) := by decide +kernel
theorem dX5_bestRegulator_67 : decode cX5_bestRegulator 67 = .ok (.iadd, 1) := by decide +kernel
theorem dX5_bestRegulator_68 : decode cX5_bestRegulator 68 = .ok (.invokestatic 201, 3) := by decide +kernel
theorem dX5_bestRegulator_71 : decode cX5_bestRegulator 71 = .ok (.if_icmp .ge 5, 3) := by decide +kernel
theorem dX5_bestRegulator_74 : decode cX5_bestRegulator 74 = .ok (.iload_n 3, 1) := by decide +kernel
theorem dX5_bestRegulator_75 : decode cX5_bestRegulator 75 = .ok (.istore_n 2, 1) := by decide +kernel
theorem dX5_bestRegulator_76 : decode cX5_bestRegulator 76 = .ok (.iinc 3 1, 3) := by decide +kernel
theorem dX5_bestRegulator_79 : decode cX5_bestRegulator 79 = .ok (.goto (-32), 3) := by decide +kernel
theorem dX5_bestRegulator_82 : decode cX5_bestRegulator 82 = .ok (.iload_n 2, 1) := by decide +kernel
theorem dX5_bestRegulator_83 : decode cX5_bestRegulator 83 = .ok (.bipush 100, 2) := by decide +kernel
theorem dX5_bestRegulator_85 : decode cX5_bestRegulator 85 = .ok (.iadd, 1) := by decide +kernel
theorem dX5_bestRegulator_86 : decode cX5_bestRegulator 86 = .ok (.ireturn, 1) := by decide +kernel
set_option maxRecDepth 20000 in
theorem ggX5_stopsIn_X5_demandPose : GoodIn wsX5_stopsIn wsX5_demandPose := goodIn_ca (goodIn_r _ [4, 5, 6, 7, 8, 3, 9] (by decide +kernel) (by decide +kernel)) (goodIn_sub (fun _ h => List.mem_cons_of_mem _ (List.mem_append_right _ h)) (by decide +kernel))
set_option maxRecDepth 20000 in
theorem gX5_stopsIn_X5_demandPose : GoodIn wsX5_stopsIn (va_wsS RX5 63 yX5_demandPose wsX5_demandPose) := goodIn_app (goodIn_of _ (by decide +kernel)) ggX5_stopsIn_X5_demandPose
set_option maxRecDepth 20000 in
theorem ggX5_stopsIn_X5_hoursUntilStop : GoodIn wsX5_stopsIn wsX5_hoursUntilStop := goodIn_r _ [13, 14, 15, 16, 17, 18, 19, 20, 21, 22, 23, 24, 25, 26, 27, 28, 29, 30, 31, 32, 33, 34, 35, 36, 37, 38, 39, 40, 41, 42, 43, 44, 45, 46, 47, 48, 49, 50, 51, 52, 53, 54, 55, 56, 57, 58, 59, 60, 61, 62, 63, 64, 65, 66, 67, 68, 8, 3, 9, 69, 70, 71, 72, 73, 74, 75, 76, 77, 78, 79, 80, 81, 82, 83, 84, 85, 86, 87, 88, 89, 90, 91, 92, 93, 94, 95, 96] (by decide +kernel) (by decide +kernel)
set_option maxRecDepth 20000 in
theorem gX5_stopsIn_X5_hoursUntilStop : GoodIn wsX5_stopsIn (wsV RX5 204 RX5 yX5_hoursUntilStop wsX5_hoursUntilStop) := goodIn_app (goodIn_of _ (by decide +kernel)) ggX5_stopsIn_X5_hoursUntilStop
theorem dX5_stopsIn_0 : decode cX5_stopsIn 0 = .ok (.iload_n 1, 1) := by decide +kernel
theorem dX5_stopsIn_1 : decode cX5_stopsIn 1 = .ok (.invokestatic 63, 3) := by decide +kernel
theorem dX5_stopsIn_4 : decode cX5_stopsIn 4 = .ok (.aload_n 0, 1) := by decide +kernel
theorem dX5_stopsIn_5 : decode cX5_stopsIn 5 = .ok (.iload_n 1, 1) := by decide +kernel
theorem dX5_stopsIn_6 : decode cX5_stopsIn 6 = .ok (.invokevirtual 204, 3) := by decide +kernel
theorem dX5_stopsIn_9 : decode cX5_stopsIn 9 = .ok (.ireturn, 1) := by decide +kernel
set_option maxRecDepth 20000 in
theorem ggX5_nightPose_X4_copyFrom : GoodIn wsX5_nightPose wsX4_copyFrom := goodIn_r _ [15, 16, 17, 18, 19, 20, 21, 22, 23, 24, 25, 26, 27, 28, 29, 30, 81, 82, 83, 84, 85, 86, 87, 88, 89, 90, 91] (by decide +kernel) (by decide +kernel)
set_option maxRecDepth 20000 in
theorem gX5_nightPose_X4_copyFrom : GoodIn wsX5_nightPose (wsV RX5 208 RX4 yX4_copyFrom wsX4_copyFrom) := goodIn_app (goodIn_of _ (by decide +kernel)) ggX5_nightPose_X4_copyFrom
set_option maxRecDepth 20000 in
theorem ggX5_nightPose_X4_run : GoodIn wsX5_nightPose wsX4_run := goodIn_r _ [34, 30, 35, 36, 37, 14, 38, 27, 29, 28, 26, 23, 25, 39, 40, 9, 41, 42, 43, 44, 45, 46, 47, 48, 49, 50, 51, 52, 53, 54, 55, 56, 21, 24, 57, 58, 59, 60, 16, 61, 62, 63, 64, 65, 66, 67, 81, 82, 83, 84, 85, 86, 87, 88, 89, 90, 91] (by decide +kernel) (by decide +kernel)
set_option maxRecDepth 20000 in
theorem gX5_nightPose_X4_run : GoodIn wsX5_nightPose (wsV RX5 95 RX4 yX4_run wsX4_run) := goodIn_app (goodIn_of _ (by decide +kernel)) ggX5_nightPose_X4_run
theorem dX5_nightPose_0 : decode cX5_nightPose 0 = .ok (.iconst 0, 1) := by decide +kernel
theorem dX5_nightPose_1 : decode cX5_nightPose 1 = .ok (.istore_n 1, 1) := by decide +kernel
theorem dX5_nightPose_2 : decode cX5_nightPose 2 = .ok (.ldc 207, 2) := by decide +kernel
theorem dX5_nightPose_4 : decode cX5_nightPose 4 = .ok (.istore_n 2, 1) := by decide +kernel
theorem dX5_nightPose_5 : decode cX5_nightPose 5 = .ok (.iconst 0, 1) := by decide +kernel
theorem dX5_nightPose_6 : decode cX5_nightPose 6 = .ok (.istore_n 3, 1) := by decide +kernel
theorem dX5_nightPose_7 : decode cX5_nightPose 7 = .ok (.iload_n 3, 1) := by decide +kernel
theorem dX5_nightPose_8 : decode cX5_nightPose 8 = .ok (.bipush 6, 2) := by decide +kernel
theorem dX5_nightPose_10 : decode cX5_nightPose 10 = .ok (.if_icmp .ge 68, 3) := by decide +kernel
theorem dX5_nightPose_13 : decode cX5_nightPose 13 = .ok (.aload_n 0, 1) := by decide +kernel
theorem dX5_nightPose_14 : decode cX5_nightPose 14 = .ok (.getfield 36, 3) := by decide +kernel
theorem dX5_nightPose_17 : decode cX5_nightPose 17 = .ok (.aload_n 0, 1) := by decide +kernel
theorem dX5_nightPose_18 : decode cX5_nightPose 18 = .ok (.getfield 10, 3) := by decide +kernel
theorem dX5_nightPose_21 : decode cX5_nightPose 21 = .ok (.getfield 52, 3) := by decide +kernel
theorem dX5_nightPose_24 : decode cX5_nightPose 24 = .ok (.invokevirtual 208, 3) := by decide +kernel
theorem dX5_nightPose_27 : decode cX5_nightPose 27 = .ok (.aload_n 0, 1) := by decide +kernel
theorem dX5_nightPose_28 : decode cX5_nightPose 28 = .ok (.getfield 36, 3) := by decide +kernel
theorem dX5_nightPose_31 : decode cX5_nightPose 31 = .ok (.iload_n 3, 1) := by decide +kernel
theorem dX5_nightPose_32 : decode cX5_nightPose 32 = .ok (.putfield 92, 3) := by decide +kernel
theorem dX5_nightPose_35 : decode cX5_nightPose 35 = .ok (.aload_n 0, 1) := by decide +kernel
theorem dX5_nightPose_36 : decode cX5_nightPose 36 = .ok (.getfield 36, 3) := by decide +kernel
theorem dX5_nightPose_39 : decode cX5_nightPose 39 = .ok (.bipush 8, 2) := by decide +kernel
theorem dX5_nightPose_41 : decode cX5_nightPose 41 = .ok (.invokevirtual 95, 3) := by decide +kernel
theorem dX5_nightPose_44 : decode cX5_nightPose 44 = .ok (.pop, 1) := by decide +kernel
theorem dX5_nightPose_45 : decode cX5_nightPose 45 = .ok (.aload_n 0, 1) := by decide +kernel
theorem dX5_nightPose_46 : decode cX5_nightPose 46 = .ok (.getfield 36, 3) := by decide +kernel
theorem dX5_nightPose_49 : decode cX5_nightPose 49 = .ok (.getfield 211, 3) := by decide +kernel
theorem dX5_nightPose_52 : decode cX5_nightPose 52 = .ok (.invokestatic 201, 3) := by decide +kernel
theorem dX5_nightPose_55 : decode cX5_nightPose 55 = .ok (.iload_n 2, 1) := by decide +kernel
theorem dX5_nightPose_56 : decode cX5_nightPose 56 = .ok (.if_icmp .ge 16, 3) := by decide +kernel
theorem dX5_nightPose_59 : decode cX5_nightPose 59 = .ok (.aload_n 0, 1) := by decide +kernel
theorem dX5_nightPose_60 : decode cX5_nightPose 60 = .ok (.getfield 36, 3) := by decide +kernel
theorem dX5_nightPose_63 : decode cX5_nightPose 63 = .ok (.getfield 211, 3) := by decide +kernel
theorem dX5_nightPose_66 : decode cX5_nightPose 66 = .ok (.invokestatic 201, 3) := by decide +kernel
theorem dX5_nightPose_69 : decode cX5_nightPose 69 = .ok (.istore_n 2, 1) := by decide +kernel
theorem dX5_nightPose_70 : decode cX5_nightPose 70 = .ok (.iload_n 3, 1) := by decide +kernel
theorem dX5_nightPose_71 : decode cX5_nightPose 71 = .ok (.istore_n 1, 1) := by decide +kernel
theorem dX5_nightPose_72 : decode cX5_nightPose 72 = .ok (.iinc 3 1, 3) := by decide +kernel
theorem dX5_nightPose_75 : decode cX5_nightPose 75 = .ok (.goto (-68), 3) := by decide +kernel
theorem dX5_nightPose_78 : decode cX5_nightPose 78 = .ok (.iload_n 1, 1) := by decide +kernel
theorem dX5_nightPose_79 : decode cX5_nightPose 79 = .ok (.ireturn, 1) := by decide +kernel
theorem dX5_going_0 : decode cX5_going 0 = .ok (.aload_n 0, 1) := by decide +kernel
theorem dX5_going_1 : decode cX5_going 1 = .ok (.getfield 10, 3) := by decide +kernel
theorem dX5_going_4 : decode cX5_going 4 = .ok (.getfield 52, 3) := by decide +kernel
theorem dX5_going_7 : decode cX5_going 7 = .ok (.getfield 181, 3) := by decide +kernel
theorem dX5_going_10 : decode cX5_going 10 = .ok (.istore_n 1, 1) := by decide +kernel
theorem dX5_going_11 : decode cX5_going 11 = .ok (.iload_n 1, 1) := by decide +kernel
theorem dX5_going_12 : decode cX5_going 12 = .ok (.ifCond .le 20, 3) := by decide +kernel
theorem dX5_going_15 : decode cX5_going 15 = .ok (.aload_n 0, 1) := by decide +kernel
theorem dX5_going_16 : decode cX5_going 16 = .ok (.getfield 10, 3) := by decide +kernel
theorem dX5_going_19 : decode cX5_going 19 = .ok (.getfield 52, 3) := by decide +kernel
theorem dX5_going_22 : decode cX5_going 22 = .ok (.getfield 214, 3) := by decide +kernel
theorem dX5_going_25 : decode cX5_going 25 = .ok (.i2d, 1) := by decide +kernel
theorem dX5_going_26 : decode cX5_going 26 = .ok (.iload_n 1, 1) := by decide +kernel
theorem dX5_going_27 : decode cX5_going 27 = .ok (.i2d, 1) := by decide +kernel
theorem dX5_going_28 : decode cX5_going 28 = .ok (.ddiv, 1) := by decide +kernel
theorem dX5_going_29 : decode cX5_going 29 = .ok (.goto 4, 3) := by decide +kernel
theorem dX5_going_32 : decode cX5_going 32 = .ok (.dconst 1, 1) := by decide +kernel
theorem dX5_going_33 : decode cX5_going 33 = .ok (.dreturn, 1) := by decide +kernel
theorem dX5_isPose_0 : decode cX5_isPose 0 = .ok (.iload_n 0, 1) := by decide +kernel
theorem dX5_isPose_1 : decode cX5_isPose 1 = .ok (.ifCond .lt 13, 3) := by decide +kernel
theorem dX5_isPose_4 : decode cX5_isPose 4 = .ok (.iload_n 0, 1) := by decide +kernel
theorem dX5_isPose_5 : decode cX5_isPose 5 = .ok (.bipush 6, 2) := by decide +kernel
theorem dX5_isPose_7 : decode cX5_isPose 7 = .ok (.if_icmp .ge 7, 3) := by decide +kernel
theorem dX5_isPose_10 : decode cX5_isPose 10 = .ok (.iconst 1, 1) := by decide +kernel
theorem dX5_isPose_11 : decode cX5_isPose 11 = .ok (.goto 4, 3) := by decide +kernel
theorem dX5_isPose_14 : decode cX5_isPose 14 = .ok (.iconst 0, 1) := by decide +kernel
theorem dX5_isPose_15 : decode cX5_isPose 15 = .ok (.ireturn, 1) := by decide +kernel
set_option maxRecDepth 20000 in
theorem ggX5_demandPose_X5_isPose : GoodIn wsX5_demandPose wsX5_isPose := goodIn_r _ [6] (by decide +kernel) (by decide +kernel)
set_option maxRecDepth 20000 in
theorem gX5_demandPose_X5_isPose : GoodIn wsX5_demandPose (va_wsS RX5 244 yX5_isPose wsX5_isPose) := goodIn_app (goodIn_of _ (by decide +kernel)) ggX5_demandPose_X5_isPose
theorem dX5_demandPose_0 : decode cX5_demandPose 0 = .ok (.iload_n 0, 1) := by decide +kernel
theorem dX5_demandPose_1 : decode cX5_demandPose 1 = .ok (.invokestatic 244, 3) := by decide +kernel
theorem dX5_demandPose_4 : decode cX5_demandPose 4 = .ok (.ifCond .ne 13, 3) := by decide +kernel
theorem dX5_demandPose_7 : decode cX5_demandPose 7 = .ok (.new 123, 3) := by decide +kernel
theorem dX5_demandPose_10 : decode cX5_demandPose 10 = .ok (.dup, 1) := by decide +kernel
theorem dX5_demandPose_11 : decode cX5_demandPose 11 = .ok (.ldc 247, 2) := by decide +kernel
theorem dX5_demandPose_13 : decode cX5_demandPose 13 = .ok (.invokespecial 127, 3) := by decide +kernel
theorem dX5_demandPose_16 : decode cX5_demandPose 16 = .ok (.athrow, 1) := by decide +kernel
theorem dX5_demandPose_17 : decode cX5_demandPose 17 = .ok (.return_, 1) := by decide +kernel
theorem dX5_demandRange_0 : decode cX5_demandRange 0 = .ok (.iload_n 0, 1) := by decide +kernel
theorem dX5_demandRange_1 : decode cX5_demandRange 1 = .ok (.iload_n 1, 1) := by decide +kernel
theorem dX5_demandRange_2 : decode cX5_demandRange 2 = .ok (.if_icmp .lt 8, 3) := by decide +kernel
theorem dX5_demandRange_5 : decode cX5_demandRange 5 = .ok (.iload_n 0, 1) := by decide +kernel
theorem dX5_demandRange_6 : decode cX5_demandRange 6 = .ok (.iload_n 2, 1) := by decide +kernel
theorem dX5_demandRange_7 : decode cX5_demandRange 7 = .ok (.if_icmp .le 13, 3) := by decide +kernel
theorem dX5_demandRange_10 : decode cX5_demandRange 10 = .ok (.new 152, 3) := by decide +kernel
theorem dX5_demandRange_13 : decode cX5_demandRange 13 = .ok (.dup, 1) := by decide +kernel
theorem dX5_demandRange_14 : decode cX5_demandRange 14 = .ok (.ldc 249, 2) := by decide +kernel
theorem dX5_demandRange_16 : decode cX5_demandRange 16 = .ok (.invokespecial 156, 3) := by decide +kernel
theorem dX5_demandRange_19 : decode cX5_demandRange 19 = .ok (.athrow, 1) := by decide +kernel
theorem dX5_demandRange_20 : decode cX5_demandRange 20 = .ok (.return_, 1) := by decide +kernel
set_option maxRecDepth 20000 in
theorem ggX5_poseNumber_X1_latestIn : GoodIn wsX5_poseNumber wsX1_latestIn := goodIn_r _ [8, 9, 10, 11, 12, 7, 13, 14, 88, 89] (by decide +kernel) (by decide +kernel)
set_option maxRecDepth 20000 in
theorem gX5_poseNumber_X1_latestIn : GoodIn wsX5_poseNumber (wsV RX5 264 RX1 yX1_latestIn wsX1_latestIn) := goodIn_app (goodIn_of _ (by decide +kernel)) ggX5_poseNumber_X1_latestIn
set_option maxRecDepth 20000 in
theorem ggX5_poseNumber_X4_weightOf : GoodIn wsX5_poseNumber wsX4_weightOf := goodIn_r _ [19, 20, 21, 22, 23, 90, 91, 92, 93, 94, 95, 96, 97, 98, 99, 100] (by decide +kernel) (by decide +kernel)
set_option maxRecDepth 20000 in
theorem gX5_poseNumber_X4_weightOf : GoodIn wsX5_poseNumber (wsV RX5 66 RX4 yX4_weightOf wsX4_weightOf) := goodIn_app (goodIn_of _ (by decide +kernel)) ggX5_poseNumber_X4_weightOf
set_option maxRecDepth 20000 in
theorem ggX5_poseNumber_X4_swingIn : GoodIn wsX5_poseNumber wsX4_swingIn := goodIn_r _ [27, 28, 29, 30, 31, 32, 33, 90, 91, 92, 93, 94, 95, 96, 97, 98, 99, 100] (by decide +kernel) (by decide +kernel)
set_option maxRecDepth 20000 in
theorem gX5_poseNumber_X4_swingIn : GoodIn wsX5_poseNumber (wsV RX5 267 RX4 yX4_swingIn wsX4_swingIn) := goodIn_app (goodIn_of _ (by decide +kernel)) ggX5_poseNumber_X4_swingIn
set_option maxRecDepth 20000 in
theorem ggX5_poseNumber_X4_rateIn : GoodIn wsX5_poseNumber wsX4_rateIn := goodIn_r _ [37, 38, 39, 40, 25, 26, 18, 27, 28, 29, 30, 31, 32, 33, 41, 16, 17, 19, 20, 21, 22, 23, 42, 43, 44, 45, 90, 91, 92, 93, 94, 95, 96, 97, 98, 99, 100] (by decide +kernel) (by decide +kernel)
set_option maxRecDepth 20000 in
theorem gX5_poseNumber_X4_rateIn : GoodIn wsX5_poseNumber (wsV RX5 111 RX4 yX4_rateIn wsX4_rateIn) := goodIn_app (goodIn_of _ (by decide +kernel)) ggX5_poseNumber_X4_rateIn
set_option maxRecDepth 20000 in
theorem ggX5_poseNumber_X4_beatErrorIn : GoodIn wsX5_poseNumber wsX4_beatErrorIn := goodIn_r _ [49, 50, 51, 52, 32, 53, 29, 90, 91, 92, 93, 94, 95, 96, 97, 98, 99, 100] (by decide +kernel) (by decide +kernel)
set_option maxRecDepth 20000 in
theorem gX5_poseNumber_X4_beatErrorIn : GoodIn wsX5_poseNumber (wsV RX5 270 RX4 yX4_beatErrorIn wsX4_beatErrorIn) := goodIn_app (goodIn_of _ (by decide +kernel)) ggX5_poseNumber_X4_beatErrorIn
set_option maxRecDepth 20000 in
theorem ggX5_poseNumber_X3_whyNoReading : GoodIn wsX5_poseNumber wsX3_whyNoReading := goodIn_r _ [58, 59, 60, 61, 62, 63, 64, 25, 26, 18, 27, 28, 29, 30, 31, 32, 33, 65, 47, 48, 49, 50, 51, 52, 53, 66, 67, 68, 7, 69, 9, 81, 82, 83, 84, 85, 86, 87, 90, 91, 92, 93, 94, 95, 96, 97, 98, 99, 100, 88, 89] (by decide +kernel) (by decide +kernel)
set_option maxRecDepth 20000 in
theorem gX5_poseNumber_X3_whyNoReading : GoodIn wsX5_poseNumber (wsV RX5 98 RX3 yX3_whyNoReading wsX3_whyNoReading) := goodIn_app (goodIn_of _ (by decide +kernel)) ggX5_poseNumber_X3_whyNoReading
set_option maxRecDepth 20000 in
theorem ggX5_poseNumber_X1_number : GoodIn wsX5_poseNumber wsX1_number := goodIn_r _ [13, 9, 14, 88, 89] (by decide +kernel) (by decide +kernel)
set_option maxRecDepth 20000 in
theorem gX5_poseNumber_X1_number : GoodIn wsX5_poseNumber (wsV RX5 273 RX1 yX1_number wsX1_number) := goodIn_app (goodIn_of _ (by decide +kernel)) ggX5_poseNumber_X1_number
set_option maxRecDepth 20000 in
theorem ggX5_poseNumber_X1_readingsIn : GoodIn wsX5_poseNumber wsX1_readingsIn := goodIn_r _ [74, 9, 10, 11, 12, 7, 13, 14, 88, 89] (by decide +kernel) (by decide +kernel)
set_option maxRecDepth 20000 in
theorem gX5_poseNumber_X1_readingsIn : GoodIn wsX5_poseNumber (wsV RX5 276 RX1 yX1_readingsIn wsX1_readingsIn) := goodIn_app (goodIn_of _ (by decide +kernel)) ggX5_poseNumber_X1_readingsIn
theorem dX5_poseNumber_0 : decode cX5_poseNumber 0 = .ok (.aload_n 0, 1) := by decide +kernel
theorem dX5_poseNumber_1 : decode cX5_poseNumber 1 = .ok (.getfield 10, 3) := by decide +kernel
theorem dX5_poseNumber_4 : decode cX5_poseNumber 4 = .ok (.getfield 114, 3) := by decide +kernel
theorem dX5_poseNumber_7 : decode cX5_poseNumber 7 = .ok (.iload_n 1, 1) := by decide +kernel
theorem dX5_poseNumber_8 : decode cX5_poseNumber 8 = .ok (.invokevirtual 264, 3) := by decide +kernel
theorem dX5_poseNumber_11 : decode cX5_poseNumber 11 = .ok (.istore_n 3, 1) := by decide +kernel
theorem dX5_poseNumber_12 : decode cX5_poseNumber 12 = .ok (.iload_n 2, 1) := by decide +kernel
theorem dX5_poseNumber_13 : decode cX5_poseNumber 13 = .ok (.tableswitch 155 0 6 #[43, 58, 70, 86, 98, 107, 129], 43) := by decide +kernel
theorem dX5_poseNumber_56 : decode cX5_poseNumber 56 = .ok (.aload_n 0, 1) := by decide +kernel
theorem dX5_poseNumber_57 : decode cX5_poseNumber 57 = .ok (.getfield 10, 3) := by decide +kernel
theorem dX5_poseNumber_60 : decode cX5_poseNumber 60 = .ok (.getfield 52, 3) := by decide +kernel
theorem dX5_poseNumber_63 : decode cX5_poseNumber 63 = .ok (.iload_n 1, 1) := by decide +kernel
theorem dX5_poseNumber_64 : decode cX5_poseNumber 64 = .ok (.invokevirtual 66, 3) := by decide +kernel
theorem dX5_poseNumber_67 : decode cX5_poseNumber 67 = .ok (.bipush 100, 2) := by decide +kernel
theorem dX5_poseNumber_69 : decode cX5_poseNumber 69 = .ok (.iadd, 1) := by decide +kernel
theorem dX5_poseNumber_70 : decode cX5_poseNumber 70 = .ok (.ireturn, 1) := by decide +kernel
theorem dX5_poseNumber_71 : decode cX5_poseNumber 71 = .ok (.aload_n 0, 1) := by decide +kernel
theorem dX5_poseNumber_72 : decode cX5_poseNumber 72 = .ok (.getfield 10, 3) := by decide +kernel
theorem dX5_poseNumber_75 : decode cX5_poseNumber 75 = .ok (.getfield 52, 3) := by decide +kernel
theorem dX5_poseNumber_78 : decode cX5_poseNumber 78 = .ok (.iload_n 1, 1) := by decide +kernel
theorem dX5_poseNumber_79 : decode cX5_poseNumber 79 = .ok (.invokevirtual 267, 3) := by decide +kernel
theorem dX5_poseNumber_82 : decode cX5_poseNumber 82 = .ok (.ireturn, 1) := by decide +kernel
theorem dX5_poseNumber_83 : decode cX5_poseNumber 83 = .ok (.aload_n 0, 1) := by decide +kernel
theorem dX5_poseNumber_84 : decode cX5_poseNumber 84 = .ok (.getfield 10, 3) := by decide +kernel
theorem dX5_poseNumber_87 : decode cX5_poseNumber 87 = .ok (.getfield 52, 3) := by decide +kernel
theorem dX5_poseNumber_90 : decode cX5_poseNumber 90 = .ok (.iload_n 1, 1) := by decide +kernel
theorem dX5_poseNumber_91 : decode cX5_poseNumber 91 = .ok (.invokevirtual 111, 3) := by decide +kernel
theorem dX5_poseNumber_94 : decode cX5_poseNumber 94 = .ok (.sipush 10000, 3) := by decide +kernel
theorem dX5_poseNumber_97 : decode cX5_poseNumber 97 = .ok (.iadd, 1) := by decide +kernel
theorem dX5_poseNumber_98 : decode cX5_poseNumber 98 = .ok (.ireturn, 1) := by decide +kernel
theorem dX5_poseNumber_99 : decode cX5_poseNumber 99 = .ok (.aload_n 0, 1) := by decide +kernel
theorem dX5_poseNumber_100 : decode cX5_poseNumber 100 = .ok (.getfield 10, 3) := by decide +kernel
theorem dX5_poseNumber_103 : decode cX5_poseNumber 103 = .ok (.getfield 52, 3) := by decide +kernel
theorem dX5_poseNumber_106 : decode cX5_poseNumber 106 = .ok (.iload_n 1, 1) := by decide +kernel
theorem dX5_poseNumber_107 : decode cX5_poseNumber 107 = .ok (.invokevirtual 270, 3) := by decide +kernel
theorem dX5_poseNumber_110 : decode cX5_poseNumber 110 = .ok (.ireturn, 1) := by decide +kernel
theorem dX5_poseNumber_111 : decode cX5_poseNumber 111 = .ok (.aload_n 0, 1) := by decide +kernel
theorem dX5_poseNumber_112 : decode cX5_poseNumber 112 = .ok (.getfield 10, 3) := by decide +kernel
theorem dX5_poseNumber_115 : decode cX5_poseNumber 115 = .ok (.iload_n 1, 1) := by decide +kernel
theorem dX5_poseNumber_116 : decode cX5_poseNumber 116 = .ok (.invokevirtual 98, 3) := by decide +kernel
theorem dX5_poseNumber_119 : decode cX5_poseNumber 119 = .ok (.ireturn, 1) := by decide +kernel
theorem dX5_poseNumber_120 : decode cX5_poseNumber 120 = .ok (.iload_n 3, 1) := by decide +kernel
theorem dX5_poseNumber_121 : decode cX5_poseNumber 121 = .ok (.iconst (-1), 1) := by decide +kernel
theorem dX5_poseNumber_122 : decode cX5_poseNumber 122 = .ok (.if_icmp .ne 7, 3) := by decide +kernel
theorem dX5_poseNumber_125 : decode cX5_poseNumber 125 = .ok (.iconst (-1), 1) := by decide +kernel
theorem dX5_poseNumber_126 : decode cX5_poseNumber 126 = .ok (.goto 15, 3) := by decide +kernel
theorem dX5_poseNumber_129 : decode cX5_poseNumber 129 = .ok (.aload_n 0, 1) := by decide +kernel
theorem dX5_poseNumber_130 : decode cX5_poseNumber 130 = .ok (.getfield 10, 3) := by decide +kernel
theorem dX5_poseNumber_133 : decode cX5_poseNumber 133 = .ok (.getfield 114, 3) := by decide +kernel
theorem dX5_poseNumber_136 : decode cX5_poseNumber 136 = .ok (.iload_n 3, 1) := by decide +kernel
theorem dX5_poseNumber_137 : decode cX5_poseNumber 137 = .ok (.iconst 0, 1) := by decide +kernel
theorem dX5_poseNumber_138 : decode cX5_poseNumber 138 = .ok (.invokevirtual 273, 3) := by decide +kernel
theorem dX5_poseNumber_141 : decode cX5_poseNumber 141 = .ok (.ireturn, 1) := by decide +kernel
theorem dX5_poseNumber_142 : decode cX5_poseNumber 142 = .ok (.iload_n 3, 1) := by decide +kernel
theorem dX5_poseNumber_143 : decode cX5_poseNumber 143 = .ok (.iconst (-1), 1) := by decide +kernel
theorem dX5_poseNumber_144 : decode cX5_poseNumber 144 = .ok (.if_icmp .ne 7, 3) := by decide +kernel
theorem dX5_poseNumber_147 : decode cX5_poseNumber 147 = .ok (.iconst (-1), 1) := by decide +kernel
theorem dX5_poseNumber_148 : decode cX5_poseNumber 148 = .ok (.goto 19, 3) := by decide +kernel
theorem dX5_poseNumber_151 : decode cX5_poseNumber 151 = .ok (.aload_n 0, 1) := by decide +kernel
theorem dX5_poseNumber_152 : decode cX5_poseNumber 152 = .ok (.getfield 10, 3) := by decide +kernel
theorem dX5_poseNumber_155 : decode cX5_poseNumber 155 = .ok (.getfield 114, 3) := by decide +kernel
theorem dX5_poseNumber_158 : decode cX5_poseNumber 158 = .ok (.iload_n 3, 1) := by decide +kernel
theorem dX5_poseNumber_159 : decode cX5_poseNumber 159 = .ok (.iconst 2, 1) := by decide +kernel
theorem dX5_poseNumber_160 : decode cX5_poseNumber 160 = .ok (.invokevirtual 273, 3) := by decide +kernel
theorem dX5_poseNumber_163 : decode cX5_poseNumber 163 = .ok (.sipush 10000, 3) := by decide +kernel
theorem dX5_poseNumber_166 : decode cX5_poseNumber 166 = .ok (.iadd, 1) := by decide +kernel
theorem dX5_poseNumber_167 : decode cX5_poseNumber 167 = .ok (.ireturn, 1) := by decide +kernel
theorem dX5_poseNumber_168 : decode cX5_poseNumber 168 = .ok (.aload_n 0, 1) := by decide +kernel
theorem dX5_poseNumber_169 : decode cX5_poseNumber 169 = .ok (.getfield 10, 3) := by decide +kernel
theorem dX5_poseNumber_172 : decode cX5_poseNumber 172 = .ok (.getfield 114, 3) := by decide +kernel
theorem dX5_poseNumber_175 : decode cX5_poseNumber 175 = .ok (.iload_n 1, 1) := by decide +kernel
theorem dX5_poseNumber_176 : decode cX5_poseNumber 176 = .ok (.invokevirtual 276, 3) := by decide +kernel
theorem dX5_poseNumber_179 : decode cX5_poseNumber 179 = .ok (.ireturn, 1) := by decide +kernel
set_option maxRecDepth 20000 in
theorem ggX5_readingNumber_X1_number : GoodIn wsX5_readingNumber wsX1_number := goodIn_r _ [8, 9, 10, 24, 25] (by decide +kernel) (by decide +kernel)
set_option maxRecDepth 20000 in
theorem gX5_readingNumber_X1_number : GoodIn wsX5_readingNumber (wsV RX5 273 RX1 yX1_number wsX1_number) := goodIn_app (goodIn_of _ (by decide +kernel)) ggX5_readingNumber_X1_number
theorem dX5_readingNumber_0 : decode cX5_readingNumber 0 = .ok (.iload_n 1, 1) := by decide +kernel
theorem dX5_readingNumber_1 : decode cX5_readingNumber 1 = .ok (.aload_n 0, 1) := by decide +kernel
theorem dX5_readingNumber_2 : decode cX5_readingNumber 2 = .ok (.getfield 10, 3) := by decide +kernel
theorem dX5_readingNumber_5 : decode cX5_readingNumber 5 = .ok (.getfield 114, 3) := by decide +kernel
theorem dX5_readingNumber_8 : decode cX5_readingNumber 8 = .ok (.getfield 118, 3) := by decide +kernel
theorem dX5_readingNumber_11 : decode cX5_readingNumber 11 = .ok (.if_icmp .lt 5, 3) := by decide +kernel
theorem dX5_readingNumber_14 : decode cX5_readingNumber 14 = .ok (.iconst (-1), 1) := by decide +kernel
theorem dX5_readingNumber_15 : decode cX5_readingNumber 15 = .ok (.ireturn, 1) := by decide +kernel
theorem dX5_readingNumber_16 : decode cX5_readingNumber 16 = .ok (.aload_n 0, 1) := by decide +kernel
theorem dX5_readingNumber_17 : decode cX5_readingNumber 17 = .ok (.getfield 10, 3) := by decide +kernel
theorem dX5_readingNumber_20 : decode cX5_readingNumber 20 = .ok (.getfield 114, 3) := by decide +kernel
theorem dX5_readingNumber_23 : decode cX5_readingNumber 23 = .ok (.iload_n 1, 1) := by decide +kernel
theorem dX5_readingNumber_24 : decode cX5_readingNumber 24 = .ok (.iload_n 2, 1) := by decide +kernel
theorem dX5_readingNumber_25 : decode cX5_readingNumber 25 = .ok (.invokevirtual 273, 3) := by decide +kernel
theorem dX5_readingNumber_28 : decode cX5_readingNumber 28 = .ok (.istore_n 3, 1) := by decide +kernel
theorem dX5_readingNumber_29 : decode cX5_readingNumber 29 = .ok (.iload_n 2, 1) := by decide +kernel
theorem dX5_readingNumber_30 : decode cX5_readingNumber 30 = .ok (.iconst 2, 1) := by decide +kernel
theorem dX5_readingNumber_31 : decode cX5_readingNumber 31 = .ok (.if_icmp .ne 11, 3) := by decide +kernel
theorem dX5_readingNumber_34 : decode cX5_readingNumber 34 = .ok (.iload_n 3, 1) := by decide +kernel
theorem dX5_readingNumber_35 : decode cX5_readingNumber 35 = .ok (.sipush 10000, 3) := by decide +kernel
theorem dX5_readingNumber_38 : decode cX5_readingNumber 38 = .ok (.iadd, 1) := by decide +kernel
theorem dX5_readingNumber_39 : decode cX5_readingNumber 39 = .ok (.goto 4, 3) := by decide +kernel
theorem dX5_readingNumber_42 : decode cX5_readingNumber 42 = .ok (.iload_n 3, 1) := by decide +kernel
theorem dX5_readingNumber_43 : decode cX5_readingNumber 43 = .ok (.ireturn, 1) := by decide +kernel
set_option maxRecDepth 20000 in
theorem ggX5_countNumber_X4_goes : GoodIn wsX5_countNumber wsX4_goes := goodIn_r _ [24, 25, 26, 27, 28, 29, 23, 30, 31, 32, 33, 34, 35, 90, 91, 92, 93, 94, 95, 96, 97, 98, 99, 100] (by decide +kernel) (by decide +kernel)
set_option maxRecDepth 20000 in
theorem gX5_countNumber_X4_goes : GoodIn wsX5_countNumber (wsV RX5 279 RX4 yX4_goes wsX4_goes) := goodIn_app (goodIn_of _ (by decide +kernel)) ggX5_countNumber_X4_goes
set_option maxRecDepth 20000 in
theorem ggX5_countNumber_X3_dayRateByPoses : GoodIn wsX5_countNumber wsX3_dayRateByPoses := goodIn_r _ [40, 41, 42, 43, 44, 39, 45, 46, 47, 48, 49, 34, 50, 51, 33, 35, 52, 53, 54, 55, 56, 57, 58, 59, 60, 61, 62, 63, 64, 65, 66, 67, 68, 69, 70, 83, 84, 85, 86, 87, 88, 89, 90, 91, 92, 93, 94, 95, 96, 97, 98, 99, 100, 101, 102] (by decide +kernel) (by decide +kernel)
set_option maxRecDepth 20000 in
theorem gX5_countNumber_X3_dayRateByPoses : GoodIn wsX5_countNumber (wsV RX5 289 RX3 yX3_dayRateByPoses wsX3_dayRateByPoses) := goodIn_app (goodIn_of _ (by decide +kernel)) ggX5_countNumber_X3_dayRateByPoses
set_option maxRecDepth 20000 in
theorem ggX5_countNumber_X3_dayRateByPaper : GoodIn wsX5_countNumber wsX3_dayRateByPaper := goodIn_r _ [74, 46, 47, 41, 75, 52, 53, 54, 48, 49, 34, 50, 51, 33, 35, 66, 62, 63, 58, 64, 60, 65, 67, 68, 69, 70, 83, 84, 85, 86, 87, 88, 89, 101, 102, 90, 91, 92, 93, 94, 95, 96, 97, 98, 99, 100] (by decide +kernel) (by decide +kernel)
set_option maxRecDepth 20000 in
theorem gX5_countNumber_X3_dayRateByPaper : GoodIn wsX5_countNumber (wsV RX5 292 RX3 yX3_dayRateByPaper wsX3_dayRateByPaper) := goodIn_app (goodIn_of _ (by decide +kernel)) ggX5_countNumber_X3_dayRateByPaper
set_option maxRecDepth 20000 in
theorem ggX5_countNumber_X3_whyNoDayRate : GoodIn wsX5_countNumber wsX3_whyNoDayRate := goodIn_r _ [45, 46, 47, 41, 48, 49, 34, 50, 51, 33, 35, 52, 53, 54, 55, 56, 57, 58, 59, 60, 61, 62, 63, 64, 65, 66, 83, 84, 85, 86, 87, 88, 89, 90, 91, 92, 93, 94, 95, 96, 97, 98, 99, 100, 101, 102] (by decide +kernel) (by decide +kernel)
set_option maxRecDepth 20000 in
theorem gX5_countNumber_X3_whyNoDayRate : GoodIn wsX5_countNumber (wsV RX5 295 RX3 yX3_whyNoDayRate wsX3_whyNoDayRate) := goodIn_app (goodIn_of _ (by decide +kernel)) ggX5_countNumber_X3_whyNoDayRate
theorem dX5_countNumber_0 : decode cX5_countNumber 0 = .ok (.aload_n 0, 1) := by decide +kernel
theorem dX5_countNumber_1 : decode cX5_countNumber 1 = .ok (.getfield 10, 3) := by decide +kernel
theorem dX5_countNumber_4 : decode cX5_countNumber 4 = .ok (.getfield 52, 3) := by decide +kernel
theorem dX5_countNumber_7 : decode cX5_countNumber 7 = .ok (.astore_n 2, 1) := by decide +kernel
theorem dX5_countNumber_8 : decode cX5_countNumber 8 = .ok (.iload_n 1, 1) := by decide +kernel
theorem dX5_countNumber_9 : decode cX5_countNumber 9 = .ok (.tableswitch 251 0 19 #[95, 100, 105, 113, 121, 126, 131, 136, 149, 158, 163, 174, 182, 190, 198, 206, 211, 221, 231, 241], 95) := by decide +kernel
theorem dX5_countNumber_104 : decode cX5_countNumber 104 = .ok (.aload_n 2, 1) := by decide +kernel
theorem dX5_countNumber_105 : decode cX5_countNumber 105 = .ok (.getfield 181, 3) := by decide +kernel
theorem dX5_countNumber_108 : decode cX5_countNumber 108 = .ok (.ireturn, 1) := by decide +kernel
theorem dX5_countNumber_109 : decode cX5_countNumber 109 = .ok (.aload_n 2, 1) := by decide +kernel
theorem dX5_countNumber_110 : decode cX5_countNumber 110 = .ok (.getfield 59, 3) := by decide +kernel
theorem dX5_countNumber_113 : decode cX5_countNumber 113 = .ok (.ireturn, 1) := by decide +kernel
theorem dX5_countNumber_114 : decode cX5_countNumber 114 = .ok (.aload_n 2, 1) := by decide +kernel
theorem dX5_countNumber_115 : decode cX5_countNumber 115 = .ok (.getfield 74, 3) := by decide +kernel
theorem dX5_countNumber_118 : decode cX5_countNumber 118 = .ok (.bipush 100, 2) := by decide +kernel
theorem dX5_countNumber_120 : decode cX5_countNumber 120 = .ok (.iadd, 1) := by decide +kernel
theorem dX5_countNumber_121 : decode cX5_countNumber 121 = .ok (.ireturn, 1) := by decide +kernel
theorem dX5_countNumber_122 : decode cX5_countNumber 122 = .ok (.aload_n 2, 1) := by decide +kernel
theorem dX5_countNumber_123 : decode cX5_countNumber 123 = .ok (.getfield 77, 3) := by decide +kernel
theorem dX5_countNumber_126 : decode cX5_countNumber 126 = .ok (.bipush 100, 2) := by decide +kernel
theorem dX5_countNumber_128 : decode cX5_countNumber 128 = .ok (.iadd, 1) := by decide +kernel
theorem dX5_countNumber_129 : decode cX5_countNumber 129 = .ok (.ireturn, 1) := by decide +kernel
theorem dX5_countNumber_130 : decode cX5_countNumber 130 = .ok (.aload_n 2, 1) := by decide +kernel
