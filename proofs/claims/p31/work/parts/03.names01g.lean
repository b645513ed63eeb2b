theorem wsL_law_in0 : ∀ w ∈ wsL_law0, w ∈ lw_tbl := (fun w h => (List.mem_append.mp h).elim ((fun w h => (List.mem_append.mp h).elim ((fun w h => (List.mem_append.mp h).elim ((fun w h => (List.mem_append.mp h).elim ((fun w h => (List.mem_append.mp h).elim ((fun w h => (List.mem_append.mp h).elim ((fun w h => (List.mem_append.mp h).elim ((fun w h => (List.mem_append.mp h).elim (in_wsL_law0_r1 w) ((fun w h => (List.mem_append.mp h).elim (in_wsL_law0_r2 w) ((fun w h => (List.mem_append.mp h).elim (in_wsL_law0_r3 w) ((fun w h => (List.mem_append.mp h).elim (in_wsL_law0_r4 w) ((fun w h => (List.mem_append.mp h).elim (in_wsL_law0_r5 w) ((fun w h => (List.mem_append.mp h).elim (in_wsL_law0_r6 w) ((fun w h => (List.mem_append.mp h).elim (in_wsL_law0_r7 w) ((fun w h => (List.mem_append.mp h).elim (in_wsL_law0_r8 w) ((fun w h => (List.mem_append.mp h).elim (in_wsL_law0_r9 w) ((fun w h => (List.mem_append.mp h).elim (in_wsL_law0_r10 w) ((fun w h => (List.mem_append.mp h).elim (in_wsL_law0_r11 w) ((fun w h => (List.mem_append.mp h).elim (in_wsL_law0_r12 w) ((fun w h => (List.mem_append.mp h).elim (in_wsL_law0_r13 w) ((fun w h => (List.mem_append.mp h).elim (in_wsL_law0_r14 w) ((fun w h => (List.mem_append.mp h).elim (in_wsL_law0_r15 w) ((fun w h => (List.mem_append.mp h).elim (in_wsL_law0_r16 w) ((fun w h => (List.mem_append.mp h).elim (in_wsL_law0_r17 w) ((fun w h => (List.mem_append.mp h).elim (in_wsL_law0_r18 w) ((fun w h => (List.mem_append.mp h).elim (in_wsL_law0_r19 w) (in_wsL_law0_r20 w)) w)) w)) w)) w)) w)) w)) w)) w)) w)) w)) w)) w)) w)) w)) w)) w)) w)) w)) w) (in_wsX50 w)) w) (in_wsX30 w)) w) (in_wsX20 w)) w) (in_wsX00 w)) w) (in_wsX40 w)) w) (in_wsX10 w)) w) (fun h => absurd h List.not_mem_nil))
theorem wsL_law_x0 : ∀ w ∈ (vx_atS RX5 156 "java/lang/IllegalArgumentException" ["java/lang/RuntimeException", "java/lang/Exception"]).filter goodWord, w ∈ lw_tbl := by decide +kernel
theorem wsL_law_x1 : ∀ w ∈ (vx_atS RX5 127 "java/lang/IndexOutOfBoundsException" ["java/lang/RuntimeException", "java/lang/Exception"]).filter goodWord, w ∈ lw_tbl := by decide +kernel
theorem wsL_law_x2 : ∀ w ∈ (vx_atS RX5 105 "java/lang/IllegalStateException" ["java/lang/RuntimeException", "java/lang/Exception"]).filter goodWord, w ∈ lw_tbl := by decide +kernel
theorem wsL_law_in : ∀ w ∈ wsL_law, w ∈ lw_tbl := fun w h => (List.mem_append.mp h).elim (fun h => (List.mem_append.mp h).elim (fun h => (List.mem_append.mp h).elim (fun h => wsL_law_in0 w h) (fun h => wsL_law_x0 w h)) (fun h => wsL_law_x1 w h)) (fun h => wsL_law_x2 w h)
theorem inlX0 : ∀ w ∈ wsX00, w ∈ wsL_law := fun _ h => List.mem_append_left _ (List.mem_append_left _ (List.mem_append_left _ (List.mem_append_left _ (List.mem_append_left _ (List.mem_append_left _ (List.mem_append_right _ h))))))
theorem inX0 : ∀ w ∈ wsX00, w ∈ lw_tbl := fun w h => wsL_law_in w (inlX0 w h)
theorem inlX1 : ∀ w ∈ wsX10, w ∈ wsL_law := fun _ h => List.mem_append_left _ (List.mem_append_left _ (List.mem_append_left _ (List.mem_append_left _ (List.mem_append_right _ h))))
theorem inX1 : ∀ w ∈ wsX10, w ∈ lw_tbl := fun w h => wsL_law_in w (inlX1 w h)
theorem inlX2 : ∀ w ∈ wsX20, w ∈ wsL_law := fun _ h => List.mem_append_left _ (List.mem_append_left _ (List.mem_append_left _ (List.mem_append_left _ (List.mem_append_left _ (List.mem_append_left _ (List.mem_append_left _ (List.mem_append_right _ h)))))))
theorem inX2 : ∀ w ∈ wsX20, w ∈ lw_tbl := fun w h => wsL_law_in w (inlX2 w h)
theorem inlX3 : ∀ w ∈ wsX30, w ∈ wsL_law := fun _ h => List.mem_append_left _ (List.mem_append_left _ (List.mem_append_left _ (List.mem_append_left _ (List.mem_append_left _ (List.mem_append_left _ (List.mem_append_left _ (List.mem_append_left _ (List.mem_append_right _ h))))))))
theorem inX3 : ∀ w ∈ wsX30, w ∈ lw_tbl := fun w h => wsL_law_in w (inlX3 w h)
theorem inlX4 : ∀ w ∈ wsX40, w ∈ wsL_law := fun _ h => List.mem_append_left _ (List.mem_append_left _ (List.mem_append_left _ (List.mem_append_left _ (List.mem_append_left _ (List.mem_append_right _ h)))))
theorem inX4 : ∀ w ∈ wsX40, w ∈ lw_tbl := fun w h => wsL_law_in w (inlX4 w h)
theorem inlX5 : ∀ w ∈ wsX50, w ∈ wsL_law := fun _ h => List.mem_append_left _ (List.mem_append_left _ (List.mem_append_left _ (List.mem_append_left _ (List.mem_append_left _ (List.mem_append_left _ (List.mem_append_left _ (List.mem_append_left _ (List.mem_append_left _ (List.mem_append_right _ h)))))))))
theorem inX5 : ∀ w ∈ wsX50, w ∈ lw_tbl := fun w h => wsL_law_in w (inlX5 w h)
theorem inX6 : ∀ w ∈ wsX60, w ∈ lw_tbl := by decide +kernel
theorem inJx8e188 : ∀ w ∈ wsJx8e1880, w ∈ lw_tbl := by decide +kernel
theorem inJ9 : ∀ w ∈ wsJ90, w ∈ lw_tbl := by decide +kernel
theorem inJ0 : ∀ w ∈ wsJ00, w ∈ lw_tbl := by decide +kernel
theorem inJ10 : ∀ w ∈ wsJ100, w ∈ lw_tbl := by decide +kernel
theorem dX0_init_0 : decode cX0_init 0 = .ok (.aload_n 0, 1) := by decide +kernel
theorem dX0_init_1 : decode cX0_init 1 = .ok (.invokespecial 3, 3) := by decide +kernel
theorem dX0_init_4 : decode cX0_init 4 = .ok (.aload_n 0, 1) := by decide +kernel
theorem dX0_init_5 : decode cX0_init 5 = .ok (.bipush 60, 2) := by decide +kernel
theorem dX0_init_7 : decode cX0_init 7 = .ok (.newarray .int, 2) := by decide +kernel
theorem dX0_init_9 : decode cX0_init 9 = .ok (.putfield 11, 3) := by decide +kernel
theorem dX0_init_12 : decode cX0_init 12 = .ok (.aload_n 0, 1) := by decide +kernel
theorem dX0_init_13 : decode cX0_init 13 = .ok (.iconst 0, 1) := by decide +kernel
theorem dX0_init_14 : decode cX0_init 14 = .ok (.putfield 15, 3) := by decide +kernel
theorem dX0_init_17 : decode cX0_init 17 = .ok (.aload_n 0, 1) := by decide +kernel
theorem dX0_init_18 : decode cX0_init 18 = .ok (.bipush 60, 2) := by decide +kernel
theorem dX0_init_20 : decode cX0_init 20 = .ok (.newarray .int, 2) := by decide +kernel
theorem dX0_init_22 : decode cX0_init 22 = .ok (.putfield 19, 3) := by decide +kernel
theorem dX0_init_25 : decode cX0_init 25 = .ok (.aload_n 0, 1) := by decide +kernel
theorem dX0_init_26 : decode cX0_init 26 = .ok (.bipush 60, 2) := by decide +kernel
theorem dX0_init_28 : decode cX0_init 28 = .ok (.newarray .int, 2) := by decide +kernel
theorem dX0_init_30 : decode cX0_init 30 = .ok (.putfield 22, 3) := by decide +kernel
theorem dX0_init_33 : decode cX0_init 33 = .ok (.aload_n 0, 1) := by decide +kernel
theorem dX0_init_34 : decode cX0_init 34 = .ok (.iconst 0, 1) := by decide +kernel
theorem dX0_init_35 : decode cX0_init 35 = .ok (.putfield 25, 3) := by decide +kernel
theorem dX0_init_38 : decode cX0_init 38 = .ok (.aload_n 0, 1) := by decide +kernel
theorem dX0_init_39 : decode cX0_init 39 = .ok (.iconst 0, 1) := by decide +kernel
theorem dX0_init_40 : decode cX0_init 40 = .ok (.putfield 28, 3) := by decide +kernel
theorem dX0_init_43 : decode cX0_init 43 = .ok (.aload_n 0, 1) := by decide +kernel
theorem dX0_init_44 : decode cX0_init 44 = .ok (.iconst 0, 1) := by decide +kernel
theorem dX0_init_45 : decode cX0_init 45 = .ok (.putfield 31, 3) := by decide +kernel
theorem dX0_init_48 : decode cX0_init 48 = .ok (.aload_n 0, 1) := by decide +kernel
theorem dX0_init_49 : decode cX0_init 49 = .ok (.iconst 0, 1) := by decide +kernel
theorem dX0_init_50 : decode cX0_init 50 = .ok (.putfield 35, 3) := by decide +kernel
theorem dX0_init_53 : decode cX0_init 53 = .ok (.aload_n 0, 1) := by decide +kernel
theorem dX0_init_54 : decode cX0_init 54 = .ok (.iconst 0, 1) := by decide +kernel
theorem dX0_init_55 : decode cX0_init 55 = .ok (.putfield 38, 3) := by decide +kernel
theorem dX0_init_58 : decode cX0_init 58 = .ok (.return_, 1) := by decide +kernel
theorem dX1_init_0 : decode cX1_init 0 = .ok (.aload_n 0, 1) := by decide +kernel
theorem dX1_init_1 : decode cX1_init 1 = .ok (.invokespecial 3, 3) := by decide +kernel
theorem dX1_init_4 : decode cX1_init 4 = .ok (.aload_n 0, 1) := by decide +kernel
theorem dX1_init_5 : decode cX1_init 5 = .ok (.sipush 200, 3) := by decide +kernel
theorem dX1_init_8 : decode cX1_init 8 = .ok (.newarray .int, 2) := by decide +kernel
theorem dX1_init_10 : decode cX1_init 10 = .ok (.putfield 11, 3) := by decide +kernel
theorem dX1_init_13 : decode cX1_init 13 = .ok (.aload_n 0, 1) := by decide +kernel
theorem dX1_init_14 : decode cX1_init 14 = .ok (.iconst 0, 1) := by decide +kernel
theorem dX1_init_15 : decode cX1_init 15 = .ok (.putfield 15, 3) := by decide +kernel
theorem dX1_init_18 : decode cX1_init 18 = .ok (.return_, 1) := by decide +kernel
theorem dX1_isFull_0 : decode cX1_isFull 0 = .ok (.aload_n 0, 1) := by decide +kernel
theorem dX1_isFull_1 : decode cX1_isFull 1 = .ok (.getfield 15, 3) := by decide +kernel
theorem dX1_isFull_4 : decode cX1_isFull 4 = .ok (.bipush 40, 2) := by decide +kernel
theorem dX1_isFull_6 : decode cX1_isFull 6 = .ok (.if_icmp .lt 7, 3) := by decide +kernel
theorem dX1_isFull_9 : decode cX1_isFull 9 = .ok (.iconst 1, 1) := by decide +kernel
theorem dX1_isFull_10 : decode cX1_isFull 10 = .ok (.goto 4, 3) := by decide +kernel
theorem dX1_isFull_13 : decode cX1_isFull 13 = .ok (.iconst 0, 1) := by decide +kernel
theorem dX1_isFull_14 : decode cX1_isFull 14 = .ok (.ireturn, 1) := by decide +kernel
set_option maxRecDepth 20000 in
theorem ggX1_print_X1_isFull : GoodIn wsX1_print wsX1_isFull := goodIn_r _ [9, 1, 48, 49] (by decide +kernel) (by decide +kernel)
set_option maxRecDepth 20000 in
theorem gX1_print_X1_isFull : GoodIn wsX1_print (wsV RX1 19 RX1 yX1_isFull wsX1_isFull) := goodIn_app (goodIn_of _ (by decide +kernel)) ggX1_print_X1_isFull
set_option maxRecDepth 20000 in
theorem ggX1_print_X4_rateIn : GoodIn wsX1_print wsX4_rateIn := goodIn_r _ [14, 15, 16, 17, 18, 19, 13, 20, 21, 22, 23, 24, 25, 26, 27, 28, 29, 30, 31, 32, 33, 34, 35, 36, 37, 38, 50, 51, 52, 53, 54, 55, 56, 57, 58, 59, 60] (by decide +kernel) (by decide +kernel)
set_option maxRecDepth 20000 in
theorem gX1_print_X4_rateIn : GoodIn wsX1_print (wsV RX1 31 RX4 yX4_rateIn wsX4_rateIn) := goodIn_app (goodIn_of _ (by decide +kernel)) ggX1_print_X4_rateIn
set_option maxRecDepth 20000 in
theorem ggX1_print_X4_beatErrorIn : GoodIn wsX1_print wsX4_beatErrorIn := goodIn_r _ [42, 43, 44, 45, 25, 46, 22, 50, 51, 52, 53, 54, 55, 56, 57, 58, 59, 60] (by decide +kernel) (by decide +kernel)
set_option maxRecDepth 20000 in
theorem gX1_print_X4_beatErrorIn : GoodIn wsX1_print (wsV RX1 35 RX4 yX4_beatErrorIn wsX4_beatErrorIn) := goodIn_app (goodIn_of _ (by decide +kernel)) ggX1_print_X4_beatErrorIn
set_option maxRecDepth 20000 in
theorem ggX1_print_X4_swingIn : GoodIn wsX1_print wsX4_swingIn := goodIn_r _ [20, 21, 22, 23, 24, 25, 26, 50, 51, 52, 53, 54, 55, 56, 57, 58, 59, 60] (by decide +kernel) (by decide +kernel)
set_option maxRecDepth 20000 in
theorem gX1_print_X4_swingIn : GoodIn wsX1_print (wsV RX1 38 RX4 yX4_swingIn wsX4_swingIn) := goodIn_app (goodIn_of _ (by decide +kernel)) ggX1_print_X4_swingIn
theorem dX1_print_0 : decode cX1_print 0 = .ok (.aload_n 0, 1) := by decide +kernel
theorem dX1_print_1 : decode cX1_print 1 = .ok (.invokevirtual 19, 3) := by decide +kernel
theorem dX1_print_4 : decode cX1_print 4 = .ok (.ifCond .eq 4, 3) := by decide +kernel
theorem dX1_print_7 : decode cX1_print 7 = .ok (.return_, 1) := by decide +kernel
theorem dX1_print_8 : decode cX1_print 8 = .ok (.aload_n 0, 1) := by decide +kernel
theorem dX1_print_9 : decode cX1_print 9 = .ok (.getfield 15, 3) := by decide +kernel
theorem dX1_print_12 : decode cX1_print 12 = .ok (.iconst 5, 1) := by decide +kernel
theorem dX1_print_13 : decode cX1_print 13 = .ok (.imul, 1) := by decide +kernel
theorem dX1_print_14 : decode cX1_print 14 = .ok (.istore_n 2, 1) := by decide +kernel
theorem dX1_print_15 : decode cX1_print 15 = .ok (.aload_n 0, 1) := by decide +kernel
theorem dX1_print_16 : decode cX1_print 16 = .ok (.getfield 11, 3) := by decide +kernel
theorem dX1_print_19 : decode cX1_print 19 = .ok (.iload_n 2, 1) := by decide +kernel
theorem dX1_print_20 : decode cX1_print 20 = .ok (.iconst 0, 1) := by decide +kernel
theorem dX1_print_21 : decode cX1_print 21 = .ok (.iadd, 1) := by decide +kernel
theorem dX1_print_22 : decode cX1_print 22 = .ok (.aload_n 1, 1) := by decide +kernel
theorem dX1_print_23 : decode cX1_print 23 = .ok (.getfield 23, 3) := by decide +kernel
theorem dX1_print_26 : decode cX1_print 26 = .ok (.iastore, 1) := by decide +kernel
theorem dX1_print_27 : decode cX1_print 27 = .ok (.aload_n 0, 1) := by decide +kernel
theorem dX1_print_28 : decode cX1_print 28 = .ok (.getfield 11, 3) := by decide +kernel
theorem dX1_print_31 : decode cX1_print 31 = .ok (.iload_n 2, 1) := by decide +kernel
theorem dX1_print_32 : decode cX1_print 32 = .ok (.iconst 1, 1) := by decide +kernel
theorem dX1_print_33 : decode cX1_print 33 = .ok (.iadd, 1) := by decide +kernel
theorem dX1_print_34 : decode cX1_print 34 = .ok (.aload_n 1, 1) := by decide +kernel
theorem dX1_print_35 : decode cX1_print 35 = .ok (.getfield 28, 3) := by decide +kernel
theorem dX1_print_38 : decode cX1_print 38 = .ok (.iastore, 1) := by decide +kernel
theorem dX1_print_39 : decode cX1_print 39 = .ok (.aload_n 0, 1) := by decide +kernel
theorem dX1_print_40 : decode cX1_print 40 = .ok (.getfield 11, 3) := by decide +kernel
theorem dX1_print_43 : decode cX1_print 43 = .ok (.iload_n 2, 1) := by decide +kernel
theorem dX1_print_44 : decode cX1_print 44 = .ok (.iconst 2, 1) := by decide +kernel
theorem dX1_print_45 : decode cX1_print 45 = .ok (.iadd, 1) := by decide +kernel
theorem dX1_print_46 : decode cX1_print 46 = .ok (.aload_n 1, 1) := by decide +kernel
theorem dX1_print_47 : decode cX1_print 47 = .ok (.aload_n 1, 1) := by decide +kernel
theorem dX1_print_48 : decode cX1_print 48 = .ok (.getfield 28, 3) := by decide +kernel
theorem dX1_print_51 : decode cX1_print 51 = .ok (.invokevirtual 31, 3) := by decide +kernel
theorem dX1_print_54 : decode cX1_print 54 = .ok (.iastore, 1) := by decide +kernel
theorem dX1_print_55 : decode cX1_print 55 = .ok (.aload_n 0, 1) := by decide +kernel
theorem dX1_print_56 : decode cX1_print 56 = .ok (.getfield 11, 3) := by decide +kernel
theorem dX1_print_59 : decode cX1_print 59 = .ok (.iload_n 2, 1) := by decide +kernel
theorem dX1_print_60 : decode cX1_print 60 = .ok (.iconst 3, 1) := by decide +kernel
theorem dX1_print_61 : decode cX1_print 61 = .ok (.iadd, 1) := by decide +kernel
theorem dX1_print_62 : decode cX1_print 62 = .ok (.aload_n 1, 1) := by decide +kernel
theorem dX1_print_63 : decode cX1_print 63 = .ok (.aload_n 1, 1) := by decide +kernel
theorem dX1_print_64 : decode cX1_print 64 = .ok (.getfield 28, 3) := by decide +kernel
theorem dX1_print_67 : decode cX1_print 67 = .ok (.invokevirtual 35, 3) := by decide +kernel
theorem dX1_print_70 : decode cX1_print 70 = .ok (.iastore, 1) := by decide +kernel
theorem dX1_print_71 : decode cX1_print 71 = .ok (.aload_n 0, 1) := by decide +kernel
theorem dX1_print_72 : decode cX1_print 72 = .ok (.getfield 11, 3) := by decide +kernel
theorem dX1_print_75 : decode cX1_print 75 = .ok (.iload_n 2, 1) := by decide +kernel
theorem dX1_print_76 : decode cX1_print 76 = .ok (.iconst 4, 1) := by decide +kernel
theorem dX1_print_77 : decode cX1_print 77 = .ok (.iadd, 1) := by decide +kernel
theorem dX1_print_78 : decode cX1_print 78 = .ok (.aload_n 1, 1) := by decide +kernel
theorem dX1_print_79 : decode cX1_print 79 = .ok (.aload_n 1, 1) := by decide +kernel
theorem dX1_print_80 : decode cX1_print 80 = .ok (.getfield 28, 3) := by decide +kernel
theorem dX1_print_83 : decode cX1_print 83 = .ok (.invokevirtual 38, 3) := by decide +kernel
theorem dX1_print_86 : decode cX1_print 86 = .ok (.iastore, 1) := by decide +kernel
theorem dX1_print_87 : decode cX1_print 87 = .ok (.aload_n 0, 1) := by decide +kernel
theorem dX1_print_88 : decode cX1_print 88 = .ok (.dup, 1) := by decide +kernel
theorem dX1_print_89 : decode cX1_print 89 = .ok (.getfield 15, 3) := by decide +kernel
theorem dX1_print_92 : decode cX1_print 92 = .ok (.iconst 1, 1) := by decide +kernel
theorem dX1_print_93 : decode cX1_print 93 = .ok (.iadd, 1) := by decide +kernel
theorem dX1_print_94 : decode cX1_print 94 = .ok (.putfield 15, 3) := by decide +kernel
theorem dX1_print_97 : decode cX1_print 97 = .ok (.return_, 1) := by decide +kernel
theorem dX1_number_0 : decode cX1_number 0 = .ok (.iload_n 1, 1) := by decide +kernel
theorem dX1_number_1 : decode cX1_number 1 = .ok (.ifCond .lt 20, 3) := by decide +kernel
theorem dX1_number_4 : decode cX1_number 4 = .ok (.iload_n 1, 1) := by decide +kernel
theorem dX1_number_5 : decode cX1_number 5 = .ok (.aload_n 0, 1) := by decide +kernel
theorem dX1_number_6 : decode cX1_number 6 = .ok (.getfield 15, 3) := by decide +kernel
theorem dX1_number_9 : decode cX1_number 9 = .ok (.if_icmp .ge 12, 3) := by decide +kernel
theorem dX1_number_12 : decode cX1_number 12 = .ok (.iload_n 2, 1) := by decide +kernel
theorem dX1_number_13 : decode cX1_number 13 = .ok (.ifCond .lt 8, 3) := by decide +kernel
theorem dX1_number_16 : decode cX1_number 16 = .ok (.iload_n 2, 1) := by decide +kernel
theorem dX1_number_17 : decode cX1_number 17 = .ok (.iconst 5, 1) := by decide +kernel
theorem dX1_number_18 : decode cX1_number 18 = .ok (.if_icmp .lt 5, 3) := by decide +kernel
theorem dX1_number_21 : decode cX1_number 21 = .ok (.iconst (-1), 1) := by decide +kernel
theorem dX1_number_22 : decode cX1_number 22 = .ok (.ireturn, 1) := by decide +kernel
theorem dX1_number_23 : decode cX1_number 23 = .ok (.aload_n 0, 1) := by decide +kernel
theorem dX1_number_24 : decode cX1_number 24 = .ok (.getfield 11, 3) := by decide +kernel
theorem dX1_number_27 : decode cX1_number 27 = .ok (.iload_n 1, 1) := by decide +kernel
theorem dX1_number_28 : decode cX1_number 28 = .ok (.iconst 5, 1) := by decide +kernel
theorem dX1_number_29 : decode cX1_number 29 = .ok (.imul, 1) := by decide +kernel
theorem dX1_number_30 : decode cX1_number 30 = .ok (.iload_n 2, 1) := by decide +kernel
theorem dX1_number_31 : decode cX1_number 31 = .ok (.iadd, 1) := by decide +kernel
theorem dX1_number_32 : decode cX1_number 32 = .ok (.iaload, 1) := by decide +kernel
theorem dX1_number_33 : decode cX1_number 33 = .ok (.ireturn, 1) := by decide +kernel
set_option maxRecDepth 20000 in
theorem ggX1_latestIn_X1_number : GoodIn wsX1_latestIn wsX1_number := goodIn_r _ [6, 1, 7, 8, 9] (by decide +kernel) (by decide +kernel)
set_option maxRecDepth 20000 in
theorem gX1_latestIn_X1_number : GoodIn wsX1_latestIn (wsV RX1 41 RX1 yX1_number wsX1_number) := goodIn_app (goodIn_of _ (by decide +kernel)) ggX1_latestIn_X1_number
theorem dX1_latestIn_0 : decode cX1_latestIn 0 = .ok (.aload_n 0, 1) := by decide +kernel
theorem dX1_latestIn_1 : decode cX1_latestIn 1 = .ok (.getfield 15, 3) := by decide +kernel
theorem dX1_latestIn_4 : decode cX1_latestIn 4 = .ok (.iconst 1, 1) := by decide +kernel
theorem dX1_latestIn_5 : decode cX1_latestIn 5 = .ok (.isub, 1) := by decide +kernel
theorem dX1_latestIn_6 : decode cX1_latestIn 6 = .ok (.istore_n 2, 1) := by decide +kernel
theorem dX1_latestIn_7 : decode cX1_latestIn 7 = .ok (.iload_n 2, 1) := by decide +kernel
theorem dX1_latestIn_8 : decode cX1_latestIn 8 = .ok (.ifCond .lt 21, 3) := by decide +kernel
theorem dX1_latestIn_11 : decode cX1_latestIn 11 = .ok (.aload_n 0, 1) := by decide +kernel
theorem dX1_latestIn_12 : decode cX1_latestIn 12 = .ok (.iload_n 2, 1) := by decide +kernel
theorem dX1_latestIn_13 : decode cX1_latestIn 13 = .ok (.iconst 1, 1) := by decide +kernel
theorem dX1_latestIn_14 : decode cX1_latestIn 14 = .ok (.invokevirtual 41, 3) := by decide +kernel
theorem dX1_latestIn_17 : decode cX1_latestIn 17 = .ok (.iload_n 1, 1) := by decide +kernel
theorem dX1_latestIn_18 : decode cX1_latestIn 18 = .ok (.if_icmp .ne 5, 3) := by decide +kernel
theorem dX1_latestIn_21 : decode cX1_latestIn 21 = .ok (.iload_n 2, 1) := by decide +kernel
theorem dX1_latestIn_22 : decode cX1_latestIn 22 = .ok (.ireturn, 1) := by decide +kernel
theorem dX1_latestIn_23 : decode cX1_latestIn 23 = .ok (.iinc 2 (-1), 3) := by decide +kernel
theorem dX1_latestIn_26 : decode cX1_latestIn 26 = .ok (.goto (-19), 3) := by decide +kernel
theorem dX1_latestIn_29 : decode cX1_latestIn 29 = .ok (.iconst (-1), 1) := by decide +kernel
theorem dX1_latestIn_30 : decode cX1_latestIn 30 = .ok (.ireturn, 1) := by decide +kernel
set_option maxRecDepth 20000 in
theorem ggX1_readingsIn_X1_number : GoodIn wsX1_readingsIn wsX1_number := goodIn_r _ [6, 1, 7, 8, 9] (by decide +kernel) (by decide +kernel)
set_option maxRecDepth 20000 in
theorem gX1_readingsIn_X1_number : GoodIn wsX1_readingsIn (wsV RX1 41 RX1 yX1_number wsX1_number) := goodIn_app (goodIn_of _ (by decide +kernel)) ggX1_readingsIn_X1_number
theorem dX1_readingsIn_0 : decode cX1_readingsIn 0 = .ok (.iconst 0, 1) := by decide +kernel
theorem dX1_readingsIn_1 : decode cX1_readingsIn 1 = .ok (.istore_n 2, 1) := by decide +kernel
theorem dX1_readingsIn_2 : decode cX1_readingsIn 2 = .ok (.iconst 0, 1) := by decide +kernel
theorem dX1_readingsIn_3 : decode cX1_readingsIn 3 = .ok (.istore_n 3, 1) := by decide +kernel
theorem dX1_readingsIn_4 : decode cX1_readingsIn 4 = .ok (.iload_n 3, 1) := by decide +kernel
theorem dX1_readingsIn_5 : decode cX1_readingsIn 5 = .ok (.aload_n 0, 1) := by decide +kernel
theorem dX1_readingsIn_6 : decode cX1_readingsIn 6 = .ok (.getfield 15, 3) := by decide +kernel
theorem dX1_readingsIn_9 : decode cX1_readingsIn 9 = .ok (.if_icmp .ge 22, 3) := by decide +kernel
theorem dX1_readingsIn_12 : decode cX1_readingsIn 12 = .ok (.aload_n 0, 1) := by decide +kernel
theorem dX1_readingsIn_13 : decode cX1_readingsIn 13 = .ok (.iload_n 3, 1) := by decide +kernel
theorem dX1_readingsIn_14 : decode cX1_readingsIn 14 = .ok (.iconst 1, 1) := by decide +kernel
theorem dX1_readingsIn_15 : decode cX1_readingsIn 15 = .ok (.invokevirtual 41, 3) := by decide +kernel
theorem dX1_readingsIn_18 : decode cX1_readingsIn 18 = .ok (.iload_n 1, 1) := by decide +kernel
theorem dX1_readingsIn_19 : decode cX1_readingsIn 19 = .ok (.if_icmp .ne 6, 3) := by decide +kernel
theorem dX1_readingsIn_22 : decode cX1_readingsIn 22 = .ok (.iinc 2 1, 3) := by decide +kernel
theorem dX1_readingsIn_25 : decode cX1_readingsIn 25 = .ok (.iinc 3 1, 3) := by decide +kernel
theorem dX1_readingsIn_28 : decode cX1_readingsIn 28 = .ok (.goto (-24), 3) := by decide +kernel
theorem dX1_readingsIn_31 : decode cX1_readingsIn 31 = .ok (.iload_n 2, 1) := by decide +kernel
theorem dX1_readingsIn_32 : decode cX1_readingsIn 32 = .ok (.ireturn, 1) := by decide +kernel
theorem dX1_copyFrom_0 : decode cX1_copyFrom 0 = .ok (.aload_n 1, 1) := by decide +kernel
theorem dX1_copyFrom_1 : decode cX1_copyFrom 1 = .ok (.getfield 11, 3) := by decide +kernel
theorem dX1_copyFrom_4 : decode cX1_copyFrom 4 = .ok (.iconst 0, 1) := by decide +kernel
theorem dX1_copyFrom_5 : decode cX1_copyFrom 5 = .ok (.aload_n 0, 1) := by decide +kernel
theorem dX1_copyFrom_6 : decode cX1_copyFrom 6 = .ok (.getfield 11, 3) := by decide +kernel
theorem dX1_copyFrom_9 : decode cX1_copyFrom 9 = .ok (.iconst 0, 1) := by decide +kernel
theorem dX1_copyFrom_10 : decode cX1_copyFrom 10 = .ok (.aload_n 0, 1) := by decide +kernel
theorem dX1_copyFrom_11 : decode cX1_copyFrom 11 = .ok (.getfield 11, 3) := by decide +kernel
theorem dX1_copyFrom_14 : decode cX1_copyFrom 14 = .ok (.arraylength, 1) := by decide +kernel
theorem dX1_copyFrom_15 : decode cX1_copyFrom 15 = .ok (.invokestatic 45, 3) := by decide +kernel
theorem dX1_copyFrom_18 : decode cX1_copyFrom 18 = .ok (.aload_n 0, 1) := by decide +kernel
theorem dX1_copyFrom_19 : decode cX1_copyFrom 19 = .ok (.aload_n 1, 1) := by decide +kernel
theorem dX1_copyFrom_20 : decode cX1_copyFrom 20 = .ok (.getfield 15, 3) := by decide +kernel
theorem dX1_copyFrom_23 : decode cX1_copyFrom 23 = .ok (.putfield 15, 3) := by decide +kernel
theorem dX1_copyFrom_26 : decode cX1_copyFrom 26 = .ok (.return_, 1) := by decide +kernel
set_option maxRecDepth 20000 in
theorem ggX2_init_X3_init : GoodIn wsX2_init wsX3_init := goodIn_r _ [11, 12, 2, 3, 13, 14, 15, 16, 17, 18, 19, 20, 21, 22, 23, 24, 25, 26, 27, 28, 29, 30, 31, 32, 33, 34, 35, 36, 37, 38, 39, 40, 41, 42, 43, 44, 45, 46, 47, 48, 49, 50, 51, 52, 53, 54, 55, 66, 67, 68, 69, 70, 71, 72, 73, 74, 75, 76, 59, 60, 61, 62, 63, 64, 65, 77, 78] (by decide +kernel) (by decide +kernel)
set_option maxRecDepth 20000 in
theorem gX2_init_X3_init_n22 : GoodIn wsX2_init (wsX3_init) := ggX2_init_X3_init
theorem dX2_init_0 : decode cX2_init 0 = .ok (.aload_n 0, 1) := by decide +kernel
theorem dX2_init_1 : decode cX2_init 1 = .ok (.invokespecial 1, 3) := by decide +kernel
theorem dX2_init_4 : decode cX2_init 4 = .ok (.aload_n 0, 1) := by decide +kernel
theorem dX2_init_5 : decode cX2_init 5 = .ok (.bipush 6, 2) := by decide +kernel
theorem dX2_init_7 : decode cX2_init 7 = .ok (.anewarray 9, 3) := by decide +kernel
theorem dX2_init_10 : decode cX2_init 10 = .ok (.putfield 11, 3) := by decide +kernel
theorem dX2_init_13 : decode cX2_init 13 = .ok (.aload_n 0, 1) := by decide +kernel
theorem dX2_init_14 : decode cX2_init 14 = .ok (.iconst 0, 1) := by decide +kernel
theorem dX2_init_15 : decode cX2_init 15 = .ok (.putfield 15, 3) := by decide +kernel
theorem dX2_init_18 : decode cX2_init 18 = .ok (.aload_n 0, 1) := by decide +kernel
theorem dX2_init_19 : decode cX2_init 19 = .ok (.iconst 0, 1) := by decide +kernel
theorem dX2_init_20 : decode cX2_init 20 = .ok (.putfield 19, 3) := by decide +kernel
theorem dX2_init_23 : decode cX2_init 23 = .ok (.iconst 0, 1) := by decide +kernel
theorem dX2_init_24 : decode cX2_init 24 = .ok (.istore_n 1, 1) := by decide +kernel
theorem dX2_init_25 : decode cX2_init 25 = .ok (.iload_n 1, 1) := by decide +kernel
theorem dX2_init_26 : decode cX2_init 26 = .ok (.bipush 6, 2) := by decide +kernel
theorem dX2_init_28 : decode cX2_init 28 = .ok (.if_icmp .ge 22, 3) := by decide +kernel
theorem dX2_init_31 : decode cX2_init 31 = .ok (.aload_n 0, 1) := by decide +kernel
theorem dX2_init_32 : decode cX2_init 32 = .ok (.getfield 11, 3) := by decide +kernel
theorem dX2_init_35 : decode cX2_init 35 = .ok (.iload_n 1, 1) := by decide +kernel
theorem dX2_init_36 : decode cX2_init 36 = .ok (.new 9, 3) := by decide +kernel
theorem dX2_init_39 : decode cX2_init 39 = .ok (.dup, 1) := by decide +kernel
theorem dX2_init_40 : decode cX2_init 40 = .ok (.invokespecial 22, 3) := by decide +kernel
theorem dX2_init_43 : decode cX2_init 43 = .ok (.aastore, 1) := by decide +kernel
theorem dX2_init_44 : decode cX2_init 44 = .ok (.iinc 1 1, 3) := by decide +kernel
theorem dX2_init_47 : decode cX2_init 47 = .ok (.goto (-22), 3) := by decide +kernel
theorem dX2_init_50 : decode cX2_init 50 = .ok (.return_, 1) := by decide +kernel
set_option maxRecDepth 20000 in
theorem ggX2_push_X3_copyFrom : GoodIn wsX2_push wsX3_copyFrom := goodIn_r _ [12, 13, 14, 15, 16, 17, 18, 19, 20, 21, 22, 23, 24, 25, 26, 27, 28, 29, 30, 31, 32, 33, 34, 35, 36, 37, 38, 39, 40, 41, 42, 43, 44, 45, 46, 47, 48, 52, 53, 54, 55, 56, 57, 58, 59, 60, 61, 62, 63, 64, 65, 66, 67, 68, 69, 70, 71] (by decide +kernel) (by decide +kernel)
set_option maxRecDepth 20000 in
theorem gX2_push_X3_copyFrom : GoodIn wsX2_push (wsV RX2 23 RX3 yX3_copyFrom wsX3_copyFrom) := goodIn_app (goodIn_of _ (by decide +kernel)) ggX2_push_X3_copyFrom
theorem dX2_push_0 : decode cX2_push 0 = .ok (.aload_n 0, 1) := by decide +kernel
theorem dX2_push_1 : decode cX2_push 1 = .ok (.getfield 11, 3) := by decide +kernel
theorem dX2_push_4 : decode cX2_push 4 = .ok (.aload_n 0, 1) := by decide +kernel
theorem dX2_push_5 : decode cX2_push 5 = .ok (.getfield 15, 3) := by decide +kernel
theorem dX2_push_8 : decode cX2_push 8 = .ok (.aaload, 1) := by decide +kernel
theorem dX2_push_9 : decode cX2_push 9 = .ok (.aload_n 1, 1) := by decide +kernel
theorem dX2_push_10 : decode cX2_push 10 = .ok (.invokevirtual 23, 3) := by decide +kernel
theorem dX2_push_13 : decode cX2_push 13 = .ok (.aload_n 0, 1) := by decide +kernel
theorem dX2_push_14 : decode cX2_push 14 = .ok (.aload_n 0, 1) := by decide +kernel
theorem dX2_push_15 : decode cX2_push 15 = .ok (.getfield 15, 3) := by decide +kernel
theorem dX2_push_18 : decode cX2_push 18 = .ok (.iconst 1, 1) := by decide +kernel
theorem dX2_push_19 : decode cX2_push 19 = .ok (.iadd, 1) := by decide +kernel
theorem dX2_push_20 : decode cX2_push 20 = .ok (.bipush 6, 2) := by decide +kernel
theorem dX2_push_22 : decode cX2_push 22 = .ok (.irem, 1) := by decide +kernel
theorem dX2_push_23 : decode cX2_push 23 = .ok (.putfield 15, 3) := by decide +kernel
theorem dX2_push_26 : decode cX2_push 26 = .ok (.aload_n 0, 1) := by decide +kernel
theorem dX2_push_27 : decode cX2_push 27 = .ok (.bipush 6, 2) := by decide +kernel
theorem dX2_push_29 : decode cX2_push 29 = .ok (.aload_n 0, 1) := by decide +kernel
theorem dX2_push_30 : decode cX2_push 30 = .ok (.getfield 19, 3) := by decide +kernel
theorem dX2_push_33 : decode cX2_push 33 = .ok (.iconst 1, 1) := by decide +kernel
theorem dX2_push_34 : decode cX2_push 34 = .ok (.iadd, 1) := by decide +kernel
theorem dX2_push_35 : decode cX2_push 35 = .ok (.invokestatic 27, 3) := by decide +kernel
theorem dX2_push_38 : decode cX2_push 38 = .ok (.putfield 19, 3) := by decide +kernel
theorem dX2_push_41 : decode cX2_push 41 = .ok (.return_, 1) := by decide +kernel
set_option maxRecDepth 20000 in
theorem ggX2_popInto_X3_copyFrom : GoodIn wsX2_popInto wsX3_copyFrom := goodIn_r _ [8, 9, 10, 11, 12, 13, 14, 15, 16, 17, 18, 19, 20, 21, 22, 23, 24, 25, 26, 27, 28, 29, 30, 31, 32, 33, 34, 35, 36, 37, 38, 39, 40, 41, 42, 43, 44, 48, 49, 50, 51, 52, 53, 54, 55, 56, 57, 58, 59, 60, 61, 62, 63, 64, 65, 66, 67] (by decide +kernel) (by decide +kernel)
set_option maxRecDepth 20000 in
theorem gX2_popInto_X3_copyFrom : GoodIn wsX2_popInto (wsV RX2 23 RX3 yX3_copyFrom wsX3_copyFrom) := goodIn_app (goodIn_of _ (by decide +kernel)) ggX2_popInto_X3_copyFrom
theorem dX2_popInto_0 : decode cX2_popInto 0 = .ok (.aload_n 0, 1) := by decide +kernel
theorem dX2_popInto_1 : decode cX2_popInto 1 = .ok (.getfield 19, 3) := by decide +kernel
theorem dX2_popInto_4 : decode cX2_popInto 4 = .ok (.ifCond .ne 4, 3) := by decide +kernel
theorem dX2_popInto_7 : decode cX2_popInto 7 = .ok (.return_, 1) := by decide +kernel
theorem dX2_popInto_8 : decode cX2_popInto 8 = .ok (.aload_n 0, 1) := by decide +kernel
theorem dX2_popInto_9 : decode cX2_popInto 9 = .ok (.aload_n 0, 1) := by decide +kernel
theorem dX2_popInto_10 : decode cX2_popInto 10 = .ok (.getfield 15, 3) := by decide +kernel
theorem dX2_popInto_13 : decode cX2_popInto 13 = .ok (.bipush 6, 2) := by decide +kernel
theorem dX2_popInto_15 : decode cX2_popInto 15 = .ok (.iadd, 1) := by decide +kernel
theorem dX2_popInto_16 : decode cX2_popInto 16 = .ok (.iconst 1, 1) := by decide +kernel
theorem dX2_popInto_17 : decode cX2_popInto 17 = .ok (.isub, 1) := by decide +kernel
theorem dX2_popInto_18 : decode cX2_popInto 18 = .ok (.bipush 6, 2) := by decide +kernel
theorem dX2_popInto_20 : decode cX2_popInto 20 = .ok (.irem, 1) := by decide +kernel
theorem dX2_popInto_21 : decode cX2_popInto 21 = .ok (.putfield 15, 3) := by decide +kernel
theorem dX2_popInto_24 : decode cX2_popInto 24 = .ok (.aload_n 0, 1) := by decide +kernel
theorem dX2_popInto_25 : decode cX2_popInto 25 = .ok (.dup, 1) := by decide +kernel
theorem dX2_popInto_26 : decode cX2_popInto 26 = .ok (.getfield 19, 3) := by decide +kernel
theorem dX2_popInto_29 : decode cX2_popInto 29 = .ok (.iconst 1, 1) := by decide +kernel
theorem dX2_popInto_30 : decode cX2_popInto 30 = .ok (.isub, 1) := by decide +kernel
theorem dX2_popInto_31 : decode cX2_popInto 31 = .ok (.putfield 19, 3) := by decide +kernel
theorem dX2_popInto_34 : decode cX2_popInto 34 = .ok (.aload_n 1, 1) := by decide +kernel
theorem dX2_popInto_35 : decode cX2_popInto 35 = .ok (.aload_n 0, 1) := by decide +kernel
theorem dX2_popInto_36 : decode cX2_popInto 36 = .ok (.getfield 11, 3) := by decide +kernel
theorem dX2_popInto_39 : decode cX2_popInto 39 = .ok (.aload_n 0, 1) := by decide +kernel
theorem dX2_popInto_40 : decode cX2_popInto 40 = .ok (.getfield 15, 3) := by decide +kernel
theorem dX2_popInto_43 : decode cX2_popInto 43 = .ok (.aaload, 1) := by decide +kernel
theorem dX2_popInto_44 : decode cX2_popInto 44 = .ok (.invokevirtual 23, 3) := by decide +kernel
theorem dX2_popInto_47 : decode cX2_popInto 47 = .ok (.return_, 1) := by decide +kernel
set_option maxRecDepth 20000 in
theorem ggX3_init_X4_init : GoodIn wsX3_init wsX4_init := goodIn_r _ [25, 26, 2, 3, 27, 28, 14, 15, 16, 17, 29, 30, 31, 32, 33, 34, 35, 36, 37, 38, 39, 40, 47, 48, 49, 50, 51, 52, 53, 54, 55, 56, 57] (by decide +kernel) (by decide +kernel)
set_option maxRecDepth 20000 in
theorem gX3_init_X4_init_n11 : GoodIn wsX3_init (wsX4_init) := ggX3_init_X4_init
set_option maxRecDepth 20000 in
theorem ggX3_init_X1_init : GoodIn wsX3_init wsX1_init := goodIn_r _ [42, 43, 2, 3, 44, 45, 46, 65, 66] (by decide +kernel) (by decide +kernel)
set_option maxRecDepth 20000 in
theorem gX3_init_X1_init_n20 : GoodIn wsX3_init (wsX1_init) := ggX3_init_X1_init
theorem dX3_init_0 : decode cX3_init 0 = .ok (.aload_n 0, 1) := by decide +kernel
theorem dX3_init_1 : decode cX3_init 1 = .ok (.invokespecial 3, 3) := by decide +kernel
theorem dX3_init_4 : decode cX3_init 4 = .ok (.aload_n 0, 1) := by decide +kernel
theorem dX3_init_5 : decode cX3_init 5 = .ok (.new 9, 3) := by decide +kernel
theorem dX3_init_8 : decode cX3_init 8 = .ok (.dup, 1) := by decide +kernel
theorem dX3_init_9 : decode cX3_init 9 = .ok (.invokespecial 11, 3) := by decide +kernel
theorem dX3_init_12 : decode cX3_init 12 = .ok (.putfield 12, 3) := by decide +kernel
theorem dX3_init_15 : decode cX3_init 15 = .ok (.aload_n 0, 1) := by decide +kernel
theorem dX3_init_16 : decode cX3_init 16 = .ok (.new 18, 3) := by decide +kernel
theorem dX3_init_19 : decode cX3_init 19 = .ok (.dup, 1) := by decide +kernel
theorem dX3_init_20 : decode cX3_init 20 = .ok (.invokespecial 20, 3) := by decide +kernel
theorem dX3_init_23 : decode cX3_init 23 = .ok (.putfield 21, 3) := by decide +kernel
theorem dX3_init_26 : decode cX3_init 26 = .ok (.aload_n 0, 1) := by decide +kernel
theorem dX3_init_27 : decode cX3_init 27 = .ok (.getstatic 25, 3) := by decide +kernel
theorem dX3_init_30 : decode cX3_init 30 = .ok (.invokevirtual 29, 3) := by decide +kernel
theorem dX3_init_33 : decode cX3_init 33 = .ok (.checkcast 30, 3) := by decide +kernel
theorem dX3_init_36 : decode cX3_init 36 = .ok (.putfield 34, 3) := by decide +kernel
theorem dX3_init_39 : decode cX3_init 39 = .ok (.aload_n 0, 1) := by decide +kernel
theorem dX3_init_40 : decode cX3_init 40 = .ok (.iconst 0, 1) := by decide +kernel
theorem dX3_init_41 : decode cX3_init 41 = .ok (.putfield 37, 3) := by decide +kernel
theorem dX3_init_44 : decode cX3_init 44 = .ok (.aload_n 0, 1) := by decide +kernel
theorem dX3_init_45 : decode cX3_init 45 = .ok (.iconst (-1), 1) := by decide +kernel
theorem dX3_init_46 : decode cX3_init 46 = .ok (.putfield 41, 3) := by decide +kernel
theorem dX3_init_49 : decode cX3_init 49 = .ok (.aload_n 0, 1) := by decide +kernel
theorem dX3_init_50 : decode cX3_init 50 = .ok (.iconst (-1), 1) := by decide +kernel
theorem dX3_init_51 : decode cX3_init 51 = .ok (.putfield 44, 3) := by decide +kernel
theorem dX3_init_54 : decode cX3_init 54 = .ok (.aload_n 0, 1) := by decide +kernel
theorem dX3_init_55 : decode cX3_init 55 = .ok (.iconst (-1), 1) := by decide +kernel
theorem dX3_init_56 : decode cX3_init 56 = .ok (.putfield 47, 3) := by decide +kernel
theorem dX3_init_59 : decode cX3_init 59 = .ok (.return_, 1) := by decide +kernel
set_option maxRecDepth 20000 in
theorem ggX3_whyNoReading_X4_swingIn : GoodIn wsX3_whyNoReading wsX4_swingIn := goodIn_r _ [10, 11, 12, 13, 14, 15, 16, 38, 39, 40, 41, 42, 43, 44, 45, 46, 47, 48] (by decide +kernel) (by decide +kernel)
set_option maxRecDepth 20000 in
theorem gX3_whyNoReading_X4_swingIn : GoodIn wsX3_whyNoReading (wsV RX3 53 RX4 yX4_swingIn wsX4_swingIn) := goodIn_app (goodIn_of _ (by decide +kernel)) ggX3_whyNoReading_X4_swingIn
set_option maxRecDepth 20000 in
theorem ggX3_whyNoReading_X4_beatErrorIn : GoodIn wsX3_whyNoReading wsX4_beatErrorIn := goodIn_r _ [20, 21, 22, 23, 15, 24, 12, 38, 39, 40, 41, 42, 43, 44, 45, 46, 47, 48] (by decide +kernel) (by decide +kernel)
set_option maxRecDepth 20000 in
theorem gX3_whyNoReading_X4_beatErrorIn : GoodIn wsX3_whyNoReading (wsV RX3 57 RX4 yX4_beatErrorIn wsX4_beatErrorIn) := goodIn_app (goodIn_of _ (by decide +kernel)) ggX3_whyNoReading_X4_beatErrorIn
set_option maxRecDepth 20000 in
theorem ggX3_whyNoReading_X1_isFull : GoodIn wsX3_whyNoReading wsX1_isFull := goodIn_r _ [29, 30, 49, 50] (by decide +kernel) (by decide +kernel)
set_option maxRecDepth 20000 in
theorem gX3_whyNoReading_X1_isFull : GoodIn wsX3_whyNoReading (wsV RX3 63 RX1 yX1_isFull wsX1_isFull) := goodIn_app (goodIn_of _ (by decide +kernel)) ggX3_whyNoReading_X1_isFull
theorem dX3_whyNoReading_0 : decode cX3_whyNoReading 0 = .ok (.aload_n 0, 1) := by decide +kernel
theorem dX3_whyNoReading_1 : decode cX3_whyNoReading 1 = .ok (.getfield 12, 3) := by decide +kernel
theorem dX3_whyNoReading_4 : decode cX3_whyNoReading 4 = .ok (.getfield 50, 3) := by decide +kernel
theorem dX3_whyNoReading_7 : decode cX3_whyNoReading 7 = .ok (.ifCond .gt 5, 3) := by decide +kernel
theorem dX3_whyNoReading_10 : decode cX3_whyNoReading 10 = .ok (.iconst 1, 1) := by decide +kernel
theorem dX3_whyNoReading_11 : decode cX3_whyNoReading 11 = .ok (.ireturn, 1) := by decide +kernel
theorem dX3_whyNoReading_12 : decode cX3_whyNoReading 12 = .ok (.aload_n 0, 1) := by decide +kernel
theorem dX3_whyNoReading_13 : decode cX3_whyNoReading 13 = .ok (.getfield 12, 3) := by decide +kernel
theorem dX3_whyNoReading_16 : decode cX3_whyNoReading 16 = .ok (.iload_n 1, 1) := by decide +kernel
theorem dX3_whyNoReading_17 : decode cX3_whyNoReading 17 = .ok (.invokevirtual 53, 3) := by decide +kernel
theorem dX3_whyNoReading_20 : decode cX3_whyNoReading 20 = .ok (.bipush 120, 2) := by decide +kernel
theorem dX3_whyNoReading_22 : decode cX3_whyNoReading 22 = .ok (.if_icmp .ge 5, 3) := by decide +kernel
theorem dX3_whyNoReading_25 : decode cX3_whyNoReading 25 = .ok (.iconst 2, 1) := by decide +kernel
theorem dX3_whyNoReading_26 : decode cX3_whyNoReading 26 = .ok (.ireturn, 1) := by decide +kernel
theorem dX3_whyNoReading_27 : decode cX3_whyNoReading 27 = .ok (.aload_n 0, 1) := by decide +kernel
theorem dX3_whyNoReading_28 : decode cX3_whyNoReading 28 = .ok (.getfield 12, 3) := by decide +kernel
theorem dX3_whyNoReading_31 : decode cX3_whyNoReading 31 = .ok (.iload_n 1, 1) := by decide +kernel
theorem dX3_whyNoReading_32 : decode cX3_whyNoReading 32 = .ok (.invokevirtual 57, 3) := by decide +kernel
theorem dX3_whyNoReading_35 : decode cX3_whyNoReading 35 = .ok (.aload_n 0, 1) := by decide +kernel
theorem dX3_whyNoReading_36 : decode cX3_whyNoReading 36 = .ok (.getfield 34, 3) := by decide +kernel
theorem dX3_whyNoReading_39 : decode cX3_whyNoReading 39 = .ok (.iconst 0, 1) := by decide +kernel
theorem dX3_whyNoReading_40 : decode cX3_whyNoReading 40 = .ok (.iaload, 1) := by decide +kernel
theorem dX3_whyNoReading_41 : decode cX3_whyNoReading 41 = .ok (.if_icmp .le 5, 3) := by decide +kernel
theorem dX3_whyNoReading_44 : decode cX3_whyNoReading 44 = .ok (.iconst 3, 1) := by decide +kernel
theorem dX3_whyNoReading_45 : decode cX3_whyNoReading 45 = .ok (.ireturn, 1) := by decide +kernel
theorem dX3_whyNoReading_46 : decode cX3_whyNoReading 46 = .ok (.aload_n 0, 1) := by decide +kernel
theorem dX3_whyNoReading_47 : decode cX3_whyNoReading 47 = .ok (.getfield 12, 3) := by decide +kernel
theorem dX3_whyNoReading_50 : decode cX3_whyNoReading 50 = .ok (.getfield 60, 3) := by decide +kernel
theorem dX3_whyNoReading_53 : decode cX3_whyNoReading 53 = .ok (.aload_n 0, 1) := by decide +kernel
theorem dX3_whyNoReading_54 : decode cX3_whyNoReading 54 = .ok (.getfield 34, 3) := by decide +kernel
theorem dX3_whyNoReading_57 : decode cX3_whyNoReading 57 = .ok (.iconst 1, 1) := by decide +kernel
theorem dX3_whyNoReading_58 : decode cX3_whyNoReading 58 = .ok (.iaload, 1) := by decide +kernel
theorem dX3_whyNoReading_59 : decode cX3_whyNoReading 59 = .ok (.if_icmp .le 5, 3) := by decide +kernel
theorem dX3_whyNoReading_62 : decode cX3_whyNoReading 62 = .ok (.iconst 4, 1) := by decide +kernel
theorem dX3_whyNoReading_63 : decode cX3_whyNoReading 63 = .ok (.ireturn, 1) := by decide +kernel
theorem dX3_whyNoReading_64 : decode cX3_whyNoReading 64 = .ok (.aload_n 0, 1) := by decide +kernel
theorem dX3_whyNoReading_65 : decode cX3_whyNoReading 65 = .ok (.getfield 21, 3) := by decide +kernel
theorem dX3_whyNoReading_68 : decode cX3_whyNoReading 68 = .ok (.invokevirtual 63, 3) := by decide +kernel
theorem dX3_whyNoReading_71 : decode cX3_whyNoReading 71 = .ok (.ifCond .eq 7, 3) := by decide +kernel
theorem dX3_whyNoReading_74 : decode cX3_whyNoReading 74 = .ok (.iconst 5, 1) := by decide +kernel
theorem dX3_whyNoReading_75 : decode cX3_whyNoReading 75 = .ok (.goto 4, 3) := by decide +kernel
theorem dX3_whyNoReading_78 : decode cX3_whyNoReading 78 = .ok (.iconst 0, 1) := by decide +kernel
theorem dX3_whyNoReading_79 : decode cX3_whyNoReading 79 = .ok (.ireturn, 1) := by decide +kernel
set_option maxRecDepth 20000 in
theorem ggX3_makeReading_X1_print : GoodIn wsX3_makeReading wsX1_print := goodIn_r _ [9, 10, 11, 12, 13, 14, 15, 16, 8, 17, 18, 19, 20, 21, 22, 23, 24, 25, 26, 27, 28, 29, 30, 31, 32, 33, 34, 35, 36, 37, 38, 39, 40, 41, 42, 43, 44, 45, 46, 47, 48, 49, 50, 51, 52, 53, 54, 55, 74, 75, 63, 64, 65, 66, 67, 68, 69, 70, 71, 72, 73] (by decide +kernel) (by decide +kernel)
set_option maxRecDepth 20000 in
theorem gX3_makeReading_X1_print : GoodIn wsX3_makeReading (wsV RX3 70 RX1 yX1_print wsX1_print) := goodIn_app (goodIn_of _ (by decide +kernel)) ggX3_makeReading_X1_print
theorem dX3_makeReading_0 : decode cX3_makeReading 0 = .ok (.aload_n 0, 1) := by decide +kernel
theorem dX3_makeReading_1 : decode cX3_makeReading 1 = .ok (.getfield 12, 3) := by decide +kernel
theorem dX3_makeReading_4 : decode cX3_makeReading 4 = .ok (.iload_n 1, 1) := by decide +kernel
theorem dX3_makeReading_5 : decode cX3_makeReading 5 = .ok (.putfield 67, 3) := by decide +kernel
theorem dX3_makeReading_8 : decode cX3_makeReading 8 = .ok (.aload_n 0, 1) := by decide +kernel
theorem dX3_makeReading_9 : decode cX3_makeReading 9 = .ok (.getfield 21, 3) := by decide +kernel
theorem dX3_makeReading_12 : decode cX3_makeReading 12 = .ok (.aload_n 0, 1) := by decide +kernel
theorem dX3_makeReading_13 : decode cX3_makeReading 13 = .ok (.getfield 12, 3) := by decide +kernel
theorem dX3_makeReading_16 : decode cX3_makeReading 16 = .ok (.invokevirtual 70, 3) := by decide +kernel
theorem dX3_makeReading_19 : decode cX3_makeReading 19 = .ok (.aload_n 0, 1) := by decide +kernel
theorem dX3_makeReading_20 : decode cX3_makeReading 20 = .ok (.dup, 1) := by decide +kernel
theorem dX3_makeReading_21 : decode cX3_makeReading 21 = .ok (.getfield 37, 3) := by decide +kernel
theorem dX3_makeReading_24 : decode cX3_makeReading 24 = .ok (.iconst 1, 1) := by decide +kernel
theorem dX3_makeReading_25 : decode cX3_makeReading 25 = .ok (.iadd, 1) := by decide +kernel
theorem dX3_makeReading_26 : decode cX3_makeReading 26 = .ok (.putfield 37, 3) := by decide +kernel
theorem dX3_makeReading_29 : decode cX3_makeReading 29 = .ok (.return_, 1) := by decide +kernel
set_option maxRecDepth 20000 in
theorem ggX3_whyNoDayRate_X1_latestIn : GoodIn wsX3_whyNoDayRate wsX1_latestIn := goodIn_r _ [18, 19, 20, 21, 22, 17, 23, 24, 44, 45] (by decide +kernel) (by decide +kernel)
set_option maxRecDepth 20000 in
theorem gX3_whyNoDayRate_X1_latestIn : GoodIn wsX3_whyNoDayRate (wsV RX3 76 RX1 yX1_latestIn wsX1_latestIn) := goodIn_app (goodIn_of _ (by decide +kernel)) ggX3_whyNoDayRate_X1_latestIn
set_option maxRecDepth 20000 in
theorem ggX3_whyNoDayRate_X1_number : GoodIn wsX3_whyNoDayRate wsX1_number := goodIn_r _ [23, 19, 24, 44, 45] (by decide +kernel) (by decide +kernel)
set_option maxRecDepth 20000 in
theorem gX3_whyNoDayRate_X1_number : GoodIn wsX3_whyNoDayRate (wsV RX3 79 RX1 yX1_number wsX1_number) := goodIn_app (goodIn_of _ (by decide +kernel)) ggX3_whyNoDayRate_X1_number
theorem dX3_whyNoDayRate_0 : decode cX3_whyNoDayRate 0 = .ok (.ldc 74, 2) := by decide +kernel
theorem dX3_whyNoDayRate_2 : decode cX3_whyNoDayRate 2 = .ok (.istore_n 1, 1) := by decide +kernel
theorem dX3_whyNoDayRate_3 : decode cX3_whyNoDayRate 3 = .ok (.ldc 74, 2) := by decide +kernel
theorem dX3_whyNoDayRate_5 : decode cX3_whyNoDayRate 5 = .ok (.istore_n 2, 1) := by decide +kernel
theorem dX3_whyNoDayRate_6 : decode cX3_whyNoDayRate 6 = .ok (.ldc 75, 2) := by decide +kernel
theorem dX3_whyNoDayRate_8 : decode cX3_whyNoDayRate 8 = .ok (.istore_n 3, 1) := by decide +kernel
theorem dX3_whyNoDayRate_9 : decode cX3_whyNoDayRate 9 = .ok (.iconst 0, 1) := by decide +kernel
theorem dX3_whyNoDayRate_10 : decode cX3_whyNoDayRate 10 = .ok (.istore 4, 2) := by decide +kernel
theorem dX3_whyNoDayRate_12 : decode cX3_whyNoDayRate 12 = .ok (.iload 4, 2) := by decide +kernel
theorem dX3_whyNoDayRate_14 : decode cX3_whyNoDayRate 14 = .ok (.bipush 6, 2) := by decide +kernel
theorem dX3_whyNoDayRate_16 : decode cX3_whyNoDayRate 16 = .ok (.if_icmp .ge 70, 3) := by decide +kernel
theorem dX3_whyNoDayRate_19 : decode cX3_whyNoDayRate 19 = .ok (.aload_n 0, 1) := by decide +kernel
theorem dX3_whyNoDayRate_20 : decode cX3_whyNoDayRate 20 = .ok (.getfield 21, 3) := by decide +kernel
theorem dX3_whyNoDayRate_23 : decode cX3_whyNoDayRate 23 = .ok (.iload 4, 2) := by decide +kernel
theorem dX3_whyNoDayRate_25 : decode cX3_whyNoDayRate 25 = .ok (.invokevirtual 76, 3) := by decide +kernel
theorem dX3_whyNoDayRate_28 : decode cX3_whyNoDayRate 28 = .ok (.istore 5, 2) := by decide +kernel
theorem dX3_whyNoDayRate_30 : decode cX3_whyNoDayRate 30 = .ok (.iload 5, 2) := by decide +kernel
theorem dX3_whyNoDayRate_32 : decode cX3_whyNoDayRate 32 = .ok (.iconst (-1), 1) := by decide +kernel
theorem dX3_whyNoDayRate_33 : decode cX3_whyNoDayRate 33 = .ok (.if_icmp .ne 6, 3) := by decide +kernel
theorem dX3_whyNoDayRate_36 : decode cX3_whyNoDayRate 36 = .ok (.bipush 6, 2) := by decide +kernel
theorem dX3_whyNoDayRate_38 : decode cX3_whyNoDayRate 38 = .ok (.ireturn, 1) := by decide +kernel
theorem dX3_whyNoDayRate_39 : decode cX3_whyNoDayRate 39 = .ok (.aload_n 0, 1) := by decide +kernel
theorem dX3_whyNoDayRate_40 : decode cX3_whyNoDayRate 40 = .ok (.getfield 21, 3) := by decide +kernel
theorem dX3_whyNoDayRate_43 : decode cX3_whyNoDayRate 43 = .ok (.iload 5, 2) := by decide +kernel
theorem dX3_whyNoDayRate_45 : decode cX3_whyNoDayRate 45 = .ok (.iconst 2, 1) := by decide +kernel
theorem dX3_whyNoDayRate_46 : decode cX3_whyNoDayRate 46 = .ok (.invokevirtual 79, 3) := by decide +kernel
theorem dX3_whyNoDayRate_49 : decode cX3_whyNoDayRate 49 = .ok (.istore 6, 2) := by decide +kernel
theorem dX3_whyNoDayRate_51 : decode cX3_whyNoDayRate 51 = .ok (.iload_n 1, 1) := by decide +kernel
theorem dX3_whyNoDayRate_52 : decode cX3_whyNoDayRate 52 = .ok (.aload_n 0, 1) := by decide +kernel
theorem dX3_whyNoDayRate_53 : decode cX3_whyNoDayRate 53 = .ok (.getfield 21, 3) := by decide +kernel
theorem dX3_whyNoDayRate_56 : decode cX3_whyNoDayRate 56 = .ok (.iload 5, 2) := by decide +kernel
theorem dX3_whyNoDayRate_58 : decode cX3_whyNoDayRate 58 = .ok (.iconst 0, 1) := by decide +kernel
theorem dX3_whyNoDayRate_59 : decode cX3_whyNoDayRate 59 = .ok (.invokevirtual 79, 3) := by decide +kernel
theorem dX3_whyNoDayRate_62 : decode cX3_whyNoDayRate 62 = .ok (.invokestatic 83, 3) := by decide +kernel
theorem dX3_whyNoDayRate_65 : decode cX3_whyNoDayRate 65 = .ok (.istore_n 1, 1) := by decide +kernel
theorem dX3_whyNoDayRate_66 : decode cX3_whyNoDayRate 66 = .ok (.iload_n 2, 1) := by decide +kernel
theorem dX3_whyNoDayRate_67 : decode cX3_whyNoDayRate 67 = .ok (.iload 6, 2) := by decide +kernel
theorem dX3_whyNoDayRate_69 : decode cX3_whyNoDayRate 69 = .ok (.invokestatic 83, 3) := by decide +kernel
theorem dX3_whyNoDayRate_72 : decode cX3_whyNoDayRate 72 = .ok (.istore_n 2, 1) := by decide +kernel
theorem dX3_whyNoDayRate_73 : decode cX3_whyNoDayRate 73 = .ok (.iload_n 3, 1) := by decide +kernel
theorem dX3_whyNoDayRate_74 : decode cX3_whyNoDayRate 74 = .ok (.iload 6, 2) := by decide +kernel
theorem dX3_whyNoDayRate_76 : decode cX3_whyNoDayRate 76 = .ok (.invokestatic 88, 3) := by decide +kernel
theorem dX3_whyNoDayRate_79 : decode cX3_whyNoDayRate 79 = .ok (.istore_n 3, 1) := by decide +kernel
theorem dX3_whyNoDayRate_80 : decode cX3_whyNoDayRate 80 = .ok (.iinc 4 1, 3) := by decide +kernel
theorem dX3_whyNoDayRate_83 : decode cX3_whyNoDayRate 83 = .ok (.goto (-71), 3) := by decide +kernel
theorem dX3_whyNoDayRate_86 : decode cX3_whyNoDayRate 86 = .ok (.aload_n 0, 1) := by decide +kernel
theorem dX3_whyNoDayRate_87 : decode cX3_whyNoDayRate 87 = .ok (.getfield 12, 3) := by decide +kernel
theorem dX3_whyNoDayRate_90 : decode cX3_whyNoDayRate 90 = .ok (.getfield 91, 3) := by decide +kernel
theorem dX3_whyNoDayRate_93 : decode cX3_whyNoDayRate 93 = .ok (.iload_n 1, 1) := by decide +kernel
theorem dX3_whyNoDayRate_94 : decode cX3_whyNoDayRate 94 = .ok (.isub, 1) := by decide +kernel
theorem dX3_whyNoDayRate_95 : decode cX3_whyNoDayRate 95 = .ok (.aload_n 0, 1) := by decide +kernel
theorem dX3_whyNoDayRate_96 : decode cX3_whyNoDayRate 96 = .ok (.getfield 34, 3) := by decide +kernel
theorem dX3_whyNoDayRate_99 : decode cX3_whyNoDayRate 99 = .ok (.iconst 2, 1) := by decide +kernel
theorem dX3_whyNoDayRate_100 : decode cX3_whyNoDayRate 100 = .ok (.iaload, 1) := by decide +kernel
theorem dX3_whyNoDayRate_101 : decode cX3_whyNoDayRate 101 = .ok (.if_icmp .le 6, 3) := by decide +kernel
theorem dX3_whyNoDayRate_104 : decode cX3_whyNoDayRate 104 = .ok (.bipush 7, 2) := by decide +kernel
theorem dX3_whyNoDayRate_106 : decode cX3_whyNoDayRate 106 = .ok (.ireturn, 1) := by decide +kernel
theorem dX3_whyNoDayRate_107 : decode cX3_whyNoDayRate 107 = .ok (.iload_n 3, 1) := by decide +kernel
theorem dX3_whyNoDayRate_108 : decode cX3_whyNoDayRate 108 = .ok (.iload_n 2, 1) := by decide +kernel
theorem dX3_whyNoDayRate_109 : decode cX3_whyNoDayRate 109 = .ok (.isub, 1) := by decide +kernel
theorem dX3_whyNoDayRate_110 : decode cX3_whyNoDayRate 110 = .ok (.aload_n 0, 1) := by decide +kernel
theorem dX3_whyNoDayRate_111 : decode cX3_whyNoDayRate 111 = .ok (.getfield 34, 3) := by decide +kernel
theorem dX3_whyNoDayRate_114 : decode cX3_whyNoDayRate 114 = .ok (.iconst 3, 1) := by decide +kernel
theorem dX3_whyNoDayRate_115 : decode cX3_whyNoDayRate 115 = .ok (.iaload, 1) := by decide +kernel
theorem dX3_whyNoDayRate_116 : decode cX3_whyNoDayRate 116 = .ok (.if_icmp .le 8, 3) := by decide +kernel
theorem dX3_whyNoDayRate_119 : decode cX3_whyNoDayRate 119 = .ok (.bipush 8, 2) := by decide +kernel
theorem dX3_whyNoDayRate_121 : decode cX3_whyNoDayRate 121 = .ok (.goto 4, 3) := by decide +kernel
theorem dX3_whyNoDayRate_124 : decode cX3_whyNoDayRate 124 = .ok (.iconst 0, 1) := by decide +kernel
theorem dX3_whyNoDayRate_125 : decode cX3_whyNoDayRate 125 = .ok (.ireturn, 1) := by decide +kernel
set_option maxRecDepth 20000 in
theorem ggX3_dayRateByPoses_X3_whyNoDayRate : GoodIn wsX3_dayRateByPoses wsX3_whyNoDayRate := goodIn_r _ [6, 7, 8, 1, 9, 10, 11, 12, 13, 14, 15, 16, 17, 18, 19, 20, 21, 22, 23, 24, 25, 26, 27, 28, 29, 30, 35, 36, 37, 38, 39, 40, 41, 42, 43, 44, 45, 46, 47, 48, 49, 50, 51, 52, 53, 54] (by decide +kernel) (by decide +kernel)
set_option maxRecDepth 20000 in
theorem gX3_dayRateByPoses_X3_whyNoDayRate : GoodIn wsX3_dayRateByPoses (wsV RX3 94 RX3 yX3_whyNoDayRate wsX3_whyNoDayRate) := goodIn_app (goodIn_of _ (by decide +kernel)) ggX3_dayRateByPoses_X3_whyNoDayRate
set_option maxRecDepth 20000 in
theorem ggX3_dayRateByPoses_X1_latestIn : GoodIn wsX3_dayRateByPoses wsX1_latestIn := goodIn_r _ [23, 24, 25, 26, 27, 22, 28, 29, 53, 54] (by decide +kernel) (by decide +kernel)
set_option maxRecDepth 20000 in
theorem gX3_dayRateByPoses_X1_latestIn : GoodIn wsX3_dayRateByPoses (wsV RX3 76 RX1 yX1_latestIn wsX1_latestIn) := goodIn_app (goodIn_of _ (by decide +kernel)) ggX3_dayRateByPoses_X1_latestIn
set_option maxRecDepth 20000 in
theorem ggX3_dayRateByPoses_X1_number : GoodIn wsX3_dayRateByPoses wsX1_number := goodIn_r _ [28, 24, 29, 53, 54] (by decide +kernel) (by decide +kernel)
set_option maxRecDepth 20000 in
theorem gX3_dayRateByPoses_X1_number : GoodIn wsX3_dayRateByPoses (wsV RX3 79 RX1 yX1_number wsX1_number) := goodIn_app (goodIn_of _ (by decide +kernel)) ggX3_dayRateByPoses_X1_number
set_option maxRecDepth 20000 in
theorem ggX3_dayRateByPoses_J9_floorDiv_7cf53 : GoodIn wsX3_dayRateByPoses wsJ9_floorDiv_7cf53 := goodIn_r _ [34] (by decide +kernel) (by decide +kernel)
set_option maxRecDepth 20000 in
theorem gX3_dayRateByPoses_J9_floorDiv_7cf53 : GoodIn wsX3_dayRateByPoses (va_wsS RX3 98 yJ9_floorDiv_7cf53 wsJ9_floorDiv_7cf53) := goodIn_app (goodIn_of _ (by decide +kernel)) ggX3_dayRateByPoses_J9_floorDiv_7cf53
theorem dX3_dayRateByPoses_0 : decode cX3_dayRateByPoses 0 = .ok (.aload_n 0, 1) := by decide +kernel
theorem dX3_dayRateByPoses_1 : decode cX3_dayRateByPoses 1 = .ok (.invokevirtual 94, 3) := by decide +kernel
theorem dX3_dayRateByPoses_4 : decode cX3_dayRateByPoses 4 = .ok (.ifCond .eq 5, 3) := by decide +kernel
theorem dX3_dayRateByPoses_7 : decode cX3_dayRateByPoses 7 = .ok (.iconst (-1), 1) := by decide +kernel
theorem dX3_dayRateByPoses_8 : decode cX3_dayRateByPoses 8 = .ok (.ireturn, 1) := by decide +kernel
theorem dX3_dayRateByPoses_9 : decode cX3_dayRateByPoses 9 = .ok (.iconst 0, 1) := by decide +kernel
theorem dX3_dayRateByPoses_10 : decode cX3_dayRateByPoses 10 = .ok (.istore_n 1, 1) := by decide +kernel
theorem dX3_dayRateByPoses_11 : decode cX3_dayRateByPoses 11 = .ok (.iconst 0, 1) := by decide +kernel
theorem dX3_dayRateByPoses_12 : decode cX3_dayRateByPoses 12 = .ok (.istore_n 2, 1) := by decide +kernel
theorem dX3_dayRateByPoses_13 : decode cX3_dayRateByPoses 13 = .ok (.iload_n 2, 1) := by decide +kernel
theorem dX3_dayRateByPoses_14 : decode cX3_dayRateByPoses 14 = .ok (.bipush 6, 2) := by decide +kernel
theorem dX3_dayRateByPoses_16 : decode cX3_dayRateByPoses 16 = .ok (.if_icmp .ge 28, 3) := by decide +kernel
theorem dX3_dayRateByPoses_19 : decode cX3_dayRateByPoses 19 = .ok (.iload_n 1, 1) := by decide +kernel
theorem dX3_dayRateByPoses_20 : decode cX3_dayRateByPoses 20 = .ok (.aload_n 0, 1) := by decide +kernel
theorem dX3_dayRateByPoses_21 : decode cX3_dayRateByPoses 21 = .ok (.getfield 21, 3) := by decide +kernel
theorem dX3_dayRateByPoses_24 : decode cX3_dayRateByPoses 24 = .ok (.aload_n 0, 1) := by decide +kernel
theorem dX3_dayRateByPoses_25 : decode cX3_dayRateByPoses 25 = .ok (.getfield 21, 3) := by decide +kernel
theorem dX3_dayRateByPoses_28 : decode cX3_dayRateByPoses 28 = .ok (.iload_n 2, 1) := by decide +kernel
theorem dX3_dayRateByPoses_29 : decode cX3_dayRateByPoses 29 = .ok (.invokevirtual 76, 3) := by decide +kernel
theorem dX3_dayRateByPoses_32 : decode cX3_dayRateByPoses 32 = .ok (.iconst 2, 1) := by decide +kernel
theorem dX3_dayRateByPoses_33 : decode cX3_dayRateByPoses 33 = .ok (.invokevirtual 79, 3) := by decide +kernel
theorem dX3_dayRateByPoses_36 : decode cX3_dayRateByPoses 36 = .ok (.iadd, 1) := by decide +kernel
theorem dX3_dayRateByPoses_37 : decode cX3_dayRateByPoses 37 = .ok (.istore_n 1, 1) := by decide +kernel
theorem dX3_dayRateByPoses_38 : decode cX3_dayRateByPoses 38 = .ok (.iinc 2 1, 3) := by decide +kernel
theorem dX3_dayRateByPoses_41 : decode cX3_dayRateByPoses 41 = .ok (.goto (-28), 3) := by decide +kernel
theorem dX3_dayRateByPoses_44 : decode cX3_dayRateByPoses 44 = .ok (.iload_n 1, 1) := by decide +kernel
theorem dX3_dayRateByPoses_45 : decode cX3_dayRateByPoses 45 = .ok (.bipush 6, 2) := by decide +kernel
theorem dX3_dayRateByPoses_47 : decode cX3_dayRateByPoses 47 = .ok (.invokestatic 98, 3) := by decide +kernel
theorem dX3_dayRateByPoses_50 : decode cX3_dayRateByPoses 50 = .ok (.sipush 10000, 3) := by decide +kernel
theorem dX3_dayRateByPoses_53 : decode cX3_dayRateByPoses 53 = .ok (.iadd, 1) := by decide +kernel
theorem dX3_dayRateByPoses_54 : decode cX3_dayRateByPoses 54 = .ok (.ireturn, 1) := by decide +kernel
set_option maxRecDepth 20000 in
theorem ggX3_dayRateByPaper_X1_number : GoodIn wsX3_dayRateByPaper wsX1_number := goodIn_r _ [19, 20, 21, 33, 34] (by decide +kernel) (by decide +kernel)
set_option maxRecDepth 20000 in
theorem gX3_dayRateByPaper_X1_number : GoodIn wsX3_dayRateByPaper (wsV RX3 79 RX1 yX1_number wsX1_number) := goodIn_app (goodIn_of _ (by decide +kernel)) ggX3_dayRateByPaper_X1_number
set_option maxRecDepth 20000 in
theorem ggX3_dayRateByPaper_J9_floorDiv_7cf53 : GoodIn wsX3_dayRateByPaper wsJ9_floorDiv_7cf53 := goodIn_r _ [25] (by decide +kernel) (by decide +kernel)
set_option maxRecDepth 20000 in
theorem gX3_dayRateByPaper_J9_floorDiv_7cf53 : GoodIn wsX3_dayRateByPaper (va_wsS RX3 98 yJ9_floorDiv_7cf53 wsJ9_floorDiv_7cf53) := goodIn_app (goodIn_of _ (by decide +kernel)) ggX3_dayRateByPaper_J9_floorDiv_7cf53
theorem dX3_dayRateByPaper_0 : decode cX3_dayRateByPaper 0 = .ok (.iconst 0, 1) := by decide +kernel
theorem dX3_dayRateByPaper_1 : decode cX3_dayRateByPaper 1 = .ok (.istore_n 1, 1) := by decide +kernel
theorem dX3_dayRateByPaper_2 : decode cX3_dayRateByPaper 2 = .ok (.iconst 0, 1) := by decide +kernel
theorem dX3_dayRateByPaper_3 : decode cX3_dayRateByPaper 3 = .ok (.istore_n 2, 1) := by decide +kernel
theorem dX3_dayRateByPaper_4 : decode cX3_dayRateByPaper 4 = .ok (.iconst 0, 1) := by decide +kernel
theorem dX3_dayRateByPaper_5 : decode cX3_dayRateByPaper 5 = .ok (.istore_n 3, 1) := by decide +kernel
theorem dX3_dayRateByPaper_6 : decode cX3_dayRateByPaper 6 = .ok (.ldc 74, 2) := by decide +kernel
theorem dX3_dayRateByPaper_8 : decode cX3_dayRateByPaper 8 = .ok (.istore 4, 2) := by decide +kernel
theorem dX3_dayRateByPaper_10 : decode cX3_dayRateByPaper 10 = .ok (.ldc 75, 2) := by decide +kernel
theorem dX3_dayRateByPaper_12 : decode cX3_dayRateByPaper 12 = .ok (.istore 5, 2) := by decide +kernel
theorem dX3_dayRateByPaper_14 : decode cX3_dayRateByPaper 14 = .ok (.aload_n 0, 1) := by decide +kernel
theorem dX3_dayRateByPaper_15 : decode cX3_dayRateByPaper 15 = .ok (.getfield 21, 3) := by decide +kernel
theorem dX3_dayRateByPaper_18 : decode cX3_dayRateByPaper 18 = .ok (.getfield 101, 3) := by decide +kernel
theorem dX3_dayRateByPaper_21 : decode cX3_dayRateByPaper 21 = .ok (.iconst 1, 1) := by decide +kernel
theorem dX3_dayRateByPaper_22 : decode cX3_dayRateByPaper 22 = .ok (.isub, 1) := by decide +kernel
theorem dX3_dayRateByPaper_23 : decode cX3_dayRateByPaper 23 = .ok (.istore 6, 2) := by decide +kernel
theorem dX3_dayRateByPaper_25 : decode cX3_dayRateByPaper 25 = .ok (.iload 6, 2) := by decide +kernel
theorem dX3_dayRateByPaper_27 : decode cX3_dayRateByPaper 27 = .ok (.ifCond .lt 111, 3) := by decide +kernel
theorem dX3_dayRateByPaper_30 : decode cX3_dayRateByPaper 30 = .ok (.iload_n 2, 1) := by decide +kernel
theorem dX3_dayRateByPaper_31 : decode cX3_dayRateByPaper 31 = .ok (.bipush 6, 2) := by decide +kernel
theorem dX3_dayRateByPaper_33 : decode cX3_dayRateByPaper 33 = .ok (.if_icmp .ge 105, 3) := by decide +kernel
theorem dX3_dayRateByPaper_36 : decode cX3_dayRateByPaper 36 = .ok (.iconst 1, 1) := by decide +kernel
theorem dX3_dayRateByPaper_37 : decode cX3_dayRateByPaper 37 = .ok (.aload_n 0, 1) := by decide +kernel
theorem dX3_dayRateByPaper_38 : decode cX3_dayRateByPaper 38 = .ok (.getfield 21, 3) := by decide +kernel
theorem dX3_dayRateByPaper_41 : decode cX3_dayRateByPaper 41 = .ok (.iload 6, 2) := by decide +kernel
theorem dX3_dayRateByPaper_43 : decode cX3_dayRateByPaper 43 = .ok (.iconst 1, 1) := by decide +kernel
theorem dX3_dayRateByPaper_44 : decode cX3_dayRateByPaper 44 = .ok (.invokevirtual 79, 3) := by decide +kernel
theorem dX3_dayRateByPaper_47 : decode cX3_dayRateByPaper 47 = .ok (.ishl, 1) := by decide +kernel
theorem dX3_dayRateByPaper_48 : decode cX3_dayRateByPaper 48 = .ok (.istore 7, 2) := by decide +kernel
theorem dX3_dayRateByPaper_50 : decode cX3_dayRateByPaper 50 = .ok (.iload_n 1, 1) := by decide +kernel
theorem dX3_dayRateByPaper_51 : decode cX3_dayRateByPaper 51 = .ok (.iload 7, 2) := by decide +kernel
theorem dX3_dayRateByPaper_53 : decode cX3_dayRateByPaper 53 = .ok (.iand, 1) := by decide +kernel
theorem dX3_dayRateByPaper_54 : decode cX3_dayRateByPaper 54 = .ok (.ifCond .eq 6, 3) := by decide +kernel
theorem dX3_dayRateByPaper_57 : decode cX3_dayRateByPaper 57 = .ok (.goto 75, 3) := by decide +kernel
theorem dX3_dayRateByPaper_60 : decode cX3_dayRateByPaper 60 = .ok (.aload_n 0, 1) := by decide +kernel
theorem dX3_dayRateByPaper_61 : decode cX3_dayRateByPaper 61 = .ok (.getfield 12, 3) := by decide +kernel
theorem dX3_dayRateByPaper_64 : decode cX3_dayRateByPaper 64 = .ok (.getfield 91, 3) := by decide +kernel
theorem dX3_dayRateByPaper_67 : decode cX3_dayRateByPaper 67 = .ok (.aload_n 0, 1) := by decide +kernel
theorem dX3_dayRateByPaper_68 : decode cX3_dayRateByPaper 68 = .ok (.getfield 21, 3) := by decide +kernel
theorem dX3_dayRateByPaper_71 : decode cX3_dayRateByPaper 71 = .ok (.iload 6, 2) := by decide +kernel
theorem dX3_dayRateByPaper_73 : decode cX3_dayRateByPaper 73 = .ok (.iconst 0, 1) := by decide +kernel
theorem dX3_dayRateByPaper_74 : decode cX3_dayRateByPaper 74 = .ok (.invokevirtual 79, 3) := by decide +kernel
theorem dX3_dayRateByPaper_77 : decode cX3_dayRateByPaper 77 = .ok (.isub, 1) := by decide +kernel
theorem dX3_dayRateByPaper_78 : decode cX3_dayRateByPaper 78 = .ok (.aload_n 0, 1) := by decide +kernel
theorem dX3_dayRateByPaper_79 : decode cX3_dayRateByPaper 79 = .ok (.getfield 34, 3) := by decide +kernel
theorem dX3_dayRateByPaper_82 : decode cX3_dayRateByPaper 82 = .ok (.iconst 2, 1) := by decide +kernel
theorem dX3_dayRateByPaper_83 : decode cX3_dayRateByPaper 83 = .ok (.iaload, 1) := by decide +kernel
theorem dX3_dayRateByPaper_84 : decode cX3_dayRateByPaper 84 = .ok (.if_icmp .le 5, 3) := by decide +kernel
theorem dX3_dayRateByPaper_87 : decode cX3_dayRateByPaper 87 = .ok (.iconst (-1), 1) := by decide +kernel
theorem dX3_dayRateByPaper_88 : decode cX3_dayRateByPaper 88 = .ok (.ireturn, 1) := by decide +kernel
theorem dX3_dayRateByPaper_89 : decode cX3_dayRateByPaper 89 = .ok (.aload_n 0, 1) := by decide +kernel
theorem dX3_dayRateByPaper_90 : decode cX3_dayRateByPaper 90 = .ok (.getfield 21, 3) := by decide +kernel
theorem dX3_dayRateByPaper_93 : decode cX3_dayRateByPaper 93 = .ok (.iload 6, 2) := by decide +kernel
theorem dX3_dayRateByPaper_95 : decode cX3_dayRateByPaper 95 = .ok (.iconst 2, 1) := by decide +kernel
theorem dX3_dayRateByPaper_96 : decode cX3_dayRateByPaper 96 = .ok (.invokevirtual 79, 3) := by decide +kernel
theorem dX3_dayRateByPaper_99 : decode cX3_dayRateByPaper 99 = .ok (.istore 8, 2) := by decide +kernel
theorem dX3_dayRateByPaper_101 : decode cX3_dayRateByPaper 101 = .ok (.iload_n 1, 1) := by decide +kernel
theorem dX3_dayRateByPaper_102 : decode cX3_dayRateByPaper 102 = .ok (.iload 7, 2) := by decide +kernel
theorem dX3_dayRateByPaper_104 : decode cX3_dayRateByPaper 104 = .ok (.ior, 1) := by decide +kernel
theorem dX3_dayRateByPaper_105 : decode cX3_dayRateByPaper 105 = .ok (.istore_n 1, 1) := by decide +kernel
theorem dX3_dayRateByPaper_106 : decode cX3_dayRateByPaper 106 = .ok (.iinc 2 1, 3) := by decide +kernel
theorem dX3_dayRateByPaper_109 : decode cX3_dayRateByPaper 109 = .ok (.iload_n 3, 1) := by decide +kernel
theorem dX3_dayRateByPaper_110 : decode cX3_dayRateByPaper 110 = .ok (.iload 8, 2) := by decide +kernel
theorem dX3_dayRateByPaper_112 : decode cX3_dayRateByPaper 112 = .ok (.iadd, 1) := by decide +kernel
theorem dX3_dayRateByPaper_113 : decode cX3_dayRateByPaper 113 = .ok (.istore_n 3, 1) := by decide +kernel
theorem dX3_dayRateByPaper_114 : decode cX3_dayRateByPaper 114 = .ok (.iload 4, 2) := by decide +kernel
theorem dX3_dayRateByPaper_116 : decode cX3_dayRateByPaper 116 = .ok (.iload 8, 2) := by decide +kernel
theorem dX3_dayRateByPaper_118 : decode cX3_dayRateByPaper 118 = .ok (.invokestatic 83, 3) := by decide +kernel

