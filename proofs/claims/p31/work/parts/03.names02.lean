theorem dX3_dayRateByPaper_121 : decode cX3_dayRateByPaper 121 = .ok (.istore 4, 2) := by decide +kernel
theorem dX3_dayRateByPaper_123 : decode cX3_dayRateByPaper 123 = .ok (.iload 5, 2) := by decide +kernel
theorem dX3_dayRateByPaper_125 : decode cX3_dayRateByPaper 125 = .ok (.iload 8, 2) := by decide +kernel
theorem dX3_dayRateByPaper_127 : decode cX3_dayRateByPaper 127 = .ok (.invokestatic 88, 3) := by decide +kernel
theorem dX3_dayRateByPaper_130 : decode cX3_dayRateByPaper 130 = .ok (.istore 5, 2) := by decide +kernel
theorem dX3_dayRateByPaper_132 : decode cX3_dayRateByPaper 132 = .ok (.iinc 6 (-1), 3) := by decide +kernel
theorem dX3_dayRateByPaper_135 : decode cX3_dayRateByPaper 135 = .ok (.goto (-110), 3) := by decide +kernel
theorem dX3_dayRateByPaper_138 : decode cX3_dayRateByPaper 138 = .ok (.iload_n 2, 1) := by decide +kernel
theorem dX3_dayRateByPaper_139 : decode cX3_dayRateByPaper 139 = .ok (.bipush 6, 2) := by decide +kernel
theorem dX3_dayRateByPaper_141 : decode cX3_dayRateByPaper 141 = .ok (.if_icmp .lt 17, 3) := by decide +kernel
theorem dX3_dayRateByPaper_144 : decode cX3_dayRateByPaper 144 = .ok (.iload 5, 2) := by decide +kernel
theorem dX3_dayRateByPaper_146 : decode cX3_dayRateByPaper 146 = .ok (.iload 4, 2) := by decide +kernel
theorem dX3_dayRateByPaper_148 : decode cX3_dayRateByPaper 148 = .ok (.isub, 1) := by decide +kernel
theorem dX3_dayRateByPaper_149 : decode cX3_dayRateByPaper 149 = .ok (.aload_n 0, 1) := by decide +kernel
theorem dX3_dayRateByPaper_150 : decode cX3_dayRateByPaper 150 = .ok (.getfield 34, 3) := by decide +kernel
theorem dX3_dayRateByPaper_153 : decode cX3_dayRateByPaper 153 = .ok (.iconst 3, 1) := by decide +kernel
theorem dX3_dayRateByPaper_154 : decode cX3_dayRateByPaper 154 = .ok (.iaload, 1) := by decide +kernel
theorem dX3_dayRateByPaper_155 : decode cX3_dayRateByPaper 155 = .ok (.if_icmp .le 5, 3) := by decide +kernel
theorem dX3_dayRateByPaper_158 : decode cX3_dayRateByPaper 158 = .ok (.iconst (-1), 1) := by decide +kernel
theorem dX3_dayRateByPaper_159 : decode cX3_dayRateByPaper 159 = .ok (.ireturn, 1) := by decide +kernel
theorem dX3_dayRateByPaper_160 : decode cX3_dayRateByPaper 160 = .ok (.iload_n 3, 1) := by decide +kernel
theorem dX3_dayRateByPaper_161 : decode cX3_dayRateByPaper 161 = .ok (.bipush 6, 2) := by decide +kernel
theorem dX3_dayRateByPaper_163 : decode cX3_dayRateByPaper 163 = .ok (.invokestatic 98, 3) := by decide +kernel
theorem dX3_dayRateByPaper_166 : decode cX3_dayRateByPaper 166 = .ok (.sipush 10000, 3) := by decide +kernel
theorem dX3_dayRateByPaper_169 : decode cX3_dayRateByPaper 169 = .ok (.iadd, 1) := by decide +kernel
theorem dX3_dayRateByPaper_170 : decode cX3_dayRateByPaper 170 = .ok (.ireturn, 1) := by decide +kernel
set_option maxRecDepth 20000 in
theorem ggX3_copyFrom_X4_copyFrom : GoodIn wsX3_copyFrom wsX4_copyFrom := goodIn_r _ [16, 17, 18, 5, 6, 7, 19, 20, 21, 22, 23, 24, 25, 26, 27, 28, 44, 45, 46, 47, 48, 49, 50, 51, 52, 53, 54] (by decide +kernel) (by decide +kernel)
set_option maxRecDepth 20000 in
theorem gX3_copyFrom_X4_copyFrom : GoodIn wsX3_copyFrom (wsV RX3 108 RX4 yX4_copyFrom wsX4_copyFrom) := goodIn_app (goodIn_of _ (by decide +kernel)) ggX3_copyFrom_X4_copyFrom
set_option maxRecDepth 20000 in
theorem ggX3_copyFrom_X1_copyFrom : GoodIn wsX3_copyFrom wsX1_copyFrom := goodIn_r _ [33, 34, 35, 5, 6, 7, 36, 55, 56] (by decide +kernel) (by decide +kernel)
set_option maxRecDepth 20000 in
theorem gX3_copyFrom_X1_copyFrom : GoodIn wsX3_copyFrom (wsV RX3 111 RX1 yX1_copyFrom wsX1_copyFrom) := goodIn_app (goodIn_of _ (by decide +kernel)) ggX3_copyFrom_X1_copyFrom
theorem dX3_copyFrom_0 : decode cX3_copyFrom 0 = .ok (.aload_n 0, 1) := by decide +kernel
theorem dX3_copyFrom_1 : decode cX3_copyFrom 1 = .ok (.getfield 12, 3) := by decide +kernel
theorem dX3_copyFrom_4 : decode cX3_copyFrom 4 = .ok (.aload_n 1, 1) := by decide +kernel
theorem dX3_copyFrom_5 : decode cX3_copyFrom 5 = .ok (.getfield 12, 3) := by decide +kernel
theorem dX3_copyFrom_8 : decode cX3_copyFrom 8 = .ok (.invokevirtual 108, 3) := by decide +kernel
theorem dX3_copyFrom_11 : decode cX3_copyFrom 11 = .ok (.aload_n 0, 1) := by decide +kernel
theorem dX3_copyFrom_12 : decode cX3_copyFrom 12 = .ok (.getfield 21, 3) := by decide +kernel
theorem dX3_copyFrom_15 : decode cX3_copyFrom 15 = .ok (.aload_n 1, 1) := by decide +kernel
theorem dX3_copyFrom_16 : decode cX3_copyFrom 16 = .ok (.getfield 21, 3) := by decide +kernel
theorem dX3_copyFrom_19 : decode cX3_copyFrom 19 = .ok (.invokevirtual 111, 3) := by decide +kernel
theorem dX3_copyFrom_22 : decode cX3_copyFrom 22 = .ok (.aload_n 1, 1) := by decide +kernel
theorem dX3_copyFrom_23 : decode cX3_copyFrom 23 = .ok (.getfield 34, 3) := by decide +kernel
theorem dX3_copyFrom_26 : decode cX3_copyFrom 26 = .ok (.iconst 0, 1) := by decide +kernel
theorem dX3_copyFrom_27 : decode cX3_copyFrom 27 = .ok (.aload_n 0, 1) := by decide +kernel
theorem dX3_copyFrom_28 : decode cX3_copyFrom 28 = .ok (.getfield 34, 3) := by decide +kernel
theorem dX3_copyFrom_31 : decode cX3_copyFrom 31 = .ok (.iconst 0, 1) := by decide +kernel
theorem dX3_copyFrom_32 : decode cX3_copyFrom 32 = .ok (.iconst 4, 1) := by decide +kernel
theorem dX3_copyFrom_33 : decode cX3_copyFrom 33 = .ok (.invokestatic 114, 3) := by decide +kernel
theorem dX3_copyFrom_36 : decode cX3_copyFrom 36 = .ok (.aload_n 0, 1) := by decide +kernel
theorem dX3_copyFrom_37 : decode cX3_copyFrom 37 = .ok (.aload_n 1, 1) := by decide +kernel
theorem dX3_copyFrom_38 : decode cX3_copyFrom 38 = .ok (.getfield 37, 3) := by decide +kernel
theorem dX3_copyFrom_41 : decode cX3_copyFrom 41 = .ok (.putfield 37, 3) := by decide +kernel
theorem dX3_copyFrom_44 : decode cX3_copyFrom 44 = .ok (.aload_n 0, 1) := by decide +kernel
theorem dX3_copyFrom_45 : decode cX3_copyFrom 45 = .ok (.aload_n 1, 1) := by decide +kernel
theorem dX3_copyFrom_46 : decode cX3_copyFrom 46 = .ok (.getfield 41, 3) := by decide +kernel
theorem dX3_copyFrom_49 : decode cX3_copyFrom 49 = .ok (.putfield 41, 3) := by decide +kernel
theorem dX3_copyFrom_52 : decode cX3_copyFrom 52 = .ok (.aload_n 0, 1) := by decide +kernel
theorem dX3_copyFrom_53 : decode cX3_copyFrom 53 = .ok (.aload_n 1, 1) := by decide +kernel
theorem dX3_copyFrom_54 : decode cX3_copyFrom 54 = .ok (.getfield 44, 3) := by decide +kernel
theorem dX3_copyFrom_57 : decode cX3_copyFrom 57 = .ok (.putfield 44, 3) := by decide +kernel
theorem dX3_copyFrom_60 : decode cX3_copyFrom 60 = .ok (.aload_n 0, 1) := by decide +kernel
theorem dX3_copyFrom_61 : decode cX3_copyFrom 61 = .ok (.aload_n 1, 1) := by decide +kernel
theorem dX3_copyFrom_62 : decode cX3_copyFrom 62 = .ok (.getfield 47, 3) := by decide +kernel
theorem dX3_copyFrom_65 : decode cX3_copyFrom 65 = .ok (.putfield 47, 3) := by decide +kernel
theorem dX3_copyFrom_68 : decode cX3_copyFrom 68 = .ok (.return_, 1) := by decide +kernel
theorem dX4_init_0 : decode cX4_init 0 = .ok (.aload_n 0, 1) := by decide +kernel
theorem dX4_init_1 : decode cX4_init 1 = .ok (.invokespecial 3, 3) := by decide +kernel
theorem dX4_init_4 : decode cX4_init 4 = .ok (.aload_n 0, 1) := by decide +kernel
theorem dX4_init_5 : decode cX4_init 5 = .ok (.getstatic 9, 3) := by decide +kernel
theorem dX4_init_8 : decode cX4_init 8 = .ok (.invokevirtual 15, 3) := by decide +kernel
theorem dX4_init_11 : decode cX4_init 11 = .ok (.checkcast 16, 3) := by decide +kernel
theorem dX4_init_14 : decode cX4_init 14 = .ok (.putfield 20, 3) := by decide +kernel
theorem dX4_init_17 : decode cX4_init 17 = .ok (.aload_n 0, 1) := by decide +kernel
theorem dX4_init_18 : decode cX4_init 18 = .ok (.iconst 0, 1) := by decide +kernel
theorem dX4_init_19 : decode cX4_init 19 = .ok (.putfield 23, 3) := by decide +kernel
theorem dX4_init_22 : decode cX4_init 22 = .ok (.aload_n 0, 1) := by decide +kernel
theorem dX4_init_23 : decode cX4_init 23 = .ok (.bipush 10, 2) := by decide +kernel
theorem dX4_init_25 : decode cX4_init 25 = .ok (.putfield 27, 3) := by decide +kernel
theorem dX4_init_28 : decode cX4_init 28 = .ok (.aload_n 0, 1) := by decide +kernel
theorem dX4_init_29 : decode cX4_init 29 = .ok (.iconst 0, 1) := by decide +kernel
theorem dX4_init_30 : decode cX4_init 30 = .ok (.putfield 30, 3) := by decide +kernel
theorem dX4_init_33 : decode cX4_init 33 = .ok (.aload_n 0, 1) := by decide +kernel
theorem dX4_init_34 : decode cX4_init 34 = .ok (.iconst 0, 1) := by decide +kernel
theorem dX4_init_35 : decode cX4_init 35 = .ok (.putfield 33, 3) := by decide +kernel
theorem dX4_init_38 : decode cX4_init 38 = .ok (.aload_n 0, 1) := by decide +kernel
theorem dX4_init_39 : decode cX4_init 39 = .ok (.iconst 0, 1) := by decide +kernel
theorem dX4_init_40 : decode cX4_init 40 = .ok (.putfield 36, 3) := by decide +kernel
theorem dX4_init_43 : decode cX4_init 43 = .ok (.aload_n 0, 1) := by decide +kernel
theorem dX4_init_44 : decode cX4_init 44 = .ok (.iconst 0, 1) := by decide +kernel
theorem dX4_init_45 : decode cX4_init 45 = .ok (.putfield 39, 3) := by decide +kernel
theorem dX4_init_48 : decode cX4_init 48 = .ok (.aload_n 0, 1) := by decide +kernel
theorem dX4_init_49 : decode cX4_init 49 = .ok (.iconst 0, 1) := by decide +kernel
theorem dX4_init_50 : decode cX4_init 50 = .ok (.putfield 42, 3) := by decide +kernel
theorem dX4_init_53 : decode cX4_init 53 = .ok (.aload_n 0, 1) := by decide +kernel
theorem dX4_init_54 : decode cX4_init 54 = .ok (.iconst 0, 1) := by decide +kernel
theorem dX4_init_55 : decode cX4_init 55 = .ok (.putfield 45, 3) := by decide +kernel
theorem dX4_init_58 : decode cX4_init 58 = .ok (.aload_n 0, 1) := by decide +kernel
theorem dX4_init_59 : decode cX4_init 59 = .ok (.iconst 0, 1) := by decide +kernel
theorem dX4_init_60 : decode cX4_init 60 = .ok (.putfield 48, 3) := by decide +kernel
theorem dX4_init_63 : decode cX4_init 63 = .ok (.aload_n 0, 1) := by decide +kernel
theorem dX4_init_64 : decode cX4_init 64 = .ok (.iconst 0, 1) := by decide +kernel
theorem dX4_init_65 : decode cX4_init 65 = .ok (.putfield 51, 3) := by decide +kernel
theorem dX4_init_68 : decode cX4_init 68 = .ok (.return_, 1) := by decide +kernel
set_option maxRecDepth 20000 in
theorem ggX4_weightOf_X5_isPose : GoodIn wsX4_weightOf wsX5_isPose := goodIn_r _ [4] (by decide +kernel) (by decide +kernel)
set_option maxRecDepth 20000 in
theorem gX4_weightOf_X5_isPose_n54 : GoodIn wsX4_weightOf (wsX5_isPose) := ggX4_weightOf_X5_isPose
theorem dX4_weightOf_0 : decode cX4_weightOf 0 = .ok (.iload_n 1, 1) := by decide +kernel
theorem dX4_weightOf_1 : decode cX4_weightOf 1 = .ok (.invokestatic 54, 3) := by decide +kernel
theorem dX4_weightOf_4 : decode cX4_weightOf 4 = .ok (.ifCond .eq 12, 3) := by decide +kernel
theorem dX4_weightOf_7 : decode cX4_weightOf 7 = .ok (.aload_n 0, 1) := by decide +kernel
theorem dX4_weightOf_8 : decode cX4_weightOf 8 = .ok (.getfield 20, 3) := by decide +kernel
theorem dX4_weightOf_11 : decode cX4_weightOf 11 = .ok (.iload_n 1, 1) := by decide +kernel
theorem dX4_weightOf_12 : decode cX4_weightOf 12 = .ok (.iaload, 1) := by decide +kernel
theorem dX4_weightOf_13 : decode cX4_weightOf 13 = .ok (.goto 4, 3) := by decide +kernel
theorem dX4_weightOf_16 : decode cX4_weightOf 16 = .ok (.iconst 0, 1) := by decide +kernel
theorem dX4_weightOf_17 : decode cX4_weightOf 17 = .ok (.ireturn, 1) := by decide +kernel
set_option maxRecDepth 20000 in
theorem ggX4_putWeight_X5_isPose : GoodIn wsX4_putWeight wsX5_isPose := goodIn_r _ [4] (by decide +kernel) (by decide +kernel)
set_option maxRecDepth 20000 in
theorem gX4_putWeight_X5_isPose_n54 : GoodIn wsX4_putWeight (wsX5_isPose) := ggX4_putWeight_X5_isPose
theorem dX4_putWeight_0 : decode cX4_putWeight 0 = .ok (.iload_n 1, 1) := by decide +kernel
theorem dX4_putWeight_1 : decode cX4_putWeight 1 = .ok (.invokestatic 54, 3) := by decide +kernel
theorem dX4_putWeight_4 : decode cX4_putWeight 4 = .ok (.ifCond .eq 10, 3) := by decide +kernel
theorem dX4_putWeight_7 : decode cX4_putWeight 7 = .ok (.aload_n 0, 1) := by decide +kernel
theorem dX4_putWeight_8 : decode cX4_putWeight 8 = .ok (.getfield 20, 3) := by decide +kernel
theorem dX4_putWeight_11 : decode cX4_putWeight 11 = .ok (.iload_n 1, 1) := by decide +kernel
theorem dX4_putWeight_12 : decode cX4_putWeight 12 = .ok (.iload_n 2, 1) := by decide +kernel
theorem dX4_putWeight_13 : decode cX4_putWeight 13 = .ok (.iastore, 1) := by decide +kernel
theorem dX4_putWeight_14 : decode cX4_putWeight 14 = .ok (.return_, 1) := by decide +kernel
theorem dX4_tighten_0 : decode cX4_tighten 0 = .ok (.aload_n 0, 1) := by decide +kernel
theorem dX4_tighten_1 : decode cX4_tighten 1 = .ok (.bipush 48, 2) := by decide +kernel
theorem dX4_tighten_3 : decode cX4_tighten 3 = .ok (.aload_n 0, 1) := by decide +kernel
theorem dX4_tighten_4 : decode cX4_tighten 4 = .ok (.getfield 30, 3) := by decide +kernel
theorem dX4_tighten_7 : decode cX4_tighten 7 = .ok (.iload_n 1, 1) := by decide +kernel
theorem dX4_tighten_8 : decode cX4_tighten 8 = .ok (.iadd, 1) := by decide +kernel
theorem dX4_tighten_9 : decode cX4_tighten 9 = .ok (.invokestatic 58, 3) := by decide +kernel
theorem dX4_tighten_12 : decode cX4_tighten 12 = .ok (.putfield 30, 3) := by decide +kernel
theorem dX4_tighten_15 : decode cX4_tighten 15 = .ok (.return_, 1) := by decide +kernel
theorem dX4_swingIn_0 : decode cX4_swingIn 0 = .ok (.sipush 320, 3) := by decide +kernel
theorem dX4_swingIn_3 : decode cX4_swingIn 3 = .ok (.iconst 3, 1) := by decide +kernel
theorem dX4_swingIn_4 : decode cX4_swingIn 4 = .ok (.bipush 48, 2) := by decide +kernel
theorem dX4_swingIn_6 : decode cX4_swingIn 6 = .ok (.aload_n 0, 1) := by decide +kernel
theorem dX4_swingIn_7 : decode cX4_swingIn 7 = .ok (.getfield 30, 3) := by decide +kernel
theorem dX4_swingIn_10 : decode cX4_swingIn 10 = .ok (.isub, 1) := by decide +kernel
theorem dX4_swingIn_11 : decode cX4_swingIn 11 = .ok (.imul, 1) := by decide +kernel
theorem dX4_swingIn_12 : decode cX4_swingIn 12 = .ok (.isub, 1) := by decide +kernel
theorem dX4_swingIn_13 : decode cX4_swingIn 13 = .ok (.aload_n 0, 1) := by decide +kernel
theorem dX4_swingIn_14 : decode cX4_swingIn 14 = .ok (.getfield 36, 3) := by decide +kernel
theorem dX4_swingIn_17 : decode cX4_swingIn 17 = .ok (.isub, 1) := by decide +kernel
theorem dX4_swingIn_18 : decode cX4_swingIn 18 = .ok (.istore_n 2, 1) := by decide +kernel
theorem dX4_swingIn_19 : decode cX4_swingIn 19 = .ok (.iload_n 1, 1) := by decide +kernel
theorem dX4_swingIn_20 : decode cX4_swingIn 20 = .ok (.iconst 2, 1) := by decide +kernel
theorem dX4_swingIn_21 : decode cX4_swingIn 21 = .ok (.if_icmp .lt 6, 3) := by decide +kernel
theorem dX4_swingIn_24 : decode cX4_swingIn 24 = .ok (.iinc 2 (-20), 3) := by decide +kernel
theorem dX4_swingIn_27 : decode cX4_swingIn 27 = .ok (.iconst 0, 1) := by decide +kernel
theorem dX4_swingIn_28 : decode cX4_swingIn 28 = .ok (.iload_n 2, 1) := by decide +kernel
theorem dX4_swingIn_29 : decode cX4_swingIn 29 = .ok (.invokestatic 64, 3) := by decide +kernel
theorem dX4_swingIn_32 : decode cX4_swingIn 32 = .ok (.ireturn, 1) := by decide +kernel
set_option maxRecDepth 20000 in
theorem ggX4_rateIn_X4_swingIn : GoodIn wsX4_rateIn wsX4_swingIn := goodIn_r _ [7, 8, 9, 10, 11, 12, 13, 26, 27, 28, 29, 30, 31, 32, 33, 34, 35, 36] (by decide +kernel) (by decide +kernel)
set_option maxRecDepth 20000 in
theorem gX4_rateIn_X4_swingIn : GoodIn wsX4_rateIn (wsV RX4 67 RX4 yX4_swingIn wsX4_swingIn) := goodIn_app (goodIn_of _ (by decide +kernel)) ggX4_rateIn_X4_swingIn
set_option maxRecDepth 20000 in
theorem ggX4_rateIn_X4_weightOf : GoodIn wsX4_rateIn wsX4_weightOf := goodIn_r _ [17, 18, 19, 20, 21, 26, 27, 28, 29, 30, 31, 32, 33, 34, 35, 36] (by decide +kernel) (by decide +kernel)
set_option maxRecDepth 20000 in
theorem gX4_rateIn_X4_weightOf : GoodIn wsX4_rateIn (wsV RX4 71 RX4 yX4_weightOf wsX4_weightOf) := goodIn_app (goodIn_of _ (by decide +kernel)) ggX4_rateIn_X4_weightOf
set_option maxRecDepth 20000 in
theorem ggX4_rateIn_J9_floorDiv_7cf53 : GoodIn wsX4_rateIn wsJ9_floorDiv_7cf53 := goodIn_r _ [25] (by decide +kernel) (by decide +kernel)
set_option maxRecDepth 20000 in
theorem gX4_rateIn_J9_floorDiv_7cf53 : GoodIn wsX4_rateIn (va_wsS RX4 74 yJ9_floorDiv_7cf53 wsJ9_floorDiv_7cf53) := goodIn_app (goodIn_of _ (by decide +kernel)) ggX4_rateIn_J9_floorDiv_7cf53
theorem dX4_rateIn_0 : decode cX4_rateIn 0 = .ok (.aload_n 0, 1) := by decide +kernel
theorem dX4_rateIn_1 : decode cX4_rateIn 1 = .ok (.iload_n 1, 1) := by decide +kernel
theorem dX4_rateIn_2 : decode cX4_rateIn 2 = .ok (.invokevirtual 67, 3) := by decide +kernel
theorem dX4_rateIn_5 : decode cX4_rateIn 5 = .ok (.istore_n 2, 1) := by decide +kernel
theorem dX4_rateIn_6 : decode cX4_rateIn 6 = .ok (.aload_n 0, 1) := by decide +kernel
theorem dX4_rateIn_7 : decode cX4_rateIn 7 = .ok (.getfield 23, 3) := by decide +kernel
theorem dX4_rateIn_10 : decode cX4_rateIn 10 = .ok (.aload_n 0, 1) := by decide +kernel
theorem dX4_rateIn_11 : decode cX4_rateIn 11 = .ok (.iload_n 1, 1) := by decide +kernel
theorem dX4_rateIn_12 : decode cX4_rateIn 12 = .ok (.invokevirtual 71, 3) := by decide +kernel
theorem dX4_rateIn_15 : decode cX4_rateIn 15 = .ok (.sipush 360, 3) := by decide +kernel
theorem dX4_rateIn_18 : decode cX4_rateIn 18 = .ok (.iload_n 2, 1) := by decide +kernel
theorem dX4_rateIn_19 : decode cX4_rateIn 19 = .ok (.isub, 1) := by decide +kernel
theorem dX4_rateIn_20 : decode cX4_rateIn 20 = .ok (.imul, 1) := by decide +kernel
theorem dX4_rateIn_21 : decode cX4_rateIn 21 = .ok (.bipush 100, 2) := by decide +kernel
theorem dX4_rateIn_23 : decode cX4_rateIn 23 = .ok (.invokestatic 74, 3) := by decide +kernel
theorem dX4_rateIn_26 : decode cX4_rateIn 26 = .ok (.iadd, 1) := by decide +kernel
theorem dX4_rateIn_27 : decode cX4_rateIn 27 = .ok (.iconst 2, 1) := by decide +kernel
theorem dX4_rateIn_28 : decode cX4_rateIn 28 = .ok (.aload_n 0, 1) := by decide +kernel
theorem dX4_rateIn_29 : decode cX4_rateIn 29 = .ok (.getfield 33, 3) := by decide +kernel
theorem dX4_rateIn_32 : decode cX4_rateIn 32 = .ok (.imul, 1) := by decide +kernel
theorem dX4_rateIn_33 : decode cX4_rateIn 33 = .ok (.iadd, 1) := by decide +kernel
theorem dX4_rateIn_34 : decode cX4_rateIn 34 = .ok (.istore_n 3, 1) := by decide +kernel
theorem dX4_rateIn_35 : decode cX4_rateIn 35 = .ok (.aload_n 0, 1) := by decide +kernel
theorem dX4_rateIn_36 : decode cX4_rateIn 36 = .ok (.getfield 33, 3) := by decide +kernel
theorem dX4_rateIn_39 : decode cX4_rateIn 39 = .ok (.bipush 50, 2) := by decide +kernel
theorem dX4_rateIn_41 : decode cX4_rateIn 41 = .ok (.if_icmp .le 9, 3) := by decide +kernel
theorem dX4_rateIn_44 : decode cX4_rateIn 44 = .ok (.iload_n 3, 1) := by decide +kernel
theorem dX4_rateIn_45 : decode cX4_rateIn 45 = .ok (.sipush 300, 3) := by decide +kernel
theorem dX4_rateIn_48 : decode cX4_rateIn 48 = .ok (.iadd, 1) := by decide +kernel
theorem dX4_rateIn_49 : decode cX4_rateIn 49 = .ok (.ireturn, 1) := by decide +kernel
theorem dX4_rateIn_50 : decode cX4_rateIn 50 = .ok (.iload_n 2, 1) := by decide +kernel
theorem dX4_rateIn_51 : decode cX4_rateIn 51 = .ok (.sipush 300, 3) := by decide +kernel
theorem dX4_rateIn_54 : decode cX4_rateIn 54 = .ok (.if_icmp .le 11, 3) := by decide +kernel
theorem dX4_rateIn_57 : decode cX4_rateIn 57 = .ok (.iload_n 3, 1) := by decide +kernel
theorem dX4_rateIn_58 : decode cX4_rateIn 58 = .ok (.sipush 600, 3) := by decide +kernel
theorem dX4_rateIn_61 : decode cX4_rateIn 61 = .ok (.iadd, 1) := by decide +kernel
theorem dX4_rateIn_62 : decode cX4_rateIn 62 = .ok (.goto 4, 3) := by decide +kernel
theorem dX4_rateIn_65 : decode cX4_rateIn 65 = .ok (.iload_n 3, 1) := by decide +kernel
theorem dX4_rateIn_66 : decode cX4_rateIn 66 = .ok (.ireturn, 1) := by decide +kernel
theorem dX4_beatErrorIn_0 : decode cX4_beatErrorIn 0 = .ok (.aload_n 0, 1) := by decide +kernel
theorem dX4_beatErrorIn_1 : decode cX4_beatErrorIn 1 = .ok (.getfield 27, 3) := by decide +kernel
theorem dX4_beatErrorIn_4 : decode cX4_beatErrorIn 4 = .ok (.invokestatic 77, 3) := by decide +kernel
theorem dX4_beatErrorIn_7 : decode cX4_beatErrorIn 7 = .ok (.aload_n 0, 1) := by decide +kernel
theorem dX4_beatErrorIn_8 : decode cX4_beatErrorIn 8 = .ok (.getfield 36, 3) := by decide +kernel
theorem dX4_beatErrorIn_11 : decode cX4_beatErrorIn 11 = .ok (.bipush 10, 2) := by decide +kernel
theorem dX4_beatErrorIn_13 : decode cX4_beatErrorIn 13 = .ok (.idiv, 1) := by decide +kernel
theorem dX4_beatErrorIn_14 : decode cX4_beatErrorIn 14 = .ok (.iadd, 1) := by decide +kernel
theorem dX4_beatErrorIn_15 : decode cX4_beatErrorIn 15 = .ok (.istore_n 2, 1) := by decide +kernel
theorem dX4_beatErrorIn_16 : decode cX4_beatErrorIn 16 = .ok (.iload_n 1, 1) := by decide +kernel
theorem dX4_beatErrorIn_17 : decode cX4_beatErrorIn 17 = .ok (.iconst 2, 1) := by decide +kernel
theorem dX4_beatErrorIn_18 : decode cX4_beatErrorIn 18 = .ok (.if_icmp .lt 9, 3) := by decide +kernel
theorem dX4_beatErrorIn_21 : decode cX4_beatErrorIn 21 = .ok (.iload_n 2, 1) := by decide +kernel
theorem dX4_beatErrorIn_22 : decode cX4_beatErrorIn 22 = .ok (.iconst 2, 1) := by decide +kernel
theorem dX4_beatErrorIn_23 : decode cX4_beatErrorIn 23 = .ok (.iadd, 1) := by decide +kernel
theorem dX4_beatErrorIn_24 : decode cX4_beatErrorIn 24 = .ok (.goto 4, 3) := by decide +kernel
theorem dX4_beatErrorIn_27 : decode cX4_beatErrorIn 27 = .ok (.iload_n 2, 1) := by decide +kernel
theorem dX4_beatErrorIn_28 : decode cX4_beatErrorIn 28 = .ok (.ireturn, 1) := by decide +kernel
set_option maxRecDepth 20000 in
theorem ggX4_goes_X4_swingIn : GoodIn wsX4_goes wsX4_swingIn := goodIn_r _ [7, 1, 8, 9, 10, 11, 12, 13, 14, 15, 16, 17, 18, 19, 20, 21, 22, 23] (by decide +kernel) (by decide +kernel)
set_option maxRecDepth 20000 in
theorem gX4_goes_X4_swingIn : GoodIn wsX4_goes (wsV RX4 67 RX4 yX4_swingIn wsX4_swingIn) := goodIn_app (goodIn_of _ (by decide +kernel)) ggX4_goes_X4_swingIn
theorem dX4_goes_0 : decode cX4_goes 0 = .ok (.aload_n 0, 1) := by decide +kernel
theorem dX4_goes_1 : decode cX4_goes 1 = .ok (.getfield 30, 3) := by decide +kernel
theorem dX4_goes_4 : decode cX4_goes 4 = .ok (.ifCond .le 20, 3) := by decide +kernel
theorem dX4_goes_7 : decode cX4_goes 7 = .ok (.aload_n 0, 1) := by decide +kernel
theorem dX4_goes_8 : decode cX4_goes 8 = .ok (.aload_n 0, 1) := by decide +kernel
theorem dX4_goes_9 : decode cX4_goes 9 = .ok (.getfield 39, 3) := by decide +kernel
theorem dX4_goes_12 : decode cX4_goes 12 = .ok (.invokevirtual 67, 3) := by decide +kernel
theorem dX4_goes_15 : decode cX4_goes 15 = .ok (.bipush 120, 2) := by decide +kernel
theorem dX4_goes_17 : decode cX4_goes 17 = .ok (.if_icmp .lt 7, 3) := by decide +kernel
theorem dX4_goes_20 : decode cX4_goes 20 = .ok (.iconst 1, 1) := by decide +kernel
theorem dX4_goes_21 : decode cX4_goes 21 = .ok (.goto 4, 3) := by decide +kernel
theorem dX4_goes_24 : decode cX4_goes 24 = .ok (.iconst 0, 1) := by decide +kernel
theorem dX4_goes_25 : decode cX4_goes 25 = .ok (.ireturn, 1) := by decide +kernel
set_option maxRecDepth 20000 in
theorem ggX4_run_X4_runHour : GoodIn wsX4_run wsX4_runHour := goodIn_r _ [6, 7, 8, 9, 10, 11, 1, 12, 13, 14, 15, 16, 17, 18, 19, 5, 20, 21, 22, 23, 24, 25, 26, 27, 28, 29, 30, 31, 32, 33, 34, 35, 36, 37, 38, 39, 40, 41, 42, 43, 44, 45, 46, 47, 48, 49, 50, 51, 52, 53, 54, 55, 56] (by decide +kernel) (by decide +kernel)
set_option maxRecDepth 20000 in
theorem gX4_run_X4_runHour : GoodIn wsX4_run (wsV RX4 80 RX4 yX4_runHour wsX4_runHour) := goodIn_app (goodIn_of _ (by decide +kernel)) ggX4_run_X4_runHour
theorem dX4_run_0 : decode cX4_run 0 = .ok (.aload_n 0, 1) := by decide +kernel
theorem dX4_run_1 : decode cX4_run 1 = .ok (.getfield 51, 3) := by decide +kernel
theorem dX4_run_4 : decode cX4_run 4 = .ok (.istore_n 2, 1) := by decide +kernel
theorem dX4_run_5 : decode cX4_run 5 = .ok (.iconst 0, 1) := by decide +kernel
theorem dX4_run_6 : decode cX4_run 6 = .ok (.istore_n 3, 1) := by decide +kernel
theorem dX4_run_7 : decode cX4_run 7 = .ok (.iload_n 3, 1) := by decide +kernel
theorem dX4_run_8 : decode cX4_run 8 = .ok (.iload_n 1, 1) := by decide +kernel
theorem dX4_run_9 : decode cX4_run 9 = .ok (.if_icmp .ge 13, 3) := by decide +kernel
theorem dX4_run_12 : decode cX4_run 12 = .ok (.aload_n 0, 1) := by decide +kernel
theorem dX4_run_13 : decode cX4_run 13 = .ok (.invokevirtual 80, 3) := by decide +kernel
theorem dX4_run_16 : decode cX4_run 16 = .ok (.iinc 3 1, 3) := by decide +kernel
theorem dX4_run_19 : decode cX4_run 19 = .ok (.goto (-12), 3) := by decide +kernel
theorem dX4_run_22 : decode cX4_run 22 = .ok (.aload_n 0, 1) := by decide +kernel
theorem dX4_run_23 : decode cX4_run 23 = .ok (.getfield 51, 3) := by decide +kernel
theorem dX4_run_26 : decode cX4_run 26 = .ok (.iload_n 2, 1) := by decide +kernel
theorem dX4_run_27 : decode cX4_run 27 = .ok (.isub, 1) := by decide +kernel
theorem dX4_run_28 : decode cX4_run 28 = .ok (.ireturn, 1) := by decide +kernel
set_option maxRecDepth 20000 in
theorem ggX4_runHour_X4_goes : GoodIn wsX4_runHour wsX4_goes := goodIn_r _ [16, 5, 4, 17, 18, 19, 15, 20, 7, 21, 22, 10, 23, 42, 43, 44, 45, 46, 47, 48, 49, 50, 51, 52] (by decide +kernel) (by decide +kernel)
set_option maxRecDepth 20000 in
theorem gX4_runHour_X4_goes : GoodIn wsX4_runHour (wsV RX4 83 RX4 yX4_goes wsX4_goes) := goodIn_app (goodIn_of _ (by decide +kernel)) ggX4_runHour_X4_goes
set_option maxRecDepth 20000 in
theorem ggX4_runHour_X4_rateIn : GoodIn wsX4_runHour wsX4_rateIn := goodIn_r _ [27, 28, 29, 17, 18, 19, 15, 20, 5, 7, 21, 22, 10, 23, 30, 31, 32, 33, 34, 35, 36, 37, 38, 39, 40, 41, 42, 43, 44, 45, 46, 47, 48, 49, 50, 51, 52] (by decide +kernel) (by decide +kernel)
set_option maxRecDepth 20000 in
theorem gX4_runHour_X4_rateIn : GoodIn wsX4_runHour (wsV RX4 87 RX4 yX4_rateIn wsX4_rateIn) := goodIn_app (goodIn_of _ (by decide +kernel)) ggX4_runHour_X4_rateIn
set_option maxRecDepth 20000 in
theorem ggX4_runHour_J9_floorDiv_7cf53 : GoodIn wsX4_runHour wsJ9_floorDiv_7cf53 := goodIn_r _ [41] (by decide +kernel) (by decide +kernel)
set_option maxRecDepth 20000 in
theorem gX4_runHour_J9_floorDiv_7cf53 : GoodIn wsX4_runHour (va_wsS RX4 74 yJ9_floorDiv_7cf53 wsJ9_floorDiv_7cf53) := goodIn_app (goodIn_of _ (by decide +kernel)) ggX4_runHour_J9_floorDiv_7cf53
theorem dX4_runHour_0 : decode cX4_runHour 0 = .ok (.aload_n 0, 1) := by decide +kernel
theorem dX4_runHour_1 : decode cX4_runHour 1 = .ok (.dup, 1) := by decide +kernel
theorem dX4_runHour_2 : decode cX4_runHour 2 = .ok (.getfield 42, 3) := by decide +kernel
theorem dX4_runHour_5 : decode cX4_runHour 5 = .ok (.iconst 1, 1) := by decide +kernel
theorem dX4_runHour_6 : decode cX4_runHour 6 = .ok (.iadd, 1) := by decide +kernel
theorem dX4_runHour_7 : decode cX4_runHour 7 = .ok (.putfield 42, 3) := by decide +kernel
theorem dX4_runHour_10 : decode cX4_runHour 10 = .ok (.aload_n 0, 1) := by decide +kernel
theorem dX4_runHour_11 : decode cX4_runHour 11 = .ok (.invokevirtual 83, 3) := by decide +kernel
theorem dX4_runHour_14 : decode cX4_runHour 14 = .ok (.ifCond .ne 14, 3) := by decide +kernel
theorem dX4_runHour_17 : decode cX4_runHour 17 = .ok (.aload_n 0, 1) := by decide +kernel
theorem dX4_runHour_18 : decode cX4_runHour 18 = .ok (.dup, 1) := by decide +kernel
theorem dX4_runHour_19 : decode cX4_runHour 19 = .ok (.getfield 48, 3) := by decide +kernel
theorem dX4_runHour_22 : decode cX4_runHour 22 = .ok (.iconst 1, 1) := by decide +kernel
theorem dX4_runHour_23 : decode cX4_runHour 23 = .ok (.iadd, 1) := by decide +kernel
theorem dX4_runHour_24 : decode cX4_runHour 24 = .ok (.putfield 48, 3) := by decide +kernel
theorem dX4_runHour_27 : decode cX4_runHour 27 = .ok (.return_, 1) := by decide +kernel
theorem dX4_runHour_28 : decode cX4_runHour 28 = .ok (.aload_n 0, 1) := by decide +kernel
theorem dX4_runHour_29 : decode cX4_runHour 29 = .ok (.dup, 1) := by decide +kernel
theorem dX4_runHour_30 : decode cX4_runHour 30 = .ok (.getfield 45, 3) := by decide +kernel
theorem dX4_runHour_33 : decode cX4_runHour 33 = .ok (.aload_n 0, 1) := by decide +kernel
theorem dX4_runHour_34 : decode cX4_runHour 34 = .ok (.aload_n 0, 1) := by decide +kernel
theorem dX4_runHour_35 : decode cX4_runHour 35 = .ok (.getfield 39, 3) := by decide +kernel
theorem dX4_runHour_38 : decode cX4_runHour 38 = .ok (.invokevirtual 87, 3) := by decide +kernel
theorem dX4_runHour_41 : decode cX4_runHour 41 = .ok (.bipush 24, 2) := by decide +kernel
theorem dX4_runHour_43 : decode cX4_runHour 43 = .ok (.invokestatic 74, 3) := by decide +kernel
theorem dX4_runHour_46 : decode cX4_runHour 46 = .ok (.iadd, 1) := by decide +kernel
theorem dX4_runHour_47 : decode cX4_runHour 47 = .ok (.putfield 45, 3) := by decide +kernel
theorem dX4_runHour_50 : decode cX4_runHour 50 = .ok (.aload_n 0, 1) := by decide +kernel
theorem dX4_runHour_51 : decode cX4_runHour 51 = .ok (.dup, 1) := by decide +kernel
theorem dX4_runHour_52 : decode cX4_runHour 52 = .ok (.getfield 30, 3) := by decide +kernel
theorem dX4_runHour_55 : decode cX4_runHour 55 = .ok (.iconst 1, 1) := by decide +kernel
theorem dX4_runHour_56 : decode cX4_runHour 56 = .ok (.isub, 1) := by decide +kernel
theorem dX4_runHour_57 : decode cX4_runHour 57 = .ok (.putfield 30, 3) := by decide +kernel
theorem dX4_runHour_60 : decode cX4_runHour 60 = .ok (.aload_n 0, 1) := by decide +kernel
theorem dX4_runHour_61 : decode cX4_runHour 61 = .ok (.dup, 1) := by decide +kernel
theorem dX4_runHour_62 : decode cX4_runHour 62 = .ok (.getfield 51, 3) := by decide +kernel
theorem dX4_runHour_65 : decode cX4_runHour 65 = .ok (.iconst 1, 1) := by decide +kernel
theorem dX4_runHour_66 : decode cX4_runHour 66 = .ok (.iadd, 1) := by decide +kernel
theorem dX4_runHour_67 : decode cX4_runHour 67 = .ok (.putfield 51, 3) := by decide +kernel
theorem dX4_runHour_70 : decode cX4_runHour 70 = .ok (.aload_n 0, 1) := by decide +kernel
theorem dX4_runHour_71 : decode cX4_runHour 71 = .ok (.getfield 51, 3) := by decide +kernel
theorem dX4_runHour_74 : decode cX4_runHour 74 = .ok (.bipush 24, 2) := by decide +kernel
theorem dX4_runHour_76 : decode cX4_runHour 76 = .ok (.irem, 1) := by decide +kernel
theorem dX4_runHour_77 : decode cX4_runHour 77 = .ok (.ifCond .ne 18, 3) := by decide +kernel
theorem dX4_runHour_80 : decode cX4_runHour 80 = .ok (.aload_n 0, 1) := by decide +kernel
theorem dX4_runHour_81 : decode cX4_runHour 81 = .ok (.bipush 100, 2) := by decide +kernel
theorem dX4_runHour_83 : decode cX4_runHour 83 = .ok (.aload_n 0, 1) := by decide +kernel
theorem dX4_runHour_84 : decode cX4_runHour 84 = .ok (.getfield 36, 3) := by decide +kernel
theorem dX4_runHour_87 : decode cX4_runHour 87 = .ok (.iconst 1, 1) := by decide +kernel
theorem dX4_runHour_88 : decode cX4_runHour 88 = .ok (.iadd, 1) := by decide +kernel
theorem dX4_runHour_89 : decode cX4_runHour 89 = .ok (.invokestatic 58, 3) := by decide +kernel
theorem dX4_runHour_92 : decode cX4_runHour 92 = .ok (.putfield 36, 3) := by decide +kernel
theorem dX4_runHour_95 : decode cX4_runHour 95 = .ok (.return_, 1) := by decide +kernel
theorem dX4_copyFrom_0 : decode cX4_copyFrom 0 = .ok (.aload_n 1, 1) := by decide +kernel
theorem dX4_copyFrom_1 : decode cX4_copyFrom 1 = .ok (.getfield 20, 3) := by decide +kernel
theorem dX4_copyFrom_4 : decode cX4_copyFrom 4 = .ok (.iconst 0, 1) := by decide +kernel
theorem dX4_copyFrom_5 : decode cX4_copyFrom 5 = .ok (.aload_n 0, 1) := by decide +kernel
theorem dX4_copyFrom_6 : decode cX4_copyFrom 6 = .ok (.getfield 20, 3) := by decide +kernel
theorem dX4_copyFrom_9 : decode cX4_copyFrom 9 = .ok (.iconst 0, 1) := by decide +kernel
theorem dX4_copyFrom_10 : decode cX4_copyFrom 10 = .ok (.bipush 6, 2) := by decide +kernel
theorem dX4_copyFrom_12 : decode cX4_copyFrom 12 = .ok (.invokestatic 90, 3) := by decide +kernel
theorem dX4_copyFrom_15 : decode cX4_copyFrom 15 = .ok (.aload_n 0, 1) := by decide +kernel
theorem dX4_copyFrom_16 : decode cX4_copyFrom 16 = .ok (.aload_n 1, 1) := by decide +kernel
theorem dX4_copyFrom_17 : decode cX4_copyFrom 17 = .ok (.getfield 23, 3) := by decide +kernel
theorem dX4_copyFrom_20 : decode cX4_copyFrom 20 = .ok (.putfield 23, 3) := by decide +kernel
theorem dX4_copyFrom_23 : decode cX4_copyFrom 23 = .ok (.aload_n 0, 1) := by decide +kernel
theorem dX4_copyFrom_24 : decode cX4_copyFrom 24 = .ok (.aload_n 1, 1) := by decide +kernel
theorem dX4_copyFrom_25 : decode cX4_copyFrom 25 = .ok (.getfield 27, 3) := by decide +kernel
theorem dX4_copyFrom_28 : decode cX4_copyFrom 28 = .ok (.putfield 27, 3) := by decide +kernel
theorem dX4_copyFrom_31 : decode cX4_copyFrom 31 = .ok (.aload_n 0, 1) := by decide +kernel
theorem dX4_copyFrom_32 : decode cX4_copyFrom 32 = .ok (.aload_n 1, 1) := by decide +kernel
theorem dX4_copyFrom_33 : decode cX4_copyFrom 33 = .ok (.getfield 30, 3) := by decide +kernel
theorem dX4_copyFrom_36 : decode cX4_copyFrom 36 = .ok (.putfield 30, 3) := by decide +kernel
theorem dX4_copyFrom_39 : decode cX4_copyFrom 39 = .ok (.aload_n 0, 1) := by decide +kernel
theorem dX4_copyFrom_40 : decode cX4_copyFrom 40 = .ok (.aload_n 1, 1) := by decide +kernel
theorem dX4_copyFrom_41 : decode cX4_copyFrom 41 = .ok (.getfield 33, 3) := by decide +kernel
theorem dX4_copyFrom_44 : decode cX4_copyFrom 44 = .ok (.putfield 33, 3) := by decide +kernel
theorem dX4_copyFrom_47 : decode cX4_copyFrom 47 = .ok (.aload_n 0, 1) := by decide +kernel
theorem dX4_copyFrom_48 : decode cX4_copyFrom 48 = .ok (.aload_n 1, 1) := by decide +kernel
theorem dX4_copyFrom_49 : decode cX4_copyFrom 49 = .ok (.getfield 36, 3) := by decide +kernel
theorem dX4_copyFrom_52 : decode cX4_copyFrom 52 = .ok (.putfield 36, 3) := by decide +kernel
theorem dX4_copyFrom_55 : decode cX4_copyFrom 55 = .ok (.aload_n 0, 1) := by decide +kernel
theorem dX4_copyFrom_56 : decode cX4_copyFrom 56 = .ok (.aload_n 1, 1) := by decide +kernel
theorem dX4_copyFrom_57 : decode cX4_copyFrom 57 = .ok (.getfield 39, 3) := by decide +kernel
theorem dX4_copyFrom_60 : decode cX4_copyFrom 60 = .ok (.putfield 39, 3) := by decide +kernel
theorem dX4_copyFrom_63 : decode cX4_copyFrom 63 = .ok (.aload_n 0, 1) := by decide +kernel
theorem dX4_copyFrom_64 : decode cX4_copyFrom 64 = .ok (.aload_n 1, 1) := by decide +kernel
theorem dX4_copyFrom_65 : decode cX4_copyFrom 65 = .ok (.getfield 42, 3) := by decide +kernel
theorem dX4_copyFrom_68 : decode cX4_copyFrom 68 = .ok (.putfield 42, 3) := by decide +kernel
theorem dX4_copyFrom_71 : decode cX4_copyFrom 71 = .ok (.aload_n 0, 1) := by decide +kernel
theorem dX4_copyFrom_72 : decode cX4_copyFrom 72 = .ok (.aload_n 1, 1) := by decide +kernel
theorem dX4_copyFrom_73 : decode cX4_copyFrom 73 = .ok (.getfield 45, 3) := by decide +kernel
theorem dX4_copyFrom_76 : decode cX4_copyFrom 76 = .ok (.putfield 45, 3) := by decide +kernel
theorem dX4_copyFrom_79 : decode cX4_copyFrom 79 = .ok (.aload_n 0, 1) := by decide +kernel
theorem dX4_copyFrom_80 : decode cX4_copyFrom 80 = .ok (.aload_n 1, 1) := by decide +kernel
theorem dX4_copyFrom_81 : decode cX4_copyFrom 81 = .ok (.getfield 48, 3) := by decide +kernel
theorem dX4_copyFrom_84 : decode cX4_copyFrom 84 = .ok (.putfield 48, 3) := by decide +kernel
theorem dX4_copyFrom_87 : decode cX4_copyFrom 87 = .ok (.aload_n 0, 1) := by decide +kernel
theorem dX4_copyFrom_88 : decode cX4_copyFrom 88 = .ok (.aload_n 1, 1) := by decide +kernel
theorem dX4_copyFrom_89 : decode cX4_copyFrom 89 = .ok (.getfield 51, 3) := by decide +kernel
theorem dX4_copyFrom_92 : decode cX4_copyFrom 92 = .ok (.putfield 51, 3) := by decide +kernel
theorem dX4_copyFrom_95 : decode cX4_copyFrom 95 = .ok (.return_, 1) := by decide +kernel
set_option maxRecDepth 20000 in
theorem ggX5_init_X3_init : GoodIn wsX5_init wsX3_init := goodIn_r _ [23, 24, 2, 3, 25, 18, 19, 26, 27, 28, 29, 30, 31, 32, 33, 34, 35, 36, 37, 38, 39, 40, 41, 42, 43, 44, 45, 46, 47, 48, 49, 50, 51, 52, 53, 54, 55, 56, 57, 58, 59, 60, 61, 62, 63, 64, 65, 111, 112, 113, 114, 115, 116, 117, 118, 119, 120, 121, 86, 87, 88, 89, 90, 91, 92, 122, 123] (by decide +kernel) (by decide +kernel)
set_option maxRecDepth 20000 in
theorem gX5_init_X3_init_n9 : GoodIn wsX5_init (wsX3_init) := ggX5_init_X3_init
set_option maxRecDepth 20000 in
theorem ggX5_init_X2_init : GoodIn wsX5_init wsX2_init := goodIn_r _ [68, 69, 2, 3, 70, 71, 72, 73, 5, 6, 22, 23, 24, 25, 18, 19, 26, 27, 28, 29, 30, 31, 32, 33, 34, 35, 36, 37, 38, 39, 40, 41, 42, 43, 44, 45, 46, 47, 48, 49, 50, 51, 52, 53, 54, 55, 56, 57, 58, 59, 60, 61, 62, 63, 64, 65, 99, 100, 101, 86, 87, 88, 89, 90, 91, 92, 111, 112, 113, 114, 115, 116, 117, 118, 119, 120, 121, 122, 123] (by decide +kernel) (by decide +kernel)
set_option maxRecDepth 20000 in
theorem gX5_init_X2_init : GoodIn wsX5_init (wsX2_init) := ggX5_init_X2_init
set_option maxRecDepth 20000 in
theorem ggX5_init_X0_init : GoodIn wsX5_init wsX0_init := goodIn_r _ [75, 76, 2, 3, 63, 77, 78, 79, 80, 81, 82, 83, 84, 85, 102, 103, 104, 105, 106, 107, 108, 109, 110] (by decide +kernel) (by decide +kernel)
set_option maxRecDepth 20000 in
theorem gX5_init_X0_init_n28 : GoodIn wsX5_init (wsX0_init) := ggX5_init_X0_init
set_option maxRecDepth 20000 in
theorem ggX5_init_X4_init : GoodIn wsX5_init wsX4_init := goodIn_r _ [44, 45, 2, 3, 46, 47, 33, 34, 35, 36, 48, 49, 50, 51, 52, 53, 54, 55, 56, 57, 58, 59, 111, 112, 113, 114, 115, 116, 117, 118, 119, 120, 121] (by decide +kernel) (by decide +kernel)
set_option maxRecDepth 20000 in
theorem gX5_init_X4_init_n35 : GoodIn wsX5_init (wsX4_init) := ggX5_init_X4_init
theorem dX5_init_0 : decode cX5_init 0 = .ok (.aload_n 0, 1) := by decide +kernel
theorem dX5_init_1 : decode cX5_init 1 = .ok (.invokespecial 1, 3) := by decide +kernel
theorem dX5_init_4 : decode cX5_init 4 = .ok (.aload_n 0, 1) := by decide +kernel
theorem dX5_init_5 : decode cX5_init 5 = .ok (.new 7, 3) := by decide +kernel
theorem dX5_init_8 : decode cX5_init 8 = .ok (.dup, 1) := by decide +kernel
theorem dX5_init_9 : decode cX5_init 9 = .ok (.invokespecial 9, 3) := by decide +kernel
theorem dX5_init_12 : decode cX5_init 12 = .ok (.putfield 10, 3) := by decide +kernel
theorem dX5_init_15 : decode cX5_init 15 = .ok (.aload_n 0, 1) := by decide +kernel
theorem dX5_init_16 : decode cX5_init 16 = .ok (.new 7, 3) := by decide +kernel
theorem dX5_init_19 : decode cX5_init 19 = .ok (.dup, 1) := by decide +kernel
theorem dX5_init_20 : decode cX5_init 20 = .ok (.invokespecial 9, 3) := by decide +kernel
theorem dX5_init_23 : decode cX5_init 23 = .ok (.putfield 16, 3) := by decide +kernel
theorem dX5_init_26 : decode cX5_init 26 = .ok (.aload_n 0, 1) := by decide +kernel
theorem dX5_init_27 : decode cX5_init 27 = .ok (.new 19, 3) := by decide +kernel
theorem dX5_init_30 : decode cX5_init 30 = .ok (.dup, 1) := by decide +kernel
theorem dX5_init_31 : decode cX5_init 31 = .ok (.invokespecial 21, 3) := by decide +kernel
theorem dX5_init_34 : decode cX5_init 34 = .ok (.putfield 22, 3) := by decide +kernel
theorem dX5_init_37 : decode cX5_init 37 = .ok (.aload_n 0, 1) := by decide +kernel
theorem dX5_init_38 : decode cX5_init 38 = .ok (.new 26, 3) := by decide +kernel
theorem dX5_init_41 : decode cX5_init 41 = .ok (.dup, 1) := by decide +kernel
theorem dX5_init_42 : decode cX5_init 42 = .ok (.invokespecial 28, 3) := by decide +kernel
theorem dX5_init_45 : decode cX5_init 45 = .ok (.putfield 29, 3) := by decide +kernel
theorem dX5_init_48 : decode cX5_init 48 = .ok (.aload_n 0, 1) := by decide +kernel
theorem dX5_init_49 : decode cX5_init 49 = .ok (.new 33, 3) := by decide +kernel
theorem dX5_init_52 : decode cX5_init 52 = .ok (.dup, 1) := by decide +kernel
theorem dX5_init_53 : decode cX5_init 53 = .ok (.invokespecial 35, 3) := by decide +kernel
theorem dX5_init_56 : decode cX5_init 56 = .ok (.putfield 36, 3) := by decide +kernel
theorem dX5_init_59 : decode cX5_init 59 = .ok (.aload_n 0, 1) := by decide +kernel
theorem dX5_init_60 : decode cX5_init 60 = .ok (.iconst 0, 1) := by decide +kernel
theorem dX5_init_61 : decode cX5_init 61 = .ok (.putfield 40, 3) := by decide +kernel
theorem dX5_init_64 : decode cX5_init 64 = .ok (.return_, 1) := by decide +kernel
set_option maxRecDepth 20000 in
theorem ggX5_wind_X5_demandRange : GoodIn wsX5_wind wsX5_demandRange := goodIn_ca (goodIn_r _ [8, 9, 10] (by decide +kernel) (by decide +kernel)) (goodIn_sub (fun _ h => List.mem_cons_of_mem _ (List.mem_append_right _ h)) (by decide +kernel))
set_option maxRecDepth 20000 in
theorem gX5_wind_X5_demandRange : GoodIn wsX5_wind (va_wsS RX5 44 yX5_demandRange wsX5_demandRange) := goodIn_app (goodIn_of _ (by decide +kernel)) ggX5_wind_X5_demandRange
set_option maxRecDepth 20000 in
theorem ggX5_wind_X2_push : GoodIn wsX5_wind wsX2_push := goodIn_r _ [15, 16, 17, 18, 19, 20, 21, 22, 23, 24, 25, 26, 27, 28, 29, 30, 31, 32, 33, 34, 35, 36, 37, 38, 39, 40, 41, 42, 43, 44, 45, 46, 47, 48, 49, 50, 51, 52, 53, 54, 55, 56, 57, 58, 59, 60, 61, 62, 63, 93, 94, 95, 75, 76, 77, 78, 79, 80, 81, 82, 83, 84, 85, 86, 87, 88, 89, 90, 91, 92, 96, 97] (by decide +kernel) (by decide +kernel)
set_option maxRecDepth 20000 in
theorem gX5_wind_X2_push : GoodIn wsX5_wind (wsV RX5 48 RX2 yX2_push wsX2_push) := goodIn_app (goodIn_of _ (by decide +kernel)) ggX5_wind_X2_push
set_option maxRecDepth 20000 in
theorem ggX5_wind_X4_tighten : GoodIn wsX5_wind wsX4_tighten := goodIn_r _ [67, 48, 68, 20, 21, 22, 82, 83, 84, 85, 86, 87, 88, 89, 90, 91, 92] (by decide +kernel) (by decide +kernel)
set_option maxRecDepth 20000 in
theorem gX5_wind_X4_tighten : GoodIn wsX5_wind (wsV RX5 55 RX4 yX4_tighten wsX4_tighten) := goodIn_app (goodIn_of _ (by decide +kernel)) ggX5_wind_X4_tighten
theorem dX5_wind_0 : decode cX5_wind 0 = .ok (.iload_n 1, 1) := by decide +kernel
theorem dX5_wind_1 : decode cX5_wind 1 = .ok (.iconst 1, 1) := by decide +kernel
theorem dX5_wind_2 : decode cX5_wind 2 = .ok (.bipush 48, 2) := by decide +kernel
theorem dX5_wind_4 : decode cX5_wind 4 = .ok (.invokestatic 44, 3) := by decide +kernel
theorem dX5_wind_7 : decode cX5_wind 7 = .ok (.aload_n 0, 1) := by decide +kernel
theorem dX5_wind_8 : decode cX5_wind 8 = .ok (.getfield 22, 3) := by decide +kernel
theorem dX5_wind_11 : decode cX5_wind 11 = .ok (.aload_n 0, 1) := by decide +kernel
theorem dX5_wind_12 : decode cX5_wind 12 = .ok (.getfield 10, 3) := by decide +kernel
theorem dX5_wind_15 : decode cX5_wind 15 = .ok (.invokevirtual 48, 3) := by decide +kernel
theorem dX5_wind_18 : decode cX5_wind 18 = .ok (.aload_n 0, 1) := by decide +kernel
theorem dX5_wind_19 : decode cX5_wind 19 = .ok (.getfield 10, 3) := by decide +kernel
theorem dX5_wind_22 : decode cX5_wind 22 = .ok (.getfield 52, 3) := by decide +kernel
theorem dX5_wind_25 : decode cX5_wind 25 = .ok (.iload_n 1, 1) := by decide +kernel
theorem dX5_wind_26 : decode cX5_wind 26 = .ok (.invokevirtual 55, 3) := by decide +kernel
theorem dX5_wind_29 : decode cX5_wind 29 = .ok (.aload_n 0, 1) := by decide +kernel
theorem dX5_wind_30 : decode cX5_wind 30 = .ok (.getfield 10, 3) := by decide +kernel
theorem dX5_wind_33 : decode cX5_wind 33 = .ok (.getfield 52, 3) := by decide +kernel
theorem dX5_wind_36 : decode cX5_wind 36 = .ok (.getfield 59, 3) := by decide +kernel
theorem dX5_wind_39 : decode cX5_wind 39 = .ok (.ireturn, 1) := by decide +kernel
set_option maxRecDepth 20000 in
theorem ggX5_weigh_X5_demandPose : GoodIn wsX5_weigh wsX5_demandPose := goodIn_ca (goodIn_r _ [7, 8, 9, 10, 11, 6, 12] (by decide +kernel) (by decide +kernel)) (goodIn_sub (fun _ h => List.mem_cons_of_mem _ (List.mem_append_left _ (List.mem_append_right _ h))) (by decide +kernel))
set_option maxRecDepth 20000 in
theorem gX5_weigh_X5_demandPose : GoodIn wsX5_weigh (va_wsS RX5 63 yX5_demandPose wsX5_demandPose) := goodIn_app (goodIn_of _ (by decide +kernel)) ggX5_weigh_X5_demandPose
set_option maxRecDepth 20000 in
theorem ggX5_weigh_X5_demandRange : GoodIn wsX5_weigh wsX5_demandRange := goodIn_ca (goodIn_r _ [15, 16, 17] (by decide +kernel) (by decide +kernel)) (goodIn_sub (fun _ h => List.mem_cons_of_mem _ (List.mem_append_right _ h)) (by decide +kernel))
set_option maxRecDepth 20000 in
theorem gX5_weigh_X5_demandRange : GoodIn wsX5_weigh (va_wsS RX5 44 yX5_demandRange wsX5_demandRange) := goodIn_app (goodIn_of _ (by decide +kernel)) ggX5_weigh_X5_demandRange
set_option maxRecDepth 20000 in
theorem ggX5_weigh_X2_push : GoodIn wsX5_weigh wsX2_push := goodIn_r _ [22, 23, 24, 25, 26, 27, 28, 29, 30, 31, 32, 33, 34, 35, 36, 37, 38, 39, 40, 41, 42, 43, 44, 45, 46, 47, 48, 49, 50, 51, 52, 53, 54, 55, 56, 57, 58, 59, 60, 61, 62, 63, 64, 65, 66, 67, 68, 69, 70, 92, 93, 94, 85, 86, 87, 88, 89, 90, 91, 95, 96, 97, 98, 99, 100, 101, 102, 103, 104, 105, 106, 107] (by decide +kernel) (by decide +kernel)
set_option maxRecDepth 20000 in
theorem gX5_weigh_X2_push : GoodIn wsX5_weigh (wsV RX5 48 RX2 yX2_push wsX2_push) := goodIn_app (goodIn_of _ (by decide +kernel)) ggX5_weigh_X2_push
set_option maxRecDepth 20000 in
theorem ggX5_weigh_X4_weightOf : GoodIn wsX5_weigh wsX4_weightOf := goodIn_r _ [74, 51, 11, 6, 12, 95, 96, 97, 98, 99, 100, 101, 102, 103, 104, 105] (by decide +kernel) (by decide +kernel)
set_option maxRecDepth 20000 in
theorem gX5_weigh_X4_weightOf : GoodIn wsX5_weigh (wsV RX5 66 RX4 yX4_weightOf wsX4_weightOf) := goodIn_app (goodIn_of _ (by decide +kernel)) ggX5_weigh_X4_weightOf
set_option maxRecDepth 20000 in
theorem ggX5_weigh_X4_putWeight : GoodIn wsX5_weigh wsX4_putWeight := goodIn_r _ [78, 51, 11, 6, 12, 95, 96, 97, 98, 99, 100, 101, 102, 103, 104, 105] (by decide +kernel) (by decide +kernel)
set_option maxRecDepth 20000 in
theorem gX5_weigh_X4_putWeight : GoodIn wsX5_weigh (wsV RX5 70 RX4 yX4_putWeight wsX4_putWeight) := goodIn_app (goodIn_of _ (by decide +kernel)) ggX5_weigh_X4_putWeight
theorem dX5_weigh_0 : decode cX5_weigh 0 = .ok (.iload_n 1, 1) := by decide +kernel
theorem dX5_weigh_1 : decode cX5_weigh 1 = .ok (.invokestatic 63, 3) := by decide +kernel
theorem dX5_weigh_4 : decode cX5_weigh 4 = .ok (.iload_n 2, 1) := by decide +kernel
theorem dX5_weigh_5 : decode cX5_weigh 5 = .ok (.bipush (-60), 2) := by decide +kernel
theorem dX5_weigh_7 : decode cX5_weigh 7 = .ok (.bipush 60, 2) := by decide +kernel
theorem dX5_weigh_9 : decode cX5_weigh 9 = .ok (.invokestatic 44, 3) := by decide +kernel
theorem dX5_weigh_12 : decode cX5_weigh 12 = .ok (.aload_n 0, 1) := by decide +kernel
theorem dX5_weigh_13 : decode cX5_weigh 13 = .ok (.getfield 22, 3) := by decide +kernel
theorem dX5_weigh_16 : decode cX5_weigh 16 = .ok (.aload_n 0, 1) := by decide +kernel
theorem dX5_weigh_17 : decode cX5_weigh 17 = .ok (.getfield 10, 3) := by decide +kernel
theorem dX5_weigh_20 : decode cX5_weigh 20 = .ok (.invokevirtual 48, 3) := by decide +kernel
theorem dX5_weigh_23 : decode cX5_weigh 23 = .ok (.aload_n 0, 1) := by decide +kernel
theorem dX5_weigh_24 : decode cX5_weigh 24 = .ok (.getfield 10, 3) := by decide +kernel
theorem dX5_weigh_27 : decode cX5_weigh 27 = .ok (.getfield 52, 3) := by decide +kernel
theorem dX5_weigh_30 : decode cX5_weigh 30 = .ok (.iload_n 1, 1) := by decide +kernel
theorem dX5_weigh_31 : decode cX5_weigh 31 = .ok (.invokevirtual 66, 3) := by decide +kernel
theorem dX5_weigh_34 : decode cX5_weigh 34 = .ok (.istore_n 3, 1) := by decide +kernel
theorem dX5_weigh_35 : decode cX5_weigh 35 = .ok (.aload_n 0, 1) := by decide +kernel
theorem dX5_weigh_36 : decode cX5_weigh 36 = .ok (.getfield 10, 3) := by decide +kernel
theorem dX5_weigh_39 : decode cX5_weigh 39 = .ok (.getfield 52, 3) := by decide +kernel
theorem dX5_weigh_42 : decode cX5_weigh 42 = .ok (.iload_n 1, 1) := by decide +kernel
theorem dX5_weigh_43 : decode cX5_weigh 43 = .ok (.iload_n 2, 1) := by decide +kernel
theorem dX5_weigh_44 : decode cX5_weigh 44 = .ok (.invokevirtual 70, 3) := by decide +kernel
theorem dX5_weigh_47 : decode cX5_weigh 47 = .ok (.iload_n 3, 1) := by decide +kernel
theorem dX5_weigh_48 : decode cX5_weigh 48 = .ok (.bipush 100, 2) := by decide +kernel
theorem dX5_weigh_50 : decode cX5_weigh 50 = .ok (.iadd, 1) := by decide +kernel
theorem dX5_weigh_51 : decode cX5_weigh 51 = .ok (.ireturn, 1) := by decide +kernel
set_option maxRecDepth 20000 in
theorem ggX5_adjust_X5_demandRange : GoodIn wsX5_adjust wsX5_demandRange := goodIn_ca (goodIn_r _ [9, 10, 11] (by decide +kernel) (by decide +kernel)) (goodIn_sub (fun _ h => List.mem_cons_of_mem _ (List.mem_append_right _ h)) (by decide +kernel))
set_option maxRecDepth 20000 in
theorem gX5_adjust_X5_demandRange : GoodIn wsX5_adjust (va_wsS RX5 44 yX5_demandRange wsX5_demandRange) := goodIn_app (goodIn_of _ (by decide +kernel)) ggX5_adjust_X5_demandRange
set_option maxRecDepth 20000 in
theorem ggX5_adjust_X2_push : GoodIn wsX5_adjust wsX2_push := goodIn_r _ [16, 17, 18, 19, 20, 21, 22, 23, 24, 25, 26, 27, 28, 29, 30, 31, 32, 33, 34, 35, 36, 37, 38, 39, 40, 41, 42, 43, 44, 45, 46, 47, 48, 49, 50, 51, 52, 53, 54, 55, 56, 57, 58, 59, 60, 61, 62, 63, 64, 89, 90, 91, 71, 72, 73, 74, 75, 76, 77, 78, 79, 80, 81, 82, 83, 84, 85, 86, 87, 88, 92, 93] (by decide +kernel) (by decide +kernel)
set_option maxRecDepth 20000 in
theorem gX5_adjust_X2_push : GoodIn wsX5_adjust (wsV RX5 48 RX2 yX2_push wsX2_push) := goodIn_app (goodIn_of _ (by decide +kernel)) ggX5_adjust_X2_push
theorem dX5_adjust_0 : decode cX5_adjust 0 = .ok (.iload_n 1, 1) := by decide +kernel
theorem dX5_adjust_1 : decode cX5_adjust 1 = .ok (.bipush (-99), 2) := by decide +kernel
theorem dX5_adjust_3 : decode cX5_adjust 3 = .ok (.bipush 99, 2) := by decide +kernel
theorem dX5_adjust_5 : decode cX5_adjust 5 = .ok (.invokestatic 44, 3) := by decide +kernel
theorem dX5_adjust_8 : decode cX5_adjust 8 = .ok (.iload_n 2, 1) := by decide +kernel
theorem dX5_adjust_9 : decode cX5_adjust 9 = .ok (.bipush (-50), 2) := by decide +kernel
theorem dX5_adjust_11 : decode cX5_adjust 11 = .ok (.bipush 50, 2) := by decide +kernel
theorem dX5_adjust_13 : decode cX5_adjust 13 = .ok (.invokestatic 44, 3) := by decide +kernel
theorem dX5_adjust_16 : decode cX5_adjust 16 = .ok (.aload_n 0, 1) := by decide +kernel
theorem dX5_adjust_17 : decode cX5_adjust 17 = .ok (.getfield 22, 3) := by decide +kernel
theorem dX5_adjust_20 : decode cX5_adjust 20 = .ok (.aload_n 0, 1) := by decide +kernel
theorem dX5_adjust_21 : decode cX5_adjust 21 = .ok (.getfield 10, 3) := by decide +kernel
theorem dX5_adjust_24 : decode cX5_adjust 24 = .ok (.invokevirtual 48, 3) := by decide +kernel
theorem dX5_adjust_27 : decode cX5_adjust 27 = .ok (.aload_n 0, 1) := by decide +kernel
theorem dX5_adjust_28 : decode cX5_adjust 28 = .ok (.getfield 10, 3) := by decide +kernel
theorem dX5_adjust_31 : decode cX5_adjust 31 = .ok (.getfield 52, 3) := by decide +kernel
theorem dX5_adjust_34 : decode cX5_adjust 34 = .ok (.getfield 74, 3) := by decide +kernel
theorem dX5_adjust_37 : decode cX5_adjust 37 = .ok (.istore_n 3, 1) := by decide +kernel
theorem dX5_adjust_38 : decode cX5_adjust 38 = .ok (.aload_n 0, 1) := by decide +kernel
theorem dX5_adjust_39 : decode cX5_adjust 39 = .ok (.getfield 10, 3) := by decide +kernel
theorem dX5_adjust_42 : decode cX5_adjust 42 = .ok (.getfield 52, 3) := by decide +kernel
theorem dX5_adjust_45 : decode cX5_adjust 45 = .ok (.iload_n 1, 1) := by decide +kernel
theorem dX5_adjust_46 : decode cX5_adjust 46 = .ok (.putfield 74, 3) := by decide +kernel
theorem dX5_adjust_49 : decode cX5_adjust 49 = .ok (.aload_n 0, 1) := by decide +kernel
theorem dX5_adjust_50 : decode cX5_adjust 50 = .ok (.getfield 10, 3) := by decide +kernel
theorem dX5_adjust_53 : decode cX5_adjust 53 = .ok (.getfield 52, 3) := by decide +kernel
theorem dX5_adjust_56 : decode cX5_adjust 56 = .ok (.iload_n 2, 1) := by decide +kernel
theorem dX5_adjust_57 : decode cX5_adjust 57 = .ok (.putfield 77, 3) := by decide +kernel
theorem dX5_adjust_60 : decode cX5_adjust 60 = .ok (.iload_n 3, 1) := by decide +kernel
theorem dX5_adjust_61 : decode cX5_adjust 61 = .ok (.bipush 100, 2) := by decide +kernel
theorem dX5_adjust_63 : decode cX5_adjust 63 = .ok (.iadd, 1) := by decide +kernel
theorem dX5_adjust_64 : decode cX5_adjust 64 = .ok (.ireturn, 1) := by decide +kernel
set_option maxRecDepth 20000 in
theorem ggX5_magnetise_X5_demandRange : GoodIn wsX5_magnetise wsX5_demandRange := goodIn_ca (goodIn_r _ [12, 13, 14] (by decide +kernel) (by decide +kernel)) (goodIn_sub (fun _ h => List.mem_cons_of_mem _ (List.mem_append_right _ h)) (by decide +kernel))
set_option maxRecDepth 20000 in
theorem gX5_magnetise_X5_demandRange : GoodIn wsX5_magnetise (va_wsS RX5 44 yX5_demandRange wsX5_demandRange) := goodIn_app (goodIn_of _ (by decide +kernel)) ggX5_magnetise_X5_demandRange
set_option maxRecDepth 20000 in
theorem ggX5_magnetise_X2_push : GoodIn wsX5_magnetise wsX2_push := goodIn_r _ [19, 20, 21, 22, 23, 6, 7, 8, 24, 25, 26, 27, 28, 29, 30, 31, 32, 33, 34, 35, 36, 37, 38, 39, 40, 41, 42, 43, 44, 45, 46, 47, 48, 49, 50, 51, 52, 53, 54, 55, 56, 57, 58, 59, 60, 61, 62, 63, 64, 89, 90, 91, 71, 72, 73, 74, 75, 76, 77, 78, 79, 80, 81, 82, 83, 84, 85, 86, 87, 88, 92, 93] (by decide +kernel) (by decide +kernel)
set_option maxRecDepth 20000 in
theorem gX5_magnetise_X2_push : GoodIn wsX5_magnetise (wsV RX5 48 RX2 yX2_push wsX2_push) := goodIn_app (goodIn_of _ (by decide +kernel)) ggX5_magnetise_X2_push
theorem dX5_magnetise_0 : decode cX5_magnetise 0 = .ok (.iload_n 1, 1) := by decide +kernel
theorem dX5_magnetise_1 : decode cX5_magnetise 1 = .ok (.iconst 1, 1) := by decide +kernel
theorem dX5_magnetise_2 : decode cX5_magnetise 2 = .ok (.bipush 100, 2) := by decide +kernel
theorem dX5_magnetise_4 : decode cX5_magnetise 4 = .ok (.invokestatic 44, 3) := by decide +kernel
theorem dX5_magnetise_7 : decode cX5_magnetise 7 = .ok (.aload_n 0, 1) := by decide +kernel
theorem dX5_magnetise_8 : decode cX5_magnetise 8 = .ok (.getfield 22, 3) := by decide +kernel
theorem dX5_magnetise_11 : decode cX5_magnetise 11 = .ok (.aload_n 0, 1) := by decide +kernel
theorem dX5_magnetise_12 : decode cX5_magnetise 12 = .ok (.getfield 10, 3) := by decide +kernel
theorem dX5_magnetise_15 : decode cX5_magnetise 15 = .ok (.invokevirtual 48, 3) := by decide +kernel
theorem dX5_magnetise_18 : decode cX5_magnetise 18 = .ok (.aload_n 0, 1) := by decide +kernel
theorem dX5_magnetise_19 : decode cX5_magnetise 19 = .ok (.getfield 10, 3) := by decide +kernel
theorem dX5_magnetise_22 : decode cX5_magnetise 22 = .ok (.getfield 52, 3) := by decide +kernel
theorem dX5_magnetise_25 : decode cX5_magnetise 25 = .ok (.bipush 100, 2) := by decide +kernel
theorem dX5_magnetise_27 : decode cX5_magnetise 27 = .ok (.aload_n 0, 1) := by decide +kernel
theorem dX5_magnetise_28 : decode cX5_magnetise 28 = .ok (.getfield 10, 3) := by decide +kernel
theorem dX5_magnetise_31 : decode cX5_magnetise 31 = .ok (.getfield 52, 3) := by decide +kernel
theorem dX5_magnetise_34 : decode cX5_magnetise 34 = .ok (.getfield 80, 3) := by decide +kernel
theorem dX5_magnetise_37 : decode cX5_magnetise 37 = .ok (.iload_n 1, 1) := by decide +kernel
theorem dX5_magnetise_38 : decode cX5_magnetise 38 = .ok (.iadd, 1) := by decide +kernel
theorem dX5_magnetise_39 : decode cX5_magnetise 39 = .ok (.invokestatic 83, 3) := by decide +kernel
theorem dX5_magnetise_42 : decode cX5_magnetise 42 = .ok (.putfield 80, 3) := by decide +kernel
theorem dX5_magnetise_45 : decode cX5_magnetise 45 = .ok (.aload_n 0, 1) := by decide +kernel
theorem dX5_magnetise_46 : decode cX5_magnetise 46 = .ok (.getfield 10, 3) := by decide +kernel
theorem dX5_magnetise_49 : decode cX5_magnetise 49 = .ok (.getfield 52, 3) := by decide +kernel
theorem dX5_magnetise_52 : decode cX5_magnetise 52 = .ok (.getfield 80, 3) := by decide +kernel
theorem dX5_magnetise_55 : decode cX5_magnetise 55 = .ok (.ireturn, 1) := by decide +kernel
set_option maxRecDepth 20000 in
theorem ggX5_demagnetise_X2_push : GoodIn wsX5_demagnetise wsX2_push := goodIn_r _ [9, 10, 11, 12, 13, 14, 15, 16, 17, 18, 19, 20, 21, 22, 23, 24, 25, 26, 27, 28, 29, 30, 31, 32, 33, 34, 35, 36, 37, 38, 39, 40, 41, 42, 43, 44, 45, 46, 47, 48, 49, 50, 51, 52, 53, 54, 55, 56, 57, 82, 83, 84, 64, 65, 66, 67, 68, 69, 70, 71, 72, 73, 74, 75, 76, 77, 78, 79, 80, 81, 85, 86] (by decide +kernel) (by decide +kernel)
set_option maxRecDepth 20000 in
theorem gX5_demagnetise_X2_push : GoodIn wsX5_demagnetise (wsV RX5 48 RX2 yX2_push wsX2_push) := goodIn_app (goodIn_of _ (by decide +kernel)) ggX5_demagnetise_X2_push
theorem dX5_demagnetise_0 : decode cX5_demagnetise 0 = .ok (.aload_n 0, 1) := by decide +kernel
theorem dX5_demagnetise_1 : decode cX5_demagnetise 1 = .ok (.getfield 22, 3) := by decide +kernel
theorem dX5_demagnetise_4 : decode cX5_demagnetise 4 = .ok (.aload_n 0, 1) := by decide +kernel
theorem dX5_demagnetise_5 : decode cX5_demagnetise 5 = .ok (.getfield 10, 3) := by decide +kernel
theorem dX5_demagnetise_8 : decode cX5_demagnetise 8 = .ok (.invokevirtual 48, 3) := by decide +kernel
theorem dX5_demagnetise_11 : decode cX5_demagnetise 11 = .ok (.aload_n 0, 1) := by decide +kernel
theorem dX5_demagnetise_12 : decode cX5_demagnetise 12 = .ok (.getfield 10, 3) := by decide +kernel
theorem dX5_demagnetise_15 : decode cX5_demagnetise 15 = .ok (.getfield 52, 3) := by decide +kernel
theorem dX5_demagnetise_18 : decode cX5_demagnetise 18 = .ok (.getfield 80, 3) := by decide +kernel
theorem dX5_demagnetise_21 : decode cX5_demagnetise 21 = .ok (.istore_n 1, 1) := by decide +kernel
theorem dX5_demagnetise_22 : decode cX5_demagnetise 22 = .ok (.aload_n 0, 1) := by decide +kernel
theorem dX5_demagnetise_23 : decode cX5_demagnetise 23 = .ok (.getfield 10, 3) := by decide +kernel
theorem dX5_demagnetise_26 : decode cX5_demagnetise 26 = .ok (.getfield 52, 3) := by decide +kernel
theorem dX5_demagnetise_29 : decode cX5_demagnetise 29 = .ok (.iconst 0, 1) := by decide +kernel
theorem dX5_demagnetise_30 : decode cX5_demagnetise 30 = .ok (.putfield 80, 3) := by decide +kernel
theorem dX5_demagnetise_33 : decode cX5_demagnetise 33 = .ok (.iload_n 1, 1) := by decide +kernel
theorem dX5_demagnetise_34 : decode cX5_demagnetise 34 = .ok (.ireturn, 1) := by decide +kernel
set_option maxRecDepth 20000 in
theorem ggX5_clean_X2_push : GoodIn wsX5_clean wsX2_push := goodIn_r _ [9, 10, 11, 12, 13, 14, 15, 16, 17, 18, 19, 20, 21, 22, 23, 24, 25, 26, 27, 28, 29, 30, 31, 32, 33, 34, 35, 36, 37, 38, 39, 40, 41, 42, 43, 44, 45, 46, 47, 48, 49, 50, 51, 52, 53, 54, 55, 56, 57, 82, 83, 84, 64, 65, 66, 67, 68, 69, 70, 71, 72, 73, 74, 75, 76, 77, 78, 79, 80, 81, 85, 86] (by decide +kernel) (by decide +kernel)
set_option maxRecDepth 20000 in
theorem gX5_clean_X2_push : GoodIn wsX5_clean (wsV RX5 48 RX2 yX2_push wsX2_push) := goodIn_app (goodIn_of _ (by decide +kernel)) ggX5_clean_X2_push
theorem dX5_clean_0 : decode cX5_clean 0 = .ok (.aload_n 0, 1) := by decide +kernel
theorem dX5_clean_1 : decode cX5_clean 1 = .ok (.getfield 22, 3) := by decide +kernel
theorem dX5_clean_4 : decode cX5_clean 4 = .ok (.aload_n 0, 1) := by decide +kernel
theorem dX5_clean_5 : decode cX5_clean 5 = .ok (.getfield 10, 3) := by decide +kernel
theorem dX5_clean_8 : decode cX5_clean 8 = .ok (.invokevirtual 48, 3) := by decide +kernel
theorem dX5_clean_11 : decode cX5_clean 11 = .ok (.aload_n 0, 1) := by decide +kernel
theorem dX5_clean_12 : decode cX5_clean 12 = .ok (.getfield 10, 3) := by decide +kernel
theorem dX5_clean_15 : decode cX5_clean 15 = .ok (.getfield 52, 3) := by decide +kernel
theorem dX5_clean_18 : decode cX5_clean 18 = .ok (.getfield 89, 3) := by decide +kernel
theorem dX5_clean_21 : decode cX5_clean 21 = .ok (.istore_n 1, 1) := by decide +kernel
theorem dX5_clean_22 : decode cX5_clean 22 = .ok (.aload_n 0, 1) := by decide +kernel
theorem dX5_clean_23 : decode cX5_clean 23 = .ok (.getfield 10, 3) := by decide +kernel
theorem dX5_clean_26 : decode cX5_clean 26 = .ok (.getfield 52, 3) := by decide +kernel
theorem dX5_clean_29 : decode cX5_clean 29 = .ok (.iconst 0, 1) := by decide +kernel
theorem dX5_clean_30 : decode cX5_clean 30 = .ok (.putfield 89, 3) := by decide +kernel
theorem dX5_clean_33 : decode cX5_clean 33 = .ok (.iload_n 1, 1) := by decide +kernel
theorem dX5_clean_34 : decode cX5_clean 34 = .ok (.ireturn, 1) := by decide +kernel
set_option maxRecDepth 20000 in
theorem ggX5_lay_X5_demandPose : GoodIn wsX5_lay wsX5_demandPose := goodIn_ca (goodIn_r _ [8, 9, 10, 11, 12, 7, 13] (by decide +kernel) (by decide +kernel)) (goodIn_sub (fun _ h => List.mem_cons_of_mem _ (List.mem_append_right _ h)) (by decide +kernel))
set_option maxRecDepth 20000 in
theorem gX5_lay_X5_demandPose : GoodIn wsX5_lay (va_wsS RX5 63 yX5_demandPose wsX5_demandPose) := goodIn_app (goodIn_of _ (by decide +kernel)) ggX5_lay_X5_demandPose
set_option maxRecDepth 20000 in
theorem ggX5_lay_X2_push : GoodIn wsX5_lay wsX2_push := goodIn_r _ [18, 19, 20, 21, 22, 23, 24, 25, 26, 27, 28, 29, 30, 31, 32, 33, 34, 35, 36, 37, 38, 39, 40, 41, 42, 43, 44, 45, 46, 47, 48, 49, 50, 51, 52, 53, 54, 55, 56, 57, 58, 59, 60, 61, 62, 63, 64, 65, 66, 91, 92, 93, 73, 74, 75, 76, 77, 78, 79, 80, 81, 82, 83, 84, 85, 86, 87, 88, 89, 90, 94, 95] (by decide +kernel) (by decide +kernel)
set_option maxRecDepth 20000 in
theorem gX5_lay_X2_push : GoodIn wsX5_lay (wsV RX5 48 RX2 yX2_push wsX2_push) := goodIn_app (goodIn_of _ (by decide +kernel)) ggX5_lay_X2_push
theorem dX5_lay_0 : decode cX5_lay 0 = .ok (.iload_n 1, 1) := by decide +kernel
theorem dX5_lay_1 : decode cX5_lay 1 = .ok (.invokestatic 63, 3) := by decide +kernel
theorem dX5_lay_4 : decode cX5_lay 4 = .ok (.aload_n 0, 1) := by decide +kernel
theorem dX5_lay_5 : decode cX5_lay 5 = .ok (.getfield 22, 3) := by decide +kernel
theorem dX5_lay_8 : decode cX5_lay 8 = .ok (.aload_n 0, 1) := by decide +kernel
theorem dX5_lay_9 : decode cX5_lay 9 = .ok (.getfield 10, 3) := by decide +kernel
theorem dX5_lay_12 : decode cX5_lay 12 = .ok (.invokevirtual 48, 3) := by decide +kernel
