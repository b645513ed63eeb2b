theorem dX5_mixPoses_19 : decode cX5_mixPoses 19 = .ok (.if_icmp .gt 23, 3) := by decide +kernel
theorem dX5_mixPoses_22 : decode cX5_mixPoses 22 = .ok (.lload_n 3, 1) := by decide +kernel
theorem dX5_mixPoses_23 : decode cX5_mixPoses 23 = .ok (.aload_n 0, 1) := by decide +kernel
theorem dX5_mixPoses_24 : decode cX5_mixPoses 24 = .ok (.iload 5, 2) := by decide +kernel
theorem dX5_mixPoses_26 : decode cX5_mixPoses 26 = .ok (.iload 6, 2) := by decide +kernel
theorem dX5_mixPoses_28 : decode cX5_mixPoses 28 = .ok (.invokevirtual 186, 3) := by decide +kernel
theorem dX5_mixPoses_31 : decode cX5_mixPoses 31 = .ok (.i2l, 1) := by decide +kernel
theorem dX5_mixPoses_32 : decode cX5_mixPoses 32 = .ok (.invokestatic 219, 3) := by decide +kernel
theorem dX5_mixPoses_35 : decode cX5_mixPoses 35 = .ok (.lstore_n 3, 1) := by decide +kernel
theorem dX5_mixPoses_36 : decode cX5_mixPoses 36 = .ok (.iinc 6 1, 3) := by decide +kernel
theorem dX5_mixPoses_39 : decode cX5_mixPoses 39 = .ok (.goto (-24), 3) := by decide +kernel
theorem dX5_mixPoses_42 : decode cX5_mixPoses 42 = .ok (.lload_n 3, 1) := by decide +kernel
theorem dX5_mixPoses_43 : decode cX5_mixPoses 43 = .ok (.aload_n 0, 1) := by decide +kernel
theorem dX5_mixPoses_44 : decode cX5_mixPoses 44 = .ok (.iload 5, 2) := by decide +kernel
theorem dX5_mixPoses_46 : decode cX5_mixPoses 46 = .ok (.invokevirtual 204, 3) := by decide +kernel
theorem dX5_mixPoses_49 : decode cX5_mixPoses 49 = .ok (.i2l, 1) := by decide +kernel
theorem dX5_mixPoses_50 : decode cX5_mixPoses 50 = .ok (.invokestatic 219, 3) := by decide +kernel
theorem dX5_mixPoses_53 : decode cX5_mixPoses 53 = .ok (.lstore_n 3, 1) := by decide +kernel
theorem dX5_mixPoses_54 : decode cX5_mixPoses 54 = .ok (.iinc 5 1, 3) := by decide +kernel
theorem dX5_mixPoses_57 : decode cX5_mixPoses 57 = .ok (.goto (-52), 3) := by decide +kernel
theorem dX5_mixPoses_60 : decode cX5_mixPoses 60 = .ok (.lload_n 3, 1) := by decide +kernel
theorem dX5_mixPoses_61 : decode cX5_mixPoses 61 = .ok (.lreturn, 1) := by decide +kernel
set_option maxRecDepth 20000 in
theorem ggX5_mixPaper_X5_readingNumber : GoodIn wsX5_mixPaper wsX5_readingNumber := goodIn_r _ [8, 1, 2, 3, 9, 10, 11, 12, 13, 14, 15, 20, 21, 22, 23, 24, 25, 26, 27, 28, 29, 30, 31, 32, 33, 34] (by decide +kernel) (by decide +kernel)
set_option maxRecDepth 20000 in
theorem gX5_mixPaper_X5_readingNumber : GoodIn wsX5_mixPaper (wsV RX5 191 RX5 yX5_readingNumber wsX5_readingNumber) := goodIn_app (goodIn_of _ (by decide +kernel)) ggX5_mixPaper_X5_readingNumber
set_option maxRecDepth 20000 in
theorem ggX5_mixPaper_X5_mix : GoodIn wsX5_mixPaper wsX5_mix := goodIn_r _ [18, 19] (by decide +kernel) (by decide +kernel)
set_option maxRecDepth 20000 in
theorem gX5_mixPaper_X5_mix : GoodIn wsX5_mixPaper (va_wsS RX5 219 yX5_mix wsX5_mix) := goodIn_app (goodIn_of _ (by decide +kernel)) ggX5_mixPaper_X5_mix
theorem dX5_mixPaper_0 : decode cX5_mixPaper 0 = .ok (.lload_n 1, 1) := by decide +kernel
theorem dX5_mixPaper_1 : decode cX5_mixPaper 1 = .ok (.lstore_n 3, 1) := by decide +kernel
theorem dX5_mixPaper_2 : decode cX5_mixPaper 2 = .ok (.iconst 0, 1) := by decide +kernel
theorem dX5_mixPaper_3 : decode cX5_mixPaper 3 = .ok (.istore 5, 2) := by decide +kernel
theorem dX5_mixPaper_5 : decode cX5_mixPaper 5 = .ok (.iload 5, 2) := by decide +kernel
theorem dX5_mixPaper_7 : decode cX5_mixPaper 7 = .ok (.aload_n 0, 1) := by decide +kernel
theorem dX5_mixPaper_8 : decode cX5_mixPaper 8 = .ok (.getfield 10, 3) := by decide +kernel
theorem dX5_mixPaper_11 : decode cX5_mixPaper 11 = .ok (.getfield 114, 3) := by decide +kernel
theorem dX5_mixPaper_14 : decode cX5_mixPaper 14 = .ok (.getfield 118, 3) := by decide +kernel
theorem dX5_mixPaper_17 : decode cX5_mixPaper 17 = .ok (.if_icmp .ge 38, 3) := by decide +kernel
theorem dX5_mixPaper_20 : decode cX5_mixPaper 20 = .ok (.iconst 0, 1) := by decide +kernel
theorem dX5_mixPaper_21 : decode cX5_mixPaper 21 = .ok (.istore 6, 2) := by decide +kernel
theorem dX5_mixPaper_23 : decode cX5_mixPaper 23 = .ok (.iload 6, 2) := by decide +kernel
theorem dX5_mixPaper_25 : decode cX5_mixPaper 25 = .ok (.iconst 5, 1) := by decide +kernel
theorem dX5_mixPaper_26 : decode cX5_mixPaper 26 = .ok (.if_icmp .ge 23, 3) := by decide +kernel
theorem dX5_mixPaper_29 : decode cX5_mixPaper 29 = .ok (.lload_n 3, 1) := by decide +kernel
theorem dX5_mixPaper_30 : decode cX5_mixPaper 30 = .ok (.aload_n 0, 1) := by decide +kernel
theorem dX5_mixPaper_31 : decode cX5_mixPaper 31 = .ok (.iload 5, 2) := by decide +kernel
theorem dX5_mixPaper_33 : decode cX5_mixPaper 33 = .ok (.iload 6, 2) := by decide +kernel
theorem dX5_mixPaper_35 : decode cX5_mixPaper 35 = .ok (.invokevirtual 191, 3) := by decide +kernel
theorem dX5_mixPaper_38 : decode cX5_mixPaper 38 = .ok (.i2l, 1) := by decide +kernel
theorem dX5_mixPaper_39 : decode cX5_mixPaper 39 = .ok (.invokestatic 219, 3) := by decide +kernel
theorem dX5_mixPaper_42 : decode cX5_mixPaper 42 = .ok (.lstore_n 3, 1) := by decide +kernel
theorem dX5_mixPaper_43 : decode cX5_mixPaper 43 = .ok (.iinc 6 1, 3) := by decide +kernel
theorem dX5_mixPaper_46 : decode cX5_mixPaper 46 = .ok (.goto (-23), 3) := by decide +kernel
theorem dX5_mixPaper_49 : decode cX5_mixPaper 49 = .ok (.iinc 5 1, 3) := by decide +kernel
theorem dX5_mixPaper_52 : decode cX5_mixPaper 52 = .ok (.goto (-47), 3) := by decide +kernel
theorem dX5_mixPaper_55 : decode cX5_mixPaper 55 = .ok (.lload_n 3, 1) := by decide +kernel
theorem dX5_mixPaper_56 : decode cX5_mixPaper 56 = .ok (.lreturn, 1) := by decide +kernel
theorem dX5_bitsOfShare_0 : decode cX5_bitsOfShare 0 = .ok (.dload_n 0, 1) := by decide +kernel
theorem dX5_bitsOfShare_1 : decode cX5_bitsOfShare 1 = .ok (.dconst 0, 1) := by decide +kernel
theorem dX5_bitsOfShare_2 : decode cX5_bitsOfShare 2 = .ok (.dcmp .g, 1) := by decide +kernel
theorem dX5_bitsOfShare_3 : decode cX5_bitsOfShare 3 = .ok (.ifCond .gt 5, 3) := by decide +kernel
theorem dX5_bitsOfShare_6 : decode cX5_bitsOfShare 6 = .ok (.lconst 0, 1) := by decide +kernel
theorem dX5_bitsOfShare_7 : decode cX5_bitsOfShare 7 = .ok (.lreturn, 1) := by decide +kernel
theorem dX5_bitsOfShare_8 : decode cX5_bitsOfShare 8 = .ok (.dload_n 0, 1) := by decide +kernel
theorem dX5_bitsOfShare_9 : decode cX5_bitsOfShare 9 = .ok (.dstore_n 2, 1) := by decide +kernel
theorem dX5_bitsOfShare_10 : decode cX5_bitsOfShare 10 = .ok (.ldc2_w 301, 3) := by decide +kernel
theorem dX5_bitsOfShare_13 : decode cX5_bitsOfShare 13 = .ok (.lstore 4, 2) := by decide +kernel
theorem dX5_bitsOfShare_15 : decode cX5_bitsOfShare 15 = .ok (.iconst 0, 1) := by decide +kernel
theorem dX5_bitsOfShare_16 : decode cX5_bitsOfShare 16 = .ok (.istore 6, 2) := by decide +kernel
theorem dX5_bitsOfShare_18 : decode cX5_bitsOfShare 18 = .ok (.iload 6, 2) := by decide +kernel
theorem dX5_bitsOfShare_20 : decode cX5_bitsOfShare 20 = .ok (.bipush 60, 2) := by decide +kernel
theorem dX5_bitsOfShare_22 : decode cX5_bitsOfShare 22 = .ok (.if_icmp .ge 27, 3) := by decide +kernel
theorem dX5_bitsOfShare_25 : decode cX5_bitsOfShare 25 = .ok (.dload_n 2, 1) := by decide +kernel
theorem dX5_bitsOfShare_26 : decode cX5_bitsOfShare 26 = .ok (.dconst 1, 1) := by decide +kernel
theorem dX5_bitsOfShare_27 : decode cX5_bitsOfShare 27 = .ok (.dcmp .g, 1) := by decide +kernel
theorem dX5_bitsOfShare_28 : decode cX5_bitsOfShare 28 = .ok (.ifCond .ge 21, 3) := by decide +kernel
theorem dX5_bitsOfShare_31 : decode cX5_bitsOfShare 31 = .ok (.dload_n 2, 1) := by decide +kernel
theorem dX5_bitsOfShare_32 : decode cX5_bitsOfShare 32 = .ok (.ldc2_w 303, 3) := by decide +kernel
theorem dX5_bitsOfShare_35 : decode cX5_bitsOfShare 35 = .ok (.dmul, 1) := by decide +kernel
theorem dX5_bitsOfShare_36 : decode cX5_bitsOfShare 36 = .ok (.dstore_n 2, 1) := by decide +kernel
theorem dX5_bitsOfShare_37 : decode cX5_bitsOfShare 37 = .ok (.lload 4, 2) := by decide +kernel
theorem dX5_bitsOfShare_39 : decode cX5_bitsOfShare 39 = .ok (.lconst 1, 1) := by decide +kernel
theorem dX5_bitsOfShare_40 : decode cX5_bitsOfShare 40 = .ok (.lsub, 1) := by decide +kernel
theorem dX5_bitsOfShare_41 : decode cX5_bitsOfShare 41 = .ok (.lstore 4, 2) := by decide +kernel
theorem dX5_bitsOfShare_43 : decode cX5_bitsOfShare 43 = .ok (.iinc 6 1, 3) := by decide +kernel
theorem dX5_bitsOfShare_46 : decode cX5_bitsOfShare 46 = .ok (.goto (-28), 3) := by decide +kernel
theorem dX5_bitsOfShare_49 : decode cX5_bitsOfShare 49 = .ok (.dload_n 2, 1) := by decide +kernel
theorem dX5_bitsOfShare_50 : decode cX5_bitsOfShare 50 = .ok (.dconst 1, 1) := by decide +kernel
theorem dX5_bitsOfShare_51 : decode cX5_bitsOfShare 51 = .ok (.dsub, 1) := by decide +kernel
theorem dX5_bitsOfShare_52 : decode cX5_bitsOfShare 52 = .ok (.ldc2_w 305, 3) := by decide +kernel
theorem dX5_bitsOfShare_55 : decode cX5_bitsOfShare 55 = .ok (.dmul, 1) := by decide +kernel
theorem dX5_bitsOfShare_56 : decode cX5_bitsOfShare 56 = .ok (.d2l, 1) := by decide +kernel
theorem dX5_bitsOfShare_57 : decode cX5_bitsOfShare 57 = .ok (.lstore 6, 2) := by decide +kernel
theorem dX5_bitsOfShare_59 : decode cX5_bitsOfShare 59 = .ok (.lload 4, 2) := by decide +kernel
theorem dX5_bitsOfShare_61 : decode cX5_bitsOfShare 61 = .ok (.bipush 52, 2) := by decide +kernel
theorem dX5_bitsOfShare_63 : decode cX5_bitsOfShare 63 = .ok (.lshl, 1) := by decide +kernel
theorem dX5_bitsOfShare_64 : decode cX5_bitsOfShare 64 = .ok (.lload 6, 2) := by decide +kernel
theorem dX5_bitsOfShare_66 : decode cX5_bitsOfShare 66 = .ok (.ladd, 1) := by decide +kernel
theorem dX5_bitsOfShare_67 : decode cX5_bitsOfShare 67 = .ok (.lreturn, 1) := by decide +kernel
set_option maxRecDepth 20000 in
theorem ggX6_init_X6_noStop : GoodIn wsX6_init wsX6_noStop := goodIn_r _ [14, 5, 15, 16, 17, 18, 19, 20, 21, 22, 23, 24, 25] (by decide +kernel) (by decide +kernel)
set_option maxRecDepth 20000 in
theorem gX6_init_X6_noStop : GoodIn wsX6_init (wsV RX6 25 RX6 yX6_noStop wsX6_noStop) := goodIn_app (goodIn_of _ (by decide +kernel)) ggX6_init_X6_noStop
theorem dX6_init_0 : decode cX6_init 0 = .ok (.aload_n 0, 1) := by decide +kernel
theorem dX6_init_1 : decode cX6_init 1 = .ok (.invokespecial 1, 3) := by decide +kernel
theorem dX6_init_4 : decode cX6_init 4 = .ok (.aload_n 0, 1) := by decide +kernel
theorem dX6_init_5 : decode cX6_init 5 = .ok (.sipush 225, 3) := by decide +kernel
theorem dX6_init_8 : decode cX6_init 8 = .ok (.newarray .int, 2) := by decide +kernel
theorem dX6_init_10 : decode cX6_init 10 = .ok (.putfield 7, 3) := by decide +kernel
theorem dX6_init_13 : decode cX6_init 13 = .ok (.aload_n 0, 1) := by decide +kernel
theorem dX6_init_14 : decode cX6_init 14 = .ok (.sipush 225, 3) := by decide +kernel
theorem dX6_init_17 : decode cX6_init 17 = .ok (.newarray .int, 2) := by decide +kernel
theorem dX6_init_19 : decode cX6_init 19 = .ok (.putfield 13, 3) := by decide +kernel
theorem dX6_init_22 : decode cX6_init 22 = .ok (.aload_n 0, 1) := by decide +kernel
theorem dX6_init_23 : decode cX6_init 23 = .ok (.sipush 1350, 3) := by decide +kernel
theorem dX6_init_26 : decode cX6_init 26 = .ok (.newarray .int, 2) := by decide +kernel
theorem dX6_init_28 : decode cX6_init 28 = .ok (.putfield 16, 3) := by decide +kernel
theorem dX6_init_31 : decode cX6_init 31 = .ok (.aload_n 0, 1) := by decide +kernel
theorem dX6_init_32 : decode cX6_init 32 = .ok (.sipush 225, 3) := by decide +kernel
theorem dX6_init_35 : decode cX6_init 35 = .ok (.newarray .int, 2) := by decide +kernel
theorem dX6_init_37 : decode cX6_init 37 = .ok (.putfield 19, 3) := by decide +kernel
theorem dX6_init_40 : decode cX6_init 40 = .ok (.aload_n 0, 1) := by decide +kernel
theorem dX6_init_41 : decode cX6_init 41 = .ok (.bipush 60, 2) := by decide +kernel
theorem dX6_init_43 : decode cX6_init 43 = .ok (.newarray .int, 2) := by decide +kernel
theorem dX6_init_45 : decode cX6_init 45 = .ok (.putfield 22, 3) := by decide +kernel
theorem dX6_init_48 : decode cX6_init 48 = .ok (.aload_n 0, 1) := by decide +kernel
theorem dX6_init_49 : decode cX6_init 49 = .ok (.getfield 7, 3) := by decide +kernel
theorem dX6_init_52 : decode cX6_init 52 = .ok (.iconst 3, 1) := by decide +kernel
theorem dX6_init_53 : decode cX6_init 53 = .ok (.bipush 10, 2) := by decide +kernel
theorem dX6_init_55 : decode cX6_init 55 = .ok (.iastore, 1) := by decide +kernel
theorem dX6_init_56 : decode cX6_init 56 = .ok (.aload_n 0, 1) := by decide +kernel
theorem dX6_init_57 : decode cX6_init 57 = .ok (.getfield 7, 3) := by decide +kernel
theorem dX6_init_60 : decode cX6_init 60 = .ok (.bipush 12, 2) := by decide +kernel
theorem dX6_init_62 : decode cX6_init 62 = .ok (.bipush 60, 2) := by decide +kernel
theorem dX6_init_64 : decode cX6_init 64 = .ok (.iastore, 1) := by decide +kernel
theorem dX6_init_65 : decode cX6_init 65 = .ok (.aload_n 0, 1) := by decide +kernel
theorem dX6_init_66 : decode cX6_init 66 = .ok (.getfield 7, 3) := by decide +kernel
theorem dX6_init_69 : decode cX6_init 69 = .ok (.bipush 13, 2) := by decide +kernel
theorem dX6_init_71 : decode cX6_init 71 = .ok (.bipush 40, 2) := by decide +kernel
theorem dX6_init_73 : decode cX6_init 73 = .ok (.iastore, 1) := by decide +kernel
theorem dX6_init_74 : decode cX6_init 74 = .ok (.aload_n 0, 1) := by decide +kernel
theorem dX6_init_75 : decode cX6_init 75 = .ok (.getfield 7, 3) := by decide +kernel
theorem dX6_init_78 : decode cX6_init 78 = .ok (.bipush 14, 2) := by decide +kernel
theorem dX6_init_80 : decode cX6_init 80 = .ok (.bipush 24, 2) := by decide +kernel
theorem dX6_init_82 : decode cX6_init 82 = .ok (.iastore, 1) := by decide +kernel
theorem dX6_init_83 : decode cX6_init 83 = .ok (.aload_n 0, 1) := by decide +kernel
theorem dX6_init_84 : decode cX6_init 84 = .ok (.getfield 7, 3) := by decide +kernel
theorem dX6_init_87 : decode cX6_init 87 = .ok (.bipush 15, 2) := by decide +kernel
theorem dX6_init_89 : decode cX6_init 89 = .ok (.bipush 60, 2) := by decide +kernel
theorem dX6_init_91 : decode cX6_init 91 = .ok (.iastore, 1) := by decide +kernel
theorem dX6_init_92 : decode cX6_init 92 = .ok (.aload_n 0, 1) := by decide +kernel
theorem dX6_init_93 : decode cX6_init 93 = .ok (.getfield 7, 3) := by decide +kernel
theorem dX6_init_96 : decode cX6_init 96 = .ok (.bipush 19, 2) := by decide +kernel
theorem dX6_init_98 : decode cX6_init 98 = .ok (.iconst 2, 1) := by decide +kernel
theorem dX6_init_99 : decode cX6_init 99 = .ok (.iastore, 1) := by decide +kernel
theorem dX6_init_100 : decode cX6_init 100 = .ok (.aload_n 0, 1) := by decide +kernel
theorem dX6_init_101 : decode cX6_init 101 = .ok (.getfield 7, 3) := by decide +kernel
theorem dX6_init_104 : decode cX6_init 104 = .ok (.bipush 20, 2) := by decide +kernel
theorem dX6_init_106 : decode cX6_init 106 = .ok (.bipush (-2), 2) := by decide +kernel
theorem dX6_init_108 : decode cX6_init 108 = .ok (.iastore, 1) := by decide +kernel
theorem dX6_init_109 : decode cX6_init 109 = .ok (.aload_n 0, 1) := by decide +kernel
theorem dX6_init_110 : decode cX6_init 110 = .ok (.getfield 7, 3) := by decide +kernel
theorem dX6_init_113 : decode cX6_init 113 = .ok (.bipush 21, 2) := by decide +kernel
theorem dX6_init_115 : decode cX6_init 115 = .ok (.bipush 8, 2) := by decide +kernel
theorem dX6_init_117 : decode cX6_init 117 = .ok (.iastore, 1) := by decide +kernel
theorem dX6_init_118 : decode cX6_init 118 = .ok (.aload_n 0, 1) := by decide +kernel
theorem dX6_init_119 : decode cX6_init 119 = .ok (.getfield 7, 3) := by decide +kernel
theorem dX6_init_122 : decode cX6_init 122 = .ok (.bipush 22, 2) := by decide +kernel
theorem dX6_init_124 : decode cX6_init 124 = .ok (.bipush (-8), 2) := by decide +kernel
theorem dX6_init_126 : decode cX6_init 126 = .ok (.iastore, 1) := by decide +kernel
theorem dX6_init_127 : decode cX6_init 127 = .ok (.aload_n 0, 1) := by decide +kernel
theorem dX6_init_128 : decode cX6_init 128 = .ok (.getfield 7, 3) := by decide +kernel
theorem dX6_init_131 : decode cX6_init 131 = .ok (.bipush 23, 2) := by decide +kernel
theorem dX6_init_133 : decode cX6_init 133 = .ok (.iconst 4, 1) := by decide +kernel
theorem dX6_init_134 : decode cX6_init 134 = .ok (.iastore, 1) := by decide +kernel
theorem dX6_init_135 : decode cX6_init 135 = .ok (.aload_n 0, 1) := by decide +kernel
theorem dX6_init_136 : decode cX6_init 136 = .ok (.getfield 7, 3) := by decide +kernel
theorem dX6_init_139 : decode cX6_init 139 = .ok (.bipush 24, 2) := by decide +kernel
theorem dX6_init_141 : decode cX6_init 141 = .ok (.bipush (-4), 2) := by decide +kernel
theorem dX6_init_143 : decode cX6_init 143 = .ok (.iastore, 1) := by decide +kernel
theorem dX6_init_144 : decode cX6_init 144 = .ok (.aload_n 0, 1) := by decide +kernel
theorem dX6_init_145 : decode cX6_init 145 = .ok (.invokevirtual 25, 3) := by decide +kernel
theorem dX6_init_148 : decode cX6_init 148 = .ok (.return_, 1) := by decide +kernel
theorem dX6_thrown_0 : decode cX6_thrown 0 = .ok (.aload_n 0, 1) := by decide +kernel
theorem dX6_thrown_1 : decode cX6_thrown 1 = .ok (.getfield 28, 3) := by decide +kernel
theorem dX6_thrown_4 : decode cX6_thrown 4 = .ok (.ireturn, 1) := by decide +kernel
theorem dX6_in_0 : decode cX6_in 0 = .ok (.iload_n 0, 1) := by decide +kernel
theorem dX6_in_1 : decode cX6_in 1 = .ok (.iload_n 1, 1) := by decide +kernel
theorem dX6_in_2 : decode cX6_in 2 = .ok (.if_icmp .lt 12, 3) := by decide +kernel
theorem dX6_in_5 : decode cX6_in 5 = .ok (.iload_n 0, 1) := by decide +kernel
theorem dX6_in_6 : decode cX6_in 6 = .ok (.iload_n 2, 1) := by decide +kernel
theorem dX6_in_7 : decode cX6_in 7 = .ok (.if_icmp .gt 7, 3) := by decide +kernel
theorem dX6_in_10 : decode cX6_in 10 = .ok (.iconst 1, 1) := by decide +kernel
theorem dX6_in_11 : decode cX6_in 11 = .ok (.goto 4, 3) := by decide +kernel
theorem dX6_in_14 : decode cX6_in 14 = .ok (.iconst 0, 1) := by decide +kernel
theorem dX6_in_15 : decode cX6_in 15 = .ok (.ireturn, 1) := by decide +kernel
set_option maxRecDepth 20000 in
theorem ggX6_isPose_X6_in : GoodIn wsX6_isPose wsX6_in := goodIn_r _ [4] (by decide +kernel) (by decide +kernel)
set_option maxRecDepth 20000 in
theorem gX6_isPose_X6_in : GoodIn wsX6_isPose (va_wsS RX6 32 yX6_in wsX6_in) := goodIn_app (goodIn_of _ (by decide +kernel)) ggX6_isPose_X6_in
theorem dX6_isPose_0 : decode cX6_isPose 0 = .ok (.iload_n 0, 1) := by decide +kernel
theorem dX6_isPose_1 : decode cX6_isPose 1 = .ok (.iconst 0, 1) := by decide +kernel
theorem dX6_isPose_2 : decode cX6_isPose 2 = .ok (.iconst 5, 1) := by decide +kernel
theorem dX6_isPose_3 : decode cX6_isPose 3 = .ok (.invokestatic 32, 3) := by decide +kernel
theorem dX6_isPose_6 : decode cX6_isPose 6 = .ok (.ireturn, 1) := by decide +kernel
theorem dX6_atMost_0 : decode cX6_atMost 0 = .ok (.iload_n 0, 1) := by decide +kernel
theorem dX6_atMost_1 : decode cX6_atMost 1 = .ok (.iload_n 1, 1) := by decide +kernel
theorem dX6_atMost_2 : decode cX6_atMost 2 = .ok (.if_icmp .le 7, 3) := by decide +kernel
theorem dX6_atMost_5 : decode cX6_atMost 5 = .ok (.iload_n 1, 1) := by decide +kernel
theorem dX6_atMost_6 : decode cX6_atMost 6 = .ok (.goto 4, 3) := by decide +kernel
theorem dX6_atMost_9 : decode cX6_atMost 9 = .ok (.iload_n 0, 1) := by decide +kernel
theorem dX6_atMost_10 : decode cX6_atMost 10 = .ok (.ireturn, 1) := by decide +kernel
theorem dX6_amount_0 : decode cX6_amount 0 = .ok (.iload_n 0, 1) := by decide +kernel
theorem dX6_amount_1 : decode cX6_amount 1 = .ok (.ifCond .ge 8, 3) := by decide +kernel
theorem dX6_amount_4 : decode cX6_amount 4 = .ok (.iload_n 0, 1) := by decide +kernel
theorem dX6_amount_5 : decode cX6_amount 5 = .ok (.ineg, 1) := by decide +kernel
theorem dX6_amount_6 : decode cX6_amount 6 = .ok (.goto 4, 3) := by decide +kernel
theorem dX6_amount_9 : decode cX6_amount 9 = .ok (.iload_n 0, 1) := by decide +kernel
theorem dX6_amount_10 : decode cX6_amount 10 = .ok (.ireturn, 1) := by decide +kernel
theorem dX6_divided_0 : decode cX6_divided 0 = .ok (.iload_n 0, 1) := by decide +kernel
theorem dX6_divided_1 : decode cX6_divided 1 = .ok (.ifCond .ge 14, 3) := by decide +kernel
theorem dX6_divided_4 : decode cX6_divided 4 = .ok (.iload_n 1, 1) := by decide +kernel
theorem dX6_divided_5 : decode cX6_divided 5 = .ok (.iconst 1, 1) := by decide +kernel
theorem dX6_divided_6 : decode cX6_divided 6 = .ok (.isub, 1) := by decide +kernel
theorem dX6_divided_7 : decode cX6_divided 7 = .ok (.iload_n 0, 1) := by decide +kernel
theorem dX6_divided_8 : decode cX6_divided 8 = .ok (.isub, 1) := by decide +kernel
theorem dX6_divided_9 : decode cX6_divided 9 = .ok (.iload_n 1, 1) := by decide +kernel
theorem dX6_divided_10 : decode cX6_divided 10 = .ok (.idiv, 1) := by decide +kernel
theorem dX6_divided_11 : decode cX6_divided 11 = .ok (.ineg, 1) := by decide +kernel
theorem dX6_divided_12 : decode cX6_divided 12 = .ok (.goto 6, 3) := by decide +kernel
theorem dX6_divided_15 : decode cX6_divided 15 = .ok (.iload_n 0, 1) := by decide +kernel
theorem dX6_divided_16 : decode cX6_divided 16 = .ok (.iload_n 1, 1) := by decide +kernel
theorem dX6_divided_17 : decode cX6_divided 17 = .ok (.idiv, 1) := by decide +kernel
theorem dX6_divided_18 : decode cX6_divided 18 = .ok (.ireturn, 1) := by decide +kernel
theorem dX6_noStop_0 : decode cX6_noStop 0 = .ok (.aload_n 0, 1) := by decide +kernel
theorem dX6_noStop_1 : decode cX6_noStop 1 = .ok (.getfield 7, 3) := by decide +kernel
theorem dX6_noStop_4 : decode cX6_noStop 4 = .ok (.bipush 16, 2) := by decide +kernel
theorem dX6_noStop_6 : decode cX6_noStop 6 = .ok (.iconst (-1), 1) := by decide +kernel
theorem dX6_noStop_7 : decode cX6_noStop 7 = .ok (.iastore, 1) := by decide +kernel
theorem dX6_noStop_8 : decode cX6_noStop 8 = .ok (.aload_n 0, 1) := by decide +kernel
theorem dX6_noStop_9 : decode cX6_noStop 9 = .ok (.getfield 7, 3) := by decide +kernel
theorem dX6_noStop_12 : decode cX6_noStop 12 = .ok (.bipush 17, 2) := by decide +kernel
theorem dX6_noStop_14 : decode cX6_noStop 14 = .ok (.iconst (-1), 1) := by decide +kernel
theorem dX6_noStop_15 : decode cX6_noStop 15 = .ok (.iastore, 1) := by decide +kernel
theorem dX6_noStop_16 : decode cX6_noStop 16 = .ok (.aload_n 0, 1) := by decide +kernel
theorem dX6_noStop_17 : decode cX6_noStop 17 = .ok (.getfield 7, 3) := by decide +kernel
theorem dX6_noStop_20 : decode cX6_noStop 20 = .ok (.bipush 18, 2) := by decide +kernel
theorem dX6_noStop_22 : decode cX6_noStop 22 = .ok (.iconst (-1), 1) := by decide +kernel
theorem dX6_noStop_23 : decode cX6_noStop 23 = .ok (.iastore, 1) := by decide +kernel
theorem dX6_noStop_24 : decode cX6_noStop 24 = .ok (.return_, 1) := by decide +kernel
theorem dX6_of_0 : decode cX6_of 0 = .ok (.aload_n 0, 1) := by decide +kernel
theorem dX6_of_1 : decode cX6_of 1 = .ok (.getfield 7, 3) := by decide +kernel
theorem dX6_of_4 : decode cX6_of 4 = .ok (.bipush 25, 2) := by decide +kernel
theorem dX6_of_6 : decode cX6_of 6 = .ok (.iconst 5, 1) := by decide +kernel
theorem dX6_of_7 : decode cX6_of 7 = .ok (.iload_n 1, 1) := by decide +kernel
theorem dX6_of_8 : decode cX6_of 8 = .ok (.imul, 1) := by decide +kernel
theorem dX6_of_9 : decode cX6_of 9 = .ok (.iadd, 1) := by decide +kernel
theorem dX6_of_10 : decode cX6_of 10 = .ok (.iload_n 2, 1) := by decide +kernel
theorem dX6_of_11 : decode cX6_of 11 = .ok (.iadd, 1) := by decide +kernel
theorem dX6_of_12 : decode cX6_of 12 = .ok (.iaload, 1) := by decide +kernel
theorem dX6_of_13 : decode cX6_of 13 = .ok (.ireturn, 1) := by decide +kernel
theorem dX6_record_0 : decode cX6_record 0 = .ok (.aload_n 0, 1) := by decide +kernel
theorem dX6_record_1 : decode cX6_record 1 = .ok (.getfield 36, 3) := by decide +kernel
theorem dX6_record_4 : decode cX6_record 4 = .ok (.bipush 6, 2) := by decide +kernel
theorem dX6_record_6 : decode cX6_record 6 = .ok (.if_icmp .ne 44, 3) := by decide +kernel
theorem dX6_record_9 : decode cX6_record 9 = .ok (.iconst 0, 1) := by decide +kernel
theorem dX6_record_10 : decode cX6_record 10 = .ok (.istore_n 1, 1) := by decide +kernel
theorem dX6_record_11 : decode cX6_record 11 = .ok (.iload_n 1, 1) := by decide +kernel
theorem dX6_record_12 : decode cX6_record 12 = .ok (.sipush 1125, 3) := by decide +kernel
theorem dX6_record_15 : decode cX6_record 15 = .ok (.if_icmp .ge 25, 3) := by decide +kernel
theorem dX6_record_18 : decode cX6_record 18 = .ok (.aload_n 0, 1) := by decide +kernel
theorem dX6_record_19 : decode cX6_record 19 = .ok (.getfield 16, 3) := by decide +kernel
theorem dX6_record_22 : decode cX6_record 22 = .ok (.iload_n 1, 1) := by decide +kernel
theorem dX6_record_23 : decode cX6_record 23 = .ok (.aload_n 0, 1) := by decide +kernel
theorem dX6_record_24 : decode cX6_record 24 = .ok (.getfield 16, 3) := by decide +kernel
theorem dX6_record_27 : decode cX6_record 27 = .ok (.sipush 225, 3) := by decide +kernel
theorem dX6_record_30 : decode cX6_record 30 = .ok (.iload_n 1, 1) := by decide +kernel
theorem dX6_record_31 : decode cX6_record 31 = .ok (.iadd, 1) := by decide +kernel
theorem dX6_record_32 : decode cX6_record 32 = .ok (.iaload, 1) := by decide +kernel
theorem dX6_record_33 : decode cX6_record 33 = .ok (.iastore, 1) := by decide +kernel
theorem dX6_record_34 : decode cX6_record 34 = .ok (.iinc 1 1, 3) := by decide +kernel
theorem dX6_record_37 : decode cX6_record 37 = .ok (.goto (-26), 3) := by decide +kernel
theorem dX6_record_40 : decode cX6_record 40 = .ok (.aload_n 0, 1) := by decide +kernel
theorem dX6_record_41 : decode cX6_record 41 = .ok (.dup, 1) := by decide +kernel
theorem dX6_record_42 : decode cX6_record 42 = .ok (.getfield 36, 3) := by decide +kernel
theorem dX6_record_45 : decode cX6_record 45 = .ok (.iconst 1, 1) := by decide +kernel
theorem dX6_record_46 : decode cX6_record 46 = .ok (.isub, 1) := by decide +kernel
theorem dX6_record_47 : decode cX6_record 47 = .ok (.putfield 36, 3) := by decide +kernel
theorem dX6_record_50 : decode cX6_record 50 = .ok (.iconst 0, 1) := by decide +kernel
theorem dX6_record_51 : decode cX6_record 51 = .ok (.istore_n 1, 1) := by decide +kernel
theorem dX6_record_52 : decode cX6_record 52 = .ok (.iload_n 1, 1) := by decide +kernel
theorem dX6_record_53 : decode cX6_record 53 = .ok (.sipush 225, 3) := by decide +kernel
theorem dX6_record_56 : decode cX6_record 56 = .ok (.if_icmp .ge 30, 3) := by decide +kernel
theorem dX6_record_59 : decode cX6_record 59 = .ok (.aload_n 0, 1) := by decide +kernel
theorem dX6_record_60 : decode cX6_record 60 = .ok (.getfield 16, 3) := by decide +kernel
theorem dX6_record_63 : decode cX6_record 63 = .ok (.sipush 225, 3) := by decide +kernel
theorem dX6_record_66 : decode cX6_record 66 = .ok (.aload_n 0, 1) := by decide +kernel
theorem dX6_record_67 : decode cX6_record 67 = .ok (.getfield 36, 3) := by decide +kernel
theorem dX6_record_70 : decode cX6_record 70 = .ok (.imul, 1) := by decide +kernel
theorem dX6_record_71 : decode cX6_record 71 = .ok (.iload_n 1, 1) := by decide +kernel
theorem dX6_record_72 : decode cX6_record 72 = .ok (.iadd, 1) := by decide +kernel
theorem dX6_record_73 : decode cX6_record 73 = .ok (.aload_n 0, 1) := by decide +kernel
theorem dX6_record_74 : decode cX6_record 74 = .ok (.getfield 7, 3) := by decide +kernel
theorem dX6_record_77 : decode cX6_record 77 = .ok (.iload_n 1, 1) := by decide +kernel
theorem dX6_record_78 : decode cX6_record 78 = .ok (.iaload, 1) := by decide +kernel
theorem dX6_record_79 : decode cX6_record 79 = .ok (.iastore, 1) := by decide +kernel
theorem dX6_record_80 : decode cX6_record 80 = .ok (.iinc 1 1, 3) := by decide +kernel
theorem dX6_record_83 : decode cX6_record 83 = .ok (.goto (-31), 3) := by decide +kernel
theorem dX6_record_86 : decode cX6_record 86 = .ok (.aload_n 0, 1) := by decide +kernel
theorem dX6_record_87 : decode cX6_record 87 = .ok (.dup, 1) := by decide +kernel
theorem dX6_record_88 : decode cX6_record 88 = .ok (.getfield 36, 3) := by decide +kernel
theorem dX6_record_91 : decode cX6_record 91 = .ok (.iconst 1, 1) := by decide +kernel
theorem dX6_record_92 : decode cX6_record 92 = .ok (.iadd, 1) := by decide +kernel
theorem dX6_record_93 : decode cX6_record 93 = .ok (.putfield 36, 3) := by decide +kernel
theorem dX6_record_96 : decode cX6_record 96 = .ok (.return_, 1) := by decide +kernel
theorem dX6_undo_0 : decode cX6_undo 0 = .ok (.aload_n 0, 1) := by decide +kernel
theorem dX6_undo_1 : decode cX6_undo 1 = .ok (.aload_n 0, 1) := by decide +kernel
theorem dX6_undo_2 : decode cX6_undo 2 = .ok (.getfield 36, 3) := by decide +kernel
theorem dX6_undo_5 : decode cX6_undo 5 = .ok (.ifCond .ne 7, 3) := by decide +kernel
theorem dX6_undo_8 : decode cX6_undo 8 = .ok (.iconst 1, 1) := by decide +kernel
theorem dX6_undo_9 : decode cX6_undo 9 = .ok (.goto 4, 3) := by decide +kernel
theorem dX6_undo_12 : decode cX6_undo 12 = .ok (.iconst 0, 1) := by decide +kernel
theorem dX6_undo_13 : decode cX6_undo 13 = .ok (.putfield 28, 3) := by decide +kernel
theorem dX6_undo_16 : decode cX6_undo 16 = .ok (.aload_n 0, 1) := by decide +kernel
theorem dX6_undo_17 : decode cX6_undo 17 = .ok (.getfield 28, 3) := by decide +kernel
theorem dX6_undo_20 : decode cX6_undo 20 = .ok (.ifCond .le 5, 3) := by decide +kernel
theorem dX6_undo_23 : decode cX6_undo 23 = .ok (.iconst 0, 1) := by decide +kernel
theorem dX6_undo_24 : decode cX6_undo 24 = .ok (.ireturn, 1) := by decide +kernel
theorem dX6_undo_25 : decode cX6_undo 25 = .ok (.aload_n 0, 1) := by decide +kernel
theorem dX6_undo_26 : decode cX6_undo 26 = .ok (.dup, 1) := by decide +kernel
theorem dX6_undo_27 : decode cX6_undo 27 = .ok (.getfield 36, 3) := by decide +kernel
theorem dX6_undo_30 : decode cX6_undo 30 = .ok (.iconst 1, 1) := by decide +kernel
theorem dX6_undo_31 : decode cX6_undo 31 = .ok (.isub, 1) := by decide +kernel
theorem dX6_undo_32 : decode cX6_undo 32 = .ok (.putfield 36, 3) := by decide +kernel
theorem dX6_undo_35 : decode cX6_undo 35 = .ok (.iconst 0, 1) := by decide +kernel
theorem dX6_undo_36 : decode cX6_undo 36 = .ok (.istore_n 1, 1) := by decide +kernel
theorem dX6_undo_37 : decode cX6_undo 37 = .ok (.iload_n 1, 1) := by decide +kernel
theorem dX6_undo_38 : decode cX6_undo 38 = .ok (.sipush 225, 3) := by decide +kernel
theorem dX6_undo_41 : decode cX6_undo 41 = .ok (.if_icmp .ge 30, 3) := by decide +kernel
theorem dX6_undo_44 : decode cX6_undo 44 = .ok (.aload_n 0, 1) := by decide +kernel
theorem dX6_undo_45 : decode cX6_undo 45 = .ok (.getfield 7, 3) := by decide +kernel
theorem dX6_undo_48 : decode cX6_undo 48 = .ok (.iload_n 1, 1) := by decide +kernel
theorem dX6_undo_49 : decode cX6_undo 49 = .ok (.aload_n 0, 1) := by decide +kernel
theorem dX6_undo_50 : decode cX6_undo 50 = .ok (.getfield 16, 3) := by decide +kernel
theorem dX6_undo_53 : decode cX6_undo 53 = .ok (.sipush 225, 3) := by decide +kernel
theorem dX6_undo_56 : decode cX6_undo 56 = .ok (.aload_n 0, 1) := by decide +kernel
theorem dX6_undo_57 : decode cX6_undo 57 = .ok (.getfield 36, 3) := by decide +kernel
theorem dX6_undo_60 : decode cX6_undo 60 = .ok (.imul, 1) := by decide +kernel
theorem dX6_undo_61 : decode cX6_undo 61 = .ok (.iload_n 1, 1) := by decide +kernel
theorem dX6_undo_62 : decode cX6_undo 62 = .ok (.iadd, 1) := by decide +kernel
theorem dX6_undo_63 : decode cX6_undo 63 = .ok (.iaload, 1) := by decide +kernel
theorem dX6_undo_64 : decode cX6_undo 64 = .ok (.iastore, 1) := by decide +kernel
theorem dX6_undo_65 : decode cX6_undo 65 = .ok (.iinc 1 1, 3) := by decide +kernel
theorem dX6_undo_68 : decode cX6_undo 68 = .ok (.goto (-31), 3) := by decide +kernel
theorem dX6_undo_71 : decode cX6_undo 71 = .ok (.aload_n 0, 1) := by decide +kernel
theorem dX6_undo_72 : decode cX6_undo 72 = .ok (.getfield 36, 3) := by decide +kernel
theorem dX6_undo_75 : decode cX6_undo 75 = .ok (.ireturn, 1) := by decide +kernel
theorem dX6_keep_0 : decode cX6_keep 0 = .ok (.aload_n 0, 1) := by decide +kernel
theorem dX6_keep_1 : decode cX6_keep 1 = .ok (.iconst 0, 1) := by decide +kernel
theorem dX6_keep_2 : decode cX6_keep 2 = .ok (.putfield 28, 3) := by decide +kernel
theorem dX6_keep_5 : decode cX6_keep 5 = .ok (.iconst 0, 1) := by decide +kernel
theorem dX6_keep_6 : decode cX6_keep 6 = .ok (.istore_n 1, 1) := by decide +kernel
theorem dX6_keep_7 : decode cX6_keep 7 = .ok (.iload_n 1, 1) := by decide +kernel
theorem dX6_keep_8 : decode cX6_keep 8 = .ok (.sipush 225, 3) := by decide +kernel
theorem dX6_keep_11 : decode cX6_keep 11 = .ok (.if_icmp .ge 21, 3) := by decide +kernel
theorem dX6_keep_14 : decode cX6_keep 14 = .ok (.aload_n 0, 1) := by decide +kernel
theorem dX6_keep_15 : decode cX6_keep 15 = .ok (.getfield 19, 3) := by decide +kernel
theorem dX6_keep_18 : decode cX6_keep 18 = .ok (.iload_n 1, 1) := by decide +kernel
theorem dX6_keep_19 : decode cX6_keep 19 = .ok (.aload_n 0, 1) := by decide +kernel
theorem dX6_keep_20 : decode cX6_keep 20 = .ok (.getfield 7, 3) := by decide +kernel
theorem dX6_keep_23 : decode cX6_keep 23 = .ok (.iload_n 1, 1) := by decide +kernel
theorem dX6_keep_24 : decode cX6_keep 24 = .ok (.iaload, 1) := by decide +kernel
theorem dX6_keep_25 : decode cX6_keep 25 = .ok (.iastore, 1) := by decide +kernel
theorem dX6_keep_26 : decode cX6_keep 26 = .ok (.iinc 1 1, 3) := by decide +kernel
theorem dX6_keep_29 : decode cX6_keep 29 = .ok (.goto (-22), 3) := by decide +kernel
theorem dX6_keep_32 : decode cX6_keep 32 = .ok (.aload_n 0, 1) := by decide +kernel
theorem dX6_keep_33 : decode cX6_keep 33 = .ok (.iconst 1, 1) := by decide +kernel
theorem dX6_keep_34 : decode cX6_keep 34 = .ok (.putfield 39, 3) := by decide +kernel
theorem dX6_keep_37 : decode cX6_keep 37 = .ok (.aload_n 0, 1) := by decide +kernel
theorem dX6_keep_38 : decode cX6_keep 38 = .ok (.getfield 7, 3) := by decide +kernel
theorem dX6_keep_41 : decode cX6_keep 41 = .ok (.iconst 0, 1) := by decide +kernel
theorem dX6_keep_42 : decode cX6_keep 42 = .ok (.iaload, 1) := by decide +kernel
theorem dX6_keep_43 : decode cX6_keep 43 = .ok (.ireturn, 1) := by decide +kernel
set_option maxRecDepth 20000 in
theorem ggX6_restore_X6_record : GoodIn wsX6_restore wsX6_record := goodIn_r _ [9, 10, 11, 3, 12, 13, 14, 15, 16, 17, 18, 19, 20, 21, 22] (by decide +kernel) (by decide +kernel)
set_option maxRecDepth 20000 in
theorem gX6_restore_X6_record : GoodIn wsX6_restore (wsV RX6 43 RX6 yX6_record wsX6_record) := goodIn_app (goodIn_of _ (by decide +kernel)) ggX6_restore_X6_record
theorem dX6_restore_0 : decode cX6_restore 0 = .ok (.aload_n 0, 1) := by decide +kernel
theorem dX6_restore_1 : decode cX6_restore 1 = .ok (.aload_n 0, 1) := by decide +kernel
theorem dX6_restore_2 : decode cX6_restore 2 = .ok (.getfield 39, 3) := by decide +kernel
theorem dX6_restore_5 : decode cX6_restore 5 = .ok (.ifCond .eq 7, 3) := by decide +kernel
theorem dX6_restore_8 : decode cX6_restore 8 = .ok (.iconst 0, 1) := by decide +kernel
theorem dX6_restore_9 : decode cX6_restore 9 = .ok (.goto 4, 3) := by decide +kernel
theorem dX6_restore_12 : decode cX6_restore 12 = .ok (.iconst 1, 1) := by decide +kernel
theorem dX6_restore_13 : decode cX6_restore 13 = .ok (.putfield 28, 3) := by decide +kernel
theorem dX6_restore_16 : decode cX6_restore 16 = .ok (.aload_n 0, 1) := by decide +kernel
theorem dX6_restore_17 : decode cX6_restore 17 = .ok (.getfield 28, 3) := by decide +kernel
theorem dX6_restore_20 : decode cX6_restore 20 = .ok (.ifCond .le 5, 3) := by decide +kernel
theorem dX6_restore_23 : decode cX6_restore 23 = .ok (.iconst 0, 1) := by decide +kernel
theorem dX6_restore_24 : decode cX6_restore 24 = .ok (.ireturn, 1) := by decide +kernel
theorem dX6_restore_25 : decode cX6_restore 25 = .ok (.aload_n 0, 1) := by decide +kernel
theorem dX6_restore_26 : decode cX6_restore 26 = .ok (.invokevirtual 43, 3) := by decide +kernel
theorem dX6_restore_29 : decode cX6_restore 29 = .ok (.iconst 0, 1) := by decide +kernel
theorem dX6_restore_30 : decode cX6_restore 30 = .ok (.istore_n 1, 1) := by decide +kernel
theorem dX6_restore_31 : decode cX6_restore 31 = .ok (.iload_n 1, 1) := by decide +kernel
theorem dX6_restore_32 : decode cX6_restore 32 = .ok (.sipush 225, 3) := by decide +kernel
theorem dX6_restore_35 : decode cX6_restore 35 = .ok (.if_icmp .ge 21, 3) := by decide +kernel
theorem dX6_restore_38 : decode cX6_restore 38 = .ok (.aload_n 0, 1) := by decide +kernel
theorem dX6_restore_39 : decode cX6_restore 39 = .ok (.getfield 7, 3) := by decide +kernel
theorem dX6_restore_42 : decode cX6_restore 42 = .ok (.iload_n 1, 1) := by decide +kernel
theorem dX6_restore_43 : decode cX6_restore 43 = .ok (.aload_n 0, 1) := by decide +kernel
theorem dX6_restore_44 : decode cX6_restore 44 = .ok (.getfield 19, 3) := by decide +kernel
theorem dX6_restore_47 : decode cX6_restore 47 = .ok (.iload_n 1, 1) := by decide +kernel
theorem dX6_restore_48 : decode cX6_restore 48 = .ok (.iaload, 1) := by decide +kernel
theorem dX6_restore_49 : decode cX6_restore 49 = .ok (.iastore, 1) := by decide +kernel
theorem dX6_restore_50 : decode cX6_restore 50 = .ok (.iinc 1 1, 3) := by decide +kernel
theorem dX6_restore_53 : decode cX6_restore 53 = .ok (.goto (-22), 3) := by decide +kernel
theorem dX6_restore_56 : decode cX6_restore 56 = .ok (.aload_n 0, 1) := by decide +kernel
theorem dX6_restore_57 : decode cX6_restore 57 = .ok (.getfield 7, 3) := by decide +kernel
theorem dX6_restore_60 : decode cX6_restore 60 = .ok (.iconst 0, 1) := by decide +kernel
theorem dX6_restore_61 : decode cX6_restore 61 = .ok (.iaload, 1) := by decide +kernel
theorem dX6_restore_62 : decode cX6_restore 62 = .ok (.ireturn, 1) := by decide +kernel
theorem dX6_putAside_0 : decode cX6_putAside 0 = .ok (.iconst 0, 1) := by decide +kernel
theorem dX6_putAside_1 : decode cX6_putAside 1 = .ok (.istore_n 1, 1) := by decide +kernel
theorem dX6_putAside_2 : decode cX6_putAside 2 = .ok (.iload_n 1, 1) := by decide +kernel
theorem dX6_putAside_3 : decode cX6_putAside 3 = .ok (.sipush 225, 3) := by decide +kernel
theorem dX6_putAside_6 : decode cX6_putAside 6 = .ok (.if_icmp .ge 21, 3) := by decide +kernel
theorem dX6_putAside_9 : decode cX6_putAside 9 = .ok (.aload_n 0, 1) := by decide +kernel
theorem dX6_putAside_10 : decode cX6_putAside 10 = .ok (.getfield 13, 3) := by decide +kernel
theorem dX6_putAside_13 : decode cX6_putAside 13 = .ok (.iload_n 1, 1) := by decide +kernel
theorem dX6_putAside_14 : decode cX6_putAside 14 = .ok (.aload_n 0, 1) := by decide +kernel
theorem dX6_putAside_15 : decode cX6_putAside 15 = .ok (.getfield 7, 3) := by decide +kernel
theorem dX6_putAside_18 : decode cX6_putAside 18 = .ok (.iload_n 1, 1) := by decide +kernel
theorem dX6_putAside_19 : decode cX6_putAside 19 = .ok (.iaload, 1) := by decide +kernel
theorem dX6_putAside_20 : decode cX6_putAside 20 = .ok (.iastore, 1) := by decide +kernel
theorem dX6_putAside_21 : decode cX6_putAside 21 = .ok (.iinc 1 1, 3) := by decide +kernel
theorem dX6_putAside_24 : decode cX6_putAside 24 = .ok (.goto (-22), 3) := by decide +kernel
theorem dX6_putAside_27 : decode cX6_putAside 27 = .ok (.return_, 1) := by decide +kernel
theorem dX6_putBack_0 : decode cX6_putBack 0 = .ok (.iconst 0, 1) := by decide +kernel
theorem dX6_putBack_1 : decode cX6_putBack 1 = .ok (.istore_n 1, 1) := by decide +kernel
theorem dX6_putBack_2 : decode cX6_putBack 2 = .ok (.iload_n 1, 1) := by decide +kernel
theorem dX6_putBack_3 : decode cX6_putBack 3 = .ok (.sipush 225, 3) := by decide +kernel
theorem dX6_putBack_6 : decode cX6_putBack 6 = .ok (.if_icmp .ge 21, 3) := by decide +kernel
theorem dX6_putBack_9 : decode cX6_putBack 9 = .ok (.aload_n 0, 1) := by decide +kernel
theorem dX6_putBack_10 : decode cX6_putBack 10 = .ok (.getfield 7, 3) := by decide +kernel
theorem dX6_putBack_13 : decode cX6_putBack 13 = .ok (.iload_n 1, 1) := by decide +kernel
theorem dX6_putBack_14 : decode cX6_putBack 14 = .ok (.aload_n 0, 1) := by decide +kernel
theorem dX6_putBack_15 : decode cX6_putBack 15 = .ok (.getfield 13, 3) := by decide +kernel
theorem dX6_putBack_18 : decode cX6_putBack 18 = .ok (.iload_n 1, 1) := by decide +kernel
theorem dX6_putBack_19 : decode cX6_putBack 19 = .ok (.iaload, 1) := by decide +kernel
theorem dX6_putBack_20 : decode cX6_putBack 20 = .ok (.iastore, 1) := by decide +kernel
theorem dX6_putBack_21 : decode cX6_putBack 21 = .ok (.iinc 1 1, 3) := by decide +kernel
theorem dX6_putBack_24 : decode cX6_putBack 24 = .ok (.goto (-22), 3) := by decide +kernel
theorem dX6_putBack_27 : decode cX6_putBack 27 = .ok (.return_, 1) := by decide +kernel
theorem dX6_swing_0 : decode cX6_swing 0 = .ok (.sipush 320, 3) := by decide +kernel
theorem dX6_swing_3 : decode cX6_swing 3 = .ok (.iconst 3, 1) := by decide +kernel
theorem dX6_swing_4 : decode cX6_swing 4 = .ok (.bipush 48, 2) := by decide +kernel
theorem dX6_swing_6 : decode cX6_swing 6 = .ok (.aload_n 0, 1) := by decide +kernel
theorem dX6_swing_7 : decode cX6_swing 7 = .ok (.getfield 7, 3) := by decide +kernel
theorem dX6_swing_10 : decode cX6_swing 10 = .ok (.iconst 1, 1) := by decide +kernel
theorem dX6_swing_11 : decode cX6_swing 11 = .ok (.iaload, 1) := by decide +kernel
theorem dX6_swing_12 : decode cX6_swing 12 = .ok (.isub, 1) := by decide +kernel
theorem dX6_swing_13 : decode cX6_swing 13 = .ok (.imul, 1) := by decide +kernel
theorem dX6_swing_14 : decode cX6_swing 14 = .ok (.isub, 1) := by decide +kernel
theorem dX6_swing_15 : decode cX6_swing 15 = .ok (.aload_n 0, 1) := by decide +kernel
theorem dX6_swing_16 : decode cX6_swing 16 = .ok (.getfield 7, 3) := by decide +kernel
theorem dX6_swing_19 : decode cX6_swing 19 = .ok (.iconst 5, 1) := by decide +kernel
theorem dX6_swing_20 : decode cX6_swing 20 = .ok (.iaload, 1) := by decide +kernel
theorem dX6_swing_21 : decode cX6_swing 21 = .ok (.isub, 1) := by decide +kernel
theorem dX6_swing_22 : decode cX6_swing 22 = .ok (.iload_n 1, 1) := by decide +kernel
theorem dX6_swing_23 : decode cX6_swing 23 = .ok (.iconst 1, 1) := by decide +kernel
theorem dX6_swing_24 : decode cX6_swing 24 = .ok (.if_icmp .le 8, 3) := by decide +kernel
theorem dX6_swing_27 : decode cX6_swing 27 = .ok (.bipush 20, 2) := by decide +kernel
theorem dX6_swing_29 : decode cX6_swing 29 = .ok (.goto 4, 3) := by decide +kernel
theorem dX6_swing_32 : decode cX6_swing 32 = .ok (.iconst 0, 1) := by decide +kernel
theorem dX6_swing_33 : decode cX6_swing 33 = .ok (.isub, 1) := by decide +kernel
theorem dX6_swing_34 : decode cX6_swing 34 = .ok (.istore_n 2, 1) := by decide +kernel
theorem dX6_swing_35 : decode cX6_swing 35 = .ok (.iload_n 2, 1) := by decide +kernel
theorem dX6_swing_36 : decode cX6_swing 36 = .ok (.ifCond .ge 7, 3) := by decide +kernel
theorem dX6_swing_39 : decode cX6_swing 39 = .ok (.iconst 0, 1) := by decide +kernel
theorem dX6_swing_40 : decode cX6_swing 40 = .ok (.goto 4, 3) := by decide +kernel
theorem dX6_swing_43 : decode cX6_swing 43 = .ok (.iload_n 2, 1) := by decide +kernel
theorem dX6_swing_44 : decode cX6_swing 44 = .ok (.ireturn, 1) := by decide +kernel
set_option maxRecDepth 20000 in
theorem ggX6_goes_X6_swing : GoodIn wsX6_goes wsX6_swing := goodIn_r _ [6, 1, 7, 8, 9, 10, 11, 12, 13, 14, 15, 16, 17] (by decide +kernel) (by decide +kernel)
set_option maxRecDepth 20000 in
theorem gX6_goes_X6_swing : GoodIn wsX6_goes (wsV RX6 46 RX6 yX6_swing wsX6_swing) := goodIn_app (goodIn_of _ (by decide +kernel)) ggX6_goes_X6_swing
theorem dX6_goes_0 : decode cX6_goes 0 = .ok (.aload_n 0, 1) := by decide +kernel
theorem dX6_goes_1 : decode cX6_goes 1 = .ok (.getfield 7, 3) := by decide +kernel
theorem dX6_goes_4 : decode cX6_goes 4 = .ok (.iconst 1, 1) := by decide +kernel
theorem dX6_goes_5 : decode cX6_goes 5 = .ok (.iaload, 1) := by decide +kernel
theorem dX6_goes_6 : decode cX6_goes 6 = .ok (.ifCond .le 17, 3) := by decide +kernel
theorem dX6_goes_9 : decode cX6_goes 9 = .ok (.aload_n 0, 1) := by decide +kernel
theorem dX6_goes_10 : decode cX6_goes 10 = .ok (.iload_n 1, 1) := by decide +kernel
theorem dX6_goes_11 : decode cX6_goes 11 = .ok (.invokevirtual 46, 3) := by decide +kernel
theorem dX6_goes_14 : decode cX6_goes 14 = .ok (.bipush 120, 2) := by decide +kernel
theorem dX6_goes_16 : decode cX6_goes 16 = .ok (.if_icmp .lt 7, 3) := by decide +kernel
theorem dX6_goes_19 : decode cX6_goes 19 = .ok (.iconst 1, 1) := by decide +kernel
theorem dX6_goes_20 : decode cX6_goes 20 = .ok (.goto 4, 3) := by decide +kernel
theorem dX6_goes_23 : decode cX6_goes 23 = .ok (.iconst 0, 1) := by decide +kernel
theorem dX6_goes_24 : decode cX6_goes 24 = .ok (.ireturn, 1) := by decide +kernel
set_option maxRecDepth 20000 in
theorem ggX6_rate_X6_swing : GoodIn wsX6_rate wsX6_swing := goodIn_r _ [6, 1, 10, 11, 12, 13, 14, 15, 16, 17, 18, 19, 20] (by decide +kernel) (by decide +kernel)
set_option maxRecDepth 20000 in
theorem gX6_rate_X6_swing : GoodIn wsX6_rate (wsV RX6 46 RX6 yX6_swing wsX6_swing) := goodIn_app (goodIn_of _ (by decide +kernel)) ggX6_rate_X6_swing
set_option maxRecDepth 20000 in
theorem ggX6_rate_X6_divided : GoodIn wsX6_rate wsX6_divided := goodIn_r _ [9] (by decide +kernel) (by decide +kernel)
set_option maxRecDepth 20000 in
theorem gX6_rate_X6_divided : GoodIn wsX6_rate (va_wsS RX6 50 yX6_divided wsX6_divided) := goodIn_app (goodIn_of _ (by decide +kernel)) ggX6_rate_X6_divided
theorem dX6_rate_0 : decode cX6_rate 0 = .ok (.aload_n 0, 1) := by decide +kernel
theorem dX6_rate_1 : decode cX6_rate 1 = .ok (.getfield 7, 3) := by decide +kernel
theorem dX6_rate_4 : decode cX6_rate 4 = .ok (.iconst 2, 1) := by decide +kernel
theorem dX6_rate_5 : decode cX6_rate 5 = .ok (.iaload, 1) := by decide +kernel
theorem dX6_rate_6 : decode cX6_rate 6 = .ok (.aload_n 0, 1) := by decide +kernel
theorem dX6_rate_7 : decode cX6_rate 7 = .ok (.getfield 7, 3) := by decide +kernel
theorem dX6_rate_10 : decode cX6_rate 10 = .ok (.bipush 19, 2) := by decide +kernel
theorem dX6_rate_12 : decode cX6_rate 12 = .ok (.iload_n 1, 1) := by decide +kernel
theorem dX6_rate_13 : decode cX6_rate 13 = .ok (.iadd, 1) := by decide +kernel
theorem dX6_rate_14 : decode cX6_rate 14 = .ok (.iaload, 1) := by decide +kernel
theorem dX6_rate_15 : decode cX6_rate 15 = .ok (.sipush 360, 3) := by decide +kernel
theorem dX6_rate_18 : decode cX6_rate 18 = .ok (.aload_n 0, 1) := by decide +kernel
theorem dX6_rate_19 : decode cX6_rate 19 = .ok (.iload_n 1, 1) := by decide +kernel
theorem dX6_rate_20 : decode cX6_rate 20 = .ok (.invokevirtual 46, 3) := by decide +kernel
theorem dX6_rate_23 : decode cX6_rate 23 = .ok (.isub, 1) := by decide +kernel
theorem dX6_rate_24 : decode cX6_rate 24 = .ok (.imul, 1) := by decide +kernel
theorem dX6_rate_25 : decode cX6_rate 25 = .ok (.bipush 100, 2) := by decide +kernel
theorem dX6_rate_27 : decode cX6_rate 27 = .ok (.invokestatic 50, 3) := by decide +kernel
theorem dX6_rate_30 : decode cX6_rate 30 = .ok (.iadd, 1) := by decide +kernel
theorem dX6_rate_31 : decode cX6_rate 31 = .ok (.iconst 2, 1) := by decide +kernel
theorem dX6_rate_32 : decode cX6_rate 32 = .ok (.aload_n 0, 1) := by decide +kernel
theorem dX6_rate_33 : decode cX6_rate 33 = .ok (.getfield 7, 3) := by decide +kernel
theorem dX6_rate_36 : decode cX6_rate 36 = .ok (.iconst 4, 1) := by decide +kernel
theorem dX6_rate_37 : decode cX6_rate 37 = .ok (.iaload, 1) := by decide +kernel
theorem dX6_rate_38 : decode cX6_rate 38 = .ok (.imul, 1) := by decide +kernel
theorem dX6_rate_39 : decode cX6_rate 39 = .ok (.iadd, 1) := by decide +kernel
theorem dX6_rate_40 : decode cX6_rate 40 = .ok (.istore_n 2, 1) := by decide +kernel
theorem dX6_rate_41 : decode cX6_rate 41 = .ok (.aload_n 0, 1) := by decide +kernel
theorem dX6_rate_42 : decode cX6_rate 42 = .ok (.getfield 7, 3) := by decide +kernel
theorem dX6_rate_45 : decode cX6_rate 45 = .ok (.iconst 4, 1) := by decide +kernel
theorem dX6_rate_46 : decode cX6_rate 46 = .ok (.iaload, 1) := by decide +kernel
theorem dX6_rate_47 : decode cX6_rate 47 = .ok (.bipush 50, 2) := by decide +kernel
theorem dX6_rate_49 : decode cX6_rate 49 = .ok (.if_icmp .le 11, 3) := by decide +kernel
theorem dX6_rate_52 : decode cX6_rate 52 = .ok (.iload_n 2, 1) := by decide +kernel
theorem dX6_rate_53 : decode cX6_rate 53 = .ok (.sipush 300, 3) := by decide +kernel
theorem dX6_rate_56 : decode cX6_rate 56 = .ok (.iadd, 1) := by decide +kernel
theorem dX6_rate_57 : decode cX6_rate 57 = .ok (.goto 23, 3) := by decide +kernel
theorem dX6_rate_60 : decode cX6_rate 60 = .ok (.aload_n 0, 1) := by decide +kernel
theorem dX6_rate_61 : decode cX6_rate 61 = .ok (.iload_n 1, 1) := by decide +kernel
theorem dX6_rate_62 : decode cX6_rate 62 = .ok (.invokevirtual 46, 3) := by decide +kernel
theorem dX6_rate_65 : decode cX6_rate 65 = .ok (.sipush 300, 3) := by decide +kernel
theorem dX6_rate_68 : decode cX6_rate 68 = .ok (.if_icmp .le 11, 3) := by decide +kernel
theorem dX6_rate_71 : decode cX6_rate 71 = .ok (.iload_n 2, 1) := by decide +kernel
theorem dX6_rate_72 : decode cX6_rate 72 = .ok (.sipush 600, 3) := by decide +kernel
theorem dX6_rate_75 : decode cX6_rate 75 = .ok (.iadd, 1) := by decide +kernel
theorem dX6_rate_76 : decode cX6_rate 76 = .ok (.goto 4, 3) := by decide +kernel
theorem dX6_rate_79 : decode cX6_rate 79 = .ok (.iload_n 2, 1) := by decide +kernel
theorem dX6_rate_80 : decode cX6_rate 80 = .ok (.ireturn, 1) := by decide +kernel
set_option maxRecDepth 20000 in
theorem ggX6_beat_X6_amount : GoodIn wsX6_beat wsX6_amount := goodIn_r _ [5] (by decide +kernel) (by decide +kernel)
set_option maxRecDepth 20000 in
theorem gX6_beat_X6_amount : GoodIn wsX6_beat (va_wsS RX6 54 yX6_amount wsX6_amount) := goodIn_app (goodIn_of _ (by decide +kernel)) ggX6_beat_X6_amount
theorem dX6_beat_0 : decode cX6_beat 0 = .ok (.aload_n 0, 1) := by decide +kernel
theorem dX6_beat_1 : decode cX6_beat 1 = .ok (.getfield 7, 3) := by decide +kernel
theorem dX6_beat_4 : decode cX6_beat 4 = .ok (.iconst 3, 1) := by decide +kernel
theorem dX6_beat_5 : decode cX6_beat 5 = .ok (.iaload, 1) := by decide +kernel
theorem dX6_beat_6 : decode cX6_beat 6 = .ok (.invokestatic 54, 3) := by decide +kernel
theorem dX6_beat_9 : decode cX6_beat 9 = .ok (.aload_n 0, 1) := by decide +kernel
theorem dX6_beat_10 : decode cX6_beat 10 = .ok (.getfield 7, 3) := by decide +kernel
theorem dX6_beat_13 : decode cX6_beat 13 = .ok (.iconst 5, 1) := by decide +kernel
theorem dX6_beat_14 : decode cX6_beat 14 = .ok (.iaload, 1) := by decide +kernel
theorem dX6_beat_15 : decode cX6_beat 15 = .ok (.bipush 10, 2) := by decide +kernel
theorem dX6_beat_17 : decode cX6_beat 17 = .ok (.idiv, 1) := by decide +kernel
theorem dX6_beat_18 : decode cX6_beat 18 = .ok (.iadd, 1) := by decide +kernel
theorem dX6_beat_19 : decode cX6_beat 19 = .ok (.iload_n 1, 1) := by decide +kernel
theorem dX6_beat_20 : decode cX6_beat 20 = .ok (.iconst 1, 1) := by decide +kernel
theorem dX6_beat_21 : decode cX6_beat 21 = .ok (.if_icmp .le 7, 3) := by decide +kernel
theorem dX6_beat_24 : decode cX6_beat 24 = .ok (.iconst 2, 1) := by decide +kernel
theorem dX6_beat_25 : decode cX6_beat 25 = .ok (.goto 4, 3) := by decide +kernel
theorem dX6_beat_28 : decode cX6_beat 28 = .ok (.iconst 0, 1) := by decide +kernel
theorem dX6_beat_29 : decode cX6_beat 29 = .ok (.iadd, 1) := by decide +kernel
theorem dX6_beat_30 : decode cX6_beat 30 = .ok (.ireturn, 1) := by decide +kernel
set_option maxRecDepth 20000 in
theorem ggX6_whyNot_X6_swing : GoodIn wsX6_whyNot wsX6_swing := goodIn_r _ [6, 1, 14, 15, 16, 17, 18, 19, 20, 21, 22, 23, 24] (by decide +kernel) (by decide +kernel)
set_option maxRecDepth 20000 in
theorem gX6_whyNot_X6_swing : GoodIn wsX6_whyNot (wsV RX6 46 RX6 yX6_swing wsX6_swing) := goodIn_app (goodIn_of _ (by decide +kernel)) ggX6_whyNot_X6_swing
set_option maxRecDepth 20000 in
theorem ggX6_whyNot_X6_beat : GoodIn wsX6_whyNot wsX6_beat := goodIn_r _ [10, 1, 11, 12, 5, 13, 14, 15, 16, 17, 18, 19, 20, 21, 22, 23, 24] (by decide +kernel) (by decide +kernel)
set_option maxRecDepth 20000 in
theorem gX6_whyNot_X6_beat : GoodIn wsX6_whyNot (wsV RX6 57 RX6 yX6_beat wsX6_beat) := goodIn_app (goodIn_of _ (by decide +kernel)) ggX6_whyNot_X6_beat
theorem dX6_whyNot_0 : decode cX6_whyNot 0 = .ok (.aload_n 0, 1) := by decide +kernel
theorem dX6_whyNot_1 : decode cX6_whyNot 1 = .ok (.getfield 7, 3) := by decide +kernel
theorem dX6_whyNot_4 : decode cX6_whyNot 4 = .ok (.iconst 1, 1) := by decide +kernel
theorem dX6_whyNot_5 : decode cX6_whyNot 5 = .ok (.iaload, 1) := by decide +kernel
theorem dX6_whyNot_6 : decode cX6_whyNot 6 = .ok (.ifCond .ne 5, 3) := by decide +kernel
theorem dX6_whyNot_9 : decode cX6_whyNot 9 = .ok (.iconst 1, 1) := by decide +kernel
theorem dX6_whyNot_10 : decode cX6_whyNot 10 = .ok (.ireturn, 1) := by decide +kernel
theorem dX6_whyNot_11 : decode cX6_whyNot 11 = .ok (.aload_n 0, 1) := by decide +kernel
theorem dX6_whyNot_12 : decode cX6_whyNot 12 = .ok (.iload_n 1, 1) := by decide +kernel
theorem dX6_whyNot_13 : decode cX6_whyNot 13 = .ok (.invokevirtual 46, 3) := by decide +kernel
theorem dX6_whyNot_16 : decode cX6_whyNot 16 = .ok (.bipush 120, 2) := by decide +kernel
theorem dX6_whyNot_18 : decode cX6_whyNot 18 = .ok (.if_icmp .ge 5, 3) := by decide +kernel
theorem dX6_whyNot_21 : decode cX6_whyNot 21 = .ok (.iconst 2, 1) := by decide +kernel
theorem dX6_whyNot_22 : decode cX6_whyNot 22 = .ok (.ireturn, 1) := by decide +kernel
theorem dX6_whyNot_23 : decode cX6_whyNot 23 = .ok (.aload_n 0, 1) := by decide +kernel
theorem dX6_whyNot_24 : decode cX6_whyNot 24 = .ok (.iload_n 1, 1) := by decide +kernel
theorem dX6_whyNot_25 : decode cX6_whyNot 25 = .ok (.invokevirtual 57, 3) := by decide +kernel
theorem dX6_whyNot_28 : decode cX6_whyNot 28 = .ok (.aload_n 0, 1) := by decide +kernel
theorem dX6_whyNot_29 : decode cX6_whyNot 29 = .ok (.getfield 7, 3) := by decide +kernel
theorem dX6_whyNot_32 : decode cX6_whyNot 32 = .ok (.bipush 12, 2) := by decide +kernel
theorem dX6_whyNot_34 : decode cX6_whyNot 34 = .ok (.iaload, 1) := by decide +kernel
theorem dX6_whyNot_35 : decode cX6_whyNot 35 = .ok (.if_icmp .le 5, 3) := by decide +kernel
theorem dX6_whyNot_38 : decode cX6_whyNot 38 = .ok (.iconst 3, 1) := by decide +kernel
theorem dX6_whyNot_39 : decode cX6_whyNot 39 = .ok (.ireturn, 1) := by decide +kernel
theorem dX6_whyNot_40 : decode cX6_whyNot 40 = .ok (.aload_n 0, 1) := by decide +kernel
theorem dX6_whyNot_41 : decode cX6_whyNot 41 = .ok (.getfield 7, 3) := by decide +kernel
theorem dX6_whyNot_44 : decode cX6_whyNot 44 = .ok (.iconst 4, 1) := by decide +kernel
theorem dX6_whyNot_45 : decode cX6_whyNot 45 = .ok (.iaload, 1) := by decide +kernel
theorem dX6_whyNot_46 : decode cX6_whyNot 46 = .ok (.aload_n 0, 1) := by decide +kernel
theorem dX6_whyNot_47 : decode cX6_whyNot 47 = .ok (.getfield 7, 3) := by decide +kernel
theorem dX6_whyNot_50 : decode cX6_whyNot 50 = .ok (.bipush 13, 2) := by decide +kernel
theorem dX6_whyNot_52 : decode cX6_whyNot 52 = .ok (.iaload, 1) := by decide +kernel
theorem dX6_whyNot_53 : decode cX6_whyNot 53 = .ok (.if_icmp .le 7, 3) := by decide +kernel
theorem dX6_whyNot_56 : decode cX6_whyNot 56 = .ok (.iconst 4, 1) := by decide +kernel
theorem dX6_whyNot_57 : decode cX6_whyNot 57 = .ok (.goto 20, 3) := by decide +kernel
theorem dX6_whyNot_60 : decode cX6_whyNot 60 = .ok (.aload_n 0, 1) := by decide +kernel
theorem dX6_whyNot_61 : decode cX6_whyNot 61 = .ok (.getfield 7, 3) := by decide +kernel
theorem dX6_whyNot_64 : decode cX6_whyNot 64 = .ok (.bipush 10, 2) := by decide +kernel
theorem dX6_whyNot_66 : decode cX6_whyNot 66 = .ok (.iaload, 1) := by decide +kernel
theorem dX6_whyNot_67 : decode cX6_whyNot 67 = .ok (.bipush 40, 2) := by decide +kernel
theorem dX6_whyNot_69 : decode cX6_whyNot 69 = .ok (.if_icmp .ne 7, 3) := by decide +kernel
theorem dX6_whyNot_72 : decode cX6_whyNot 72 = .ok (.iconst 5, 1) := by decide +kernel
theorem dX6_whyNot_73 : decode cX6_whyNot 73 = .ok (.goto 4, 3) := by decide +kernel
theorem dX6_whyNot_76 : decode cX6_whyNot 76 = .ok (.iconst 0, 1) := by decide +kernel
theorem dX6_whyNot_77 : decode cX6_whyNot 77 = .ok (.ireturn, 1) := by decide +kernel
set_option maxRecDepth 20000 in
theorem ggX6_hour_X6_goes : GoodIn wsX6_hour wsX6_goes := goodIn_r _ [6, 1, 7, 8, 9, 5, 10, 21, 22, 23, 24, 25, 26, 27, 28, 29, 30, 31] (by decide +kernel) (by decide +kernel)
set_option maxRecDepth 20000 in
theorem gX6_hour_X6_goes : GoodIn wsX6_hour (wsV RX6 60 RX6 yX6_goes wsX6_goes) := goodIn_app (goodIn_of _ (by decide +kernel)) ggX6_hour_X6_goes
set_option maxRecDepth 20000 in
theorem ggX6_hour_X6_rate : GoodIn wsX6_hour wsX6_rate := goodIn_r _ [14, 1, 7, 8, 9, 5, 10, 15, 16, 17, 21, 22, 23, 24, 25, 26, 27, 28, 29, 30, 31] (by decide +kernel) (by decide +kernel)
set_option maxRecDepth 20000 in
theorem gX6_hour_X6_rate : GoodIn wsX6_hour (wsV RX6 64 RX6 yX6_rate wsX6_rate) := goodIn_app (goodIn_of _ (by decide +kernel)) ggX6_hour_X6_rate
set_option maxRecDepth 20000 in
theorem ggX6_hour_X6_divided : GoodIn wsX6_hour wsX6_divided := goodIn_r _ [17] (by decide +kernel) (by decide +kernel)
set_option maxRecDepth 20000 in
theorem gX6_hour_X6_divided : GoodIn wsX6_hour (va_wsS RX6 50 yX6_divided wsX6_divided) := goodIn_app (goodIn_of _ (by decide +kernel)) ggX6_hour_X6_divided
set_option maxRecDepth 20000 in
theorem ggX6_hour_X6_atMost : GoodIn wsX6_hour wsX6_atMost := goodIn_r _ [20] (by decide +kernel) (by decide +kernel)
set_option maxRecDepth 20000 in
theorem gX6_hour_X6_atMost : GoodIn wsX6_hour (va_wsS RX6 67 yX6_atMost wsX6_atMost) := goodIn_app (goodIn_of _ (by decide +kernel)) ggX6_hour_X6_atMost
theorem dX6_hour_0 : decode cX6_hour 0 = .ok (.aload_n 0, 1) := by decide +kernel
theorem dX6_hour_1 : decode cX6_hour 1 = .ok (.getfield 7, 3) := by decide +kernel
theorem dX6_hour_4 : decode cX6_hour 4 = .ok (.bipush 6, 2) := by decide +kernel
theorem dX6_hour_6 : decode cX6_hour 6 = .ok (.iaload, 1) := by decide +kernel
theorem dX6_hour_7 : decode cX6_hour 7 = .ok (.istore_n 1, 1) := by decide +kernel
theorem dX6_hour_8 : decode cX6_hour 8 = .ok (.aload_n 0, 1) := by decide +kernel
theorem dX6_hour_9 : decode cX6_hour 9 = .ok (.getfield 7, 3) := by decide +kernel
theorem dX6_hour_12 : decode cX6_hour 12 = .ok (.iconst 0, 1) := by decide +kernel
theorem dX6_hour_13 : decode cX6_hour 13 = .ok (.dup2, 1) := by decide +kernel
theorem dX6_hour_14 : decode cX6_hour 14 = .ok (.iaload, 1) := by decide +kernel
theorem dX6_hour_15 : decode cX6_hour 15 = .ok (.iconst 1, 1) := by decide +kernel
theorem dX6_hour_16 : decode cX6_hour 16 = .ok (.iadd, 1) := by decide +kernel
theorem dX6_hour_17 : decode cX6_hour 17 = .ok (.iastore, 1) := by decide +kernel
theorem dX6_hour_18 : decode cX6_hour 18 = .ok (.aload_n 0, 1) := by decide +kernel
theorem dX6_hour_19 : decode cX6_hour 19 = .ok (.iload_n 1, 1) := by decide +kernel
theorem dX6_hour_20 : decode cX6_hour 20 = .ok (.invokevirtual 60, 3) := by decide +kernel
theorem dX6_hour_23 : decode cX6_hour 23 = .ok (.ifCond .ne 15, 3) := by decide +kernel
theorem dX6_hour_26 : decode cX6_hour 26 = .ok (.aload_n 0, 1) := by decide +kernel
theorem dX6_hour_27 : decode cX6_hour 27 = .ok (.getfield 7, 3) := by decide +kernel
theorem dX6_hour_30 : decode cX6_hour 30 = .ok (.bipush 8, 2) := by decide +kernel
theorem dX6_hour_32 : decode cX6_hour 32 = .ok (.dup2, 1) := by decide +kernel
theorem dX6_hour_33 : decode cX6_hour 33 = .ok (.iaload, 1) := by decide +kernel
theorem dX6_hour_34 : decode cX6_hour 34 = .ok (.iconst 1, 1) := by decide +kernel
theorem dX6_hour_35 : decode cX6_hour 35 = .ok (.iadd, 1) := by decide +kernel
theorem dX6_hour_36 : decode cX6_hour 36 = .ok (.iastore, 1) := by decide +kernel
theorem dX6_hour_37 : decode cX6_hour 37 = .ok (.return_, 1) := by decide +kernel
theorem dX6_hour_38 : decode cX6_hour 38 = .ok (.aload_n 0, 1) := by decide +kernel
theorem dX6_hour_39 : decode cX6_hour 39 = .ok (.getfield 7, 3) := by decide +kernel
theorem dX6_hour_42 : decode cX6_hour 42 = .ok (.bipush 7, 2) := by decide +kernel
theorem dX6_hour_44 : decode cX6_hour 44 = .ok (.dup2, 1) := by decide +kernel
theorem dX6_hour_45 : decode cX6_hour 45 = .ok (.iaload, 1) := by decide +kernel
theorem dX6_hour_46 : decode cX6_hour 46 = .ok (.aload_n 0, 1) := by decide +kernel
theorem dX6_hour_47 : decode cX6_hour 47 = .ok (.iload_n 1, 1) := by decide +kernel
theorem dX6_hour_48 : decode cX6_hour 48 = .ok (.invokevirtual 64, 3) := by decide +kernel
theorem dX6_hour_51 : decode cX6_hour 51 = .ok (.bipush 24, 2) := by decide +kernel
theorem dX6_hour_53 : decode cX6_hour 53 = .ok (.invokestatic 50, 3) := by decide +kernel
theorem dX6_hour_56 : decode cX6_hour 56 = .ok (.iadd, 1) := by decide +kernel
theorem dX6_hour_57 : decode cX6_hour 57 = .ok (.iastore, 1) := by decide +kernel
theorem dX6_hour_58 : decode cX6_hour 58 = .ok (.aload_n 0, 1) := by decide +kernel
theorem dX6_hour_59 : decode cX6_hour 59 = .ok (.getfield 7, 3) := by decide +kernel
theorem dX6_hour_62 : decode cX6_hour 62 = .ok (.iconst 1, 1) := by decide +kernel
theorem dX6_hour_63 : decode cX6_hour 63 = .ok (.dup2, 1) := by decide +kernel
theorem dX6_hour_64 : decode cX6_hour 64 = .ok (.iaload, 1) := by decide +kernel
theorem dX6_hour_65 : decode cX6_hour 65 = .ok (.iconst 1, 1) := by decide +kernel
theorem dX6_hour_66 : decode cX6_hour 66 = .ok (.isub, 1) := by decide +kernel
theorem dX6_hour_67 : decode cX6_hour 67 = .ok (.iastore, 1) := by decide +kernel
theorem dX6_hour_68 : decode cX6_hour 68 = .ok (.aload_n 0, 1) := by decide +kernel
theorem dX6_hour_69 : decode cX6_hour 69 = .ok (.getfield 7, 3) := by decide +kernel
theorem dX6_hour_72 : decode cX6_hour 72 = .ok (.bipush 9, 2) := by decide +kernel
theorem dX6_hour_74 : decode cX6_hour 74 = .ok (.dup2, 1) := by decide +kernel
theorem dX6_hour_75 : decode cX6_hour 75 = .ok (.iaload, 1) := by decide +kernel
theorem dX6_hour_76 : decode cX6_hour 76 = .ok (.iconst 1, 1) := by decide +kernel
theorem dX6_hour_77 : decode cX6_hour 77 = .ok (.iadd, 1) := by decide +kernel
theorem dX6_hour_78 : decode cX6_hour 78 = .ok (.iastore, 1) := by decide +kernel
theorem dX6_hour_79 : decode cX6_hour 79 = .ok (.aload_n 0, 1) := by decide +kernel
theorem dX6_hour_80 : decode cX6_hour 80 = .ok (.getfield 7, 3) := by decide +kernel
theorem dX6_hour_83 : decode cX6_hour 83 = .ok (.iconst 5, 1) := by decide +kernel
theorem dX6_hour_84 : decode cX6_hour 84 = .ok (.aload_n 0, 1) := by decide +kernel
theorem dX6_hour_85 : decode cX6_hour 85 = .ok (.getfield 7, 3) := by decide +kernel
theorem dX6_hour_88 : decode cX6_hour 88 = .ok (.bipush 9, 2) := by decide +kernel
theorem dX6_hour_90 : decode cX6_hour 90 = .ok (.iaload, 1) := by decide +kernel
theorem dX6_hour_91 : decode cX6_hour 91 = .ok (.bipush 24, 2) := by decide +kernel
theorem dX6_hour_93 : decode cX6_hour 93 = .ok (.irem, 1) := by decide +kernel
theorem dX6_hour_94 : decode cX6_hour 94 = .ok (.ifCond .ne 19, 3) := by decide +kernel
theorem dX6_hour_97 : decode cX6_hour 97 = .ok (.aload_n 0, 1) := by decide +kernel
theorem dX6_hour_98 : decode cX6_hour 98 = .ok (.getfield 7, 3) := by decide +kernel
theorem dX6_hour_101 : decode cX6_hour 101 = .ok (.iconst 5, 1) := by decide +kernel
theorem dX6_hour_102 : decode cX6_hour 102 = .ok (.iaload, 1) := by decide +kernel
theorem dX6_hour_103 : decode cX6_hour 103 = .ok (.iconst 1, 1) := by decide +kernel
theorem dX6_hour_104 : decode cX6_hour 104 = .ok (.iadd, 1) := by decide +kernel
theorem dX6_hour_105 : decode cX6_hour 105 = .ok (.bipush 100, 2) := by decide +kernel
theorem dX6_hour_107 : decode cX6_hour 107 = .ok (.invokestatic 67, 3) := by decide +kernel
theorem dX6_hour_110 : decode cX6_hour 110 = .ok (.goto 9, 3) := by decide +kernel
theorem dX6_hour_113 : decode cX6_hour 113 = .ok (.aload_n 0, 1) := by decide +kernel
theorem dX6_hour_114 : decode cX6_hour 114 = .ok (.getfield 7, 3) := by decide +kernel
theorem dX6_hour_117 : decode cX6_hour 117 = .ok (.iconst 5, 1) := by decide +kernel
theorem dX6_hour_118 : decode cX6_hour 118 = .ok (.iaload, 1) := by decide +kernel
theorem dX6_hour_119 : decode cX6_hour 119 = .ok (.iastore, 1) := by decide +kernel
theorem dX6_hour_120 : decode cX6_hour 120 = .ok (.return_, 1) := by decide +kernel
set_option maxRecDepth 20000 in
theorem ggX6_hours_X6_hour : GoodIn wsX6_hours wsX6_hour := goodIn_r _ [6, 1, 7, 8, 9, 5, 10, 11, 12, 13, 14, 15, 16, 17, 18, 19, 20, 21, 22, 23, 24, 25, 26, 27, 28, 29, 30, 31, 32, 33, 34, 35] (by decide +kernel) (by decide +kernel)
set_option maxRecDepth 20000 in
theorem gX6_hours_X6_hour : GoodIn wsX6_hours (wsV RX6 70 RX6 yX6_hour wsX6_hour) := goodIn_app (goodIn_of _ (by decide +kernel)) ggX6_hours_X6_hour
theorem dX6_hours_0 : decode cX6_hours 0 = .ok (.aload_n 0, 1) := by decide +kernel
theorem dX6_hours_1 : decode cX6_hours 1 = .ok (.getfield 7, 3) := by decide +kernel
theorem dX6_hours_4 : decode cX6_hours 4 = .ok (.bipush 9, 2) := by decide +kernel
theorem dX6_hours_6 : decode cX6_hours 6 = .ok (.iaload, 1) := by decide +kernel
theorem dX6_hours_7 : decode cX6_hours 7 = .ok (.istore_n 2, 1) := by decide +kernel
theorem dX6_hours_8 : decode cX6_hours 8 = .ok (.iconst 0, 1) := by decide +kernel
theorem dX6_hours_9 : decode cX6_hours 9 = .ok (.istore_n 3, 1) := by decide +kernel
theorem dX6_hours_10 : decode cX6_hours 10 = .ok (.iload_n 3, 1) := by decide +kernel
theorem dX6_hours_11 : decode cX6_hours 11 = .ok (.iload_n 1, 1) := by decide +kernel
theorem dX6_hours_12 : decode cX6_hours 12 = .ok (.if_icmp .ge 13, 3) := by decide +kernel
theorem dX6_hours_15 : decode cX6_hours 15 = .ok (.aload_n 0, 1) := by decide +kernel
theorem dX6_hours_16 : decode cX6_hours 16 = .ok (.invokevirtual 70, 3) := by decide +kernel
theorem dX6_hours_19 : decode cX6_hours 19 = .ok (.iinc 3 1, 3) := by decide +kernel
theorem dX6_hours_22 : decode cX6_hours 22 = .ok (.goto (-12), 3) := by decide +kernel
theorem dX6_hours_25 : decode cX6_hours 25 = .ok (.aload_n 0, 1) := by decide +kernel
theorem dX6_hours_26 : decode cX6_hours 26 = .ok (.getfield 7, 3) := by decide +kernel
theorem dX6_hours_29 : decode cX6_hours 29 = .ok (.bipush 9, 2) := by decide +kernel
theorem dX6_hours_31 : decode cX6_hours 31 = .ok (.iaload, 1) := by decide +kernel
theorem dX6_hours_32 : decode cX6_hours 32 = .ok (.iload_n 2, 1) := by decide +kernel
theorem dX6_hours_33 : decode cX6_hours 33 = .ok (.isub, 1) := by decide +kernel
theorem dX6_hours_34 : decode cX6_hours 34 = .ok (.ireturn, 1) := by decide +kernel
set_option maxRecDepth 20000 in
theorem ggX6_doWind_X6_atMost : GoodIn wsX6_doWind wsX6_atMost := goodIn_r _ [5] (by decide +kernel) (by decide +kernel)
set_option maxRecDepth 20000 in
theorem gX6_doWind_X6_atMost : GoodIn wsX6_doWind (va_wsS RX6 67 yX6_atMost wsX6_atMost) := goodIn_app (goodIn_of _ (by decide +kernel)) ggX6_doWind_X6_atMost
theorem dX6_doWind_0 : decode cX6_doWind 0 = .ok (.aload_n 0, 1) := by decide +kernel
theorem dX6_doWind_1 : decode cX6_doWind 1 = .ok (.getfield 7, 3) := by decide +kernel
theorem dX6_doWind_4 : decode cX6_doWind 4 = .ok (.iconst 1, 1) := by decide +kernel
theorem dX6_doWind_5 : decode cX6_doWind 5 = .ok (.aload_n 0, 1) := by decide +kernel
theorem dX6_doWind_6 : decode cX6_doWind 6 = .ok (.getfield 7, 3) := by decide +kernel
theorem dX6_doWind_9 : decode cX6_doWind 9 = .ok (.iconst 1, 1) := by decide +kernel
theorem dX6_doWind_10 : decode cX6_doWind 10 = .ok (.iaload, 1) := by decide +kernel
theorem dX6_doWind_11 : decode cX6_doWind 11 = .ok (.iload_n 1, 1) := by decide +kernel
theorem dX6_doWind_12 : decode cX6_doWind 12 = .ok (.iadd, 1) := by decide +kernel
theorem dX6_doWind_13 : decode cX6_doWind 13 = .ok (.bipush 48, 2) := by decide +kernel
theorem dX6_doWind_15 : decode cX6_doWind 15 = .ok (.invokestatic 67, 3) := by decide +kernel
theorem dX6_doWind_18 : decode cX6_doWind 18 = .ok (.iastore, 1) := by decide +kernel
theorem dX6_doWind_19 : decode cX6_doWind 19 = .ok (.aload_n 0, 1) := by decide +kernel
theorem dX6_doWind_20 : decode cX6_doWind 20 = .ok (.getfield 7, 3) := by decide +kernel
theorem dX6_doWind_23 : decode cX6_doWind 23 = .ok (.iconst 1, 1) := by decide +kernel
theorem dX6_doWind_24 : decode cX6_doWind 24 = .ok (.iaload, 1) := by decide +kernel
theorem dX6_doWind_25 : decode cX6_doWind 25 = .ok (.ireturn, 1) := by decide +kernel
set_option maxRecDepth 20000 in
theorem ggX6_doRead_X6_rate : GoodIn wsX6_doRead wsX6_rate := goodIn_r _ [6, 1, 7, 8, 9, 5, 10, 11, 12, 13, 21, 22, 23, 24, 25, 26, 27, 28, 29, 30, 31] (by decide +kernel) (by decide +kernel)
set_option maxRecDepth 20000 in
theorem gX6_doRead_X6_rate : GoodIn wsX6_doRead (wsV RX6 64 RX6 yX6_rate wsX6_rate) := goodIn_app (goodIn_of _ (by decide +kernel)) ggX6_doRead_X6_rate
set_option maxRecDepth 20000 in
theorem ggX6_doRead_X6_beat : GoodIn wsX6_doRead wsX6_beat := goodIn_r _ [17, 1, 18, 19, 5, 20, 21, 22, 23, 24, 25, 26, 27, 28, 29, 30, 31] (by decide +kernel) (by decide +kernel)
set_option maxRecDepth 20000 in
theorem gX6_doRead_X6_beat : GoodIn wsX6_doRead (wsV RX6 57 RX6 yX6_beat wsX6_beat) := goodIn_app (goodIn_of _ (by decide +kernel)) ggX6_doRead_X6_beat
set_option maxRecDepth 20000 in
theorem ggX6_doRead_X6_swing : GoodIn wsX6_doRead wsX6_swing := goodIn_r _ [10, 1, 21, 22, 23, 24, 25, 26, 27, 28, 29, 30, 31] (by decide +kernel) (by decide +kernel)
set_option maxRecDepth 20000 in
theorem gX6_doRead_X6_swing : GoodIn wsX6_doRead (wsV RX6 46 RX6 yX6_swing wsX6_swing) := goodIn_app (goodIn_of _ (by decide +kernel)) ggX6_doRead_X6_swing
theorem dX6_doRead_0 : decode cX6_doRead 0 = .ok (.bipush 25, 2) := by decide +kernel
theorem dX6_doRead_2 : decode cX6_doRead 2 = .ok (.iconst 5, 1) := by decide +kernel
theorem dX6_doRead_3 : decode cX6_doRead 3 = .ok (.aload_n 0, 1) := by decide +kernel
theorem dX6_doRead_4 : decode cX6_doRead 4 = .ok (.getfield 7, 3) := by decide +kernel
theorem dX6_doRead_7 : decode cX6_doRead 7 = .ok (.bipush 10, 2) := by decide +kernel
theorem dX6_doRead_9 : decode cX6_doRead 9 = .ok (.iaload, 1) := by decide +kernel
theorem dX6_doRead_10 : decode cX6_doRead 10 = .ok (.imul, 1) := by decide +kernel
theorem dX6_doRead_11 : decode cX6_doRead 11 = .ok (.iadd, 1) := by decide +kernel
theorem dX6_doRead_12 : decode cX6_doRead 12 = .ok (.istore_n 2, 1) := by decide +kernel
theorem dX6_doRead_13 : decode cX6_doRead 13 = .ok (.aload_n 0, 1) := by decide +kernel
theorem dX6_doRead_14 : decode cX6_doRead 14 = .ok (.getfield 7, 3) := by decide +kernel
theorem dX6_doRead_17 : decode cX6_doRead 17 = .ok (.bipush 6, 2) := by decide +kernel
theorem dX6_doRead_19 : decode cX6_doRead 19 = .ok (.iload_n 1, 1) := by decide +kernel
theorem dX6_doRead_20 : decode cX6_doRead 20 = .ok (.iastore, 1) := by decide +kernel
theorem dX6_doRead_21 : decode cX6_doRead 21 = .ok (.aload_n 0, 1) := by decide +kernel
theorem dX6_doRead_22 : decode cX6_doRead 22 = .ok (.getfield 7, 3) := by decide +kernel
theorem dX6_doRead_25 : decode cX6_doRead 25 = .ok (.iload_n 2, 1) := by decide +kernel
theorem dX6_doRead_26 : decode cX6_doRead 26 = .ok (.iconst 0, 1) := by decide +kernel
theorem dX6_doRead_27 : decode cX6_doRead 27 = .ok (.iadd, 1) := by decide +kernel
theorem dX6_doRead_28 : decode cX6_doRead 28 = .ok (.aload_n 0, 1) := by decide +kernel
theorem dX6_doRead_29 : decode cX6_doRead 29 = .ok (.getfield 7, 3) := by decide +kernel
theorem dX6_doRead_32 : decode cX6_doRead 32 = .ok (.iconst 0, 1) := by decide +kernel
theorem dX6_doRead_33 : decode cX6_doRead 33 = .ok (.iaload, 1) := by decide +kernel
theorem dX6_doRead_34 : decode cX6_doRead 34 = .ok (.iastore, 1) := by decide +kernel
theorem dX6_doRead_35 : decode cX6_doRead 35 = .ok (.aload_n 0, 1) := by decide +kernel
theorem dX6_doRead_36 : decode cX6_doRead 36 = .ok (.getfield 7, 3) := by decide +kernel
theorem dX6_doRead_39 : decode cX6_doRead 39 = .ok (.iload_n 2, 1) := by decide +kernel
theorem dX6_doRead_40 : decode cX6_doRead 40 = .ok (.iconst 1, 1) := by decide +kernel
theorem dX6_doRead_41 : decode cX6_doRead 41 = .ok (.iadd, 1) := by decide +kernel
theorem dX6_doRead_42 : decode cX6_doRead 42 = .ok (.iload_n 1, 1) := by decide +kernel
theorem dX6_doRead_43 : decode cX6_doRead 43 = .ok (.iastore, 1) := by decide +kernel
theorem dX6_doRead_44 : decode cX6_doRead 44 = .ok (.aload_n 0, 1) := by decide +kernel
theorem dX6_doRead_45 : decode cX6_doRead 45 = .ok (.getfield 7, 3) := by decide +kernel
theorem dX6_doRead_48 : decode cX6_doRead 48 = .ok (.iload_n 2, 1) := by decide +kernel
theorem dX6_doRead_49 : decode cX6_doRead 49 = .ok (.iconst 2, 1) := by decide +kernel
theorem dX6_doRead_50 : decode cX6_doRead 50 = .ok (.iadd, 1) := by decide +kernel
theorem dX6_doRead_51 : decode cX6_doRead 51 = .ok (.aload_n 0, 1) := by decide +kernel
theorem dX6_doRead_52 : decode cX6_doRead 52 = .ok (.iload_n 1, 1) := by decide +kernel
theorem dX6_doRead_53 : decode cX6_doRead 53 = .ok (.invokevirtual 64, 3) := by decide +kernel
theorem dX6_doRead_56 : decode cX6_doRead 56 = .ok (.iastore, 1) := by decide +kernel
theorem dX6_doRead_57 : decode cX6_doRead 57 = .ok (.aload_n 0, 1) := by decide +kernel
theorem dX6_doRead_58 : decode cX6_doRead 58 = .ok (.getfield 7, 3) := by decide +kernel
theorem dX6_doRead_61 : decode cX6_doRead 61 = .ok (.iload_n 2, 1) := by decide +kernel
theorem dX6_doRead_62 : decode cX6_doRead 62 = .ok (.iconst 3, 1) := by decide +kernel
theorem dX6_doRead_63 : decode cX6_doRead 63 = .ok (.iadd, 1) := by decide +kernel
theorem dX6_doRead_64 : decode cX6_doRead 64 = .ok (.aload_n 0, 1) := by decide +kernel
theorem dX6_doRead_65 : decode cX6_doRead 65 = .ok (.iload_n 1, 1) := by decide +kernel
theorem dX6_doRead_66 : decode cX6_doRead 66 = .ok (.invokevirtual 57, 3) := by decide +kernel
theorem dX6_doRead_69 : decode cX6_doRead 69 = .ok (.iastore, 1) := by decide +kernel
theorem dX6_doRead_70 : decode cX6_doRead 70 = .ok (.aload_n 0, 1) := by decide +kernel
theorem dX6_doRead_71 : decode cX6_doRead 71 = .ok (.getfield 7, 3) := by decide +kernel
theorem dX6_doRead_74 : decode cX6_doRead 74 = .ok (.iload_n 2, 1) := by decide +kernel
theorem dX6_doRead_75 : decode cX6_doRead 75 = .ok (.iconst 4, 1) := by decide +kernel
theorem dX6_doRead_76 : decode cX6_doRead 76 = .ok (.iadd, 1) := by decide +kernel
theorem dX6_doRead_77 : decode cX6_doRead 77 = .ok (.aload_n 0, 1) := by decide +kernel
theorem dX6_doRead_78 : decode cX6_doRead 78 = .ok (.iload_n 1, 1) := by decide +kernel
theorem dX6_doRead_79 : decode cX6_doRead 79 = .ok (.invokevirtual 46, 3) := by decide +kernel
theorem dX6_doRead_82 : decode cX6_doRead 82 = .ok (.iastore, 1) := by decide +kernel
theorem dX6_doRead_83 : decode cX6_doRead 83 = .ok (.aload_n 0, 1) := by decide +kernel
theorem dX6_doRead_84 : decode cX6_doRead 84 = .ok (.getfield 7, 3) := by decide +kernel
theorem dX6_doRead_87 : decode cX6_doRead 87 = .ok (.bipush 10, 2) := by decide +kernel
theorem dX6_doRead_89 : decode cX6_doRead 89 = .ok (.dup2, 1) := by decide +kernel
theorem dX6_doRead_90 : decode cX6_doRead 90 = .ok (.iaload, 1) := by decide +kernel
theorem dX6_doRead_91 : decode cX6_doRead 91 = .ok (.iconst 1, 1) := by decide +kernel
theorem dX6_doRead_92 : decode cX6_doRead 92 = .ok (.iadd, 1) := by decide +kernel
theorem dX6_doRead_93 : decode cX6_doRead 93 = .ok (.iastore, 1) := by decide +kernel
theorem dX6_doRead_94 : decode cX6_doRead 94 = .ok (.aload_n 0, 1) := by decide +kernel
theorem dX6_doRead_95 : decode cX6_doRead 95 = .ok (.getfield 7, 3) := by decide +kernel
theorem dX6_doRead_98 : decode cX6_doRead 98 = .ok (.bipush 11, 2) := by decide +kernel
theorem dX6_doRead_100 : decode cX6_doRead 100 = .ok (.dup2, 1) := by decide +kernel
theorem dX6_doRead_101 : decode cX6_doRead 101 = .ok (.iaload, 1) := by decide +kernel
theorem dX6_doRead_102 : decode cX6_doRead 102 = .ok (.iconst 1, 1) := by decide +kernel
theorem dX6_doRead_103 : decode cX6_doRead 103 = .ok (.iadd, 1) := by decide +kernel
theorem dX6_doRead_104 : decode cX6_doRead 104 = .ok (.iastore, 1) := by decide +kernel
theorem dX6_doRead_105 : decode cX6_doRead 105 = .ok (.aload_n 0, 1) := by decide +kernel
theorem dX6_doRead_106 : decode cX6_doRead 106 = .ok (.iload_n 1, 1) := by decide +kernel
theorem dX6_doRead_107 : decode cX6_doRead 107 = .ok (.invokevirtual 64, 3) := by decide +kernel
theorem dX6_doRead_110 : decode cX6_doRead 110 = .ok (.sipush 10000, 3) := by decide +kernel
theorem dX6_doRead_113 : decode cX6_doRead 113 = .ok (.iadd, 1) := by decide +kernel
theorem dX6_doRead_114 : decode cX6_doRead 114 = .ok (.ireturn, 1) := by decide +kernel
set_option maxRecDepth 20000 in
theorem ggX6_wind_X6_in : GoodIn wsX6_wind wsX6_in := goodIn_r _ [5] (by decide +kernel) (by decide +kernel)
set_option maxRecDepth 20000 in
theorem gX6_wind_X6_in : GoodIn wsX6_wind (va_wsS RX6 32 yX6_in wsX6_in) := goodIn_app (goodIn_of _ (by decide +kernel)) ggX6_wind_X6_in
set_option maxRecDepth 20000 in
theorem ggX6_wind_X6_record : GoodIn wsX6_wind wsX6_record := goodIn_r _ [9, 10, 11, 12, 20, 21, 22, 23, 24, 25, 26, 27, 28, 29, 30] (by decide +kernel) (by decide +kernel)
set_option maxRecDepth 20000 in
theorem gX6_wind_X6_record : GoodIn wsX6_wind (wsV RX6 43 RX6 yX6_record wsX6_record) := goodIn_app (goodIn_of _ (by decide +kernel)) ggX6_wind_X6_record
set_option maxRecDepth 20000 in
theorem ggX6_wind_X6_doWind : GoodIn wsX6_wind wsX6_doWind := goodIn_r _ [16, 12, 17, 18, 4, 19, 20, 21, 22, 23, 24, 25, 26, 27, 28, 29, 30] (by decide +kernel) (by decide +kernel)
set_option maxRecDepth 20000 in
theorem gX6_wind_X6_doWind : GoodIn wsX6_wind (wsV RX6 73 RX6 yX6_doWind wsX6_doWind) := goodIn_app (goodIn_of _ (by decide +kernel)) ggX6_wind_X6_doWind
theorem dX6_wind_0 : decode cX6_wind 0 = .ok (.aload_n 0, 1) := by decide +kernel
theorem dX6_wind_1 : decode cX6_wind 1 = .ok (.iload_n 1, 1) := by decide +kernel
theorem dX6_wind_2 : decode cX6_wind 2 = .ok (.iconst 1, 1) := by decide +kernel
theorem dX6_wind_3 : decode cX6_wind 3 = .ok (.bipush 48, 2) := by decide +kernel
theorem dX6_wind_5 : decode cX6_wind 5 = .ok (.invokestatic 32, 3) := by decide +kernel
theorem dX6_wind_8 : decode cX6_wind 8 = .ok (.ifCond .eq 7, 3) := by decide +kernel
theorem dX6_wind_11 : decode cX6_wind 11 = .ok (.iconst 0, 1) := by decide +kernel
theorem dX6_wind_12 : decode cX6_wind 12 = .ok (.goto 4, 3) := by decide +kernel
theorem dX6_wind_15 : decode cX6_wind 15 = .ok (.iconst 1, 1) := by decide +kernel
theorem dX6_wind_16 : decode cX6_wind 16 = .ok (.putfield 28, 3) := by decide +kernel
theorem dX6_wind_19 : decode cX6_wind 19 = .ok (.aload_n 0, 1) := by decide +kernel
theorem dX6_wind_20 : decode cX6_wind 20 = .ok (.getfield 28, 3) := by decide +kernel
theorem dX6_wind_23 : decode cX6_wind 23 = .ok (.ifCond .le 5, 3) := by decide +kernel
theorem dX6_wind_26 : decode cX6_wind 26 = .ok (.iconst 0, 1) := by decide +kernel
theorem dX6_wind_27 : decode cX6_wind 27 = .ok (.ireturn, 1) := by decide +kernel
theorem dX6_wind_28 : decode cX6_wind 28 = .ok (.aload_n 0, 1) := by decide +kernel
theorem dX6_wind_29 : decode cX6_wind 29 = .ok (.invokevirtual 43, 3) := by decide +kernel
theorem dX6_wind_32 : decode cX6_wind 32 = .ok (.aload_n 0, 1) := by decide +kernel
theorem dX6_wind_33 : decode cX6_wind 33 = .ok (.iload_n 1, 1) := by decide +kernel
theorem dX6_wind_34 : decode cX6_wind 34 = .ok (.invokevirtual 73, 3) := by decide +kernel
theorem dX6_wind_37 : decode cX6_wind 37 = .ok (.ireturn, 1) := by decide +kernel
set_option maxRecDepth 20000 in
theorem ggX6_weigh_X6_isPose : GoodIn wsX6_weigh wsX6_isPose := goodIn_r _ [6, 7, 8, 5, 9] (by decide +kernel) (by decide +kernel)
set_option maxRecDepth 20000 in
theorem gX6_weigh_X6_isPose : GoodIn wsX6_weigh (va_wsS RX6 76 yX6_isPose wsX6_isPose) := goodIn_app (goodIn_of _ (by decide +kernel)) ggX6_weigh_X6_isPose
set_option maxRecDepth 20000 in
theorem ggX6_weigh_X6_in : GoodIn wsX6_weigh wsX6_in := goodIn_r _ [9] (by decide +kernel) (by decide +kernel)
set_option maxRecDepth 20000 in
theorem gX6_weigh_X6_in : GoodIn wsX6_weigh (va_wsS RX6 32 yX6_in wsX6_in) := goodIn_app (goodIn_of _ (by decide +kernel)) ggX6_weigh_X6_in
set_option maxRecDepth 20000 in
theorem ggX6_weigh_X6_record : GoodIn wsX6_weigh wsX6_record := goodIn_r _ [13, 14, 15, 2, 16, 17, 18, 19, 20, 21, 22, 23, 24, 25, 26] (by decide +kernel) (by decide +kernel)
set_option maxRecDepth 20000 in
theorem gX6_weigh_X6_record : GoodIn wsX6_weigh (wsV RX6 43 RX6 yX6_record wsX6_record) := goodIn_app (goodIn_of _ (by decide +kernel)) ggX6_weigh_X6_record
theorem dX6_weigh_0 : decode cX6_weigh 0 = .ok (.aload_n 0, 1) := by decide +kernel
theorem dX6_weigh_1 : decode cX6_weigh 1 = .ok (.iload_n 1, 1) := by decide +kernel
theorem dX6_weigh_2 : decode cX6_weigh 2 = .ok (.invokestatic 76, 3) := by decide +kernel
theorem dX6_weigh_5 : decode cX6_weigh 5 = .ok (.ifCond .ne 7, 3) := by decide +kernel
theorem dX6_weigh_8 : decode cX6_weigh 8 = .ok (.iconst 1, 1) := by decide +kernel
theorem dX6_weigh_9 : decode cX6_weigh 9 = .ok (.goto 19, 3) := by decide +kernel
theorem dX6_weigh_12 : decode cX6_weigh 12 = .ok (.iload_n 2, 1) := by decide +kernel
theorem dX6_weigh_13 : decode cX6_weigh 13 = .ok (.bipush (-60), 2) := by decide +kernel
theorem dX6_weigh_15 : decode cX6_weigh 15 = .ok (.bipush 60, 2) := by decide +kernel
theorem dX6_weigh_17 : decode cX6_weigh 17 = .ok (.invokestatic 32, 3) := by decide +kernel
theorem dX6_weigh_20 : decode cX6_weigh 20 = .ok (.ifCond .eq 7, 3) := by decide +kernel
theorem dX6_weigh_23 : decode cX6_weigh 23 = .ok (.iconst 0, 1) := by decide +kernel
theorem dX6_weigh_24 : decode cX6_weigh 24 = .ok (.goto 4, 3) := by decide +kernel
theorem dX6_weigh_27 : decode cX6_weigh 27 = .ok (.iconst 2, 1) := by decide +kernel
theorem dX6_weigh_28 : decode cX6_weigh 28 = .ok (.putfield 28, 3) := by decide +kernel
theorem dX6_weigh_31 : decode cX6_weigh 31 = .ok (.aload_n 0, 1) := by decide +kernel
theorem dX6_weigh_32 : decode cX6_weigh 32 = .ok (.getfield 28, 3) := by decide +kernel
theorem dX6_weigh_35 : decode cX6_weigh 35 = .ok (.ifCond .le 5, 3) := by decide +kernel
theorem dX6_weigh_38 : decode cX6_weigh 38 = .ok (.iconst 0, 1) := by decide +kernel
theorem dX6_weigh_39 : decode cX6_weigh 39 = .ok (.ireturn, 1) := by decide +kernel
theorem dX6_weigh_40 : decode cX6_weigh 40 = .ok (.aload_n 0, 1) := by decide +kernel
theorem dX6_weigh_41 : decode cX6_weigh 41 = .ok (.invokevirtual 43, 3) := by decide +kernel
theorem dX6_weigh_44 : decode cX6_weigh 44 = .ok (.aload_n 0, 1) := by decide +kernel
theorem dX6_weigh_45 : decode cX6_weigh 45 = .ok (.getfield 7, 3) := by decide +kernel
theorem dX6_weigh_48 : decode cX6_weigh 48 = .ok (.bipush 19, 2) := by decide +kernel
theorem dX6_weigh_50 : decode cX6_weigh 50 = .ok (.iload_n 1, 1) := by decide +kernel
theorem dX6_weigh_51 : decode cX6_weigh 51 = .ok (.iadd, 1) := by decide +kernel
theorem dX6_weigh_52 : decode cX6_weigh 52 = .ok (.iaload, 1) := by decide +kernel
theorem dX6_weigh_53 : decode cX6_weigh 53 = .ok (.istore_n 3, 1) := by decide +kernel
theorem dX6_weigh_54 : decode cX6_weigh 54 = .ok (.aload_n 0, 1) := by decide +kernel
theorem dX6_weigh_55 : decode cX6_weigh 55 = .ok (.getfield 7, 3) := by decide +kernel
theorem dX6_weigh_58 : decode cX6_weigh 58 = .ok (.bipush 19, 2) := by decide +kernel
theorem dX6_weigh_60 : decode cX6_weigh 60 = .ok (.iload_n 1, 1) := by decide +kernel
theorem dX6_weigh_61 : decode cX6_weigh 61 = .ok (.iadd, 1) := by decide +kernel
theorem dX6_weigh_62 : decode cX6_weigh 62 = .ok (.iload_n 2, 1) := by decide +kernel
theorem dX6_weigh_63 : decode cX6_weigh 63 = .ok (.iastore, 1) := by decide +kernel
theorem dX6_weigh_64 : decode cX6_weigh 64 = .ok (.iload_n 3, 1) := by decide +kernel
theorem dX6_weigh_65 : decode cX6_weigh 65 = .ok (.bipush 100, 2) := by decide +kernel
theorem dX6_weigh_67 : decode cX6_weigh 67 = .ok (.iadd, 1) := by decide +kernel
theorem dX6_weigh_68 : decode cX6_weigh 68 = .ok (.ireturn, 1) := by decide +kernel
set_option maxRecDepth 20000 in
theorem ggX6_adjust_X6_in : GoodIn wsX6_adjust wsX6_in := goodIn_r _ [6] (by decide +kernel) (by decide +kernel)
set_option maxRecDepth 20000 in
theorem gX6_adjust_X6_in : GoodIn wsX6_adjust (va_wsS RX6 32 yX6_in wsX6_in) := goodIn_app (goodIn_of _ (by decide +kernel)) ggX6_adjust_X6_in
set_option maxRecDepth 20000 in
theorem ggX6_adjust_X6_record : GoodIn wsX6_adjust wsX6_record := goodIn_r _ [10, 11, 12, 2, 13, 14, 15, 16, 17, 18, 19, 20, 21, 22, 23] (by decide +kernel) (by decide +kernel)
set_option maxRecDepth 20000 in
theorem gX6_adjust_X6_record : GoodIn wsX6_adjust (wsV RX6 43 RX6 yX6_record wsX6_record) := goodIn_app (goodIn_of _ (by decide +kernel)) ggX6_adjust_X6_record
theorem dX6_adjust_0 : decode cX6_adjust 0 = .ok (.aload_n 0, 1) := by decide +kernel
theorem dX6_adjust_1 : decode cX6_adjust 1 = .ok (.iload_n 1, 1) := by decide +kernel
theorem dX6_adjust_2 : decode cX6_adjust 2 = .ok (.bipush (-99), 2) := by decide +kernel
theorem dX6_adjust_4 : decode cX6_adjust 4 = .ok (.bipush 99, 2) := by decide +kernel
theorem dX6_adjust_6 : decode cX6_adjust 6 = .ok (.invokestatic 32, 3) := by decide +kernel
theorem dX6_adjust_9 : decode cX6_adjust 9 = .ok (.ifCond .eq 18, 3) := by decide +kernel
theorem dX6_adjust_12 : decode cX6_adjust 12 = .ok (.iload_n 2, 1) := by decide +kernel
theorem dX6_adjust_13 : decode cX6_adjust 13 = .ok (.bipush (-50), 2) := by decide +kernel
theorem dX6_adjust_15 : decode cX6_adjust 15 = .ok (.bipush 50, 2) := by decide +kernel
theorem dX6_adjust_17 : decode cX6_adjust 17 = .ok (.invokestatic 32, 3) := by decide +kernel
theorem dX6_adjust_20 : decode cX6_adjust 20 = .ok (.ifCond .eq 7, 3) := by decide +kernel
theorem dX6_adjust_23 : decode cX6_adjust 23 = .ok (.iconst 0, 1) := by decide +kernel
theorem dX6_adjust_24 : decode cX6_adjust 24 = .ok (.goto 4, 3) := by decide +kernel
theorem dX6_adjust_27 : decode cX6_adjust 27 = .ok (.iconst 1, 1) := by decide +kernel
theorem dX6_adjust_28 : decode cX6_adjust 28 = .ok (.putfield 28, 3) := by decide +kernel
theorem dX6_adjust_31 : decode cX6_adjust 31 = .ok (.aload_n 0, 1) := by decide +kernel
theorem dX6_adjust_32 : decode cX6_adjust 32 = .ok (.getfield 28, 3) := by decide +kernel
theorem dX6_adjust_35 : decode cX6_adjust 35 = .ok (.ifCond .le 5, 3) := by decide +kernel
theorem dX6_adjust_38 : decode cX6_adjust 38 = .ok (.iconst 0, 1) := by decide +kernel
theorem dX6_adjust_39 : decode cX6_adjust 39 = .ok (.ireturn, 1) := by decide +kernel
theorem dX6_adjust_40 : decode cX6_adjust 40 = .ok (.aload_n 0, 1) := by decide +kernel
theorem dX6_adjust_41 : decode cX6_adjust 41 = .ok (.invokevirtual 43, 3) := by decide +kernel
theorem dX6_adjust_44 : decode cX6_adjust 44 = .ok (.aload_n 0, 1) := by decide +kernel
theorem dX6_adjust_45 : decode cX6_adjust 45 = .ok (.getfield 7, 3) := by decide +kernel
theorem dX6_adjust_48 : decode cX6_adjust 48 = .ok (.iconst 2, 1) := by decide +kernel
theorem dX6_adjust_49 : decode cX6_adjust 49 = .ok (.iaload, 1) := by decide +kernel
theorem dX6_adjust_50 : decode cX6_adjust 50 = .ok (.istore_n 3, 1) := by decide +kernel
theorem dX6_adjust_51 : decode cX6_adjust 51 = .ok (.aload_n 0, 1) := by decide +kernel
theorem dX6_adjust_52 : decode cX6_adjust 52 = .ok (.getfield 7, 3) := by decide +kernel
theorem dX6_adjust_55 : decode cX6_adjust 55 = .ok (.iconst 2, 1) := by decide +kernel
theorem dX6_adjust_56 : decode cX6_adjust 56 = .ok (.iload_n 1, 1) := by decide +kernel
theorem dX6_adjust_57 : decode cX6_adjust 57 = .ok (.iastore, 1) := by decide +kernel
theorem dX6_adjust_58 : decode cX6_adjust 58 = .ok (.aload_n 0, 1) := by decide +kernel
theorem dX6_adjust_59 : decode cX6_adjust 59 = .ok (.getfield 7, 3) := by decide +kernel
theorem dX6_adjust_62 : decode cX6_adjust 62 = .ok (.iconst 3, 1) := by decide +kernel
theorem dX6_adjust_63 : decode cX6_adjust 63 = .ok (.iload_n 2, 1) := by decide +kernel
theorem dX6_adjust_64 : decode cX6_adjust 64 = .ok (.iastore, 1) := by decide +kernel
theorem dX6_adjust_65 : decode cX6_adjust 65 = .ok (.iload_n 3, 1) := by decide +kernel
theorem dX6_adjust_66 : decode cX6_adjust 66 = .ok (.bipush 100, 2) := by decide +kernel
theorem dX6_adjust_68 : decode cX6_adjust 68 = .ok (.iadd, 1) := by decide +kernel
theorem dX6_adjust_69 : decode cX6_adjust 69 = .ok (.ireturn, 1) := by decide +kernel
set_option maxRecDepth 20000 in
theorem ggX6_magnetise_X6_in : GoodIn wsX6_magnetise wsX6_in := goodIn_r _ [6] (by decide +kernel) (by decide +kernel)
set_option maxRecDepth 20000 in
theorem gX6_magnetise_X6_in : GoodIn wsX6_magnetise (va_wsS RX6 32 yX6_in wsX6_in) := goodIn_app (goodIn_of _ (by decide +kernel)) ggX6_magnetise_X6_in
set_option maxRecDepth 20000 in
theorem ggX6_magnetise_X6_record : GoodIn wsX6_magnetise wsX6_record := goodIn_r _ [10, 11, 12, 2, 16, 17, 18, 19, 20, 21, 22, 23, 24, 25, 26] (by decide +kernel) (by decide +kernel)
set_option maxRecDepth 20000 in
theorem gX6_magnetise_X6_record : GoodIn wsX6_magnetise (wsV RX6 43 RX6 yX6_record wsX6_record) := goodIn_app (goodIn_of _ (by decide +kernel)) ggX6_magnetise_X6_record
set_option maxRecDepth 20000 in
theorem ggX6_magnetise_X6_atMost : GoodIn wsX6_magnetise wsX6_atMost := goodIn_r _ [15] (by decide +kernel) (by decide +kernel)
set_option maxRecDepth 20000 in
theorem gX6_magnetise_X6_atMost : GoodIn wsX6_magnetise (va_wsS RX6 67 yX6_atMost wsX6_atMost) := goodIn_app (goodIn_of _ (by decide +kernel)) ggX6_magnetise_X6_atMost
theorem dX6_magnetise_0 : decode cX6_magnetise 0 = .ok (.aload_n 0, 1) := by decide +kernel
theorem dX6_magnetise_1 : decode cX6_magnetise 1 = .ok (.iload_n 1, 1) := by decide +kernel
theorem dX6_magnetise_2 : decode cX6_magnetise 2 = .ok (.iconst 1, 1) := by decide +kernel
theorem dX6_magnetise_3 : decode cX6_magnetise 3 = .ok (.bipush 100, 2) := by decide +kernel
theorem dX6_magnetise_5 : decode cX6_magnetise 5 = .ok (.invokestatic 32, 3) := by decide +kernel
theorem dX6_magnetise_8 : decode cX6_magnetise 8 = .ok (.ifCond .eq 7, 3) := by decide +kernel
theorem dX6_magnetise_11 : decode cX6_magnetise 11 = .ok (.iconst 0, 1) := by decide +kernel
theorem dX6_magnetise_12 : decode cX6_magnetise 12 = .ok (.goto 4, 3) := by decide +kernel
theorem dX6_magnetise_15 : decode cX6_magnetise 15 = .ok (.iconst 1, 1) := by decide +kernel
theorem dX6_magnetise_16 : decode cX6_magnetise 16 = .ok (.putfield 28, 3) := by decide +kernel
theorem dX6_magnetise_19 : decode cX6_magnetise 19 = .ok (.aload_n 0, 1) := by decide +kernel
theorem dX6_magnetise_20 : decode cX6_magnetise 20 = .ok (.getfield 28, 3) := by decide +kernel
theorem dX6_magnetise_23 : decode cX6_magnetise 23 = .ok (.ifCond .le 5, 3) := by decide +kernel
theorem dX6_magnetise_26 : decode cX6_magnetise 26 = .ok (.iconst 0, 1) := by decide +kernel
theorem dX6_magnetise_27 : decode cX6_magnetise 27 = .ok (.ireturn, 1) := by decide +kernel
theorem dX6_magnetise_28 : decode cX6_magnetise 28 = .ok (.aload_n 0, 1) := by decide +kernel
theorem dX6_magnetise_29 : decode cX6_magnetise 29 = .ok (.invokevirtual 43, 3) := by decide +kernel
theorem dX6_magnetise_32 : decode cX6_magnetise 32 = .ok (.aload_n 0, 1) := by decide +kernel
theorem dX6_magnetise_33 : decode cX6_magnetise 33 = .ok (.getfield 7, 3) := by decide +kernel
theorem dX6_magnetise_36 : decode cX6_magnetise 36 = .ok (.iconst 4, 1) := by decide +kernel
theorem dX6_magnetise_37 : decode cX6_magnetise 37 = .ok (.aload_n 0, 1) := by decide +kernel
theorem dX6_magnetise_38 : decode cX6_magnetise 38 = .ok (.getfield 7, 3) := by decide +kernel
theorem dX6_magnetise_41 : decode cX6_magnetise 41 = .ok (.iconst 4, 1) := by decide +kernel
theorem dX6_magnetise_42 : decode cX6_magnetise 42 = .ok (.iaload, 1) := by decide +kernel
theorem dX6_magnetise_43 : decode cX6_magnetise 43 = .ok (.iload_n 1, 1) := by decide +kernel
theorem dX6_magnetise_44 : decode cX6_magnetise 44 = .ok (.iadd, 1) := by decide +kernel
theorem dX6_magnetise_45 : decode cX6_magnetise 45 = .ok (.bipush 100, 2) := by decide +kernel
theorem dX6_magnetise_47 : decode cX6_magnetise 47 = .ok (.invokestatic 67, 3) := by decide +kernel
theorem dX6_magnetise_50 : decode cX6_magnetise 50 = .ok (.iastore, 1) := by decide +kernel
theorem dX6_magnetise_51 : decode cX6_magnetise 51 = .ok (.aload_n 0, 1) := by decide +kernel
theorem dX6_magnetise_52 : decode cX6_magnetise 52 = .ok (.getfield 7, 3) := by decide +kernel
theorem dX6_magnetise_55 : decode cX6_magnetise 55 = .ok (.iconst 4, 1) := by decide +kernel
theorem dX6_magnetise_56 : decode cX6_magnetise 56 = .ok (.iaload, 1) := by decide +kernel
theorem dX6_magnetise_57 : decode cX6_magnetise 57 = .ok (.ireturn, 1) := by decide +kernel
set_option maxRecDepth 20000 in
theorem ggX6_change_X6_record : GoodIn wsX6_change wsX6_record := goodIn_r _ [6, 7, 8, 1, 9, 10, 11, 12, 13, 14, 15, 16, 17, 18, 19] (by decide +kernel) (by decide +kernel)
set_option maxRecDepth 20000 in
theorem gX6_change_X6_record : GoodIn wsX6_change (wsV RX6 43 RX6 yX6_record wsX6_record) := goodIn_app (goodIn_of _ (by decide +kernel)) ggX6_change_X6_record
theorem dX6_change_0 : decode cX6_change 0 = .ok (.aload_n 0, 1) := by decide +kernel
theorem dX6_change_1 : decode cX6_change 1 = .ok (.invokevirtual 43, 3) := by decide +kernel
theorem dX6_change_4 : decode cX6_change 4 = .ok (.aload_n 0, 1) := by decide +kernel
theorem dX6_change_5 : decode cX6_change 5 = .ok (.getfield 7, 3) := by decide +kernel
theorem dX6_change_8 : decode cX6_change 8 = .ok (.iload_n 1, 1) := by decide +kernel
theorem dX6_change_9 : decode cX6_change 9 = .ok (.iaload, 1) := by decide +kernel
theorem dX6_change_10 : decode cX6_change 10 = .ok (.istore_n 3, 1) := by decide +kernel
theorem dX6_change_11 : decode cX6_change 11 = .ok (.aload_n 0, 1) := by decide +kernel
theorem dX6_change_12 : decode cX6_change 12 = .ok (.getfield 7, 3) := by decide +kernel
theorem dX6_change_15 : decode cX6_change 15 = .ok (.iload_n 1, 1) := by decide +kernel
theorem dX6_change_16 : decode cX6_change 16 = .ok (.iload_n 2, 1) := by decide +kernel
theorem dX6_change_17 : decode cX6_change 17 = .ok (.iastore, 1) := by decide +kernel
theorem dX6_change_18 : decode cX6_change 18 = .ok (.iload_n 3, 1) := by decide +kernel
theorem dX6_change_19 : decode cX6_change 19 = .ok (.ireturn, 1) := by decide +kernel
set_option maxRecDepth 20000 in
theorem ggX6_demagnetise_X6_change : GoodIn wsX6_demagnetise wsX6_change := goodIn_r _ [6, 7, 8, 9, 10, 5, 11, 12, 13, 14, 15, 16, 17, 18, 19, 20, 21, 22, 23, 24] (by decide +kernel) (by decide +kernel)
set_option maxRecDepth 20000 in
theorem gX6_demagnetise_X6_change : GoodIn wsX6_demagnetise (wsV RX6 79 RX6 yX6_change wsX6_change) := goodIn_app (goodIn_of _ (by decide +kernel)) ggX6_demagnetise_X6_change
theorem dX6_demagnetise_0 : decode cX6_demagnetise 0 = .ok (.aload_n 0, 1) := by decide +kernel
theorem dX6_demagnetise_1 : decode cX6_demagnetise 1 = .ok (.iconst 0, 1) := by decide +kernel
theorem dX6_demagnetise_2 : decode cX6_demagnetise 2 = .ok (.putfield 28, 3) := by decide +kernel
theorem dX6_demagnetise_5 : decode cX6_demagnetise 5 = .ok (.aload_n 0, 1) := by decide +kernel
theorem dX6_demagnetise_6 : decode cX6_demagnetise 6 = .ok (.iconst 4, 1) := by decide +kernel
theorem dX6_demagnetise_7 : decode cX6_demagnetise 7 = .ok (.iconst 0, 1) := by decide +kernel
theorem dX6_demagnetise_8 : decode cX6_demagnetise 8 = .ok (.invokevirtual 79, 3) := by decide +kernel
theorem dX6_demagnetise_11 : decode cX6_demagnetise 11 = .ok (.ireturn, 1) := by decide +kernel
set_option maxRecDepth 20000 in
theorem ggX6_clean_X6_change : GoodIn wsX6_clean wsX6_change := goodIn_r _ [6, 7, 8, 9, 10, 5, 11, 12, 13, 14, 15, 16, 17, 18, 19, 20, 21, 22, 23, 24] (by decide +kernel) (by decide +kernel)
set_option maxRecDepth 20000 in
theorem gX6_clean_X6_change : GoodIn wsX6_clean (wsV RX6 79 RX6 yX6_change wsX6_change) := goodIn_app (goodIn_of _ (by decide +kernel)) ggX6_clean_X6_change
theorem dX6_clean_0 : decode cX6_clean 0 = .ok (.aload_n 0, 1) := by decide +kernel
theorem dX6_clean_1 : decode cX6_clean 1 = .ok (.iconst 0, 1) := by decide +kernel
theorem dX6_clean_2 : decode cX6_clean 2 = .ok (.putfield 28, 3) := by decide +kernel
theorem dX6_clean_5 : decode cX6_clean 5 = .ok (.aload_n 0, 1) := by decide +kernel
theorem dX6_clean_6 : decode cX6_clean 6 = .ok (.iconst 5, 1) := by decide +kernel
theorem dX6_clean_7 : decode cX6_clean 7 = .ok (.iconst 0, 1) := by decide +kernel
theorem dX6_clean_8 : decode cX6_clean 8 = .ok (.invokevirtual 79, 3) := by decide +kernel
theorem dX6_clean_11 : decode cX6_clean 11 = .ok (.ireturn, 1) := by decide +kernel
set_option maxRecDepth 20000 in
theorem ggX6_lay_X6_isPose : GoodIn wsX6_lay wsX6_isPose := goodIn_r _ [5, 6, 7, 4, 8] (by decide +kernel) (by decide +kernel)
set_option maxRecDepth 20000 in
theorem gX6_lay_X6_isPose : GoodIn wsX6_lay (va_wsS RX6 76 yX6_isPose wsX6_isPose) := goodIn_app (goodIn_of _ (by decide +kernel)) ggX6_lay_X6_isPose
set_option maxRecDepth 20000 in
theorem ggX6_lay_X6_change : GoodIn wsX6_lay wsX6_change := goodIn_r _ [12, 13, 14, 15, 16, 4, 17, 18, 19, 20, 21, 22, 23, 24, 25, 26, 27, 28, 29, 30] (by decide +kernel) (by decide +kernel)
set_option maxRecDepth 20000 in
theorem gX6_lay_X6_change : GoodIn wsX6_lay (wsV RX6 79 RX6 yX6_change wsX6_change) := goodIn_app (goodIn_of _ (by decide +kernel)) ggX6_lay_X6_change
theorem dX6_lay_0 : decode cX6_lay 0 = .ok (.aload_n 0, 1) := by decide +kernel
theorem dX6_lay_1 : decode cX6_lay 1 = .ok (.iload_n 1, 1) := by decide +kernel
theorem dX6_lay_2 : decode cX6_lay 2 = .ok (.invokestatic 76, 3) := by decide +kernel
theorem dX6_lay_5 : decode cX6_lay 5 = .ok (.ifCond .eq 7, 3) := by decide +kernel
theorem dX6_lay_8 : decode cX6_lay 8 = .ok (.iconst 0, 1) := by decide +kernel
theorem dX6_lay_9 : decode cX6_lay 9 = .ok (.goto 4, 3) := by decide +kernel
theorem dX6_lay_12 : decode cX6_lay 12 = .ok (.iconst 1, 1) := by decide +kernel
theorem dX6_lay_13 : decode cX6_lay 13 = .ok (.putfield 28, 3) := by decide +kernel
theorem dX6_lay_16 : decode cX6_lay 16 = .ok (.aload_n 0, 1) := by decide +kernel
theorem dX6_lay_17 : decode cX6_lay 17 = .ok (.getfield 28, 3) := by decide +kernel
theorem dX6_lay_20 : decode cX6_lay 20 = .ok (.ifCond .le 7, 3) := by decide +kernel
theorem dX6_lay_23 : decode cX6_lay 23 = .ok (.iconst 0, 1) := by decide +kernel
theorem dX6_lay_24 : decode cX6_lay 24 = .ok (.goto 10, 3) := by decide +kernel
theorem dX6_lay_27 : decode cX6_lay 27 = .ok (.aload_n 0, 1) := by decide +kernel
theorem dX6_lay_28 : decode cX6_lay 28 = .ok (.bipush 6, 2) := by decide +kernel
theorem dX6_lay_30 : decode cX6_lay 30 = .ok (.iload_n 1, 1) := by decide +kernel
theorem dX6_lay_31 : decode cX6_lay 31 = .ok (.invokevirtual 79, 3) := by decide +kernel
theorem dX6_lay_34 : decode cX6_lay 34 = .ok (.ireturn, 1) := by decide +kernel
set_option maxRecDepth 20000 in
theorem ggX6_pass_X6_in : GoodIn wsX6_pass wsX6_in := goodIn_r _ [5] (by decide +kernel) (by decide +kernel)
set_option maxRecDepth 20000 in
theorem gX6_pass_X6_in : GoodIn wsX6_pass (va_wsS RX6 32 yX6_in wsX6_in) := goodIn_app (goodIn_of _ (by decide +kernel)) ggX6_pass_X6_in
set_option maxRecDepth 20000 in
theorem ggX6_pass_X6_record : GoodIn wsX6_pass wsX6_record := goodIn_r _ [9, 10, 11, 12, 39, 40, 41, 42, 43, 44, 45, 46, 47, 48, 49] (by decide +kernel) (by decide +kernel)
set_option maxRecDepth 20000 in
theorem gX6_pass_X6_record : GoodIn wsX6_pass (wsV RX6 43 RX6 yX6_record wsX6_record) := goodIn_app (goodIn_of _ (by decide +kernel)) ggX6_pass_X6_record
set_option maxRecDepth 20000 in
theorem ggX6_pass_X6_hours : GoodIn wsX6_pass wsX6_hours := goodIn_r _ [16, 12, 17, 18, 19, 4, 20, 21, 22, 23, 24, 25, 26, 27, 28, 29, 30, 31, 32, 33, 34, 35, 36, 37, 38, 39, 40, 41, 42, 43, 44, 45, 46, 47, 48, 49] (by decide +kernel) (by decide +kernel)
set_option maxRecDepth 20000 in
theorem gX6_pass_X6_hours : GoodIn wsX6_pass (wsV RX6 82 RX6 yX6_hours wsX6_hours) := goodIn_app (goodIn_of _ (by decide +kernel)) ggX6_pass_X6_hours
theorem dX6_pass_0 : decode cX6_pass 0 = .ok (.aload_n 0, 1) := by decide +kernel
theorem dX6_pass_1 : decode cX6_pass 1 = .ok (.iload_n 1, 1) := by decide +kernel
theorem dX6_pass_2 : decode cX6_pass 2 = .ok (.iconst 1, 1) := by decide +kernel
theorem dX6_pass_3 : decode cX6_pass 3 = .ok (.bipush 99, 2) := by decide +kernel
theorem dX6_pass_5 : decode cX6_pass 5 = .ok (.invokestatic 32, 3) := by decide +kernel
theorem dX6_pass_8 : decode cX6_pass 8 = .ok (.ifCond .eq 7, 3) := by decide +kernel
theorem dX6_pass_11 : decode cX6_pass 11 = .ok (.iconst 0, 1) := by decide +kernel
theorem dX6_pass_12 : decode cX6_pass 12 = .ok (.goto 4, 3) := by decide +kernel
theorem dX6_pass_15 : decode cX6_pass 15 = .ok (.iconst 1, 1) := by decide +kernel
theorem dX6_pass_16 : decode cX6_pass 16 = .ok (.putfield 28, 3) := by decide +kernel
theorem dX6_pass_19 : decode cX6_pass 19 = .ok (.aload_n 0, 1) := by decide +kernel
theorem dX6_pass_20 : decode cX6_pass 20 = .ok (.getfield 28, 3) := by decide +kernel
theorem dX6_pass_23 : decode cX6_pass 23 = .ok (.ifCond .le 5, 3) := by decide +kernel
theorem dX6_pass_26 : decode cX6_pass 26 = .ok (.iconst 0, 1) := by decide +kernel
theorem dX6_pass_27 : decode cX6_pass 27 = .ok (.ireturn, 1) := by decide +kernel
theorem dX6_pass_28 : decode cX6_pass 28 = .ok (.aload_n 0, 1) := by decide +kernel
theorem dX6_pass_29 : decode cX6_pass 29 = .ok (.invokevirtual 43, 3) := by decide +kernel
theorem dX6_pass_32 : decode cX6_pass 32 = .ok (.aload_n 0, 1) := by decide +kernel
theorem dX6_pass_33 : decode cX6_pass 33 = .ok (.iload_n 1, 1) := by decide +kernel
theorem dX6_pass_34 : decode cX6_pass 34 = .ok (.invokevirtual 82, 3) := by decide +kernel
theorem dX6_pass_37 : decode cX6_pass 37 = .ok (.ireturn, 1) := by decide +kernel
set_option maxRecDepth 20000 in
theorem ggX6_read_X6_isPose : GoodIn wsX6_read wsX6_isPose := goodIn_r _ [5, 6, 7, 4, 8] (by decide +kernel) (by decide +kernel)
set_option maxRecDepth 20000 in
theorem gX6_read_X6_isPose : GoodIn wsX6_read (va_wsS RX6 76 yX6_isPose wsX6_isPose) := goodIn_app (goodIn_of _ (by decide +kernel)) ggX6_read_X6_isPose
set_option maxRecDepth 20000 in
theorem ggX6_read_X6_whyNot : GoodIn wsX6_read wsX6_whyNot := goodIn_r _ [12, 13, 14, 15, 16, 4, 17, 18, 19, 20, 21, 22, 23, 24, 42, 43, 44, 45, 46, 47, 48, 49, 50, 51, 52] (by decide +kernel) (by decide +kernel)
set_option maxRecDepth 20000 in
theorem gX6_read_X6_whyNot : GoodIn wsX6_read (wsV RX6 85 RX6 yX6_whyNot wsX6_whyNot) := goodIn_app (goodIn_of _ (by decide +kernel)) ggX6_read_X6_whyNot
set_option maxRecDepth 20000 in
theorem ggX6_read_X6_record : GoodIn wsX6_read wsX6_record := goodIn_r _ [28, 29, 30, 13, 42, 43, 44, 45, 46, 47, 48, 49, 50, 51, 52] (by decide +kernel) (by decide +kernel)
set_option maxRecDepth 20000 in
theorem gX6_read_X6_record : GoodIn wsX6_read (wsV RX6 43 RX6 yX6_record wsX6_record) := goodIn_app (goodIn_of _ (by decide +kernel)) ggX6_read_X6_record
set_option maxRecDepth 20000 in
theorem ggX6_read_X6_doRead : GoodIn wsX6_read wsX6_doRead := goodIn_r _ [34, 13, 35, 36, 37, 4, 38, 14, 15, 16, 17, 39, 40, 41, 18, 19, 20, 21, 22, 23, 24, 42, 43, 44, 45, 46, 47, 48, 49, 50, 51, 52] (by decide +kernel) (by decide +kernel)
set_option maxRecDepth 20000 in
theorem gX6_read_X6_doRead : GoodIn wsX6_read (wsV RX6 88 RX6 yX6_doRead wsX6_doRead) := goodIn_app (goodIn_of _ (by decide +kernel)) ggX6_read_X6_doRead
theorem dX6_read_0 : decode cX6_read 0 = .ok (.aload_n 0, 1) := by decide +kernel
theorem dX6_read_1 : decode cX6_read 1 = .ok (.iload_n 1, 1) := by decide +kernel
theorem dX6_read_2 : decode cX6_read 2 = .ok (.invokestatic 76, 3) := by decide +kernel
theorem dX6_read_5 : decode cX6_read 5 = .ok (.ifCond .ne 7, 3) := by decide +kernel
theorem dX6_read_8 : decode cX6_read 8 = .ok (.iconst 1, 1) := by decide +kernel
theorem dX6_read_9 : decode cX6_read 9 = .ok (.goto 16, 3) := by decide +kernel
theorem dX6_read_12 : decode cX6_read 12 = .ok (.aload_n 0, 1) := by decide +kernel
theorem dX6_read_13 : decode cX6_read 13 = .ok (.iload_n 1, 1) := by decide +kernel
theorem dX6_read_14 : decode cX6_read 14 = .ok (.invokevirtual 85, 3) := by decide +kernel
theorem dX6_read_17 : decode cX6_read 17 = .ok (.ifCond .ne 7, 3) := by decide +kernel
theorem dX6_read_20 : decode cX6_read 20 = .ok (.iconst 0, 1) := by decide +kernel
theorem dX6_read_21 : decode cX6_read 21 = .ok (.goto 4, 3) := by decide +kernel
theorem dX6_read_24 : decode cX6_read 24 = .ok (.iconst 2, 1) := by decide +kernel
theorem dX6_read_25 : decode cX6_read 25 = .ok (.putfield 28, 3) := by decide +kernel
theorem dX6_read_28 : decode cX6_read 28 = .ok (.aload_n 0, 1) := by decide +kernel
theorem dX6_read_29 : decode cX6_read 29 = .ok (.getfield 28, 3) := by decide +kernel
theorem dX6_read_32 : decode cX6_read 32 = .ok (.ifCond .le 5, 3) := by decide +kernel
theorem dX6_read_35 : decode cX6_read 35 = .ok (.iconst 0, 1) := by decide +kernel
theorem dX6_read_36 : decode cX6_read 36 = .ok (.ireturn, 1) := by decide +kernel
theorem dX6_read_37 : decode cX6_read 37 = .ok (.aload_n 0, 1) := by decide +kernel
theorem dX6_read_38 : decode cX6_read 38 = .ok (.invokevirtual 43, 3) := by decide +kernel
theorem dX6_read_41 : decode cX6_read 41 = .ok (.aload_n 0, 1) := by decide +kernel
theorem dX6_read_42 : decode cX6_read 42 = .ok (.iload_n 1, 1) := by decide +kernel
theorem dX6_read_43 : decode cX6_read 43 = .ok (.invokevirtual 88, 3) := by decide +kernel
theorem dX6_read_46 : decode cX6_read 46 = .ok (.ireturn, 1) := by decide +kernel
set_option maxRecDepth 20000 in
theorem ggX6_renew_X6_change : GoodIn wsX6_renew wsX6_change := goodIn_r _ [6, 7, 8, 9, 10, 5, 11, 12, 13, 14, 15, 16, 17, 18, 19, 20, 21, 22, 23, 24] (by decide +kernel) (by decide +kernel)
set_option maxRecDepth 20000 in
theorem gX6_renew_X6_change : GoodIn wsX6_renew (wsV RX6 79 RX6 yX6_change wsX6_change) := goodIn_app (goodIn_of _ (by decide +kernel)) ggX6_renew_X6_change
theorem dX6_renew_0 : decode cX6_renew 0 = .ok (.aload_n 0, 1) := by decide +kernel
theorem dX6_renew_1 : decode cX6_renew 1 = .ok (.iconst 0, 1) := by decide +kernel
theorem dX6_renew_2 : decode cX6_renew 2 = .ok (.putfield 28, 3) := by decide +kernel
theorem dX6_renew_5 : decode cX6_renew 5 = .ok (.aload_n 0, 1) := by decide +kernel
theorem dX6_renew_6 : decode cX6_renew 6 = .ok (.bipush 10, 2) := by decide +kernel
theorem dX6_renew_8 : decode cX6_renew 8 = .ok (.iconst 0, 1) := by decide +kernel
theorem dX6_renew_9 : decode cX6_renew 9 = .ok (.invokevirtual 79, 3) := by decide +kernel
theorem dX6_renew_12 : decode cX6_renew 12 = .ok (.ireturn, 1) := by decide +kernel
theorem dX6_least_0 : decode cX6_least 0 = .ok (.iload_n 0, 1) := by decide +kernel
theorem dX6_least_1 : decode cX6_least 1 = .ok (.ifCond .ne 8, 3) := by decide +kernel
theorem dX6_least_4 : decode cX6_least 4 = .ok (.bipush 10, 2) := by decide +kernel
theorem dX6_least_6 : decode cX6_least 6 = .ok (.goto 22, 3) := by decide +kernel
theorem dX6_least_9 : decode cX6_least 9 = .ok (.iload_n 0, 1) := by decide +kernel
theorem dX6_least_10 : decode cX6_least 10 = .ok (.iconst 1, 1) := by decide +kernel
theorem dX6_least_11 : decode cX6_least 11 = .ok (.if_icmp .ne 7, 3) := by decide +kernel
theorem dX6_least_14 : decode cX6_least 14 = .ok (.iconst 0, 1) := by decide +kernel
theorem dX6_least_15 : decode cX6_least 15 = .ok (.goto 13, 3) := by decide +kernel
theorem dX6_least_18 : decode cX6_least 18 = .ok (.iload_n 0, 1) := by decide +kernel
theorem dX6_least_19 : decode cX6_least 19 = .ok (.iconst 2, 1) := by decide +kernel
theorem dX6_least_20 : decode cX6_least 20 = .ok (.if_icmp .ne 7, 3) := by decide +kernel
theorem dX6_least_23 : decode cX6_least 23 = .ok (.iconst 1, 1) := by decide +kernel
theorem dX6_least_24 : decode cX6_least 24 = .ok (.goto 4, 3) := by decide +kernel
theorem dX6_least_27 : decode cX6_least 27 = .ok (.iconst 5, 1) := by decide +kernel
theorem dX6_least_28 : decode cX6_least 28 = .ok (.ireturn, 1) := by decide +kernel
theorem dX6_most_0 : decode cX6_most 0 = .ok (.iload_n 0, 1) := by decide +kernel
theorem dX6_most_1 : decode cX6_most 1 = .ok (.iconst 1, 1) := by decide +kernel
theorem dX6_most_2 : decode cX6_most 2 = .ok (.if_icmp .ne 8, 3) := by decide +kernel
theorem dX6_most_5 : decode cX6_most 5 = .ok (.bipush 100, 2) := by decide +kernel
theorem dX6_most_7 : decode cX6_most 7 = .ok (.goto 17, 3) := by decide +kernel
theorem dX6_most_10 : decode cX6_most 10 = .ok (.iload_n 0, 1) := by decide +kernel
theorem dX6_most_11 : decode cX6_most 11 = .ok (.iconst 3, 1) := by decide +kernel
theorem dX6_most_12 : decode cX6_most 12 = .ok (.if_icmp .ne 9, 3) := by decide +kernel
theorem dX6_most_15 : decode cX6_most 15 = .ok (.sipush 900, 3) := by decide +kernel
theorem dX6_most_18 : decode cX6_most 18 = .ok (.goto 6, 3) := by decide +kernel
theorem dX6_most_21 : decode cX6_most 21 = .ok (.sipush 200, 3) := by decide +kernel
theorem dX6_most_24 : decode cX6_most 24 = .ok (.ireturn, 1) := by decide +kernel
set_option maxRecDepth 20000 in
theorem ggX6_set_X6_in : GoodIn wsX6_set wsX6_in := goodIn_r _ [5] (by decide +kernel) (by decide +kernel)
set_option maxRecDepth 20000 in
theorem gX6_set_X6_in : GoodIn wsX6_set (va_wsS RX6 32 yX6_in wsX6_in) := goodIn_app (goodIn_of _ (by decide +kernel)) ggX6_set_X6_in
set_option maxRecDepth 20000 in
theorem ggX6_set_X6_least : GoodIn wsX6_set wsX6_least := goodIn_r _ [8] (by decide +kernel) (by decide +kernel)
set_option maxRecDepth 20000 in
theorem gX6_set_X6_least : GoodIn wsX6_set (va_wsS RX6 91 yX6_least wsX6_least) := goodIn_app (goodIn_of _ (by decide +kernel)) ggX6_set_X6_least
set_option maxRecDepth 20000 in
theorem ggX6_set_X6_most : GoodIn wsX6_set wsX6_most := goodIn_r _ [11] (by decide +kernel) (by decide +kernel)
set_option maxRecDepth 20000 in
theorem gX6_set_X6_most : GoodIn wsX6_set (va_wsS RX6 94 yX6_most wsX6_most) := goodIn_app (goodIn_of _ (by decide +kernel)) ggX6_set_X6_most
set_option maxRecDepth 20000 in
theorem ggX6_set_X6_change : GoodIn wsX6_set wsX6_change := goodIn_r _ [15, 16, 17, 18, 19, 4, 20, 21, 22, 23, 24, 25, 26, 27, 28, 29, 30, 31, 32, 33] (by decide +kernel) (by decide +kernel)
set_option maxRecDepth 20000 in
theorem gX6_set_X6_change : GoodIn wsX6_set (wsV RX6 79 RX6 yX6_change wsX6_change) := goodIn_app (goodIn_of _ (by decide +kernel)) ggX6_set_X6_change
theorem dX6_set_0 : decode cX6_set 0 = .ok (.aload_n 0, 1) := by decide +kernel
theorem dX6_set_1 : decode cX6_set 1 = .ok (.iload_n 1, 1) := by decide +kernel
theorem dX6_set_2 : decode cX6_set 2 = .ok (.iconst 0, 1) := by decide +kernel
theorem dX6_set_3 : decode cX6_set 3 = .ok (.iconst 3, 1) := by decide +kernel
theorem dX6_set_4 : decode cX6_set 4 = .ok (.invokestatic 32, 3) := by decide +kernel
theorem dX6_set_7 : decode cX6_set 7 = .ok (.ifCond .ne 7, 3) := by decide +kernel
theorem dX6_set_10 : decode cX6_set 10 = .ok (.iconst 1, 1) := by decide +kernel
theorem dX6_set_11 : decode cX6_set 11 = .ok (.goto 23, 3) := by decide +kernel
theorem dX6_set_14 : decode cX6_set 14 = .ok (.iload_n 2, 1) := by decide +kernel
theorem dX6_set_15 : decode cX6_set 15 = .ok (.iload_n 1, 1) := by decide +kernel
theorem dX6_set_16 : decode cX6_set 16 = .ok (.invokestatic 91, 3) := by decide +kernel
theorem dX6_set_19 : decode cX6_set 19 = .ok (.iload_n 1, 1) := by decide +kernel
theorem dX6_set_20 : decode cX6_set 20 = .ok (.invokestatic 94, 3) := by decide +kernel
theorem dX6_set_23 : decode cX6_set 23 = .ok (.invokestatic 32, 3) := by decide +kernel
theorem dX6_set_26 : decode cX6_set 26 = .ok (.ifCond .eq 7, 3) := by decide +kernel
theorem dX6_set_29 : decode cX6_set 29 = .ok (.iconst 0, 1) := by decide +kernel
theorem dX6_set_30 : decode cX6_set 30 = .ok (.goto 4, 3) := by decide +kernel
theorem dX6_set_33 : decode cX6_set 33 = .ok (.iconst 2, 1) := by decide +kernel
theorem dX6_set_34 : decode cX6_set 34 = .ok (.putfield 28, 3) := by decide +kernel
theorem dX6_set_37 : decode cX6_set 37 = .ok (.aload_n 0, 1) := by decide +kernel
theorem dX6_set_38 : decode cX6_set 38 = .ok (.getfield 28, 3) := by decide +kernel
theorem dX6_set_41 : decode cX6_set 41 = .ok (.ifCond .le 7, 3) := by decide +kernel
theorem dX6_set_44 : decode cX6_set 44 = .ok (.iconst 0, 1) := by decide +kernel
theorem dX6_set_45 : decode cX6_set 45 = .ok (.goto 12, 3) := by decide +kernel
theorem dX6_set_48 : decode cX6_set 48 = .ok (.aload_n 0, 1) := by decide +kernel
theorem dX6_set_49 : decode cX6_set 49 = .ok (.bipush 12, 2) := by decide +kernel
theorem dX6_set_51 : decode cX6_set 51 = .ok (.iload_n 1, 1) := by decide +kernel
theorem dX6_set_52 : decode cX6_set 52 = .ok (.iadd, 1) := by decide +kernel
theorem dX6_set_53 : decode cX6_set 53 = .ok (.iload_n 2, 1) := by decide +kernel
theorem dX6_set_54 : decode cX6_set 54 = .ok (.invokevirtual 79, 3) := by decide +kernel
theorem dX6_set_57 : decode cX6_set 57 = .ok (.ireturn, 1) := by decide +kernel
set_option maxRecDepth 20000 in
theorem ggX6_append_X6_in : GoodIn wsX6_append wsX6_in := goodIn_r _ [7] (by decide +kernel) (by decide +kernel)
set_option maxRecDepth 20000 in
theorem gX6_append_X6_in : GoodIn wsX6_append (va_wsS RX6 32 yX6_in wsX6_in) := goodIn_app (goodIn_of _ (by decide +kernel)) ggX6_append_X6_in
theorem dX6_append_0 : decode cX6_append 0 = .ok (.aload_n 0, 1) := by decide +kernel
theorem dX6_append_1 : decode cX6_append 1 = .ok (.iload_n 1, 1) := by decide +kernel
theorem dX6_append_2 : decode cX6_append 2 = .ok (.bipush 33, 2) := by decide +kernel
theorem dX6_append_4 : decode cX6_append 4 = .ok (.bipush 126, 2) := by decide +kernel
theorem dX6_append_6 : decode cX6_append 6 = .ok (.invokestatic 32, 3) := by decide +kernel
theorem dX6_append_9 : decode cX6_append 9 = .ok (.ifCond .ne 7, 3) := by decide +kernel
theorem dX6_append_12 : decode cX6_append 12 = .ok (.iconst 1, 1) := by decide +kernel
theorem dX6_append_13 : decode cX6_append 13 = .ok (.goto 17, 3) := by decide +kernel
theorem dX6_append_16 : decode cX6_append 16 = .ok (.aload_n 0, 1) := by decide +kernel
theorem dX6_append_17 : decode cX6_append 17 = .ok (.getfield 97, 3) := by decide +kernel
theorem dX6_append_20 : decode cX6_append 20 = .ok (.bipush 60, 2) := by decide +kernel
theorem dX6_append_22 : decode cX6_append 22 = .ok (.if_icmp .ne 7, 3) := by decide +kernel
theorem dX6_append_25 : decode cX6_append 25 = .ok (.iconst 2, 1) := by decide +kernel
theorem dX6_append_26 : decode cX6_append 26 = .ok (.goto 4, 3) := by decide +kernel
theorem dX6_append_29 : decode cX6_append 29 = .ok (.iconst 0, 1) := by decide +kernel
theorem dX6_append_30 : decode cX6_append 30 = .ok (.putfield 28, 3) := by decide +kernel
theorem dX6_append_33 : decode cX6_append 33 = .ok (.aload_n 0, 1) := by decide +kernel
theorem dX6_append_34 : decode cX6_append 34 = .ok (.getfield 28, 3) := by decide +kernel
theorem dX6_append_37 : decode cX6_append 37 = .ok (.ifCond .le 5, 3) := by decide +kernel
theorem dX6_append_40 : decode cX6_append 40 = .ok (.iconst 0, 1) := by decide +kernel
theorem dX6_append_41 : decode cX6_append 41 = .ok (.ireturn, 1) := by decide +kernel
theorem dX6_append_42 : decode cX6_append 42 = .ok (.aload_n 0, 1) := by decide +kernel
theorem dX6_append_43 : decode cX6_append 43 = .ok (.getfield 22, 3) := by decide +kernel
theorem dX6_append_46 : decode cX6_append 46 = .ok (.aload_n 0, 1) := by decide +kernel
theorem dX6_append_47 : decode cX6_append 47 = .ok (.getfield 97, 3) := by decide +kernel
theorem dX6_append_50 : decode cX6_append 50 = .ok (.iload_n 1, 1) := by decide +kernel
theorem dX6_append_51 : decode cX6_append 51 = .ok (.iastore, 1) := by decide +kernel
theorem dX6_append_52 : decode cX6_append 52 = .ok (.aload_n 0, 1) := by decide +kernel
theorem dX6_append_53 : decode cX6_append 53 = .ok (.dup, 1) := by decide +kernel
theorem dX6_append_54 : decode cX6_append 54 = .ok (.getfield 97, 3) := by decide +kernel
theorem dX6_append_57 : decode cX6_append 57 = .ok (.iconst 1, 1) := by decide +kernel
theorem dX6_append_58 : decode cX6_append 58 = .ok (.iadd, 1) := by decide +kernel
theorem dX6_append_59 : decode cX6_append 59 = .ok (.putfield 97, 3) := by decide +kernel
theorem dX6_append_62 : decode cX6_append 62 = .ok (.aload_n 0, 1) := by decide +kernel
theorem dX6_append_63 : decode cX6_append 63 = .ok (.getfield 97, 3) := by decide +kernel
theorem dX6_append_66 : decode cX6_append 66 = .ok (.ireturn, 1) := by decide +kernel
theorem dX6_clearBuffer_0 : decode cX6_clearBuffer 0 = .ok (.aload_n 0, 1) := by decide +kernel
theorem dX6_clearBuffer_1 : decode cX6_clearBuffer 1 = .ok (.iconst 0, 1) := by decide +kernel
theorem dX6_clearBuffer_2 : decode cX6_clearBuffer 2 = .ok (.putfield 28, 3) := by decide +kernel
theorem dX6_clearBuffer_5 : decode cX6_clearBuffer 5 = .ok (.aload_n 0, 1) := by decide +kernel
theorem dX6_clearBuffer_6 : decode cX6_clearBuffer 6 = .ok (.getfield 97, 3) := by decide +kernel
theorem dX6_clearBuffer_9 : decode cX6_clearBuffer 9 = .ok (.istore_n 1, 1) := by decide +kernel
theorem dX6_clearBuffer_10 : decode cX6_clearBuffer 10 = .ok (.aload_n 0, 1) := by decide +kernel
theorem dX6_clearBuffer_11 : decode cX6_clearBuffer 11 = .ok (.iconst 0, 1) := by decide +kernel
theorem dX6_clearBuffer_12 : decode cX6_clearBuffer 12 = .ok (.putfield 97, 3) := by decide +kernel
theorem dX6_clearBuffer_15 : decode cX6_clearBuffer 15 = .ok (.iload_n 1, 1) := by decide +kernel
theorem dX6_clearBuffer_16 : decode cX6_clearBuffer 16 = .ok (.ireturn, 1) := by decide +kernel
theorem dX6_at_0 : decode cX6_at 0 = .ok (.iload_n 1, 1) := by decide +kernel
theorem dX6_at_1 : decode cX6_at 1 = .ok (.aload_n 0, 1) := by decide +kernel
theorem dX6_at_2 : decode cX6_at 2 = .ok (.getfield 97, 3) := by decide +kernel
theorem dX6_at_5 : decode cX6_at 5 = .ok (.if_icmp .ge 12, 3) := by decide +kernel
theorem dX6_at_8 : decode cX6_at 8 = .ok (.aload_n 0, 1) := by decide +kernel
theorem dX6_at_9 : decode cX6_at 9 = .ok (.getfield 22, 3) := by decide +kernel
theorem dX6_at_12 : decode cX6_at 12 = .ok (.iload_n 1, 1) := by decide +kernel
theorem dX6_at_13 : decode cX6_at 13 = .ok (.iaload, 1) := by decide +kernel
theorem dX6_at_14 : decode cX6_at 14 = .ok (.goto 4, 3) := by decide +kernel
theorem dX6_at_17 : decode cX6_at 17 = .ok (.iconst 0, 1) := by decide +kernel
theorem dX6_at_18 : decode cX6_at 18 = .ok (.ireturn, 1) := by decide +kernel
set_option maxRecDepth 20000 in
theorem ggX6_readNumber_X6_at : GoodIn wsX6_readNumber wsX6_at := goodIn_r _ [6, 7, 8, 12, 13, 14, 15, 16, 17, 18, 19, 20, 21, 22] (by decide +kernel) (by decide +kernel)
set_option maxRecDepth 20000 in
theorem gX6_readNumber_X6_at : GoodIn wsX6_readNumber (wsV RX6 103 RX6 yX6_at wsX6_at) := goodIn_app (goodIn_of _ (by decide +kernel)) ggX6_readNumber_X6_at
set_option maxRecDepth 20000 in
theorem ggX6_readNumber_X6_in : GoodIn wsX6_readNumber wsX6_in := goodIn_r _ [11] (by decide +kernel) (by decide +kernel)
set_option maxRecDepth 20000 in
theorem gX6_readNumber_X6_in : GoodIn wsX6_readNumber (va_wsS RX6 32 yX6_in wsX6_in) := goodIn_app (goodIn_of _ (by decide +kernel)) ggX6_readNumber_X6_in
theorem dX6_readNumber_0 : decode cX6_readNumber 0 = .ok (.iload_n 1, 1) := by decide +kernel
theorem dX6_readNumber_1 : decode cX6_readNumber 1 = .ok (.istore_n 3, 1) := by decide +kernel
theorem dX6_readNumber_2 : decode cX6_readNumber 2 = .ok (.aload_n 0, 1) := by decide +kernel
theorem dX6_readNumber_3 : decode cX6_readNumber 3 = .ok (.iconst 0, 1) := by decide +kernel
theorem dX6_readNumber_4 : decode cX6_readNumber 4 = .ok (.putfield 100, 3) := by decide +kernel
theorem dX6_readNumber_7 : decode cX6_readNumber 7 = .ok (.aload_n 0, 1) := by decide +kernel
theorem dX6_readNumber_8 : decode cX6_readNumber 8 = .ok (.iload_n 3, 1) := by decide +kernel
theorem dX6_readNumber_9 : decode cX6_readNumber 9 = .ok (.invokevirtual 103, 3) := by decide +kernel
theorem dX6_readNumber_12 : decode cX6_readNumber 12 = .ok (.aload_n 0, 1) := by decide +kernel
theorem dX6_readNumber_13 : decode cX6_readNumber 13 = .ok (.getfield 100, 3) := by decide +kernel
theorem dX6_readNumber_16 : decode cX6_readNumber 16 = .ok (.ifCond .ne 8, 3) := by decide +kernel
theorem dX6_readNumber_19 : decode cX6_readNumber 19 = .ok (.bipush 49, 2) := by decide +kernel
theorem dX6_readNumber_21 : decode cX6_readNumber 21 = .ok (.goto 5, 3) := by decide +kernel
theorem dX6_readNumber_24 : decode cX6_readNumber 24 = .ok (.bipush 48, 2) := by decide +kernel
theorem dX6_readNumber_26 : decode cX6_readNumber 26 = .ok (.bipush 57, 2) := by decide +kernel
theorem dX6_readNumber_28 : decode cX6_readNumber 28 = .ok (.invokestatic 32, 3) := by decide +kernel
theorem dX6_readNumber_31 : decode cX6_readNumber 31 = .ok (.ifCond .eq 49, 3) := by decide +kernel
theorem dX6_readNumber_34 : decode cX6_readNumber 34 = .ok (.bipush 10, 2) := by decide +kernel
theorem dX6_readNumber_36 : decode cX6_readNumber 36 = .ok (.aload_n 0, 1) := by decide +kernel
theorem dX6_readNumber_37 : decode cX6_readNumber 37 = .ok (.getfield 100, 3) := by decide +kernel
theorem dX6_readNumber_40 : decode cX6_readNumber 40 = .ok (.imul, 1) := by decide +kernel
theorem dX6_readNumber_41 : decode cX6_readNumber 41 = .ok (.aload_n 0, 1) := by decide +kernel
theorem dX6_readNumber_42 : decode cX6_readNumber 42 = .ok (.iload_n 3, 1) := by decide +kernel
theorem dX6_readNumber_43 : decode cX6_readNumber 43 = .ok (.invokevirtual 103, 3) := by decide +kernel
theorem dX6_readNumber_46 : decode cX6_readNumber 46 = .ok (.iadd, 1) := by decide +kernel
theorem dX6_readNumber_47 : decode cX6_readNumber 47 = .ok (.bipush 48, 2) := by decide +kernel
theorem dX6_readNumber_49 : decode cX6_readNumber 49 = .ok (.isub, 1) := by decide +kernel
theorem dX6_readNumber_50 : decode cX6_readNumber 50 = .ok (.iload_n 2, 1) := by decide +kernel
theorem dX6_readNumber_51 : decode cX6_readNumber 51 = .ok (.if_icmp .gt 29, 3) := by decide +kernel
theorem dX6_readNumber_54 : decode cX6_readNumber 54 = .ok (.aload_n 0, 1) := by decide +kernel
theorem dX6_readNumber_55 : decode cX6_readNumber 55 = .ok (.bipush 10, 2) := by decide +kernel
theorem dX6_readNumber_57 : decode cX6_readNumber 57 = .ok (.aload_n 0, 1) := by decide +kernel
theorem dX6_readNumber_58 : decode cX6_readNumber 58 = .ok (.getfield 100, 3) := by decide +kernel
theorem dX6_readNumber_61 : decode cX6_readNumber 61 = .ok (.imul, 1) := by decide +kernel
theorem dX6_readNumber_62 : decode cX6_readNumber 62 = .ok (.aload_n 0, 1) := by decide +kernel
theorem dX6_readNumber_63 : decode cX6_readNumber 63 = .ok (.iload_n 3, 1) := by decide +kernel
theorem dX6_readNumber_64 : decode cX6_readNumber 64 = .ok (.invokevirtual 103, 3) := by decide +kernel
theorem dX6_readNumber_67 : decode cX6_readNumber 67 = .ok (.iadd, 1) := by decide +kernel
theorem dX6_readNumber_68 : decode cX6_readNumber 68 = .ok (.bipush 48, 2) := by decide +kernel
theorem dX6_readNumber_70 : decode cX6_readNumber 70 = .ok (.isub, 1) := by decide +kernel
theorem dX6_readNumber_71 : decode cX6_readNumber 71 = .ok (.putfield 100, 3) := by decide +kernel
theorem dX6_readNumber_74 : decode cX6_readNumber 74 = .ok (.iinc 3 1, 3) := by decide +kernel
theorem dX6_readNumber_77 : decode cX6_readNumber 77 = .ok (.goto (-70), 3) := by decide +kernel
theorem dX6_readNumber_80 : decode cX6_readNumber 80 = .ok (.aload_n 0, 1) := by decide +kernel
theorem dX6_readNumber_81 : decode cX6_readNumber 81 = .ok (.getfield 100, 3) := by decide +kernel
theorem dX6_readNumber_84 : decode cX6_readNumber 84 = .ok (.ifCond .ne 9, 3) := by decide +kernel
theorem dX6_readNumber_87 : decode cX6_readNumber 87 = .ok (.iconst (-1), 1) := by decide +kernel
theorem dX6_readNumber_88 : decode cX6_readNumber 88 = .ok (.iload_n 3, 1) := by decide +kernel
theorem dX6_readNumber_89 : decode cX6_readNumber 89 = .ok (.isub, 1) := by decide +kernel
theorem dX6_readNumber_90 : decode cX6_readNumber 90 = .ok (.goto 4, 3) := by decide +kernel
theorem dX6_readNumber_93 : decode cX6_readNumber 93 = .ok (.iload_n 3, 1) := by decide +kernel
theorem dX6_readNumber_94 : decode cX6_readNumber 94 = .ok (.ireturn, 1) := by decide +kernel
set_option maxRecDepth 20000 in
theorem ggX6_readPose_X6_at : GoodIn wsX6_readPose wsX6_at := goodIn_r _ [6, 7, 8, 15, 16, 17, 18, 19, 20, 21, 22, 23, 24, 25] (by decide +kernel) (by decide +kernel)
set_option maxRecDepth 20000 in
theorem gX6_readPose_X6_at : GoodIn wsX6_readPose (wsV RX6 103 RX6 yX6_at wsX6_at) := goodIn_app (goodIn_of _ (by decide +kernel)) ggX6_readPose_X6_at
set_option maxRecDepth 20000 in
theorem ggX6_readPose_X6_isPose : GoodIn wsX6_readPose wsX6_isPose := goodIn_r _ [11, 12, 13, 5, 14] (by decide +kernel) (by decide +kernel)
set_option maxRecDepth 20000 in
theorem gX6_readPose_X6_isPose : GoodIn wsX6_readPose (va_wsS RX6 76 yX6_isPose wsX6_isPose) := goodIn_app (goodIn_of _ (by decide +kernel)) ggX6_readPose_X6_isPose
theorem dX6_readPose_0 : decode cX6_readPose 0 = .ok (.aload_n 0, 1) := by decide +kernel
theorem dX6_readPose_1 : decode cX6_readPose 1 = .ok (.aload_n 0, 1) := by decide +kernel
theorem dX6_readPose_2 : decode cX6_readPose 2 = .ok (.iload_n 1, 1) := by decide +kernel
