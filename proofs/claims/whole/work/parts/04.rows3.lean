theorem dX6_readPose_3 : decode cX6_readPose 3 = .ok (.invokevirtual 103, 3) := by decide +kernel
theorem dX6_readPose_6 : decode cX6_readPose 6 = .ok (.bipush 48, 2) := by decide +kernel
theorem dX6_readPose_8 : decode cX6_readPose 8 = .ok (.isub, 1) := by decide +kernel
theorem dX6_readPose_9 : decode cX6_readPose 9 = .ok (.putfield 100, 3) := by decide +kernel
theorem dX6_readPose_12 : decode cX6_readPose 12 = .ok (.aload_n 0, 1) := by decide +kernel
theorem dX6_readPose_13 : decode cX6_readPose 13 = .ok (.getfield 100, 3) := by decide +kernel
theorem dX6_readPose_16 : decode cX6_readPose 16 = .ok (.invokestatic 76, 3) := by decide +kernel
theorem dX6_readPose_19 : decode cX6_readPose 19 = .ok (.ifCond .eq 9, 3) := by decide +kernel
theorem dX6_readPose_22 : decode cX6_readPose 22 = .ok (.iload_n 1, 1) := by decide +kernel
theorem dX6_readPose_23 : decode cX6_readPose 23 = .ok (.iconst 1, 1) := by decide +kernel
theorem dX6_readPose_24 : decode cX6_readPose 24 = .ok (.iadd, 1) := by decide +kernel
theorem dX6_readPose_25 : decode cX6_readPose 25 = .ok (.goto 6, 3) := by decide +kernel
theorem dX6_readPose_28 : decode cX6_readPose 28 = .ok (.iconst (-1), 1) := by decide +kernel
theorem dX6_readPose_29 : decode cX6_readPose 29 = .ok (.iload_n 1, 1) := by decide +kernel
theorem dX6_readPose_30 : decode cX6_readPose 30 = .ok (.isub, 1) := by decide +kernel
theorem dX6_readPose_31 : decode cX6_readPose 31 = .ok (.ireturn, 1) := by decide +kernel
set_option maxRecDepth 20000 in
theorem ggX6_readRegulator_X6_at : GoodIn wsX6_readRegulator wsX6_at := goodIn_r _ [6, 7, 8, 16, 17, 18, 19, 20, 21, 22, 23, 24, 25, 26] (by decide +kernel) (by decide +kernel)
set_option maxRecDepth 20000 in
theorem gX6_readRegulator_X6_at : GoodIn wsX6_readRegulator (wsV RX6 103 RX6 yX6_at wsX6_at) := goodIn_app (goodIn_of _ (by decide +kernel)) ggX6_readRegulator_X6_at
set_option maxRecDepth 20000 in
theorem ggX6_readRegulator_X6_readNumber : GoodIn wsX6_readRegulator wsX6_readNumber := goodIn_r _ [12, 1, 2, 3, 4, 5, 6, 7, 8, 13, 14, 15, 16, 17, 18, 19, 20, 21, 22, 23, 24, 25, 26] (by decide +kernel) (by decide +kernel)
set_option maxRecDepth 20000 in
theorem gX6_readRegulator_X6_readNumber : GoodIn wsX6_readRegulator (wsV RX6 106 RX6 yX6_readNumber wsX6_readNumber) := goodIn_app (goodIn_of _ (by decide +kernel)) ggX6_readRegulator_X6_readNumber
theorem dX6_readRegulator_0 : decode cX6_readRegulator 0 = .ok (.aload_n 0, 1) := by decide +kernel
theorem dX6_readRegulator_1 : decode cX6_readRegulator 1 = .ok (.iload_n 1, 1) := by decide +kernel
theorem dX6_readRegulator_2 : decode cX6_readRegulator 2 = .ok (.invokevirtual 103, 3) := by decide +kernel
theorem dX6_readRegulator_5 : decode cX6_readRegulator 5 = .ok (.bipush 48, 2) := by decide +kernel
theorem dX6_readRegulator_7 : decode cX6_readRegulator 7 = .ok (.if_icmp .ne 12, 3) := by decide +kernel
theorem dX6_readRegulator_10 : decode cX6_readRegulator 10 = .ok (.aload_n 0, 1) := by decide +kernel
theorem dX6_readRegulator_11 : decode cX6_readRegulator 11 = .ok (.iconst 0, 1) := by decide +kernel
theorem dX6_readRegulator_12 : decode cX6_readRegulator 12 = .ok (.putfield 100, 3) := by decide +kernel
theorem dX6_readRegulator_15 : decode cX6_readRegulator 15 = .ok (.iload_n 1, 1) := by decide +kernel
theorem dX6_readRegulator_16 : decode cX6_readRegulator 16 = .ok (.iconst 1, 1) := by decide +kernel
theorem dX6_readRegulator_17 : decode cX6_readRegulator 17 = .ok (.iadd, 1) := by decide +kernel
theorem dX6_readRegulator_18 : decode cX6_readRegulator 18 = .ok (.ireturn, 1) := by decide +kernel
theorem dX6_readRegulator_19 : decode cX6_readRegulator 19 = .ok (.aload_n 0, 1) := by decide +kernel
theorem dX6_readRegulator_20 : decode cX6_readRegulator 20 = .ok (.iload_n 1, 1) := by decide +kernel
theorem dX6_readRegulator_21 : decode cX6_readRegulator 21 = .ok (.invokevirtual 103, 3) := by decide +kernel
theorem dX6_readRegulator_24 : decode cX6_readRegulator 24 = .ok (.bipush 45, 2) := by decide +kernel
theorem dX6_readRegulator_26 : decode cX6_readRegulator 26 = .ok (.if_icmp .ne 7, 3) := by decide +kernel
theorem dX6_readRegulator_29 : decode cX6_readRegulator 29 = .ok (.iconst 1, 1) := by decide +kernel
theorem dX6_readRegulator_30 : decode cX6_readRegulator 30 = .ok (.goto 4, 3) := by decide +kernel
theorem dX6_readRegulator_33 : decode cX6_readRegulator 33 = .ok (.iconst 0, 1) := by decide +kernel
theorem dX6_readRegulator_34 : decode cX6_readRegulator 34 = .ok (.istore_n 2, 1) := by decide +kernel
theorem dX6_readRegulator_35 : decode cX6_readRegulator 35 = .ok (.aload_n 0, 1) := by decide +kernel
theorem dX6_readRegulator_36 : decode cX6_readRegulator 36 = .ok (.iload_n 2, 1) := by decide +kernel
theorem dX6_readRegulator_37 : decode cX6_readRegulator 37 = .ok (.ifCond .eq 9, 3) := by decide +kernel
theorem dX6_readRegulator_40 : decode cX6_readRegulator 40 = .ok (.iload_n 1, 1) := by decide +kernel
theorem dX6_readRegulator_41 : decode cX6_readRegulator 41 = .ok (.iconst 1, 1) := by decide +kernel
theorem dX6_readRegulator_42 : decode cX6_readRegulator 42 = .ok (.iadd, 1) := by decide +kernel
theorem dX6_readRegulator_43 : decode cX6_readRegulator 43 = .ok (.goto 4, 3) := by decide +kernel
theorem dX6_readRegulator_46 : decode cX6_readRegulator 46 = .ok (.iload_n 1, 1) := by decide +kernel
theorem dX6_readRegulator_47 : decode cX6_readRegulator 47 = .ok (.bipush 99, 2) := by decide +kernel
theorem dX6_readRegulator_49 : decode cX6_readRegulator 49 = .ok (.invokevirtual 106, 3) := by decide +kernel
theorem dX6_readRegulator_52 : decode cX6_readRegulator 52 = .ok (.istore_n 3, 1) := by decide +kernel
theorem dX6_readRegulator_53 : decode cX6_readRegulator 53 = .ok (.aload_n 0, 1) := by decide +kernel
theorem dX6_readRegulator_54 : decode cX6_readRegulator 54 = .ok (.iload_n 2, 1) := by decide +kernel
theorem dX6_readRegulator_55 : decode cX6_readRegulator 55 = .ok (.ifCond .eq 11, 3) := by decide +kernel
theorem dX6_readRegulator_58 : decode cX6_readRegulator 58 = .ok (.aload_n 0, 1) := by decide +kernel
theorem dX6_readRegulator_59 : decode cX6_readRegulator 59 = .ok (.getfield 100, 3) := by decide +kernel
theorem dX6_readRegulator_62 : decode cX6_readRegulator 62 = .ok (.ineg, 1) := by decide +kernel
theorem dX6_readRegulator_63 : decode cX6_readRegulator 63 = .ok (.goto 7, 3) := by decide +kernel
theorem dX6_readRegulator_66 : decode cX6_readRegulator 66 = .ok (.aload_n 0, 1) := by decide +kernel
theorem dX6_readRegulator_67 : decode cX6_readRegulator 67 = .ok (.getfield 100, 3) := by decide +kernel
theorem dX6_readRegulator_70 : decode cX6_readRegulator 70 = .ok (.putfield 100, 3) := by decide +kernel
theorem dX6_readRegulator_73 : decode cX6_readRegulator 73 = .ok (.iload_n 3, 1) := by decide +kernel
theorem dX6_readRegulator_74 : decode cX6_readRegulator 74 = .ok (.ireturn, 1) := by decide +kernel
set_option maxRecDepth 20000 in
theorem ggX6_readPart_X6_at : GoodIn wsX6_readPart wsX6_at := goodIn_r _ [6, 7, 8, 28, 29, 30, 31, 32, 33, 34, 35, 36, 37, 38] (by decide +kernel) (by decide +kernel)
set_option maxRecDepth 20000 in
theorem gX6_readPart_X6_at : GoodIn wsX6_readPart (wsV RX6 103 RX6 yX6_at wsX6_at) := goodIn_app (goodIn_of _ (by decide +kernel)) ggX6_readPart_X6_at
set_option maxRecDepth 20000 in
theorem ggX6_readPart_X6_readNumber : GoodIn wsX6_readPart wsX6_readNumber := goodIn_r _ [12, 13, 2, 3, 4, 5, 6, 7, 8, 14, 15, 16, 28, 29, 30, 31, 32, 33, 34, 35, 36, 37, 38] (by decide +kernel) (by decide +kernel)
set_option maxRecDepth 20000 in
theorem gX6_readPart_X6_readNumber : GoodIn wsX6_readPart (wsV RX6 106 RX6 yX6_readNumber wsX6_readNumber) := goodIn_app (goodIn_of _ (by decide +kernel)) ggX6_readPart_X6_readNumber
set_option maxRecDepth 20000 in
theorem ggX6_readPart_X6_readPose : GoodIn wsX6_readPart wsX6_readPose := goodIn_r _ [20, 13, 2, 3, 4, 5, 6, 7, 8, 21, 22, 23, 14, 15, 16, 28, 29, 30, 31, 32, 33, 34, 35, 36, 37, 38] (by decide +kernel) (by decide +kernel)
set_option maxRecDepth 20000 in
theorem gX6_readPart_X6_readPose : GoodIn wsX6_readPart (wsV RX6 112 RX6 yX6_readPose wsX6_readPose) := goodIn_app (goodIn_of _ (by decide +kernel)) ggX6_readPart_X6_readPose
set_option maxRecDepth 20000 in
theorem ggX6_readPart_X6_readRegulator : GoodIn wsX6_readPart wsX6_readRegulator := goodIn_r _ [27, 13, 2, 3, 4, 5, 6, 7, 8, 9, 10, 11, 12, 14, 15, 16, 28, 29, 30, 31, 32, 33, 34, 35, 36, 37, 38] (by decide +kernel) (by decide +kernel)
set_option maxRecDepth 20000 in
theorem gX6_readPart_X6_readRegulator : GoodIn wsX6_readPart (wsV RX6 115 RX6 yX6_readRegulator wsX6_readRegulator) := goodIn_app (goodIn_of _ (by decide +kernel)) ggX6_readPart_X6_readRegulator
theorem dX6_readPart_0 : decode cX6_readPart 0 = .ok (.aload_n 0, 1) := by decide +kernel
theorem dX6_readPart_1 : decode cX6_readPart 1 = .ok (.aload_n 0, 1) := by decide +kernel
theorem dX6_readPart_2 : decode cX6_readPart 2 = .ok (.iload_n 1, 1) := by decide +kernel
theorem dX6_readPart_3 : decode cX6_readPart 3 = .ok (.invokevirtual 103, 3) := by decide +kernel
theorem dX6_readPart_6 : decode cX6_readPart 6 = .ok (.putfield 109, 3) := by decide +kernel
theorem dX6_readPart_9 : decode cX6_readPart 9 = .ok (.aload_n 0, 1) := by decide +kernel
theorem dX6_readPart_10 : decode cX6_readPart 10 = .ok (.getfield 109, 3) := by decide +kernel
theorem dX6_readPart_13 : decode cX6_readPart 13 = .ok (.lookupswitch 99 #[(43, 89), (100, 85), (103, 77), (112, 69), (114, 69), (119, 59)], 59) := by decide +kernel
theorem dX6_readPart_72 : decode cX6_readPart 72 = .ok (.aload_n 0, 1) := by decide +kernel
theorem dX6_readPart_73 : decode cX6_readPart 73 = .ok (.iload_n 1, 1) := by decide +kernel
theorem dX6_readPart_74 : decode cX6_readPart 74 = .ok (.iconst 1, 1) := by decide +kernel
theorem dX6_readPart_75 : decode cX6_readPart 75 = .ok (.iadd, 1) := by decide +kernel
theorem dX6_readPart_76 : decode cX6_readPart 76 = .ok (.bipush 48, 2) := by decide +kernel
theorem dX6_readPart_78 : decode cX6_readPart 78 = .ok (.invokevirtual 106, 3) := by decide +kernel
theorem dX6_readPart_81 : decode cX6_readPart 81 = .ok (.ireturn, 1) := by decide +kernel
theorem dX6_readPart_82 : decode cX6_readPart 82 = .ok (.aload_n 0, 1) := by decide +kernel
theorem dX6_readPart_83 : decode cX6_readPart 83 = .ok (.iload_n 1, 1) := by decide +kernel
theorem dX6_readPart_84 : decode cX6_readPart 84 = .ok (.iconst 1, 1) := by decide +kernel
theorem dX6_readPart_85 : decode cX6_readPart 85 = .ok (.iadd, 1) := by decide +kernel
theorem dX6_readPart_86 : decode cX6_readPart 86 = .ok (.invokevirtual 112, 3) := by decide +kernel
theorem dX6_readPart_89 : decode cX6_readPart 89 = .ok (.ireturn, 1) := by decide +kernel
theorem dX6_readPart_90 : decode cX6_readPart 90 = .ok (.aload_n 0, 1) := by decide +kernel
theorem dX6_readPart_91 : decode cX6_readPart 91 = .ok (.iload_n 1, 1) := by decide +kernel
theorem dX6_readPart_92 : decode cX6_readPart 92 = .ok (.iconst 1, 1) := by decide +kernel
theorem dX6_readPart_93 : decode cX6_readPart 93 = .ok (.iadd, 1) := by decide +kernel
theorem dX6_readPart_94 : decode cX6_readPart 94 = .ok (.invokevirtual 115, 3) := by decide +kernel
theorem dX6_readPart_97 : decode cX6_readPart 97 = .ok (.ireturn, 1) := by decide +kernel
theorem dX6_readPart_98 : decode cX6_readPart 98 = .ok (.iload_n 1, 1) := by decide +kernel
theorem dX6_readPart_99 : decode cX6_readPart 99 = .ok (.iconst 1, 1) := by decide +kernel
theorem dX6_readPart_100 : decode cX6_readPart 100 = .ok (.iadd, 1) := by decide +kernel
theorem dX6_readPart_101 : decode cX6_readPart 101 = .ok (.ireturn, 1) := by decide +kernel
theorem dX6_readPart_102 : decode cX6_readPart 102 = .ok (.aload_n 0, 1) := by decide +kernel
theorem dX6_readPart_103 : decode cX6_readPart 103 = .ok (.iload_n 1, 1) := by decide +kernel
theorem dX6_readPart_104 : decode cX6_readPart 104 = .ok (.iconst 1, 1) := by decide +kernel
theorem dX6_readPart_105 : decode cX6_readPart 105 = .ok (.iadd, 1) := by decide +kernel
theorem dX6_readPart_106 : decode cX6_readPart 106 = .ok (.bipush 99, 2) := by decide +kernel
theorem dX6_readPart_108 : decode cX6_readPart 108 = .ok (.invokevirtual 106, 3) := by decide +kernel
theorem dX6_readPart_111 : decode cX6_readPart 111 = .ok (.ireturn, 1) := by decide +kernel
theorem dX6_readPart_112 : decode cX6_readPart 112 = .ok (.iconst (-1), 1) := by decide +kernel
theorem dX6_readPart_113 : decode cX6_readPart 113 = .ok (.iload_n 1, 1) := by decide +kernel
theorem dX6_readPart_114 : decode cX6_readPart 114 = .ok (.isub, 1) := by decide +kernel
theorem dX6_readPart_115 : decode cX6_readPart 115 = .ok (.ireturn, 1) := by decide +kernel
set_option maxRecDepth 20000 in
theorem ggX6_findError_X6_readPart : GoodIn wsX6_findError wsX6_readPart := goodIn_r _ [7, 8, 9, 10, 11, 6, 12, 1, 2, 13, 14, 15, 16, 17, 18, 19, 20, 21, 22, 23, 24, 25, 26, 27, 28, 29, 30, 31, 32, 33, 34, 35, 36, 37, 38, 39, 40, 41, 42] (by decide +kernel) (by decide +kernel)
set_option maxRecDepth 20000 in
theorem gX6_findError_X6_readPart : GoodIn wsX6_findError (wsV RX6 118 RX6 yX6_readPart wsX6_readPart) := goodIn_app (goodIn_of _ (by decide +kernel)) ggX6_findError_X6_readPart
theorem dX6_findError_0 : decode cX6_findError 0 = .ok (.iconst 0, 1) := by decide +kernel
theorem dX6_findError_1 : decode cX6_findError 1 = .ok (.istore_n 1, 1) := by decide +kernel
theorem dX6_findError_2 : decode cX6_findError 2 = .ok (.aload_n 0, 1) := by decide +kernel
theorem dX6_findError_3 : decode cX6_findError 3 = .ok (.iload_n 1, 1) := by decide +kernel
theorem dX6_findError_4 : decode cX6_findError 4 = .ok (.invokevirtual 118, 3) := by decide +kernel
theorem dX6_findError_7 : decode cX6_findError 7 = .ok (.istore_n 1, 1) := by decide +kernel
theorem dX6_findError_8 : decode cX6_findError 8 = .ok (.iload_n 1, 1) := by decide +kernel
theorem dX6_findError_9 : decode cX6_findError 9 = .ok (.ifCond .ge 7, 3) := by decide +kernel
theorem dX6_findError_12 : decode cX6_findError 12 = .ok (.iconst (-1), 1) := by decide +kernel
theorem dX6_findError_13 : decode cX6_findError 13 = .ok (.iload_n 1, 1) := by decide +kernel
theorem dX6_findError_14 : decode cX6_findError 14 = .ok (.isub, 1) := by decide +kernel
theorem dX6_findError_15 : decode cX6_findError 15 = .ok (.ireturn, 1) := by decide +kernel
theorem dX6_findError_16 : decode cX6_findError 16 = .ok (.iload_n 1, 1) := by decide +kernel
theorem dX6_findError_17 : decode cX6_findError 17 = .ok (.aload_n 0, 1) := by decide +kernel
theorem dX6_findError_18 : decode cX6_findError 18 = .ok (.getfield 97, 3) := by decide +kernel
theorem dX6_findError_21 : decode cX6_findError 21 = .ok (.if_icmp .ne 5, 3) := by decide +kernel
theorem dX6_findError_24 : decode cX6_findError 24 = .ok (.iconst (-1), 1) := by decide +kernel
theorem dX6_findError_25 : decode cX6_findError 25 = .ok (.ireturn, 1) := by decide +kernel
theorem dX6_findError_26 : decode cX6_findError 26 = .ok (.aload_n 0, 1) := by decide +kernel
theorem dX6_findError_27 : decode cX6_findError 27 = .ok (.getfield 22, 3) := by decide +kernel
theorem dX6_findError_30 : decode cX6_findError 30 = .ok (.iload_n 1, 1) := by decide +kernel
theorem dX6_findError_31 : decode cX6_findError 31 = .ok (.iaload, 1) := by decide +kernel
theorem dX6_findError_32 : decode cX6_findError 32 = .ok (.bipush 59, 2) := by decide +kernel
theorem dX6_findError_34 : decode cX6_findError 34 = .ok (.if_icmp .eq 5, 3) := by decide +kernel
theorem dX6_findError_37 : decode cX6_findError 37 = .ok (.iload_n 1, 1) := by decide +kernel
theorem dX6_findError_38 : decode cX6_findError 38 = .ok (.ireturn, 1) := by decide +kernel
theorem dX6_findError_39 : decode cX6_findError 39 = .ok (.iinc 1 1, 3) := by decide +kernel
theorem dX6_findError_42 : decode cX6_findError 42 = .ok (.goto (-40), 3) := by decide +kernel
set_option maxRecDepth 20000 in
theorem ggX6_firstError_X6_findError : GoodIn wsX6_firstError wsX6_findError := goodIn_r _ [7, 2, 8, 9, 10, 11, 6, 12, 13, 14, 15, 16, 17, 18, 19, 20, 21, 22, 23, 24, 25, 26, 27, 28, 29, 30, 31, 32, 33, 34, 35, 36, 37, 38, 39, 40, 41, 42, 43, 44, 45, 46, 47] (by decide +kernel) (by decide +kernel)
set_option maxRecDepth 20000 in
theorem gX6_firstError_X6_findError : GoodIn wsX6_firstError (wsV RX6 121 RX6 yX6_findError wsX6_findError) := goodIn_app (goodIn_of _ (by decide +kernel)) ggX6_firstError_X6_findError
theorem dX6_firstError_0 : decode cX6_firstError 0 = .ok (.aload_n 0, 1) := by decide +kernel
theorem dX6_firstError_1 : decode cX6_firstError 1 = .ok (.iconst 0, 1) := by decide +kernel
theorem dX6_firstError_2 : decode cX6_firstError 2 = .ok (.putfield 28, 3) := by decide +kernel
theorem dX6_firstError_5 : decode cX6_firstError 5 = .ok (.aload_n 0, 1) := by decide +kernel
theorem dX6_firstError_6 : decode cX6_firstError 6 = .ok (.invokevirtual 121, 3) := by decide +kernel
theorem dX6_firstError_9 : decode cX6_firstError 9 = .ok (.istore_n 1, 1) := by decide +kernel
theorem dX6_firstError_10 : decode cX6_firstError 10 = .ok (.iload_n 1, 1) := by decide +kernel
theorem dX6_firstError_11 : decode cX6_firstError 11 = .ok (.ifCond .ge 10, 3) := by decide +kernel
theorem dX6_firstError_14 : decode cX6_firstError 14 = .ok (.aload_n 0, 1) := by decide +kernel
theorem dX6_firstError_15 : decode cX6_firstError 15 = .ok (.getfield 97, 3) := by decide +kernel
theorem dX6_firstError_18 : decode cX6_firstError 18 = .ok (.goto 4, 3) := by decide +kernel
theorem dX6_firstError_21 : decode cX6_firstError 21 = .ok (.iload_n 1, 1) := by decide +kernel
theorem dX6_firstError_22 : decode cX6_firstError 22 = .ok (.ireturn, 1) := by decide +kernel
set_option maxRecDepth 20000 in
theorem ggX6_doPart_X6_doWind : GoodIn wsX6_doPart wsX6_doWind := goodIn_r _ [8, 3, 9, 10, 7, 11, 46, 47, 48, 49, 50, 51, 52, 53, 54, 55, 56] (by decide +kernel) (by decide +kernel)
set_option maxRecDepth 20000 in
theorem gX6_doPart_X6_doWind : GoodIn wsX6_doPart (wsV RX6 73 RX6 yX6_doWind wsX6_doWind) := goodIn_app (goodIn_of _ (by decide +kernel)) ggX6_doPart_X6_doWind
set_option maxRecDepth 20000 in
theorem ggX6_doPart_X6_doRead : GoodIn wsX6_doPart wsX6_doRead := goodIn_r _ [15, 3, 16, 17, 18, 7, 19, 20, 21, 22, 23, 24, 25, 26, 27, 28, 29, 30, 31, 32, 33, 46, 47, 48, 49, 50, 51, 52, 53, 54, 55, 56] (by decide +kernel) (by decide +kernel)
set_option maxRecDepth 20000 in
theorem gX6_doPart_X6_doRead : GoodIn wsX6_doPart (wsV RX6 88 RX6 yX6_doRead wsX6_doRead) := goodIn_app (goodIn_of _ (by decide +kernel)) ggX6_doPart_X6_doRead
set_option maxRecDepth 20000 in
theorem ggX6_doPart_X6_hours : GoodIn wsX6_doPart wsX6_hours := goodIn_r _ [37, 3, 38, 39, 40, 7, 41, 42, 43, 44, 45, 20, 21, 22, 23, 16, 17, 18, 19, 24, 25, 26, 9, 10, 11, 46, 47, 48, 49, 50, 51, 52, 53, 54, 55, 56] (by decide +kernel) (by decide +kernel)
set_option maxRecDepth 20000 in
theorem gX6_doPart_X6_hours : GoodIn wsX6_doPart (wsV RX6 82 RX6 yX6_hours wsX6_hours) := goodIn_app (goodIn_of _ (by decide +kernel)) ggX6_doPart_X6_hours
theorem dX6_doPart_0 : decode cX6_doPart 0 = .ok (.aload_n 0, 1) := by decide +kernel
theorem dX6_doPart_1 : decode cX6_doPart 1 = .ok (.getfield 109, 3) := by decide +kernel
theorem dX6_doPart_4 : decode cX6_doPart 4 = .ok (.lookupswitch 113 #[(100, 103), (103, 90), (112, 64), (114, 78), (119, 52)], 52) := by decide +kernel
theorem dX6_doPart_56 : decode cX6_doPart 56 = .ok (.aload_n 0, 1) := by decide +kernel
theorem dX6_doPart_57 : decode cX6_doPart 57 = .ok (.aload_n 0, 1) := by decide +kernel
theorem dX6_doPart_58 : decode cX6_doPart 58 = .ok (.getfield 100, 3) := by decide +kernel
theorem dX6_doPart_61 : decode cX6_doPart 61 = .ok (.invokevirtual 73, 3) := by decide +kernel
theorem dX6_doPart_64 : decode cX6_doPart 64 = .ok (.pop, 1) := by decide +kernel
theorem dX6_doPart_65 : decode cX6_doPart 65 = .ok (.goto 61, 3) := by decide +kernel
theorem dX6_doPart_68 : decode cX6_doPart 68 = .ok (.aload_n 0, 1) := by decide +kernel
theorem dX6_doPart_69 : decode cX6_doPart 69 = .ok (.getfield 7, 3) := by decide +kernel
theorem dX6_doPart_72 : decode cX6_doPart 72 = .ok (.bipush 6, 2) := by decide +kernel
theorem dX6_doPart_74 : decode cX6_doPart 74 = .ok (.aload_n 0, 1) := by decide +kernel
theorem dX6_doPart_75 : decode cX6_doPart 75 = .ok (.getfield 100, 3) := by decide +kernel
theorem dX6_doPart_78 : decode cX6_doPart 78 = .ok (.iastore, 1) := by decide +kernel
theorem dX6_doPart_79 : decode cX6_doPart 79 = .ok (.goto 47, 3) := by decide +kernel
theorem dX6_doPart_82 : decode cX6_doPart 82 = .ok (.aload_n 0, 1) := by decide +kernel
theorem dX6_doPart_83 : decode cX6_doPart 83 = .ok (.aload_n 0, 1) := by decide +kernel
theorem dX6_doPart_84 : decode cX6_doPart 84 = .ok (.getfield 100, 3) := by decide +kernel
theorem dX6_doPart_87 : decode cX6_doPart 87 = .ok (.invokevirtual 88, 3) := by decide +kernel
theorem dX6_doPart_90 : decode cX6_doPart 90 = .ok (.pop, 1) := by decide +kernel
theorem dX6_doPart_91 : decode cX6_doPart 91 = .ok (.goto 35, 3) := by decide +kernel
theorem dX6_doPart_94 : decode cX6_doPart 94 = .ok (.aload_n 0, 1) := by decide +kernel
theorem dX6_doPart_95 : decode cX6_doPart 95 = .ok (.getfield 7, 3) := by decide +kernel
theorem dX6_doPart_98 : decode cX6_doPart 98 = .ok (.iconst 2, 1) := by decide +kernel
theorem dX6_doPart_99 : decode cX6_doPart 99 = .ok (.aload_n 0, 1) := by decide +kernel
theorem dX6_doPart_100 : decode cX6_doPart 100 = .ok (.getfield 100, 3) := by decide +kernel
theorem dX6_doPart_103 : decode cX6_doPart 103 = .ok (.iastore, 1) := by decide +kernel
theorem dX6_doPart_104 : decode cX6_doPart 104 = .ok (.goto 22, 3) := by decide +kernel
theorem dX6_doPart_107 : decode cX6_doPart 107 = .ok (.aload_n 0, 1) := by decide +kernel
theorem dX6_doPart_108 : decode cX6_doPart 108 = .ok (.getfield 7, 3) := by decide +kernel
theorem dX6_doPart_111 : decode cX6_doPart 111 = .ok (.iconst 4, 1) := by decide +kernel
theorem dX6_doPart_112 : decode cX6_doPart 112 = .ok (.iconst 0, 1) := by decide +kernel
theorem dX6_doPart_113 : decode cX6_doPart 113 = .ok (.iastore, 1) := by decide +kernel
theorem dX6_doPart_114 : decode cX6_doPart 114 = .ok (.goto 12, 3) := by decide +kernel
theorem dX6_doPart_117 : decode cX6_doPart 117 = .ok (.aload_n 0, 1) := by decide +kernel
theorem dX6_doPart_118 : decode cX6_doPart 118 = .ok (.aload_n 0, 1) := by decide +kernel
theorem dX6_doPart_119 : decode cX6_doPart 119 = .ok (.getfield 100, 3) := by decide +kernel
theorem dX6_doPart_122 : decode cX6_doPart 122 = .ok (.invokevirtual 82, 3) := by decide +kernel
theorem dX6_doPart_125 : decode cX6_doPart 125 = .ok (.pop, 1) := by decide +kernel
theorem dX6_doPart_126 : decode cX6_doPart 126 = .ok (.return_, 1) := by decide +kernel
set_option maxRecDepth 20000 in
theorem ggX6_obey_X6_findError : GoodIn wsX6_obey wsX6_findError := goodIn_r _ [10, 2, 11, 12, 13, 14, 9, 15, 3, 16, 17, 18, 19, 20, 21, 22, 23, 4, 24, 25, 26, 27, 28, 29, 30, 31, 32, 33, 34, 35, 36, 37, 97, 98, 99, 100, 101, 102, 103, 104, 105, 106, 107] (by decide +kernel) (by decide +kernel)
set_option maxRecDepth 20000 in
theorem gX6_obey_X6_findError : GoodIn wsX6_obey (wsV RX6 121 RX6 yX6_findError wsX6_findError) := goodIn_app (goodIn_of _ (by decide +kernel)) ggX6_obey_X6_findError
set_option maxRecDepth 20000 in
theorem ggX6_obey_X6_record : GoodIn wsX6_obey wsX6_record := goodIn_r _ [41, 42, 43, 5, 97, 98, 99, 100, 101, 102, 103, 104, 105, 106, 107] (by decide +kernel) (by decide +kernel)
set_option maxRecDepth 20000 in
theorem gX6_obey_X6_record : GoodIn wsX6_obey (wsV RX6 43 RX6 yX6_record wsX6_record) := goodIn_app (goodIn_of _ (by decide +kernel)) ggX6_obey_X6_record
set_option maxRecDepth 20000 in
theorem ggX6_obey_X6_noStop : GoodIn wsX6_obey wsX6_noStop := goodIn_r _ [47, 5, 97, 98, 99, 100, 101, 102, 103, 104, 105, 106, 107] (by decide +kernel) (by decide +kernel)
set_option maxRecDepth 20000 in
theorem gX6_obey_X6_noStop : GoodIn wsX6_obey (wsV RX6 25 RX6 yX6_noStop wsX6_noStop) := goodIn_app (goodIn_of _ (by decide +kernel)) ggX6_obey_X6_noStop
set_option maxRecDepth 20000 in
theorem ggX6_obey_X6_readPart : GoodIn wsX6_obey wsX6_readPart := goodIn_r _ [15, 3, 16, 17, 18, 9, 19, 2, 11, 20, 21, 22, 23, 4, 24, 25, 26, 27, 28, 29, 30, 31, 32, 33, 34, 35, 36, 37, 97, 98, 99, 100, 101, 102, 103, 104, 105, 106, 107] (by decide +kernel) (by decide +kernel)
set_option maxRecDepth 20000 in
theorem gX6_obey_X6_readPart : GoodIn wsX6_obey (wsV RX6 118 RX6 yX6_readPart wsX6_readPart) := goodIn_app (goodIn_of _ (by decide +kernel)) ggX6_obey_X6_readPart
set_option maxRecDepth 20000 in
theorem ggX6_obey_X6_whyNot : GoodIn wsX6_obey wsX6_whyNot := goodIn_r _ [51, 5, 52, 53, 54, 9, 55, 56, 57, 58, 59, 60, 61, 62, 97, 98, 99, 100, 101, 102, 103, 104, 105, 106, 107] (by decide +kernel) (by decide +kernel)
set_option maxRecDepth 20000 in
theorem gX6_obey_X6_whyNot : GoodIn wsX6_obey (wsV RX6 85 RX6 yX6_whyNot wsX6_whyNot) := goodIn_app (goodIn_of _ (by decide +kernel)) ggX6_obey_X6_whyNot
set_option maxRecDepth 20000 in
theorem ggX6_obey_X6_doPart : GoodIn wsX6_obey wsX6_doPart := goodIn_r _ [66, 3, 4, 5, 67, 68, 69, 9, 70, 71, 72, 73, 74, 75, 76, 77, 78, 79, 80, 81, 52, 53, 54, 55, 82, 83, 84, 56, 57, 58, 59, 60, 61, 62, 85, 86, 87, 88, 89, 90, 91, 92, 93, 94, 95, 96, 97, 98, 99, 100, 101, 102, 103, 104, 105, 106, 107] (by decide +kernel) (by decide +kernel)
set_option maxRecDepth 20000 in
theorem gX6_obey_X6_doPart : GoodIn wsX6_obey (wsV RX6 125 RX6 yX6_doPart wsX6_doPart) := goodIn_app (goodIn_of _ (by decide +kernel)) ggX6_obey_X6_doPart
theorem dX6_obey_0 : decode cX6_obey 0 = .ok (.aload_n 0, 1) := by decide +kernel
theorem dX6_obey_1 : decode cX6_obey 1 = .ok (.aload_n 0, 1) := by decide +kernel
theorem dX6_obey_2 : decode cX6_obey 2 = .ok (.invokevirtual 121, 3) := by decide +kernel
theorem dX6_obey_5 : decode cX6_obey 5 = .ok (.ifCond .ge 7, 3) := by decide +kernel
theorem dX6_obey_8 : decode cX6_obey 8 = .ok (.iconst 0, 1) := by decide +kernel
theorem dX6_obey_9 : decode cX6_obey 9 = .ok (.goto 4, 3) := by decide +kernel
theorem dX6_obey_12 : decode cX6_obey 12 = .ok (.iconst 1, 1) := by decide +kernel
theorem dX6_obey_13 : decode cX6_obey 13 = .ok (.putfield 28, 3) := by decide +kernel
theorem dX6_obey_16 : decode cX6_obey 16 = .ok (.aload_n 0, 1) := by decide +kernel
theorem dX6_obey_17 : decode cX6_obey 17 = .ok (.getfield 28, 3) := by decide +kernel
theorem dX6_obey_20 : decode cX6_obey 20 = .ok (.ifCond .le 5, 3) := by decide +kernel
theorem dX6_obey_23 : decode cX6_obey 23 = .ok (.iconst 0, 1) := by decide +kernel
theorem dX6_obey_24 : decode cX6_obey 24 = .ok (.ireturn, 1) := by decide +kernel
theorem dX6_obey_25 : decode cX6_obey 25 = .ok (.aload_n 0, 1) := by decide +kernel
theorem dX6_obey_26 : decode cX6_obey 26 = .ok (.invokevirtual 43, 3) := by decide +kernel
theorem dX6_obey_29 : decode cX6_obey 29 = .ok (.aload_n 0, 1) := by decide +kernel
theorem dX6_obey_30 : decode cX6_obey 30 = .ok (.invokevirtual 25, 3) := by decide +kernel
theorem dX6_obey_33 : decode cX6_obey 33 = .ok (.iconst 0, 1) := by decide +kernel
theorem dX6_obey_34 : decode cX6_obey 34 = .ok (.istore_n 1, 1) := by decide +kernel
theorem dX6_obey_35 : decode cX6_obey 35 = .ok (.iconst 0, 1) := by decide +kernel
theorem dX6_obey_36 : decode cX6_obey 36 = .ok (.istore_n 2, 1) := by decide +kernel
theorem dX6_obey_37 : decode cX6_obey 37 = .ok (.iconst 1, 1) := by decide +kernel
theorem dX6_obey_38 : decode cX6_obey 38 = .ok (.istore_n 3, 1) := by decide +kernel
theorem dX6_obey_39 : decode cX6_obey 39 = .ok (.iload_n 3, 1) := by decide +kernel
theorem dX6_obey_40 : decode cX6_obey 40 = .ok (.ifCond .eq 98, 3) := by decide +kernel
theorem dX6_obey_43 : decode cX6_obey 43 = .ok (.iload_n 2, 1) := by decide +kernel
theorem dX6_obey_44 : decode cX6_obey 44 = .ok (.aload_n 0, 1) := by decide +kernel
theorem dX6_obey_45 : decode cX6_obey 45 = .ok (.getfield 97, 3) := by decide +kernel
theorem dX6_obey_48 : decode cX6_obey 48 = .ok (.if_icmp .ge 90, 3) := by decide +kernel
theorem dX6_obey_51 : decode cX6_obey 51 = .ok (.aload_n 0, 1) := by decide +kernel
theorem dX6_obey_52 : decode cX6_obey 52 = .ok (.iload_n 2, 1) := by decide +kernel
theorem dX6_obey_53 : decode cX6_obey 53 = .ok (.invokevirtual 118, 3) := by decide +kernel
theorem dX6_obey_56 : decode cX6_obey 56 = .ok (.iconst 1, 1) := by decide +kernel
theorem dX6_obey_57 : decode cX6_obey 57 = .ok (.iadd, 1) := by decide +kernel
theorem dX6_obey_58 : decode cX6_obey 58 = .ok (.istore_n 2, 1) := by decide +kernel
theorem dX6_obey_59 : decode cX6_obey 59 = .ok (.aload_n 0, 1) := by decide +kernel
theorem dX6_obey_60 : decode cX6_obey 60 = .ok (.getfield 109, 3) := by decide +kernel
theorem dX6_obey_63 : decode cX6_obey 63 = .ok (.bipush 114, 2) := by decide +kernel
theorem dX6_obey_65 : decode cX6_obey 65 = .ok (.if_icmp .ne 14, 3) := by decide +kernel
theorem dX6_obey_68 : decode cX6_obey 68 = .ok (.aload_n 0, 1) := by decide +kernel
theorem dX6_obey_69 : decode cX6_obey 69 = .ok (.aload_n 0, 1) := by decide +kernel
theorem dX6_obey_70 : decode cX6_obey 70 = .ok (.getfield 100, 3) := by decide +kernel
theorem dX6_obey_73 : decode cX6_obey 73 = .ok (.invokevirtual 85, 3) := by decide +kernel
theorem dX6_obey_76 : decode cX6_obey 76 = .ok (.goto 4, 3) := by decide +kernel
theorem dX6_obey_79 : decode cX6_obey 79 = .ok (.iconst 0, 1) := by decide +kernel
theorem dX6_obey_80 : decode cX6_obey 80 = .ok (.istore 4, 2) := by decide +kernel
theorem dX6_obey_82 : decode cX6_obey 82 = .ok (.iload 4, 2) := by decide +kernel
theorem dX6_obey_84 : decode cX6_obey 84 = .ok (.ifCond .ne 7, 3) := by decide +kernel
theorem dX6_obey_87 : decode cX6_obey 87 = .ok (.iconst 1, 1) := by decide +kernel
theorem dX6_obey_88 : decode cX6_obey 88 = .ok (.goto 4, 3) := by decide +kernel
theorem dX6_obey_91 : decode cX6_obey 91 = .ok (.iconst 0, 1) := by decide +kernel
theorem dX6_obey_92 : decode cX6_obey 92 = .ok (.istore_n 3, 1) := by decide +kernel
theorem dX6_obey_93 : decode cX6_obey 93 = .ok (.iload_n 3, 1) := by decide +kernel
theorem dX6_obey_94 : decode cX6_obey 94 = .ok (.ifCond .eq 13, 3) := by decide +kernel
theorem dX6_obey_97 : decode cX6_obey 97 = .ok (.aload_n 0, 1) := by decide +kernel
theorem dX6_obey_98 : decode cX6_obey 98 = .ok (.invokevirtual 125, 3) := by decide +kernel
theorem dX6_obey_101 : decode cX6_obey 101 = .ok (.iinc 1 1, 3) := by decide +kernel
theorem dX6_obey_104 : decode cX6_obey 104 = .ok (.goto 31, 3) := by decide +kernel
theorem dX6_obey_107 : decode cX6_obey 107 = .ok (.aload_n 0, 1) := by decide +kernel
theorem dX6_obey_108 : decode cX6_obey 108 = .ok (.getfield 7, 3) := by decide +kernel
theorem dX6_obey_111 : decode cX6_obey 111 = .ok (.bipush 16, 2) := by decide +kernel
theorem dX6_obey_113 : decode cX6_obey 113 = .ok (.iload_n 1, 1) := by decide +kernel
theorem dX6_obey_114 : decode cX6_obey 114 = .ok (.iastore, 1) := by decide +kernel
theorem dX6_obey_115 : decode cX6_obey 115 = .ok (.aload_n 0, 1) := by decide +kernel
theorem dX6_obey_116 : decode cX6_obey 116 = .ok (.getfield 7, 3) := by decide +kernel
theorem dX6_obey_119 : decode cX6_obey 119 = .ok (.bipush 17, 2) := by decide +kernel
theorem dX6_obey_121 : decode cX6_obey 121 = .ok (.iload 4, 2) := by decide +kernel
theorem dX6_obey_123 : decode cX6_obey 123 = .ok (.iastore, 1) := by decide +kernel
theorem dX6_obey_124 : decode cX6_obey 124 = .ok (.aload_n 0, 1) := by decide +kernel
theorem dX6_obey_125 : decode cX6_obey 125 = .ok (.getfield 7, 3) := by decide +kernel
theorem dX6_obey_128 : decode cX6_obey 128 = .ok (.bipush 18, 2) := by decide +kernel
theorem dX6_obey_130 : decode cX6_obey 130 = .ok (.aload_n 0, 1) := by decide +kernel
theorem dX6_obey_131 : decode cX6_obey 131 = .ok (.getfield 100, 3) := by decide +kernel
theorem dX6_obey_134 : decode cX6_obey 134 = .ok (.iastore, 1) := by decide +kernel
theorem dX6_obey_135 : decode cX6_obey 135 = .ok (.goto (-96), 3) := by decide +kernel
theorem dX6_obey_138 : decode cX6_obey 138 = .ok (.aload_n 0, 1) := by decide +kernel
theorem dX6_obey_139 : decode cX6_obey 139 = .ok (.iconst 0, 1) := by decide +kernel
theorem dX6_obey_140 : decode cX6_obey 140 = .ok (.putfield 97, 3) := by decide +kernel
theorem dX6_obey_143 : decode cX6_obey 143 = .ok (.iload_n 1, 1) := by decide +kernel
theorem dX6_obey_144 : decode cX6_obey 144 = .ok (.ireturn, 1) := by decide +kernel
set_option maxRecDepth 20000 in
theorem ggX6_stopped_X6_in : GoodIn wsX6_stopped wsX6_in := goodIn_r _ [6] (by decide +kernel) (by decide +kernel)
set_option maxRecDepth 20000 in
theorem gX6_stopped_X6_in : GoodIn wsX6_stopped (va_wsS RX6 32 yX6_in wsX6_in) := goodIn_app (goodIn_of _ (by decide +kernel)) ggX6_stopped_X6_in
theorem dX6_stopped_0 : decode cX6_stopped 0 = .ok (.aload_n 0, 1) := by decide +kernel
theorem dX6_stopped_1 : decode cX6_stopped 1 = .ok (.iload_n 1, 1) := by decide +kernel
theorem dX6_stopped_2 : decode cX6_stopped 2 = .ok (.iconst 0, 1) := by decide +kernel
theorem dX6_stopped_3 : decode cX6_stopped 3 = .ok (.iconst 2, 1) := by decide +kernel
theorem dX6_stopped_4 : decode cX6_stopped 4 = .ok (.invokestatic 32, 3) := by decide +kernel
theorem dX6_stopped_7 : decode cX6_stopped 7 = .ok (.ifCond .eq 7, 3) := by decide +kernel
theorem dX6_stopped_10 : decode cX6_stopped 10 = .ok (.iconst 0, 1) := by decide +kernel
theorem dX6_stopped_11 : decode cX6_stopped 11 = .ok (.goto 4, 3) := by decide +kernel
theorem dX6_stopped_14 : decode cX6_stopped 14 = .ok (.iconst 1, 1) := by decide +kernel
theorem dX6_stopped_15 : decode cX6_stopped 15 = .ok (.putfield 28, 3) := by decide +kernel
theorem dX6_stopped_18 : decode cX6_stopped 18 = .ok (.aload_n 0, 1) := by decide +kernel
theorem dX6_stopped_19 : decode cX6_stopped 19 = .ok (.getfield 28, 3) := by decide +kernel
theorem dX6_stopped_22 : decode cX6_stopped 22 = .ok (.ifCond .le 7, 3) := by decide +kernel
theorem dX6_stopped_25 : decode cX6_stopped 25 = .ok (.iconst 0, 1) := by decide +kernel
theorem dX6_stopped_26 : decode cX6_stopped 26 = .ok (.goto 12, 3) := by decide +kernel
theorem dX6_stopped_29 : decode cX6_stopped 29 = .ok (.aload_n 0, 1) := by decide +kernel
theorem dX6_stopped_30 : decode cX6_stopped 30 = .ok (.getfield 7, 3) := by decide +kernel
theorem dX6_stopped_33 : decode cX6_stopped 33 = .ok (.bipush 16, 2) := by decide +kernel
theorem dX6_stopped_35 : decode cX6_stopped 35 = .ok (.iload_n 1, 1) := by decide +kernel
theorem dX6_stopped_36 : decode cX6_stopped 36 = .ok (.iadd, 1) := by decide +kernel
theorem dX6_stopped_37 : decode cX6_stopped 37 = .ok (.iaload, 1) := by decide +kernel
theorem dX6_stopped_38 : decode cX6_stopped 38 = .ok (.ireturn, 1) := by decide +kernel
set_option maxRecDepth 20000 in
theorem ggX6_latest_X6_of : GoodIn wsX6_latest wsX6_of := goodIn_r _ [6, 1, 7, 8, 9, 10, 11, 12, 13, 14, 15, 16, 17] (by decide +kernel) (by decide +kernel)
set_option maxRecDepth 20000 in
theorem gX6_latest_X6_of : GoodIn wsX6_latest (wsV RX6 128 RX6 yX6_of wsX6_of) := goodIn_app (goodIn_of _ (by decide +kernel)) ggX6_latest_X6_of
theorem dX6_latest_0 : decode cX6_latest 0 = .ok (.iconst (-1), 1) := by decide +kernel
theorem dX6_latest_1 : decode cX6_latest 1 = .ok (.istore_n 2, 1) := by decide +kernel
theorem dX6_latest_2 : decode cX6_latest 2 = .ok (.iconst 0, 1) := by decide +kernel
theorem dX6_latest_3 : decode cX6_latest 3 = .ok (.istore_n 3, 1) := by decide +kernel
theorem dX6_latest_4 : decode cX6_latest 4 = .ok (.iload_n 3, 1) := by decide +kernel
theorem dX6_latest_5 : decode cX6_latest 5 = .ok (.aload_n 0, 1) := by decide +kernel
theorem dX6_latest_6 : decode cX6_latest 6 = .ok (.getfield 7, 3) := by decide +kernel
theorem dX6_latest_9 : decode cX6_latest 9 = .ok (.bipush 10, 2) := by decide +kernel
theorem dX6_latest_11 : decode cX6_latest 11 = .ok (.iaload, 1) := by decide +kernel
theorem dX6_latest_12 : decode cX6_latest 12 = .ok (.if_icmp .ge 25, 3) := by decide +kernel
theorem dX6_latest_15 : decode cX6_latest 15 = .ok (.aload_n 0, 1) := by decide +kernel
theorem dX6_latest_16 : decode cX6_latest 16 = .ok (.iload_n 3, 1) := by decide +kernel
theorem dX6_latest_17 : decode cX6_latest 17 = .ok (.iconst 1, 1) := by decide +kernel
theorem dX6_latest_18 : decode cX6_latest 18 = .ok (.invokevirtual 128, 3) := by decide +kernel
theorem dX6_latest_21 : decode cX6_latest 21 = .ok (.iload_n 1, 1) := by decide +kernel
theorem dX6_latest_22 : decode cX6_latest 22 = .ok (.if_icmp .ne 7, 3) := by decide +kernel
theorem dX6_latest_25 : decode cX6_latest 25 = .ok (.iload_n 3, 1) := by decide +kernel
theorem dX6_latest_26 : decode cX6_latest 26 = .ok (.goto 4, 3) := by decide +kernel
theorem dX6_latest_29 : decode cX6_latest 29 = .ok (.iload_n 2, 1) := by decide +kernel
theorem dX6_latest_30 : decode cX6_latest 30 = .ok (.istore_n 2, 1) := by decide +kernel
theorem dX6_latest_31 : decode cX6_latest 31 = .ok (.iinc 3 1, 3) := by decide +kernel
theorem dX6_latest_34 : decode cX6_latest 34 = .ok (.goto (-30), 3) := by decide +kernel
theorem dX6_latest_37 : decode cX6_latest 37 = .ok (.iload_n 2, 1) := by decide +kernel
theorem dX6_latest_38 : decode cX6_latest 38 = .ok (.ireturn, 1) := by decide +kernel
set_option maxRecDepth 20000 in
theorem ggX6_readingsIn_X6_of : GoodIn wsX6_readingsIn wsX6_of := goodIn_r _ [6, 1, 7, 8, 9, 10, 11, 12, 13, 14, 15, 16, 17] (by decide +kernel) (by decide +kernel)
set_option maxRecDepth 20000 in
theorem gX6_readingsIn_X6_of : GoodIn wsX6_readingsIn (wsV RX6 128 RX6 yX6_of wsX6_of) := goodIn_app (goodIn_of _ (by decide +kernel)) ggX6_readingsIn_X6_of
theorem dX6_readingsIn_0 : decode cX6_readingsIn 0 = .ok (.iconst 0, 1) := by decide +kernel
theorem dX6_readingsIn_1 : decode cX6_readingsIn 1 = .ok (.istore_n 2, 1) := by decide +kernel
theorem dX6_readingsIn_2 : decode cX6_readingsIn 2 = .ok (.iconst 0, 1) := by decide +kernel
theorem dX6_readingsIn_3 : decode cX6_readingsIn 3 = .ok (.istore_n 3, 1) := by decide +kernel
theorem dX6_readingsIn_4 : decode cX6_readingsIn 4 = .ok (.iload_n 3, 1) := by decide +kernel
theorem dX6_readingsIn_5 : decode cX6_readingsIn 5 = .ok (.aload_n 0, 1) := by decide +kernel
theorem dX6_readingsIn_6 : decode cX6_readingsIn 6 = .ok (.getfield 7, 3) := by decide +kernel
theorem dX6_readingsIn_9 : decode cX6_readingsIn 9 = .ok (.bipush 10, 2) := by decide +kernel
theorem dX6_readingsIn_11 : decode cX6_readingsIn 11 = .ok (.iaload, 1) := by decide +kernel
theorem dX6_readingsIn_12 : decode cX6_readingsIn 12 = .ok (.if_icmp .ge 27, 3) := by decide +kernel
theorem dX6_readingsIn_15 : decode cX6_readingsIn 15 = .ok (.iload_n 2, 1) := by decide +kernel
theorem dX6_readingsIn_16 : decode cX6_readingsIn 16 = .ok (.aload_n 0, 1) := by decide +kernel
theorem dX6_readingsIn_17 : decode cX6_readingsIn 17 = .ok (.iload_n 3, 1) := by decide +kernel
theorem dX6_readingsIn_18 : decode cX6_readingsIn 18 = .ok (.iconst 1, 1) := by decide +kernel
theorem dX6_readingsIn_19 : decode cX6_readingsIn 19 = .ok (.invokevirtual 128, 3) := by decide +kernel
theorem dX6_readingsIn_22 : decode cX6_readingsIn 22 = .ok (.iload_n 1, 1) := by decide +kernel
theorem dX6_readingsIn_23 : decode cX6_readingsIn 23 = .ok (.if_icmp .ne 7, 3) := by decide +kernel
theorem dX6_readingsIn_26 : decode cX6_readingsIn 26 = .ok (.iconst 1, 1) := by decide +kernel
theorem dX6_readingsIn_27 : decode cX6_readingsIn 27 = .ok (.goto 4, 3) := by decide +kernel
theorem dX6_readingsIn_30 : decode cX6_readingsIn 30 = .ok (.iconst 0, 1) := by decide +kernel
theorem dX6_readingsIn_31 : decode cX6_readingsIn 31 = .ok (.iadd, 1) := by decide +kernel
theorem dX6_readingsIn_32 : decode cX6_readingsIn 32 = .ok (.istore_n 2, 1) := by decide +kernel
theorem dX6_readingsIn_33 : decode cX6_readingsIn 33 = .ok (.iinc 3 1, 3) := by decide +kernel
theorem dX6_readingsIn_36 : decode cX6_readingsIn 36 = .ok (.goto (-32), 3) := by decide +kernel
theorem dX6_readingsIn_39 : decode cX6_readingsIn 39 = .ok (.iload_n 2, 1) := by decide +kernel
theorem dX6_readingsIn_40 : decode cX6_readingsIn 40 = .ok (.ireturn, 1) := by decide +kernel
set_option maxRecDepth 20000 in
theorem ggX6_poseNow_X6_latest : GoodIn wsX6_poseNow wsX6_latest := goodIn_r _ [6, 1, 7, 8, 9, 5, 10, 37, 38, 39, 40, 41, 42, 43, 44, 45, 46, 47] (by decide +kernel) (by decide +kernel)
set_option maxRecDepth 20000 in
theorem gX6_poseNow_X6_latest : GoodIn wsX6_poseNow (wsV RX6 131 RX6 yX6_latest wsX6_latest) := goodIn_app (goodIn_of _ (by decide +kernel)) ggX6_poseNow_X6_latest
set_option maxRecDepth 20000 in
theorem ggX6_poseNow_X6_swing : GoodIn wsX6_poseNow wsX6_swing := goodIn_r _ [14, 1, 37, 38, 39, 40, 41, 42, 43, 44, 45, 46, 47] (by decide +kernel) (by decide +kernel)
set_option maxRecDepth 20000 in
theorem gX6_poseNow_X6_swing : GoodIn wsX6_poseNow (wsV RX6 46 RX6 yX6_swing wsX6_swing) := goodIn_app (goodIn_of _ (by decide +kernel)) ggX6_poseNow_X6_swing
set_option maxRecDepth 20000 in
theorem ggX6_poseNow_X6_rate : GoodIn wsX6_poseNow wsX6_rate := goodIn_r _ [18, 1, 11, 12, 13, 5, 14, 19, 20, 21, 37, 38, 39, 40, 41, 42, 43, 44, 45, 46, 47] (by decide +kernel) (by decide +kernel)
set_option maxRecDepth 20000 in
theorem gX6_poseNow_X6_rate : GoodIn wsX6_poseNow (wsV RX6 64 RX6 yX6_rate wsX6_rate) := goodIn_app (goodIn_of _ (by decide +kernel)) ggX6_poseNow_X6_rate
set_option maxRecDepth 20000 in
theorem ggX6_poseNow_X6_beat : GoodIn wsX6_poseNow wsX6_beat := goodIn_r _ [25, 1, 26, 27, 5, 28, 37, 38, 39, 40, 41, 42, 43, 44, 45, 46, 47] (by decide +kernel) (by decide +kernel)
set_option maxRecDepth 20000 in
theorem gX6_poseNow_X6_beat : GoodIn wsX6_poseNow (wsV RX6 57 RX6 yX6_beat wsX6_beat) := goodIn_app (goodIn_of _ (by decide +kernel)) ggX6_poseNow_X6_beat
set_option maxRecDepth 20000 in
theorem ggX6_poseNow_X6_whyNot : GoodIn wsX6_poseNow wsX6_whyNot := goodIn_r _ [32, 1, 11, 12, 13, 5, 14, 22, 23, 24, 25, 26, 27, 28, 37, 38, 39, 40, 41, 42, 43, 44, 45, 46, 47] (by decide +kernel) (by decide +kernel)
set_option maxRecDepth 20000 in
theorem gX6_poseNow_X6_whyNot : GoodIn wsX6_poseNow (wsV RX6 85 RX6 yX6_whyNot wsX6_whyNot) := goodIn_app (goodIn_of _ (by decide +kernel)) ggX6_poseNow_X6_whyNot
set_option maxRecDepth 20000 in
theorem ggX6_poseNow_X6_of : GoodIn wsX6_poseNow wsX6_of := goodIn_r _ [10, 1, 37, 38, 39, 40, 41, 42, 43, 44, 45, 46, 47] (by decide +kernel) (by decide +kernel)
set_option maxRecDepth 20000 in
theorem gX6_poseNow_X6_of : GoodIn wsX6_poseNow (wsV RX6 128 RX6 yX6_of wsX6_of) := goodIn_app (goodIn_of _ (by decide +kernel)) ggX6_poseNow_X6_of
set_option maxRecDepth 20000 in
theorem ggX6_poseNow_X6_readingsIn : GoodIn wsX6_poseNow wsX6_readingsIn := goodIn_r _ [36, 1, 7, 8, 9, 5, 10, 37, 38, 39, 40, 41, 42, 43, 44, 45, 46, 47] (by decide +kernel) (by decide +kernel)
set_option maxRecDepth 20000 in
theorem gX6_poseNow_X6_readingsIn : GoodIn wsX6_poseNow (wsV RX6 134 RX6 yX6_readingsIn wsX6_readingsIn) := goodIn_app (goodIn_of _ (by decide +kernel)) ggX6_poseNow_X6_readingsIn
theorem dX6_poseNow_0 : decode cX6_poseNow 0 = .ok (.aload_n 0, 1) := by decide +kernel
theorem dX6_poseNow_1 : decode cX6_poseNow 1 = .ok (.iload_n 1, 1) := by decide +kernel
theorem dX6_poseNow_2 : decode cX6_poseNow 2 = .ok (.invokevirtual 131, 3) := by decide +kernel
theorem dX6_poseNow_5 : decode cX6_poseNow 5 = .ok (.istore_n 3, 1) := by decide +kernel
theorem dX6_poseNow_6 : decode cX6_poseNow 6 = .ok (.iload_n 2, 1) := by decide +kernel
theorem dX6_poseNow_7 : decode cX6_poseNow 7 = .ok (.tableswitch 116 0 6 #[41, 54, 60, 70, 76, 82, 97], 41) := by decide +kernel
theorem dX6_poseNow_48 : decode cX6_poseNow 48 = .ok (.aload_n 0, 1) := by decide +kernel
theorem dX6_poseNow_49 : decode cX6_poseNow 49 = .ok (.getfield 7, 3) := by decide +kernel
theorem dX6_poseNow_52 : decode cX6_poseNow 52 = .ok (.bipush 19, 2) := by decide +kernel
theorem dX6_poseNow_54 : decode cX6_poseNow 54 = .ok (.iload_n 1, 1) := by decide +kernel
theorem dX6_poseNow_55 : decode cX6_poseNow 55 = .ok (.iadd, 1) := by decide +kernel
theorem dX6_poseNow_56 : decode cX6_poseNow 56 = .ok (.iaload, 1) := by decide +kernel
theorem dX6_poseNow_57 : decode cX6_poseNow 57 = .ok (.bipush 100, 2) := by decide +kernel
theorem dX6_poseNow_59 : decode cX6_poseNow 59 = .ok (.iadd, 1) := by decide +kernel
theorem dX6_poseNow_60 : decode cX6_poseNow 60 = .ok (.ireturn, 1) := by decide +kernel
theorem dX6_poseNow_61 : decode cX6_poseNow 61 = .ok (.aload_n 0, 1) := by decide +kernel
theorem dX6_poseNow_62 : decode cX6_poseNow 62 = .ok (.iload_n 1, 1) := by decide +kernel
theorem dX6_poseNow_63 : decode cX6_poseNow 63 = .ok (.invokevirtual 46, 3) := by decide +kernel
theorem dX6_poseNow_66 : decode cX6_poseNow 66 = .ok (.ireturn, 1) := by decide +kernel
theorem dX6_poseNow_67 : decode cX6_poseNow 67 = .ok (.aload_n 0, 1) := by decide +kernel
theorem dX6_poseNow_68 : decode cX6_poseNow 68 = .ok (.iload_n 1, 1) := by decide +kernel
theorem dX6_poseNow_69 : decode cX6_poseNow 69 = .ok (.invokevirtual 64, 3) := by decide +kernel
theorem dX6_poseNow_72 : decode cX6_poseNow 72 = .ok (.sipush 10000, 3) := by decide +kernel
theorem dX6_poseNow_75 : decode cX6_poseNow 75 = .ok (.iadd, 1) := by decide +kernel
theorem dX6_poseNow_76 : decode cX6_poseNow 76 = .ok (.ireturn, 1) := by decide +kernel
theorem dX6_poseNow_77 : decode cX6_poseNow 77 = .ok (.aload_n 0, 1) := by decide +kernel
theorem dX6_poseNow_78 : decode cX6_poseNow 78 = .ok (.iload_n 1, 1) := by decide +kernel
theorem dX6_poseNow_79 : decode cX6_poseNow 79 = .ok (.invokevirtual 57, 3) := by decide +kernel
theorem dX6_poseNow_82 : decode cX6_poseNow 82 = .ok (.ireturn, 1) := by decide +kernel
theorem dX6_poseNow_83 : decode cX6_poseNow 83 = .ok (.aload_n 0, 1) := by decide +kernel
theorem dX6_poseNow_84 : decode cX6_poseNow 84 = .ok (.iload_n 1, 1) := by decide +kernel
theorem dX6_poseNow_85 : decode cX6_poseNow 85 = .ok (.invokevirtual 85, 3) := by decide +kernel
theorem dX6_poseNow_88 : decode cX6_poseNow 88 = .ok (.ireturn, 1) := by decide +kernel
theorem dX6_poseNow_89 : decode cX6_poseNow 89 = .ok (.iload_n 3, 1) := by decide +kernel
theorem dX6_poseNow_90 : decode cX6_poseNow 90 = .ok (.ifCond .ge 7, 3) := by decide +kernel
theorem dX6_poseNow_93 : decode cX6_poseNow 93 = .ok (.iconst (-1), 1) := by decide +kernel
theorem dX6_poseNow_94 : decode cX6_poseNow 94 = .ok (.goto 9, 3) := by decide +kernel
theorem dX6_poseNow_97 : decode cX6_poseNow 97 = .ok (.aload_n 0, 1) := by decide +kernel
theorem dX6_poseNow_98 : decode cX6_poseNow 98 = .ok (.iload_n 3, 1) := by decide +kernel
theorem dX6_poseNow_99 : decode cX6_poseNow 99 = .ok (.iconst 0, 1) := by decide +kernel
theorem dX6_poseNow_100 : decode cX6_poseNow 100 = .ok (.invokevirtual 128, 3) := by decide +kernel
theorem dX6_poseNow_103 : decode cX6_poseNow 103 = .ok (.ireturn, 1) := by decide +kernel
theorem dX6_poseNow_104 : decode cX6_poseNow 104 = .ok (.iload_n 3, 1) := by decide +kernel
theorem dX6_poseNow_105 : decode cX6_poseNow 105 = .ok (.ifCond .ge 7, 3) := by decide +kernel
theorem dX6_poseNow_108 : decode cX6_poseNow 108 = .ok (.iconst (-1), 1) := by decide +kernel
theorem dX6_poseNow_109 : decode cX6_poseNow 109 = .ok (.goto 13, 3) := by decide +kernel
theorem dX6_poseNow_112 : decode cX6_poseNow 112 = .ok (.aload_n 0, 1) := by decide +kernel
theorem dX6_poseNow_113 : decode cX6_poseNow 113 = .ok (.iload_n 3, 1) := by decide +kernel
theorem dX6_poseNow_114 : decode cX6_poseNow 114 = .ok (.iconst 2, 1) := by decide +kernel
theorem dX6_poseNow_115 : decode cX6_poseNow 115 = .ok (.invokevirtual 128, 3) := by decide +kernel
theorem dX6_poseNow_118 : decode cX6_poseNow 118 = .ok (.sipush 10000, 3) := by decide +kernel
theorem dX6_poseNow_121 : decode cX6_poseNow 121 = .ok (.iadd, 1) := by decide +kernel
theorem dX6_poseNow_122 : decode cX6_poseNow 122 = .ok (.ireturn, 1) := by decide +kernel
theorem dX6_poseNow_123 : decode cX6_poseNow 123 = .ok (.aload_n 0, 1) := by decide +kernel
theorem dX6_poseNow_124 : decode cX6_poseNow 124 = .ok (.iload_n 1, 1) := by decide +kernel
theorem dX6_poseNow_125 : decode cX6_poseNow 125 = .ok (.invokevirtual 134, 3) := by decide +kernel
theorem dX6_poseNow_128 : decode cX6_poseNow 128 = .ok (.ireturn, 1) := by decide +kernel
set_option maxRecDepth 20000 in
theorem ggX6_pose_X6_isPose : GoodIn wsX6_pose wsX6_isPose := goodIn_r _ [5, 6, 7, 4, 8] (by decide +kernel) (by decide +kernel)
set_option maxRecDepth 20000 in
theorem gX6_pose_X6_isPose : GoodIn wsX6_pose (va_wsS RX6 76 yX6_isPose wsX6_isPose) := goodIn_app (goodIn_of _ (by decide +kernel)) ggX6_pose_X6_isPose
set_option maxRecDepth 20000 in
theorem ggX6_pose_X6_in : GoodIn wsX6_pose wsX6_in := goodIn_r _ [8] (by decide +kernel) (by decide +kernel)
set_option maxRecDepth 20000 in
theorem gX6_pose_X6_in : GoodIn wsX6_pose (va_wsS RX6 32 yX6_in wsX6_in) := goodIn_app (goodIn_of _ (by decide +kernel)) ggX6_pose_X6_in
set_option maxRecDepth 20000 in
theorem ggX6_pose_X6_poseNow : GoodIn wsX6_pose wsX6_poseNow := goodIn_r _ [12, 13, 14, 15, 16, 4, 17, 18, 19, 20, 21, 22, 23, 24, 25, 26, 27, 28, 29, 30, 31, 32, 33, 34, 35, 36, 37, 38, 39, 40, 41, 42, 43, 44, 45, 46, 47, 48, 49, 50, 51, 52, 53, 54, 55, 56, 57, 58] (by decide +kernel) (by decide +kernel)
set_option maxRecDepth 20000 in
theorem gX6_pose_X6_poseNow : GoodIn wsX6_pose (wsV RX6 137 RX6 yX6_poseNow wsX6_poseNow) := goodIn_app (goodIn_of _ (by decide +kernel)) ggX6_pose_X6_poseNow
theorem dX6_pose_0 : decode cX6_pose 0 = .ok (.aload_n 0, 1) := by decide +kernel
theorem dX6_pose_1 : decode cX6_pose 1 = .ok (.iload_n 1, 1) := by decide +kernel
theorem dX6_pose_2 : decode cX6_pose 2 = .ok (.invokestatic 76, 3) := by decide +kernel
theorem dX6_pose_5 : decode cX6_pose 5 = .ok (.ifCond .ne 7, 3) := by decide +kernel
theorem dX6_pose_8 : decode cX6_pose 8 = .ok (.iconst 1, 1) := by decide +kernel
theorem dX6_pose_9 : decode cX6_pose 9 = .ok (.goto 18, 3) := by decide +kernel
theorem dX6_pose_12 : decode cX6_pose 12 = .ok (.iload_n 2, 1) := by decide +kernel
theorem dX6_pose_13 : decode cX6_pose 13 = .ok (.iconst 0, 1) := by decide +kernel
theorem dX6_pose_14 : decode cX6_pose 14 = .ok (.bipush 7, 2) := by decide +kernel
theorem dX6_pose_16 : decode cX6_pose 16 = .ok (.invokestatic 32, 3) := by decide +kernel
theorem dX6_pose_19 : decode cX6_pose 19 = .ok (.ifCond .eq 7, 3) := by decide +kernel
theorem dX6_pose_22 : decode cX6_pose 22 = .ok (.iconst 0, 1) := by decide +kernel
theorem dX6_pose_23 : decode cX6_pose 23 = .ok (.goto 4, 3) := by decide +kernel
theorem dX6_pose_26 : decode cX6_pose 26 = .ok (.iconst 2, 1) := by decide +kernel
theorem dX6_pose_27 : decode cX6_pose 27 = .ok (.putfield 28, 3) := by decide +kernel
theorem dX6_pose_30 : decode cX6_pose 30 = .ok (.aload_n 0, 1) := by decide +kernel
theorem dX6_pose_31 : decode cX6_pose 31 = .ok (.getfield 28, 3) := by decide +kernel
theorem dX6_pose_34 : decode cX6_pose 34 = .ok (.ifCond .le 7, 3) := by decide +kernel
theorem dX6_pose_37 : decode cX6_pose 37 = .ok (.iconst 0, 1) := by decide +kernel
theorem dX6_pose_38 : decode cX6_pose 38 = .ok (.goto 9, 3) := by decide +kernel
theorem dX6_pose_41 : decode cX6_pose 41 = .ok (.aload_n 0, 1) := by decide +kernel
theorem dX6_pose_42 : decode cX6_pose 42 = .ok (.iload_n 1, 1) := by decide +kernel
theorem dX6_pose_43 : decode cX6_pose 43 = .ok (.iload_n 2, 1) := by decide +kernel
theorem dX6_pose_44 : decode cX6_pose 44 = .ok (.invokevirtual 137, 3) := by decide +kernel
theorem dX6_pose_47 : decode cX6_pose 47 = .ok (.ireturn, 1) := by decide +kernel
set_option maxRecDepth 20000 in
theorem ggX6_readingNow_X6_of : GoodIn wsX6_readingNow wsX6_of := goodIn_r _ [5, 6, 7, 8, 9, 10, 11, 12, 13, 14, 15, 16, 17] (by decide +kernel) (by decide +kernel)
set_option maxRecDepth 20000 in
theorem gX6_readingNow_X6_of : GoodIn wsX6_readingNow (wsV RX6 128 RX6 yX6_of wsX6_of) := goodIn_app (goodIn_of _ (by decide +kernel)) ggX6_readingNow_X6_of
theorem dX6_readingNow_0 : decode cX6_readingNow 0 = .ok (.aload_n 0, 1) := by decide +kernel
theorem dX6_readingNow_1 : decode cX6_readingNow 1 = .ok (.iload_n 1, 1) := by decide +kernel
theorem dX6_readingNow_2 : decode cX6_readingNow 2 = .ok (.iload_n 2, 1) := by decide +kernel
theorem dX6_readingNow_3 : decode cX6_readingNow 3 = .ok (.invokevirtual 128, 3) := by decide +kernel
theorem dX6_readingNow_6 : decode cX6_readingNow 6 = .ok (.iload_n 2, 1) := by decide +kernel
theorem dX6_readingNow_7 : decode cX6_readingNow 7 = .ok (.iconst 2, 1) := by decide +kernel
theorem dX6_readingNow_8 : decode cX6_readingNow 8 = .ok (.if_icmp .ne 9, 3) := by decide +kernel
theorem dX6_readingNow_11 : decode cX6_readingNow 11 = .ok (.sipush 10000, 3) := by decide +kernel
theorem dX6_readingNow_14 : decode cX6_readingNow 14 = .ok (.goto 4, 3) := by decide +kernel
theorem dX6_readingNow_17 : decode cX6_readingNow 17 = .ok (.iconst 0, 1) := by decide +kernel
theorem dX6_readingNow_18 : decode cX6_readingNow 18 = .ok (.iadd, 1) := by decide +kernel
theorem dX6_readingNow_19 : decode cX6_readingNow 19 = .ok (.ireturn, 1) := by decide +kernel
set_option maxRecDepth 20000 in
theorem ggX6_reading_X6_in : GoodIn wsX6_reading wsX6_in := goodIn_r _ [6] (by decide +kernel) (by decide +kernel)
set_option maxRecDepth 20000 in
theorem gX6_reading_X6_in : GoodIn wsX6_reading (va_wsS RX6 32 yX6_in wsX6_in) := goodIn_app (goodIn_of _ (by decide +kernel)) ggX6_reading_X6_in
set_option maxRecDepth 20000 in
theorem ggX6_reading_X6_readingNow : GoodIn wsX6_reading wsX6_readingNow := goodIn_r _ [10, 11, 12, 13, 5, 14, 2, 15, 16, 17, 18, 19, 20, 21, 22, 23, 24, 25] (by decide +kernel) (by decide +kernel)
set_option maxRecDepth 20000 in
theorem gX6_reading_X6_readingNow : GoodIn wsX6_reading (wsV RX6 140 RX6 yX6_readingNow wsX6_readingNow) := goodIn_app (goodIn_of _ (by decide +kernel)) ggX6_reading_X6_readingNow
theorem dX6_reading_0 : decode cX6_reading 0 = .ok (.aload_n 0, 1) := by decide +kernel
theorem dX6_reading_1 : decode cX6_reading 1 = .ok (.iload_n 1, 1) := by decide +kernel
theorem dX6_reading_2 : decode cX6_reading 2 = .ok (.ifCond .lt 16, 3) := by decide +kernel
theorem dX6_reading_5 : decode cX6_reading 5 = .ok (.iload_n 2, 1) := by decide +kernel
theorem dX6_reading_6 : decode cX6_reading 6 = .ok (.iconst 0, 1) := by decide +kernel
theorem dX6_reading_7 : decode cX6_reading 7 = .ok (.iconst 4, 1) := by decide +kernel
theorem dX6_reading_8 : decode cX6_reading 8 = .ok (.invokestatic 32, 3) := by decide +kernel
theorem dX6_reading_11 : decode cX6_reading 11 = .ok (.ifCond .eq 7, 3) := by decide +kernel
theorem dX6_reading_14 : decode cX6_reading 14 = .ok (.iconst 0, 1) := by decide +kernel
theorem dX6_reading_15 : decode cX6_reading 15 = .ok (.goto 4, 3) := by decide +kernel
theorem dX6_reading_18 : decode cX6_reading 18 = .ok (.iconst 1, 1) := by decide +kernel
theorem dX6_reading_19 : decode cX6_reading 19 = .ok (.putfield 28, 3) := by decide +kernel
theorem dX6_reading_22 : decode cX6_reading 22 = .ok (.aload_n 0, 1) := by decide +kernel
theorem dX6_reading_23 : decode cX6_reading 23 = .ok (.getfield 28, 3) := by decide +kernel
theorem dX6_reading_26 : decode cX6_reading 26 = .ok (.ifCond .le 5, 3) := by decide +kernel
theorem dX6_reading_29 : decode cX6_reading 29 = .ok (.iconst 0, 1) := by decide +kernel
theorem dX6_reading_30 : decode cX6_reading 30 = .ok (.ireturn, 1) := by decide +kernel
theorem dX6_reading_31 : decode cX6_reading 31 = .ok (.iload_n 1, 1) := by decide +kernel
theorem dX6_reading_32 : decode cX6_reading 32 = .ok (.aload_n 0, 1) := by decide +kernel
theorem dX6_reading_33 : decode cX6_reading 33 = .ok (.getfield 7, 3) := by decide +kernel
theorem dX6_reading_36 : decode cX6_reading 36 = .ok (.bipush 10, 2) := by decide +kernel
theorem dX6_reading_38 : decode cX6_reading 38 = .ok (.iaload, 1) := by decide +kernel
theorem dX6_reading_39 : decode cX6_reading 39 = .ok (.if_icmp .ge 12, 3) := by decide +kernel
theorem dX6_reading_42 : decode cX6_reading 42 = .ok (.aload_n 0, 1) := by decide +kernel
theorem dX6_reading_43 : decode cX6_reading 43 = .ok (.iload_n 1, 1) := by decide +kernel
theorem dX6_reading_44 : decode cX6_reading 44 = .ok (.iload_n 2, 1) := by decide +kernel
theorem dX6_reading_45 : decode cX6_reading 45 = .ok (.invokevirtual 140, 3) := by decide +kernel
theorem dX6_reading_48 : decode cX6_reading 48 = .ok (.goto 4, 3) := by decide +kernel
theorem dX6_reading_51 : decode cX6_reading 51 = .ok (.iconst (-1), 1) := by decide +kernel
theorem dX6_reading_52 : decode cX6_reading 52 = .ok (.ireturn, 1) := by decide +kernel
set_option maxRecDepth 20000 in
theorem ggX6_whyNoDay_X6_latest : GoodIn wsX6_whyNoDay wsX6_latest := goodIn_r _ [6, 1, 7, 8, 9, 5, 10, 11, 12, 13, 14, 15, 16, 17, 18, 19, 20, 21] (by decide +kernel) (by decide +kernel)
set_option maxRecDepth 20000 in
theorem gX6_whyNoDay_X6_latest : GoodIn wsX6_whyNoDay (wsV RX6 131 RX6 yX6_latest wsX6_latest) := goodIn_app (goodIn_of _ (by decide +kernel)) ggX6_whyNoDay_X6_latest
set_option maxRecDepth 20000 in
theorem ggX6_whyNoDay_X6_of : GoodIn wsX6_whyNoDay wsX6_of := goodIn_r _ [10, 1, 11, 12, 13, 14, 15, 16, 17, 18, 19, 20, 21] (by decide +kernel) (by decide +kernel)
set_option maxRecDepth 20000 in
theorem gX6_whyNoDay_X6_of : GoodIn wsX6_whyNoDay (wsV RX6 128 RX6 yX6_of wsX6_of) := goodIn_app (goodIn_of _ (by decide +kernel)) ggX6_whyNoDay_X6_of
theorem dX6_whyNoDay_0 : decode cX6_whyNoDay 0 = .ok (.iconst 0, 1) := by decide +kernel
theorem dX6_whyNoDay_1 : decode cX6_whyNoDay 1 = .ok (.istore_n 1, 1) := by decide +kernel
theorem dX6_whyNoDay_2 : decode cX6_whyNoDay 2 = .ok (.iconst 0, 1) := by decide +kernel
theorem dX6_whyNoDay_3 : decode cX6_whyNoDay 3 = .ok (.istore_n 2, 1) := by decide +kernel
theorem dX6_whyNoDay_4 : decode cX6_whyNoDay 4 = .ok (.iconst 0, 1) := by decide +kernel
theorem dX6_whyNoDay_5 : decode cX6_whyNoDay 5 = .ok (.istore_n 3, 1) := by decide +kernel
theorem dX6_whyNoDay_6 : decode cX6_whyNoDay 6 = .ok (.iconst 0, 1) := by decide +kernel
theorem dX6_whyNoDay_7 : decode cX6_whyNoDay 7 = .ok (.istore 4, 2) := by decide +kernel
theorem dX6_whyNoDay_9 : decode cX6_whyNoDay 9 = .ok (.iload 4, 2) := by decide +kernel
theorem dX6_whyNoDay_11 : decode cX6_whyNoDay 11 = .ok (.bipush 6, 2) := by decide +kernel
theorem dX6_whyNoDay_13 : decode cX6_whyNoDay 13 = .ok (.if_icmp .ge 104, 3) := by decide +kernel
theorem dX6_whyNoDay_16 : decode cX6_whyNoDay 16 = .ok (.aload_n 0, 1) := by decide +kernel
theorem dX6_whyNoDay_17 : decode cX6_whyNoDay 17 = .ok (.iload 4, 2) := by decide +kernel
theorem dX6_whyNoDay_19 : decode cX6_whyNoDay 19 = .ok (.invokevirtual 131, 3) := by decide +kernel
theorem dX6_whyNoDay_22 : decode cX6_whyNoDay 22 = .ok (.istore 5, 2) := by decide +kernel
theorem dX6_whyNoDay_24 : decode cX6_whyNoDay 24 = .ok (.iload 5, 2) := by decide +kernel
theorem dX6_whyNoDay_26 : decode cX6_whyNoDay 26 = .ok (.ifCond .ge 6, 3) := by decide +kernel
theorem dX6_whyNoDay_29 : decode cX6_whyNoDay 29 = .ok (.bipush 6, 2) := by decide +kernel
theorem dX6_whyNoDay_31 : decode cX6_whyNoDay 31 = .ok (.ireturn, 1) := by decide +kernel
theorem dX6_whyNoDay_32 : decode cX6_whyNoDay 32 = .ok (.aload_n 0, 1) := by decide +kernel
theorem dX6_whyNoDay_33 : decode cX6_whyNoDay 33 = .ok (.iload 5, 2) := by decide +kernel
theorem dX6_whyNoDay_35 : decode cX6_whyNoDay 35 = .ok (.iconst 2, 1) := by decide +kernel
theorem dX6_whyNoDay_36 : decode cX6_whyNoDay 36 = .ok (.invokevirtual 128, 3) := by decide +kernel
theorem dX6_whyNoDay_39 : decode cX6_whyNoDay 39 = .ok (.istore 6, 2) := by decide +kernel
theorem dX6_whyNoDay_41 : decode cX6_whyNoDay 41 = .ok (.iload_n 1, 1) := by decide +kernel
theorem dX6_whyNoDay_42 : decode cX6_whyNoDay 42 = .ok (.ifCond .ne 27, 3) := by decide +kernel
theorem dX6_whyNoDay_45 : decode cX6_whyNoDay 45 = .ok (.aload_n 0, 1) := by decide +kernel
theorem dX6_whyNoDay_46 : decode cX6_whyNoDay 46 = .ok (.getfield 7, 3) := by decide +kernel
theorem dX6_whyNoDay_49 : decode cX6_whyNoDay 49 = .ok (.iconst 0, 1) := by decide +kernel
theorem dX6_whyNoDay_50 : decode cX6_whyNoDay 50 = .ok (.iaload, 1) := by decide +kernel
theorem dX6_whyNoDay_51 : decode cX6_whyNoDay 51 = .ok (.aload_n 0, 1) := by decide +kernel
theorem dX6_whyNoDay_52 : decode cX6_whyNoDay 52 = .ok (.iload 5, 2) := by decide +kernel
theorem dX6_whyNoDay_54 : decode cX6_whyNoDay 54 = .ok (.iconst 0, 1) := by decide +kernel
theorem dX6_whyNoDay_55 : decode cX6_whyNoDay 55 = .ok (.invokevirtual 128, 3) := by decide +kernel
theorem dX6_whyNoDay_58 : decode cX6_whyNoDay 58 = .ok (.isub, 1) := by decide +kernel
theorem dX6_whyNoDay_59 : decode cX6_whyNoDay 59 = .ok (.aload_n 0, 1) := by decide +kernel
theorem dX6_whyNoDay_60 : decode cX6_whyNoDay 60 = .ok (.getfield 7, 3) := by decide +kernel
theorem dX6_whyNoDay_63 : decode cX6_whyNoDay 63 = .ok (.bipush 14, 2) := by decide +kernel
theorem dX6_whyNoDay_65 : decode cX6_whyNoDay 65 = .ok (.iaload, 1) := by decide +kernel
theorem dX6_whyNoDay_66 : decode cX6_whyNoDay 66 = .ok (.if_icmp .le 7, 3) := by decide +kernel
theorem dX6_whyNoDay_69 : decode cX6_whyNoDay 69 = .ok (.iconst 1, 1) := by decide +kernel
theorem dX6_whyNoDay_70 : decode cX6_whyNoDay 70 = .ok (.goto 4, 3) := by decide +kernel
theorem dX6_whyNoDay_73 : decode cX6_whyNoDay 73 = .ok (.iconst 0, 1) := by decide +kernel
theorem dX6_whyNoDay_74 : decode cX6_whyNoDay 74 = .ok (.istore_n 1, 1) := by decide +kernel
theorem dX6_whyNoDay_75 : decode cX6_whyNoDay 75 = .ok (.iload 4, 2) := by decide +kernel
theorem dX6_whyNoDay_77 : decode cX6_whyNoDay 77 = .ok (.ifCond .eq 9, 3) := by decide +kernel
theorem dX6_whyNoDay_80 : decode cX6_whyNoDay 80 = .ok (.iload 6, 2) := by decide +kernel
theorem dX6_whyNoDay_82 : decode cX6_whyNoDay 82 = .ok (.iload_n 2, 1) := by decide +kernel
theorem dX6_whyNoDay_83 : decode cX6_whyNoDay 83 = .ok (.if_icmp .ge 8, 3) := by decide +kernel
theorem dX6_whyNoDay_86 : decode cX6_whyNoDay 86 = .ok (.iload 6, 2) := by decide +kernel
theorem dX6_whyNoDay_88 : decode cX6_whyNoDay 88 = .ok (.goto 4, 3) := by decide +kernel
theorem dX6_whyNoDay_91 : decode cX6_whyNoDay 91 = .ok (.iload_n 2, 1) := by decide +kernel
theorem dX6_whyNoDay_92 : decode cX6_whyNoDay 92 = .ok (.istore_n 2, 1) := by decide +kernel
theorem dX6_whyNoDay_93 : decode cX6_whyNoDay 93 = .ok (.iload 4, 2) := by decide +kernel
theorem dX6_whyNoDay_95 : decode cX6_whyNoDay 95 = .ok (.ifCond .eq 9, 3) := by decide +kernel
theorem dX6_whyNoDay_98 : decode cX6_whyNoDay 98 = .ok (.iload 6, 2) := by decide +kernel
theorem dX6_whyNoDay_100 : decode cX6_whyNoDay 100 = .ok (.iload_n 3, 1) := by decide +kernel
theorem dX6_whyNoDay_101 : decode cX6_whyNoDay 101 = .ok (.if_icmp .le 8, 3) := by decide +kernel
theorem dX6_whyNoDay_104 : decode cX6_whyNoDay 104 = .ok (.iload 6, 2) := by decide +kernel
theorem dX6_whyNoDay_106 : decode cX6_whyNoDay 106 = .ok (.goto 4, 3) := by decide +kernel
theorem dX6_whyNoDay_109 : decode cX6_whyNoDay 109 = .ok (.iload_n 3, 1) := by decide +kernel
theorem dX6_whyNoDay_110 : decode cX6_whyNoDay 110 = .ok (.istore_n 3, 1) := by decide +kernel
theorem dX6_whyNoDay_111 : decode cX6_whyNoDay 111 = .ok (.iinc 4 1, 3) := by decide +kernel
theorem dX6_whyNoDay_114 : decode cX6_whyNoDay 114 = .ok (.goto (-105), 3) := by decide +kernel
theorem dX6_whyNoDay_117 : decode cX6_whyNoDay 117 = .ok (.iload_n 1, 1) := by decide +kernel
theorem dX6_whyNoDay_118 : decode cX6_whyNoDay 118 = .ok (.ifCond .eq 8, 3) := by decide +kernel
theorem dX6_whyNoDay_121 : decode cX6_whyNoDay 121 = .ok (.bipush 7, 2) := by decide +kernel
theorem dX6_whyNoDay_123 : decode cX6_whyNoDay 123 = .ok (.goto 22, 3) := by decide +kernel
theorem dX6_whyNoDay_126 : decode cX6_whyNoDay 126 = .ok (.iload_n 3, 1) := by decide +kernel
theorem dX6_whyNoDay_127 : decode cX6_whyNoDay 127 = .ok (.iload_n 2, 1) := by decide +kernel
theorem dX6_whyNoDay_128 : decode cX6_whyNoDay 128 = .ok (.isub, 1) := by decide +kernel
theorem dX6_whyNoDay_129 : decode cX6_whyNoDay 129 = .ok (.aload_n 0, 1) := by decide +kernel
theorem dX6_whyNoDay_130 : decode cX6_whyNoDay 130 = .ok (.getfield 7, 3) := by decide +kernel
theorem dX6_whyNoDay_133 : decode cX6_whyNoDay 133 = .ok (.bipush 15, 2) := by decide +kernel
theorem dX6_whyNoDay_135 : decode cX6_whyNoDay 135 = .ok (.iaload, 1) := by decide +kernel
theorem dX6_whyNoDay_136 : decode cX6_whyNoDay 136 = .ok (.if_icmp .le 8, 3) := by decide +kernel
theorem dX6_whyNoDay_139 : decode cX6_whyNoDay 139 = .ok (.bipush 8, 2) := by decide +kernel
theorem dX6_whyNoDay_141 : decode cX6_whyNoDay 141 = .ok (.goto 4, 3) := by decide +kernel
theorem dX6_whyNoDay_144 : decode cX6_whyNoDay 144 = .ok (.iconst 0, 1) := by decide +kernel
theorem dX6_whyNoDay_145 : decode cX6_whyNoDay 145 = .ok (.ireturn, 1) := by decide +kernel
set_option maxRecDepth 20000 in
theorem ggX6_daysRate_X6_whyNoDay : GoodIn wsX6_daysRate wsX6_whyNoDay := goodIn_r _ [5, 6, 7, 8, 9, 4, 10, 11, 12, 13, 14, 18, 19, 20, 21, 22, 23, 24, 25, 26, 27, 28] (by decide +kernel) (by decide +kernel)
set_option maxRecDepth 20000 in
theorem gX6_daysRate_X6_whyNoDay : GoodIn wsX6_daysRate (wsV RX6 143 RX6 yX6_whyNoDay wsX6_whyNoDay) := goodIn_app (goodIn_of _ (by decide +kernel)) ggX6_daysRate_X6_whyNoDay
set_option maxRecDepth 20000 in
theorem ggX6_daysRate_X6_latest : GoodIn wsX6_daysRate wsX6_latest := goodIn_r _ [10, 6, 11, 12, 13, 4, 14, 18, 19, 20, 21, 22, 23, 24, 25, 26, 27, 28] (by decide +kernel) (by decide +kernel)
set_option maxRecDepth 20000 in
theorem gX6_daysRate_X6_latest : GoodIn wsX6_daysRate (wsV RX6 131 RX6 yX6_latest wsX6_latest) := goodIn_app (goodIn_of _ (by decide +kernel)) ggX6_daysRate_X6_latest
set_option maxRecDepth 20000 in
theorem ggX6_daysRate_X6_of : GoodIn wsX6_daysRate wsX6_of := goodIn_r _ [14, 6, 18, 19, 20, 21, 22, 23, 24, 25, 26, 27, 28] (by decide +kernel) (by decide +kernel)
set_option maxRecDepth 20000 in
theorem gX6_daysRate_X6_of : GoodIn wsX6_daysRate (wsV RX6 128 RX6 yX6_of wsX6_of) := goodIn_app (goodIn_of _ (by decide +kernel)) ggX6_daysRate_X6_of
set_option maxRecDepth 20000 in
theorem ggX6_daysRate_X6_divided : GoodIn wsX6_daysRate wsX6_divided := goodIn_r _ [17] (by decide +kernel) (by decide +kernel)
set_option maxRecDepth 20000 in
theorem gX6_daysRate_X6_divided : GoodIn wsX6_daysRate (va_wsS RX6 50 yX6_divided wsX6_divided) := goodIn_app (goodIn_of _ (by decide +kernel)) ggX6_daysRate_X6_divided
theorem dX6_daysRate_0 : decode cX6_daysRate 0 = .ok (.aload_n 0, 1) := by decide +kernel
theorem dX6_daysRate_1 : decode cX6_daysRate 1 = .ok (.invokevirtual 143, 3) := by decide +kernel
theorem dX6_daysRate_4 : decode cX6_daysRate 4 = .ok (.ifCond .le 5, 3) := by decide +kernel
theorem dX6_daysRate_7 : decode cX6_daysRate 7 = .ok (.iconst (-1), 1) := by decide +kernel
theorem dX6_daysRate_8 : decode cX6_daysRate 8 = .ok (.ireturn, 1) := by decide +kernel
theorem dX6_daysRate_9 : decode cX6_daysRate 9 = .ok (.iconst 0, 1) := by decide +kernel
theorem dX6_daysRate_10 : decode cX6_daysRate 10 = .ok (.istore_n 1, 1) := by decide +kernel
theorem dX6_daysRate_11 : decode cX6_daysRate 11 = .ok (.iconst 0, 1) := by decide +kernel
theorem dX6_daysRate_12 : decode cX6_daysRate 12 = .ok (.istore_n 2, 1) := by decide +kernel
theorem dX6_daysRate_13 : decode cX6_daysRate 13 = .ok (.iload_n 2, 1) := by decide +kernel
theorem dX6_daysRate_14 : decode cX6_daysRate 14 = .ok (.bipush 6, 2) := by decide +kernel
theorem dX6_daysRate_16 : decode cX6_daysRate 16 = .ok (.if_icmp .ge 22, 3) := by decide +kernel
theorem dX6_daysRate_19 : decode cX6_daysRate 19 = .ok (.iload_n 1, 1) := by decide +kernel
theorem dX6_daysRate_20 : decode cX6_daysRate 20 = .ok (.aload_n 0, 1) := by decide +kernel
theorem dX6_daysRate_21 : decode cX6_daysRate 21 = .ok (.aload_n 0, 1) := by decide +kernel
theorem dX6_daysRate_22 : decode cX6_daysRate 22 = .ok (.iload_n 2, 1) := by decide +kernel
theorem dX6_daysRate_23 : decode cX6_daysRate 23 = .ok (.invokevirtual 131, 3) := by decide +kernel
theorem dX6_daysRate_26 : decode cX6_daysRate 26 = .ok (.iconst 2, 1) := by decide +kernel
theorem dX6_daysRate_27 : decode cX6_daysRate 27 = .ok (.invokevirtual 128, 3) := by decide +kernel
theorem dX6_daysRate_30 : decode cX6_daysRate 30 = .ok (.iadd, 1) := by decide +kernel
theorem dX6_daysRate_31 : decode cX6_daysRate 31 = .ok (.istore_n 1, 1) := by decide +kernel
theorem dX6_daysRate_32 : decode cX6_daysRate 32 = .ok (.iinc 2 1, 3) := by decide +kernel
theorem dX6_daysRate_35 : decode cX6_daysRate 35 = .ok (.goto (-22), 3) := by decide +kernel
theorem dX6_daysRate_38 : decode cX6_daysRate 38 = .ok (.iload_n 1, 1) := by decide +kernel
theorem dX6_daysRate_39 : decode cX6_daysRate 39 = .ok (.bipush 6, 2) := by decide +kernel
theorem dX6_daysRate_41 : decode cX6_daysRate 41 = .ok (.invokestatic 50, 3) := by decide +kernel
theorem dX6_daysRate_44 : decode cX6_daysRate 44 = .ok (.sipush 10000, 3) := by decide +kernel
theorem dX6_daysRate_47 : decode cX6_daysRate 47 = .ok (.iadd, 1) := by decide +kernel
theorem dX6_daysRate_48 : decode cX6_daysRate 48 = .ok (.ireturn, 1) := by decide +kernel
set_option maxRecDepth 20000 in
theorem ggX6_countNow_X6_in : GoodIn wsX6_countNow wsX6_in := goodIn_r _ [7] (by decide +kernel) (by decide +kernel)
set_option maxRecDepth 20000 in
theorem gX6_countNow_X6_in : GoodIn wsX6_countNow (va_wsS RX6 32 yX6_in wsX6_in) := goodIn_app (goodIn_of _ (by decide +kernel)) ggX6_countNow_X6_in
set_option maxRecDepth 20000 in
theorem ggX6_countNow_X6_goes : GoodIn wsX6_countNow wsX6_goes := goodIn_r _ [11, 1, 12, 13, 14, 6, 15, 35, 36, 37, 38, 39, 40, 41, 42, 43, 44, 45] (by decide +kernel) (by decide +kernel)
set_option maxRecDepth 20000 in
theorem gX6_countNow_X6_goes : GoodIn wsX6_countNow (wsV RX6 60 RX6 yX6_goes wsX6_goes) := goodIn_app (goodIn_of _ (by decide +kernel)) ggX6_countNow_X6_goes
set_option maxRecDepth 20000 in
theorem ggX6_countNow_X6_daysRate : GoodIn wsX6_countNow wsX6_daysRate := goodIn_r _ [19, 20, 21, 22, 6, 23, 1, 24, 25, 26, 27, 28, 29, 30, 31, 32, 33, 34, 35, 36, 37, 38, 39, 40, 41, 42, 43, 44, 45] (by decide +kernel) (by decide +kernel)
set_option maxRecDepth 20000 in
theorem gX6_countNow_X6_daysRate : GoodIn wsX6_countNow (wsV RX6 147 RX6 yX6_daysRate wsX6_daysRate) := goodIn_app (goodIn_of _ (by decide +kernel)) ggX6_countNow_X6_daysRate
set_option maxRecDepth 20000 in
theorem ggX6_countNow_X6_whyNoDay : GoodIn wsX6_countNow wsX6_whyNoDay := goodIn_r _ [23, 1, 24, 25, 26, 6, 27, 28, 29, 30, 31, 35, 36, 37, 38, 39, 40, 41, 42, 43, 44, 45] (by decide +kernel) (by decide +kernel)
set_option maxRecDepth 20000 in
theorem gX6_countNow_X6_whyNoDay : GoodIn wsX6_countNow (wsV RX6 143 RX6 yX6_whyNoDay wsX6_whyNoDay) := goodIn_app (goodIn_of _ (by decide +kernel)) ggX6_countNow_X6_whyNoDay
theorem dX6_countNow_0 : decode cX6_countNow 0 = .ok (.iload_n 1, 1) := by decide +kernel
theorem dX6_countNow_1 : decode cX6_countNow 1 = .ok (.bipush 16, 2) := by decide +kernel
theorem dX6_countNow_3 : decode cX6_countNow 3 = .ok (.bipush 19, 2) := by decide +kernel
theorem dX6_countNow_5 : decode cX6_countNow 5 = .ok (.invokestatic 32, 3) := by decide +kernel
theorem dX6_countNow_8 : decode cX6_countNow 8 = .ok (.ifCond .eq 16, 3) := by decide +kernel
theorem dX6_countNow_11 : decode cX6_countNow 11 = .ok (.aload_n 0, 1) := by decide +kernel
theorem dX6_countNow_12 : decode cX6_countNow 12 = .ok (.getfield 7, 3) := by decide +kernel
theorem dX6_countNow_15 : decode cX6_countNow 15 = .ok (.bipush 12, 2) := by decide +kernel
theorem dX6_countNow_17 : decode cX6_countNow 17 = .ok (.iload_n 1, 1) := by decide +kernel
theorem dX6_countNow_18 : decode cX6_countNow 18 = .ok (.iadd, 1) := by decide +kernel
theorem dX6_countNow_19 : decode cX6_countNow 19 = .ok (.bipush 16, 2) := by decide +kernel
theorem dX6_countNow_21 : decode cX6_countNow 21 = .ok (.isub, 1) := by decide +kernel
theorem dX6_countNow_22 : decode cX6_countNow 22 = .ok (.iaload, 1) := by decide +kernel
theorem dX6_countNow_23 : decode cX6_countNow 23 = .ok (.ireturn, 1) := by decide +kernel
theorem dX6_countNow_24 : decode cX6_countNow 24 = .ok (.iload_n 1, 1) := by decide +kernel
theorem dX6_countNow_25 : decode cX6_countNow 25 = .ok (.tableswitch 153 0 15 #[79, 79, 86, 86, 79, 79, 79, 96, 116, 127, 79, 79, 135, 135, 140, 145], 79) := by decide +kernel
theorem dX6_countNow_104 : decode cX6_countNow 104 = .ok (.aload_n 0, 1) := by decide +kernel
theorem dX6_countNow_105 : decode cX6_countNow 105 = .ok (.getfield 7, 3) := by decide +kernel
theorem dX6_countNow_108 : decode cX6_countNow 108 = .ok (.iload_n 1, 1) := by decide +kernel
theorem dX6_countNow_109 : decode cX6_countNow 109 = .ok (.iaload, 1) := by decide +kernel
theorem dX6_countNow_110 : decode cX6_countNow 110 = .ok (.ireturn, 1) := by decide +kernel
theorem dX6_countNow_111 : decode cX6_countNow 111 = .ok (.aload_n 0, 1) := by decide +kernel
theorem dX6_countNow_112 : decode cX6_countNow 112 = .ok (.getfield 7, 3) := by decide +kernel
theorem dX6_countNow_115 : decode cX6_countNow 115 = .ok (.iload_n 1, 1) := by decide +kernel
theorem dX6_countNow_116 : decode cX6_countNow 116 = .ok (.iaload, 1) := by decide +kernel
theorem dX6_countNow_117 : decode cX6_countNow 117 = .ok (.bipush 100, 2) := by decide +kernel
theorem dX6_countNow_119 : decode cX6_countNow 119 = .ok (.iadd, 1) := by decide +kernel
theorem dX6_countNow_120 : decode cX6_countNow 120 = .ok (.ireturn, 1) := by decide +kernel
theorem dX6_countNow_121 : decode cX6_countNow 121 = .ok (.aload_n 0, 1) := by decide +kernel
theorem dX6_countNow_122 : decode cX6_countNow 122 = .ok (.aload_n 0, 1) := by decide +kernel
theorem dX6_countNow_123 : decode cX6_countNow 123 = .ok (.getfield 7, 3) := by decide +kernel
theorem dX6_countNow_126 : decode cX6_countNow 126 = .ok (.bipush 6, 2) := by decide +kernel
theorem dX6_countNow_128 : decode cX6_countNow 128 = .ok (.iaload, 1) := by decide +kernel
theorem dX6_countNow_129 : decode cX6_countNow 129 = .ok (.invokevirtual 60, 3) := by decide +kernel
theorem dX6_countNow_132 : decode cX6_countNow 132 = .ok (.ifCond .eq 7, 3) := by decide +kernel
theorem dX6_countNow_135 : decode cX6_countNow 135 = .ok (.iconst 1, 1) := by decide +kernel
theorem dX6_countNow_136 : decode cX6_countNow 136 = .ok (.goto 4, 3) := by decide +kernel
theorem dX6_countNow_139 : decode cX6_countNow 139 = .ok (.iconst 0, 1) := by decide +kernel
theorem dX6_countNow_140 : decode cX6_countNow 140 = .ok (.ireturn, 1) := by decide +kernel
theorem dX6_countNow_141 : decode cX6_countNow 141 = .ok (.aload_n 0, 1) := by decide +kernel
theorem dX6_countNow_142 : decode cX6_countNow 142 = .ok (.getfield 7, 3) := by decide +kernel
theorem dX6_countNow_145 : decode cX6_countNow 145 = .ok (.bipush 7, 2) := by decide +kernel
theorem dX6_countNow_147 : decode cX6_countNow 147 = .ok (.iaload, 1) := by decide +kernel
theorem dX6_countNow_148 : decode cX6_countNow 148 = .ok (.ldc 146, 2) := by decide +kernel
theorem dX6_countNow_150 : decode cX6_countNow 150 = .ok (.iadd, 1) := by decide +kernel
theorem dX6_countNow_151 : decode cX6_countNow 151 = .ok (.ireturn, 1) := by decide +kernel
theorem dX6_countNow_152 : decode cX6_countNow 152 = .ok (.aload_n 0, 1) := by decide +kernel
theorem dX6_countNow_153 : decode cX6_countNow 153 = .ok (.getfield 7, 3) := by decide +kernel
theorem dX6_countNow_156 : decode cX6_countNow 156 = .ok (.bipush 8, 2) := by decide +kernel
theorem dX6_countNow_158 : decode cX6_countNow 158 = .ok (.iaload, 1) := by decide +kernel
theorem dX6_countNow_159 : decode cX6_countNow 159 = .ok (.ireturn, 1) := by decide +kernel
theorem dX6_countNow_160 : decode cX6_countNow 160 = .ok (.aload_n 0, 1) := by decide +kernel
theorem dX6_countNow_161 : decode cX6_countNow 161 = .ok (.invokevirtual 147, 3) := by decide +kernel
theorem dX6_countNow_164 : decode cX6_countNow 164 = .ok (.ireturn, 1) := by decide +kernel
theorem dX6_countNow_165 : decode cX6_countNow 165 = .ok (.aload_n 0, 1) := by decide +kernel
theorem dX6_countNow_166 : decode cX6_countNow 166 = .ok (.invokevirtual 143, 3) := by decide +kernel
theorem dX6_countNow_169 : decode cX6_countNow 169 = .ok (.ireturn, 1) := by decide +kernel
theorem dX6_countNow_170 : decode cX6_countNow 170 = .ok (.aload_n 0, 1) := by decide +kernel
theorem dX6_countNow_171 : decode cX6_countNow 171 = .ok (.getfield 7, 3) := by decide +kernel
theorem dX6_countNow_174 : decode cX6_countNow 174 = .ok (.bipush 9, 2) := by decide +kernel
theorem dX6_countNow_176 : decode cX6_countNow 176 = .ok (.iaload, 1) := by decide +kernel
theorem dX6_countNow_177 : decode cX6_countNow 177 = .ok (.ireturn, 1) := by decide +kernel
theorem dX6_countNow_178 : decode cX6_countNow 178 = .ok (.aload_n 0, 1) := by decide +kernel
theorem dX6_countNow_179 : decode cX6_countNow 179 = .ok (.getfield 36, 3) := by decide +kernel
theorem dX6_countNow_182 : decode cX6_countNow 182 = .ok (.ireturn, 1) := by decide +kernel
set_option maxRecDepth 20000 in
theorem ggX6_count_X6_in : GoodIn wsX6_count wsX6_in := goodIn_r _ [5] (by decide +kernel) (by decide +kernel)
set_option maxRecDepth 20000 in
theorem gX6_count_X6_in : GoodIn wsX6_count (va_wsS RX6 32 yX6_in wsX6_in) := goodIn_app (goodIn_of _ (by decide +kernel)) ggX6_count_X6_in
set_option maxRecDepth 20000 in
theorem ggX6_count_X6_countNow : GoodIn wsX6_count wsX6_countNow := goodIn_r _ [9, 10, 11, 12, 2, 3, 4, 5, 13, 14, 15, 16, 17, 18, 19, 20, 21, 22, 23, 24, 25, 26, 27, 28, 29, 30, 31, 32, 33, 34, 35, 36, 37, 38, 39, 40, 41, 42, 43, 44, 45, 46, 47, 48, 49, 50] (by decide +kernel) (by decide +kernel)
set_option maxRecDepth 20000 in
theorem gX6_count_X6_countNow : GoodIn wsX6_count (wsV RX6 150 RX6 yX6_countNow wsX6_countNow) := goodIn_app (goodIn_of _ (by decide +kernel)) ggX6_count_X6_countNow
theorem dX6_count_0 : decode cX6_count 0 = .ok (.aload_n 0, 1) := by decide +kernel
theorem dX6_count_1 : decode cX6_count 1 = .ok (.iload_n 1, 1) := by decide +kernel
theorem dX6_count_2 : decode cX6_count 2 = .ok (.iconst 0, 1) := by decide +kernel
theorem dX6_count_3 : decode cX6_count 3 = .ok (.bipush 20, 2) := by decide +kernel
theorem dX6_count_5 : decode cX6_count 5 = .ok (.invokestatic 32, 3) := by decide +kernel
theorem dX6_count_8 : decode cX6_count 8 = .ok (.ifCond .eq 7, 3) := by decide +kernel
theorem dX6_count_11 : decode cX6_count 11 = .ok (.iconst 0, 1) := by decide +kernel
theorem dX6_count_12 : decode cX6_count 12 = .ok (.goto 4, 3) := by decide +kernel
theorem dX6_count_15 : decode cX6_count 15 = .ok (.iconst 1, 1) := by decide +kernel
theorem dX6_count_16 : decode cX6_count 16 = .ok (.putfield 28, 3) := by decide +kernel
theorem dX6_count_19 : decode cX6_count 19 = .ok (.aload_n 0, 1) := by decide +kernel
theorem dX6_count_20 : decode cX6_count 20 = .ok (.getfield 28, 3) := by decide +kernel
theorem dX6_count_23 : decode cX6_count 23 = .ok (.ifCond .le 7, 3) := by decide +kernel
theorem dX6_count_26 : decode cX6_count 26 = .ok (.iconst 0, 1) := by decide +kernel
theorem dX6_count_27 : decode cX6_count 27 = .ok (.goto 8, 3) := by decide +kernel
theorem dX6_count_30 : decode cX6_count 30 = .ok (.aload_n 0, 1) := by decide +kernel
theorem dX6_count_31 : decode cX6_count 31 = .ok (.iload_n 1, 1) := by decide +kernel
theorem dX6_count_32 : decode cX6_count 32 = .ok (.invokevirtual 150, 3) := by decide +kernel
theorem dX6_count_35 : decode cX6_count 35 = .ok (.ireturn, 1) := by decide +kernel
set_option maxRecDepth 20000 in
theorem ggX6_worn_X6_putAside : GoodIn wsX6_worn wsX6_putAside := goodIn_r _ [8, 2, 1, 39, 40, 41, 42, 43, 44, 45, 46, 47, 48, 49] (by decide +kernel) (by decide +kernel)
set_option maxRecDepth 20000 in
theorem gX6_worn_X6_putAside : GoodIn wsX6_worn (wsV RX6 153 RX6 yX6_putAside wsX6_putAside) := goodIn_app (goodIn_of _ (by decide +kernel)) ggX6_worn_X6_putAside
set_option maxRecDepth 20000 in
theorem ggX6_worn_X6_hours : GoodIn wsX6_worn wsX6_hours := goodIn_r _ [12, 1, 13, 14, 15, 7, 16, 17, 18, 19, 20, 21, 22, 23, 24, 25, 26, 27, 28, 29, 30, 31, 32, 33, 34, 39, 40, 41, 42, 43, 44, 45, 46, 47, 48, 49] (by decide +kernel) (by decide +kernel)
set_option maxRecDepth 20000 in
theorem gX6_worn_X6_hours : GoodIn wsX6_worn (wsV RX6 82 RX6 yX6_hours wsX6_hours) := goodIn_app (goodIn_of _ (by decide +kernel)) ggX6_worn_X6_hours
set_option maxRecDepth 20000 in
theorem ggX6_worn_X6_putBack : GoodIn wsX6_worn wsX6_putBack := goodIn_r _ [38, 1, 2, 39, 40, 41, 42, 43, 44, 45, 46, 47, 48, 49] (by decide +kernel) (by decide +kernel)
set_option maxRecDepth 20000 in
theorem gX6_worn_X6_putBack : GoodIn wsX6_worn (wsV RX6 156 RX6 yX6_putBack wsX6_putBack) := goodIn_app (goodIn_of _ (by decide +kernel)) ggX6_worn_X6_putBack
theorem dX6_worn_0 : decode cX6_worn 0 = .ok (.aload_n 0, 1) := by decide +kernel
theorem dX6_worn_1 : decode cX6_worn 1 = .ok (.invokevirtual 153, 3) := by decide +kernel
theorem dX6_worn_4 : decode cX6_worn 4 = .ok (.aload_n 0, 1) := by decide +kernel
theorem dX6_worn_5 : decode cX6_worn 5 = .ok (.getfield 7, 3) := by decide +kernel
theorem dX6_worn_8 : decode cX6_worn 8 = .ok (.bipush 6, 2) := by decide +kernel
theorem dX6_worn_10 : decode cX6_worn 10 = .ok (.iload_n 1, 1) := by decide +kernel
theorem dX6_worn_11 : decode cX6_worn 11 = .ok (.iastore, 1) := by decide +kernel
theorem dX6_worn_12 : decode cX6_worn 12 = .ok (.aload_n 0, 1) := by decide +kernel
theorem dX6_worn_13 : decode cX6_worn 13 = .ok (.bipush 8, 2) := by decide +kernel
theorem dX6_worn_15 : decode cX6_worn 15 = .ok (.invokevirtual 82, 3) := by decide +kernel
theorem dX6_worn_18 : decode cX6_worn 18 = .ok (.istore 5, 2) := by decide +kernel
theorem dX6_worn_20 : decode cX6_worn 20 = .ok (.aload_n 0, 1) := by decide +kernel
theorem dX6_worn_21 : decode cX6_worn 21 = .ok (.getfield 7, 3) := by decide +kernel
theorem dX6_worn_24 : decode cX6_worn 24 = .ok (.bipush 6, 2) := by decide +kernel
theorem dX6_worn_26 : decode cX6_worn 26 = .ok (.iload_n 2, 1) := by decide +kernel
theorem dX6_worn_27 : decode cX6_worn 27 = .ok (.iastore, 1) := by decide +kernel
theorem dX6_worn_28 : decode cX6_worn 28 = .ok (.iload 5, 2) := by decide +kernel
theorem dX6_worn_30 : decode cX6_worn 30 = .ok (.aload_n 0, 1) := by decide +kernel
theorem dX6_worn_31 : decode cX6_worn 31 = .ok (.bipush 8, 2) := by decide +kernel
theorem dX6_worn_33 : decode cX6_worn 33 = .ok (.invokevirtual 82, 3) := by decide +kernel
theorem dX6_worn_36 : decode cX6_worn 36 = .ok (.iadd, 1) := by decide +kernel
theorem dX6_worn_37 : decode cX6_worn 37 = .ok (.istore 5, 2) := by decide +kernel
theorem dX6_worn_39 : decode cX6_worn 39 = .ok (.aload_n 0, 1) := by decide +kernel
theorem dX6_worn_40 : decode cX6_worn 40 = .ok (.getfield 7, 3) := by decide +kernel
theorem dX6_worn_43 : decode cX6_worn 43 = .ok (.bipush 6, 2) := by decide +kernel
theorem dX6_worn_45 : decode cX6_worn 45 = .ok (.iload_n 3, 1) := by decide +kernel
theorem dX6_worn_46 : decode cX6_worn 46 = .ok (.iastore, 1) := by decide +kernel
theorem dX6_worn_47 : decode cX6_worn 47 = .ok (.iload 5, 2) := by decide +kernel
theorem dX6_worn_49 : decode cX6_worn 49 = .ok (.aload_n 0, 1) := by decide +kernel
theorem dX6_worn_50 : decode cX6_worn 50 = .ok (.bipush 8, 2) := by decide +kernel
theorem dX6_worn_52 : decode cX6_worn 52 = .ok (.invokevirtual 82, 3) := by decide +kernel
theorem dX6_worn_55 : decode cX6_worn 55 = .ok (.iadd, 1) := by decide +kernel
theorem dX6_worn_56 : decode cX6_worn 56 = .ok (.istore 5, 2) := by decide +kernel
theorem dX6_worn_58 : decode cX6_worn 58 = .ok (.aload_n 0, 1) := by decide +kernel
theorem dX6_worn_59 : decode cX6_worn 59 = .ok (.getfield 7, 3) := by decide +kernel
theorem dX6_worn_62 : decode cX6_worn 62 = .ok (.bipush 7, 2) := by decide +kernel
theorem dX6_worn_64 : decode cX6_worn 64 = .ok (.iaload, 1) := by decide +kernel
theorem dX6_worn_65 : decode cX6_worn 65 = .ok (.aload_n 0, 1) := by decide +kernel
theorem dX6_worn_66 : decode cX6_worn 66 = .ok (.getfield 13, 3) := by decide +kernel
theorem dX6_worn_69 : decode cX6_worn 69 = .ok (.bipush 7, 2) := by decide +kernel
theorem dX6_worn_71 : decode cX6_worn 71 = .ok (.iaload, 1) := by decide +kernel
theorem dX6_worn_72 : decode cX6_worn 72 = .ok (.isub, 1) := by decide +kernel
theorem dX6_worn_73 : decode cX6_worn 73 = .ok (.istore 6, 2) := by decide +kernel
theorem dX6_worn_75 : decode cX6_worn 75 = .ok (.aload_n 0, 1) := by decide +kernel
theorem dX6_worn_76 : decode cX6_worn 76 = .ok (.invokevirtual 156, 3) := by decide +kernel
theorem dX6_worn_79 : decode cX6_worn 79 = .ok (.iload 4, 2) := by decide +kernel
theorem dX6_worn_81 : decode cX6_worn 81 = .ok (.ifCond .ne 11, 3) := by decide +kernel
theorem dX6_worn_84 : decode cX6_worn 84 = .ok (.iload 6, 2) := by decide +kernel
theorem dX6_worn_86 : decode cX6_worn 86 = .ok (.ldc 159, 2) := by decide +kernel
theorem dX6_worn_88 : decode cX6_worn 88 = .ok (.iadd, 1) := by decide +kernel
theorem dX6_worn_89 : decode cX6_worn 89 = .ok (.goto 5, 3) := by decide +kernel
theorem dX6_worn_92 : decode cX6_worn 92 = .ok (.iload 5, 2) := by decide +kernel
theorem dX6_worn_94 : decode cX6_worn 94 = .ok (.ireturn, 1) := by decide +kernel
set_option maxRecDepth 20000 in
theorem ggX6_ifWorn_X6_isPose : GoodIn wsX6_ifWorn wsX6_isPose := goodIn_r _ [5, 6, 7, 4, 8] (by decide +kernel) (by decide +kernel)
set_option maxRecDepth 20000 in
theorem gX6_ifWorn_X6_isPose : GoodIn wsX6_ifWorn (va_wsS RX6 76 yX6_isPose wsX6_isPose) := goodIn_app (goodIn_of _ (by decide +kernel)) ggX6_ifWorn_X6_isPose
set_option maxRecDepth 20000 in
theorem ggX6_ifWorn_X6_in : GoodIn wsX6_ifWorn wsX6_in := goodIn_r _ [8] (by decide +kernel) (by decide +kernel)
set_option maxRecDepth 20000 in
theorem gX6_ifWorn_X6_in : GoodIn wsX6_ifWorn (va_wsS RX6 32 yX6_in wsX6_in) := goodIn_app (goodIn_of _ (by decide +kernel)) ggX6_ifWorn_X6_in
set_option maxRecDepth 20000 in
theorem ggX6_ifWorn_X6_worn : GoodIn wsX6_ifWorn wsX6_worn := goodIn_r _ [12, 13, 14, 15, 16, 17, 18, 4, 19, 20, 21, 22, 23, 24, 25, 26, 27, 28, 29, 30, 31, 32, 33, 34, 35, 36, 37, 38, 39, 40, 41, 42, 43, 44, 45, 46, 47, 48, 49, 50, 51, 52, 53, 54, 55, 56, 57, 58, 59, 60] (by decide +kernel) (by decide +kernel)
set_option maxRecDepth 20000 in
theorem gX6_ifWorn_X6_worn : GoodIn wsX6_ifWorn (wsV RX6 160 RX6 yX6_worn wsX6_worn) := goodIn_app (goodIn_of _ (by decide +kernel)) ggX6_ifWorn_X6_worn
theorem dX6_ifWorn_0 : decode cX6_ifWorn 0 = .ok (.aload_n 0, 1) := by decide +kernel
theorem dX6_ifWorn_1 : decode cX6_ifWorn 1 = .ok (.iload_n 1, 1) := by decide +kernel
theorem dX6_ifWorn_2 : decode cX6_ifWorn 2 = .ok (.invokestatic 76, 3) := by decide +kernel
theorem dX6_ifWorn_5 : decode cX6_ifWorn 5 = .ok (.ifCond .eq 17, 3) := by decide +kernel
theorem dX6_ifWorn_8 : decode cX6_ifWorn 8 = .ok (.iload_n 2, 1) := by decide +kernel
theorem dX6_ifWorn_9 : decode cX6_ifWorn 9 = .ok (.invokestatic 76, 3) := by decide +kernel
theorem dX6_ifWorn_12 : decode cX6_ifWorn 12 = .ok (.ifCond .eq 10, 3) := by decide +kernel
theorem dX6_ifWorn_15 : decode cX6_ifWorn 15 = .ok (.iload_n 3, 1) := by decide +kernel
theorem dX6_ifWorn_16 : decode cX6_ifWorn 16 = .ok (.invokestatic 76, 3) := by decide +kernel
theorem dX6_ifWorn_19 : decode cX6_ifWorn 19 = .ok (.ifCond .ne 7, 3) := by decide +kernel
theorem dX6_ifWorn_22 : decode cX6_ifWorn 22 = .ok (.iconst 1, 1) := by decide +kernel
theorem dX6_ifWorn_23 : decode cX6_ifWorn 23 = .ok (.goto 18, 3) := by decide +kernel
theorem dX6_ifWorn_26 : decode cX6_ifWorn 26 = .ok (.iload 4, 2) := by decide +kernel
theorem dX6_ifWorn_28 : decode cX6_ifWorn 28 = .ok (.iconst 0, 1) := by decide +kernel
theorem dX6_ifWorn_29 : decode cX6_ifWorn 29 = .ok (.iconst 1, 1) := by decide +kernel
theorem dX6_ifWorn_30 : decode cX6_ifWorn 30 = .ok (.invokestatic 32, 3) := by decide +kernel
theorem dX6_ifWorn_33 : decode cX6_ifWorn 33 = .ok (.ifCond .eq 7, 3) := by decide +kernel
theorem dX6_ifWorn_36 : decode cX6_ifWorn 36 = .ok (.iconst 0, 1) := by decide +kernel
theorem dX6_ifWorn_37 : decode cX6_ifWorn 37 = .ok (.goto 4, 3) := by decide +kernel
theorem dX6_ifWorn_40 : decode cX6_ifWorn 40 = .ok (.iconst 2, 1) := by decide +kernel
theorem dX6_ifWorn_41 : decode cX6_ifWorn 41 = .ok (.putfield 28, 3) := by decide +kernel
theorem dX6_ifWorn_44 : decode cX6_ifWorn 44 = .ok (.aload_n 0, 1) := by decide +kernel
theorem dX6_ifWorn_45 : decode cX6_ifWorn 45 = .ok (.getfield 28, 3) := by decide +kernel
theorem dX6_ifWorn_48 : decode cX6_ifWorn 48 = .ok (.ifCond .le 7, 3) := by decide +kernel
theorem dX6_ifWorn_51 : decode cX6_ifWorn 51 = .ok (.iconst 0, 1) := by decide +kernel
theorem dX6_ifWorn_52 : decode cX6_ifWorn 52 = .ok (.goto 12, 3) := by decide +kernel
theorem dX6_ifWorn_55 : decode cX6_ifWorn 55 = .ok (.aload_n 0, 1) := by decide +kernel
theorem dX6_ifWorn_56 : decode cX6_ifWorn 56 = .ok (.iload_n 1, 1) := by decide +kernel
theorem dX6_ifWorn_57 : decode cX6_ifWorn 57 = .ok (.iload_n 2, 1) := by decide +kernel
theorem dX6_ifWorn_58 : decode cX6_ifWorn 58 = .ok (.iload_n 3, 1) := by decide +kernel
theorem dX6_ifWorn_59 : decode cX6_ifWorn 59 = .ok (.iload 4, 2) := by decide +kernel
theorem dX6_ifWorn_61 : decode cX6_ifWorn 61 = .ok (.invokevirtual 160, 3) := by decide +kernel
theorem dX6_ifWorn_64 : decode cX6_ifWorn 64 = .ok (.ireturn, 1) := by decide +kernel
set_option maxRecDepth 20000 in
theorem ggX6_findRegulator_X6_rate : GoodIn wsX6_findRegulator wsX6_rate := goodIn_r _ [6, 1, 7, 8, 9, 5, 10, 11, 12, 13, 17, 18, 19, 20, 21, 22, 23, 24, 25, 26, 27] (by decide +kernel) (by decide +kernel)
set_option maxRecDepth 20000 in
theorem gX6_findRegulator_X6_rate : GoodIn wsX6_findRegulator (wsV RX6 64 RX6 yX6_rate wsX6_rate) := goodIn_app (goodIn_of _ (by decide +kernel)) ggX6_findRegulator_X6_rate
set_option maxRecDepth 20000 in
theorem ggX6_findRegulator_X6_amount : GoodIn wsX6_findRegulator wsX6_amount := goodIn_r _ [16] (by decide +kernel) (by decide +kernel)
set_option maxRecDepth 20000 in
theorem gX6_findRegulator_X6_amount : GoodIn wsX6_findRegulator (va_wsS RX6 54 yX6_amount wsX6_amount) := goodIn_app (goodIn_of _ (by decide +kernel)) ggX6_findRegulator_X6_amount
theorem dX6_findRegulator_0 : decode cX6_findRegulator 0 = .ok (.iconst 0, 1) := by decide +kernel
theorem dX6_findRegulator_1 : decode cX6_findRegulator 1 = .ok (.istore_n 1, 1) := by decide +kernel
theorem dX6_findRegulator_2 : decode cX6_findRegulator 2 = .ok (.iconst 0, 1) := by decide +kernel
theorem dX6_findRegulator_3 : decode cX6_findRegulator 3 = .ok (.istore_n 2, 1) := by decide +kernel
theorem dX6_findRegulator_4 : decode cX6_findRegulator 4 = .ok (.iload_n 2, 1) := by decide +kernel
theorem dX6_findRegulator_5 : decode cX6_findRegulator 5 = .ok (.bipush 6, 2) := by decide +kernel
theorem dX6_findRegulator_7 : decode cX6_findRegulator 7 = .ok (.if_icmp .ge 24, 3) := by decide +kernel
theorem dX6_findRegulator_10 : decode cX6_findRegulator 10 = .ok (.iload_n 1, 1) := by decide +kernel
theorem dX6_findRegulator_11 : decode cX6_findRegulator 11 = .ok (.aload_n 0, 1) := by decide +kernel
theorem dX6_findRegulator_12 : decode cX6_findRegulator 12 = .ok (.iload_n 2, 1) := by decide +kernel
theorem dX6_findRegulator_13 : decode cX6_findRegulator 13 = .ok (.invokevirtual 64, 3) := by decide +kernel
theorem dX6_findRegulator_16 : decode cX6_findRegulator 16 = .ok (.aload_n 0, 1) := by decide +kernel
theorem dX6_findRegulator_17 : decode cX6_findRegulator 17 = .ok (.getfield 7, 3) := by decide +kernel
theorem dX6_findRegulator_20 : decode cX6_findRegulator 20 = .ok (.iconst 2, 1) := by decide +kernel
theorem dX6_findRegulator_21 : decode cX6_findRegulator 21 = .ok (.iaload, 1) := by decide +kernel
theorem dX6_findRegulator_22 : decode cX6_findRegulator 22 = .ok (.isub, 1) := by decide +kernel
theorem dX6_findRegulator_23 : decode cX6_findRegulator 23 = .ok (.iadd, 1) := by decide +kernel
theorem dX6_findRegulator_24 : decode cX6_findRegulator 24 = .ok (.istore_n 1, 1) := by decide +kernel
theorem dX6_findRegulator_25 : decode cX6_findRegulator 25 = .ok (.iinc 2 1, 3) := by decide +kernel
theorem dX6_findRegulator_28 : decode cX6_findRegulator 28 = .ok (.goto (-24), 3) := by decide +kernel
theorem dX6_findRegulator_31 : decode cX6_findRegulator 31 = .ok (.bipush (-99), 2) := by decide +kernel
theorem dX6_findRegulator_33 : decode cX6_findRegulator 33 = .ok (.istore_n 2, 1) := by decide +kernel
theorem dX6_findRegulator_34 : decode cX6_findRegulator 34 = .ok (.bipush (-98), 2) := by decide +kernel
theorem dX6_findRegulator_36 : decode cX6_findRegulator 36 = .ok (.istore_n 3, 1) := by decide +kernel
theorem dX6_findRegulator_37 : decode cX6_findRegulator 37 = .ok (.iload_n 3, 1) := by decide +kernel
theorem dX6_findRegulator_38 : decode cX6_findRegulator 38 = .ok (.bipush 99, 2) := by decide +kernel
theorem dX6_findRegulator_40 : decode cX6_findRegulator 40 = .ok (.if_icmp .gt 36, 3) := by decide +kernel
theorem dX6_findRegulator_43 : decode cX6_findRegulator 43 = .ok (.iload_n 1, 1) := by decide +kernel
theorem dX6_findRegulator_44 : decode cX6_findRegulator 44 = .ok (.bipush 6, 2) := by decide +kernel
theorem dX6_findRegulator_46 : decode cX6_findRegulator 46 = .ok (.iload_n 3, 1) := by decide +kernel
theorem dX6_findRegulator_47 : decode cX6_findRegulator 47 = .ok (.imul, 1) := by decide +kernel
theorem dX6_findRegulator_48 : decode cX6_findRegulator 48 = .ok (.iadd, 1) := by decide +kernel
theorem dX6_findRegulator_49 : decode cX6_findRegulator 49 = .ok (.invokestatic 54, 3) := by decide +kernel
theorem dX6_findRegulator_52 : decode cX6_findRegulator 52 = .ok (.iload_n 1, 1) := by decide +kernel
theorem dX6_findRegulator_53 : decode cX6_findRegulator 53 = .ok (.bipush 6, 2) := by decide +kernel
theorem dX6_findRegulator_55 : decode cX6_findRegulator 55 = .ok (.iload_n 2, 1) := by decide +kernel
theorem dX6_findRegulator_56 : decode cX6_findRegulator 56 = .ok (.imul, 1) := by decide +kernel
theorem dX6_findRegulator_57 : decode cX6_findRegulator 57 = .ok (.iadd, 1) := by decide +kernel
theorem dX6_findRegulator_58 : decode cX6_findRegulator 58 = .ok (.invokestatic 54, 3) := by decide +kernel
theorem dX6_findRegulator_61 : decode cX6_findRegulator 61 = .ok (.if_icmp .ge 7, 3) := by decide +kernel
theorem dX6_findRegulator_64 : decode cX6_findRegulator 64 = .ok (.iload_n 3, 1) := by decide +kernel
theorem dX6_findRegulator_65 : decode cX6_findRegulator 65 = .ok (.goto 4, 3) := by decide +kernel
theorem dX6_findRegulator_68 : decode cX6_findRegulator 68 = .ok (.iload_n 2, 1) := by decide +kernel
theorem dX6_findRegulator_69 : decode cX6_findRegulator 69 = .ok (.istore_n 2, 1) := by decide +kernel
theorem dX6_findRegulator_70 : decode cX6_findRegulator 70 = .ok (.iinc 3 1, 3) := by decide +kernel
theorem dX6_findRegulator_73 : decode cX6_findRegulator 73 = .ok (.goto (-36), 3) := by decide +kernel
theorem dX6_findRegulator_76 : decode cX6_findRegulator 76 = .ok (.iload_n 2, 1) := by decide +kernel
theorem dX6_findRegulator_77 : decode cX6_findRegulator 77 = .ok (.bipush 100, 2) := by decide +kernel
theorem dX6_findRegulator_79 : decode cX6_findRegulator 79 = .ok (.iadd, 1) := by decide +kernel
theorem dX6_findRegulator_80 : decode cX6_findRegulator 80 = .ok (.ireturn, 1) := by decide +kernel
set_option maxRecDepth 20000 in
theorem ggX6_bestRegulator_X6_findRegulator : GoodIn wsX6_bestRegulator wsX6_findRegulator := goodIn_r _ [6, 7, 8, 9, 10, 5, 11, 12, 13, 14, 15, 16, 17, 18, 19, 20, 21, 22, 23, 24, 25, 26, 27, 28, 29, 30, 31, 32] (by decide +kernel) (by decide +kernel)
set_option maxRecDepth 20000 in
theorem gX6_bestRegulator_X6_findRegulator : GoodIn wsX6_bestRegulator (wsV RX6 164 RX6 yX6_findRegulator wsX6_findRegulator) := goodIn_app (goodIn_of _ (by decide +kernel)) ggX6_bestRegulator_X6_findRegulator
theorem dX6_bestRegulator_0 : decode cX6_bestRegulator 0 = .ok (.aload_n 0, 1) := by decide +kernel
theorem dX6_bestRegulator_1 : decode cX6_bestRegulator 1 = .ok (.iconst 0, 1) := by decide +kernel
theorem dX6_bestRegulator_2 : decode cX6_bestRegulator 2 = .ok (.putfield 28, 3) := by decide +kernel
theorem dX6_bestRegulator_5 : decode cX6_bestRegulator 5 = .ok (.aload_n 0, 1) := by decide +kernel
theorem dX6_bestRegulator_6 : decode cX6_bestRegulator 6 = .ok (.invokevirtual 164, 3) := by decide +kernel
theorem dX6_bestRegulator_9 : decode cX6_bestRegulator 9 = .ok (.ireturn, 1) := by decide +kernel
set_option maxRecDepth 20000 in
theorem ggX6_stopsNow_X6_putAside : GoodIn wsX6_stopsNow wsX6_putAside := goodIn_r _ [6, 7, 1, 34, 35, 36, 37, 38, 39, 40, 41, 42, 43, 44] (by decide +kernel) (by decide +kernel)
set_option maxRecDepth 20000 in
theorem gX6_stopsNow_X6_putAside : GoodIn wsX6_stopsNow (wsV RX6 153 RX6 yX6_putAside wsX6_putAside) := goodIn_app (goodIn_of _ (by decide +kernel)) ggX6_stopsNow_X6_putAside
set_option maxRecDepth 20000 in
theorem ggX6_stopsNow_X6_goes : GoodIn wsX6_stopsNow wsX6_goes := goodIn_r _ [11, 1, 12, 13, 14, 5, 15, 34, 35, 36, 37, 38, 39, 40, 41, 42, 43, 44] (by decide +kernel) (by decide +kernel)
set_option maxRecDepth 20000 in
theorem gX6_stopsNow_X6_goes : GoodIn wsX6_stopsNow (wsV RX6 60 RX6 yX6_goes wsX6_goes) := goodIn_app (goodIn_of _ (by decide +kernel)) ggX6_stopsNow_X6_goes
set_option maxRecDepth 20000 in
theorem ggX6_stopsNow_X6_hour : GoodIn wsX6_stopsNow wsX6_hour := goodIn_r _ [19, 1, 8, 9, 10, 5, 11, 12, 13, 14, 15, 20, 21, 22, 23, 24, 25, 26, 27, 28, 29, 34, 35, 36, 37, 38, 39, 40, 41, 42, 43, 44] (by decide +kernel) (by decide +kernel)
set_option maxRecDepth 20000 in
theorem gX6_stopsNow_X6_hour : GoodIn wsX6_stopsNow (wsV RX6 70 RX6 yX6_hour wsX6_hour) := goodIn_app (goodIn_of _ (by decide +kernel)) ggX6_stopsNow_X6_hour
set_option maxRecDepth 20000 in
theorem ggX6_stopsNow_X6_putBack : GoodIn wsX6_stopsNow wsX6_putBack := goodIn_r _ [33, 1, 7, 34, 35, 36, 37, 38, 39, 40, 41, 42, 43, 44] (by decide +kernel) (by decide +kernel)
set_option maxRecDepth 20000 in
theorem gX6_stopsNow_X6_putBack : GoodIn wsX6_stopsNow (wsV RX6 156 RX6 yX6_putBack wsX6_putBack) := goodIn_app (goodIn_of _ (by decide +kernel)) ggX6_stopsNow_X6_putBack
theorem dX6_stopsNow_0 : decode cX6_stopsNow 0 = .ok (.aload_n 0, 1) := by decide +kernel
theorem dX6_stopsNow_1 : decode cX6_stopsNow 1 = .ok (.invokevirtual 153, 3) := by decide +kernel
theorem dX6_stopsNow_4 : decode cX6_stopsNow 4 = .ok (.aload_n 0, 1) := by decide +kernel
theorem dX6_stopsNow_5 : decode cX6_stopsNow 5 = .ok (.getfield 7, 3) := by decide +kernel
theorem dX6_stopsNow_8 : decode cX6_stopsNow 8 = .ok (.bipush 6, 2) := by decide +kernel
theorem dX6_stopsNow_10 : decode cX6_stopsNow 10 = .ok (.iload_n 1, 1) := by decide +kernel
theorem dX6_stopsNow_11 : decode cX6_stopsNow 11 = .ok (.iastore, 1) := by decide +kernel
theorem dX6_stopsNow_12 : decode cX6_stopsNow 12 = .ok (.iconst 0, 1) := by decide +kernel
theorem dX6_stopsNow_13 : decode cX6_stopsNow 13 = .ok (.istore_n 2, 1) := by decide +kernel
theorem dX6_stopsNow_14 : decode cX6_stopsNow 14 = .ok (.aload_n 0, 1) := by decide +kernel
theorem dX6_stopsNow_15 : decode cX6_stopsNow 15 = .ok (.iload_n 1, 1) := by decide +kernel
theorem dX6_stopsNow_16 : decode cX6_stopsNow 16 = .ok (.invokevirtual 60, 3) := by decide +kernel
theorem dX6_stopsNow_19 : decode cX6_stopsNow 19 = .ok (.ifCond .eq 13, 3) := by decide +kernel
theorem dX6_stopsNow_22 : decode cX6_stopsNow 22 = .ok (.aload_n 0, 1) := by decide +kernel
theorem dX6_stopsNow_23 : decode cX6_stopsNow 23 = .ok (.invokevirtual 70, 3) := by decide +kernel
theorem dX6_stopsNow_26 : decode cX6_stopsNow 26 = .ok (.iinc 2 1, 3) := by decide +kernel
theorem dX6_stopsNow_29 : decode cX6_stopsNow 29 = .ok (.goto (-15), 3) := by decide +kernel
theorem dX6_stopsNow_32 : decode cX6_stopsNow 32 = .ok (.aload_n 0, 1) := by decide +kernel
theorem dX6_stopsNow_33 : decode cX6_stopsNow 33 = .ok (.invokevirtual 156, 3) := by decide +kernel
theorem dX6_stopsNow_36 : decode cX6_stopsNow 36 = .ok (.iload_n 2, 1) := by decide +kernel
theorem dX6_stopsNow_37 : decode cX6_stopsNow 37 = .ok (.ireturn, 1) := by decide +kernel
set_option maxRecDepth 20000 in
theorem ggX6_stopsIn_X6_isPose : GoodIn wsX6_stopsIn wsX6_isPose := goodIn_r _ [5, 6, 7, 4, 8] (by decide +kernel) (by decide +kernel)
set_option maxRecDepth 20000 in
theorem gX6_stopsIn_X6_isPose : GoodIn wsX6_stopsIn (va_wsS RX6 76 yX6_isPose wsX6_isPose) := goodIn_app (goodIn_of _ (by decide +kernel)) ggX6_stopsIn_X6_isPose
set_option maxRecDepth 20000 in
theorem ggX6_stopsIn_X6_stopsNow : GoodIn wsX6_stopsIn wsX6_stopsNow := goodIn_r _ [12, 13, 14, 15, 16, 4, 17, 18, 19, 20, 21, 22, 23, 24, 25, 26, 27, 28, 29, 30, 31, 32, 33, 34, 35, 36, 37, 38, 39, 40, 41, 42, 43, 44, 45, 46, 47, 48, 49, 50, 51, 52, 53, 54, 55] (by decide +kernel) (by decide +kernel)
set_option maxRecDepth 20000 in
theorem gX6_stopsIn_X6_stopsNow : GoodIn wsX6_stopsIn (wsV RX6 167 RX6 yX6_stopsNow wsX6_stopsNow) := goodIn_app (goodIn_of _ (by decide +kernel)) ggX6_stopsIn_X6_stopsNow
theorem dX6_stopsIn_0 : decode cX6_stopsIn 0 = .ok (.aload_n 0, 1) := by decide +kernel
theorem dX6_stopsIn_1 : decode cX6_stopsIn 1 = .ok (.iload_n 1, 1) := by decide +kernel
theorem dX6_stopsIn_2 : decode cX6_stopsIn 2 = .ok (.invokestatic 76, 3) := by decide +kernel
theorem dX6_stopsIn_5 : decode cX6_stopsIn 5 = .ok (.ifCond .eq 7, 3) := by decide +kernel
theorem dX6_stopsIn_8 : decode cX6_stopsIn 8 = .ok (.iconst 0, 1) := by decide +kernel
theorem dX6_stopsIn_9 : decode cX6_stopsIn 9 = .ok (.goto 4, 3) := by decide +kernel
theorem dX6_stopsIn_12 : decode cX6_stopsIn 12 = .ok (.iconst 1, 1) := by decide +kernel
theorem dX6_stopsIn_13 : decode cX6_stopsIn 13 = .ok (.putfield 28, 3) := by decide +kernel
theorem dX6_stopsIn_16 : decode cX6_stopsIn 16 = .ok (.aload_n 0, 1) := by decide +kernel
theorem dX6_stopsIn_17 : decode cX6_stopsIn 17 = .ok (.getfield 28, 3) := by decide +kernel
theorem dX6_stopsIn_20 : decode cX6_stopsIn 20 = .ok (.ifCond .le 7, 3) := by decide +kernel
theorem dX6_stopsIn_23 : decode cX6_stopsIn 23 = .ok (.iconst 0, 1) := by decide +kernel
theorem dX6_stopsIn_24 : decode cX6_stopsIn 24 = .ok (.goto 8, 3) := by decide +kernel
theorem dX6_stopsIn_27 : decode cX6_stopsIn 27 = .ok (.aload_n 0, 1) := by decide +kernel
theorem dX6_stopsIn_28 : decode cX6_stopsIn 28 = .ok (.iload_n 1, 1) := by decide +kernel
theorem dX6_stopsIn_29 : decode cX6_stopsIn 29 = .ok (.invokevirtual 167, 3) := by decide +kernel
theorem dX6_stopsIn_32 : decode cX6_stopsIn 32 = .ok (.ireturn, 1) := by decide +kernel
set_option maxRecDepth 20000 in
theorem ggX6_findNight_X6_putAside : GoodIn wsX6_findNight wsX6_putAside := goodIn_r _ [6, 7, 1, 41, 42, 43, 44, 45, 46, 47, 48, 49, 50, 51] (by decide +kernel) (by decide +kernel)
set_option maxRecDepth 20000 in
theorem gX6_findNight_X6_putAside : GoodIn wsX6_findNight (wsV RX6 153 RX6 yX6_putAside wsX6_putAside) := goodIn_app (goodIn_of _ (by decide +kernel)) ggX6_findNight_X6_putAside
set_option maxRecDepth 20000 in
theorem ggX6_findNight_X6_hours : GoodIn wsX6_findNight wsX6_hours := goodIn_r _ [11, 1, 12, 13, 14, 5, 15, 16, 17, 18, 19, 20, 21, 22, 23, 24, 25, 26, 27, 28, 29, 30, 31, 32, 33, 41, 42, 43, 44, 45, 46, 47, 48, 49, 50, 51] (by decide +kernel) (by decide +kernel)
set_option maxRecDepth 20000 in
theorem gX6_findNight_X6_hours : GoodIn wsX6_findNight (wsV RX6 82 RX6 yX6_hours wsX6_hours) := goodIn_app (goodIn_of _ (by decide +kernel)) ggX6_findNight_X6_hours
set_option maxRecDepth 20000 in
theorem ggX6_findNight_X6_amount : GoodIn wsX6_findNight wsX6_amount := goodIn_r _ [36] (by decide +kernel) (by decide +kernel)
set_option maxRecDepth 20000 in
theorem gX6_findNight_X6_amount : GoodIn wsX6_findNight (va_wsS RX6 54 yX6_amount wsX6_amount) := goodIn_app (goodIn_of _ (by decide +kernel)) ggX6_findNight_X6_amount
set_option maxRecDepth 20000 in
theorem ggX6_findNight_X6_putBack : GoodIn wsX6_findNight wsX6_putBack := goodIn_r _ [40, 1, 7, 41, 42, 43, 44, 45, 46, 47, 48, 49, 50, 51] (by decide +kernel) (by decide +kernel)
set_option maxRecDepth 20000 in
theorem gX6_findNight_X6_putBack : GoodIn wsX6_findNight (wsV RX6 156 RX6 yX6_putBack wsX6_putBack) := goodIn_app (goodIn_of _ (by decide +kernel)) ggX6_findNight_X6_putBack
theorem dX6_findNight_0 : decode cX6_findNight 0 = .ok (.iconst 0, 1) := by decide +kernel
theorem dX6_findNight_1 : decode cX6_findNight 1 = .ok (.istore_n 1, 1) := by decide +kernel
theorem dX6_findNight_2 : decode cX6_findNight 2 = .ok (.iconst 0, 1) := by decide +kernel
theorem dX6_findNight_3 : decode cX6_findNight 3 = .ok (.istore_n 2, 1) := by decide +kernel
theorem dX6_findNight_4 : decode cX6_findNight 4 = .ok (.iconst 0, 1) := by decide +kernel
theorem dX6_findNight_5 : decode cX6_findNight 5 = .ok (.istore_n 3, 1) := by decide +kernel
theorem dX6_findNight_6 : decode cX6_findNight 6 = .ok (.iload_n 3, 1) := by decide +kernel
theorem dX6_findNight_7 : decode cX6_findNight 7 = .ok (.bipush 6, 2) := by decide +kernel
theorem dX6_findNight_9 : decode cX6_findNight 9 = .ok (.if_icmp .ge 59, 3) := by decide +kernel
theorem dX6_findNight_12 : decode cX6_findNight 12 = .ok (.aload_n 0, 1) := by decide +kernel
theorem dX6_findNight_13 : decode cX6_findNight 13 = .ok (.invokevirtual 153, 3) := by decide +kernel
theorem dX6_findNight_16 : decode cX6_findNight 16 = .ok (.aload_n 0, 1) := by decide +kernel
theorem dX6_findNight_17 : decode cX6_findNight 17 = .ok (.getfield 7, 3) := by decide +kernel
theorem dX6_findNight_20 : decode cX6_findNight 20 = .ok (.bipush 6, 2) := by decide +kernel
theorem dX6_findNight_22 : decode cX6_findNight 22 = .ok (.iload_n 3, 1) := by decide +kernel
theorem dX6_findNight_23 : decode cX6_findNight 23 = .ok (.iastore, 1) := by decide +kernel
theorem dX6_findNight_24 : decode cX6_findNight 24 = .ok (.aload_n 0, 1) := by decide +kernel
theorem dX6_findNight_25 : decode cX6_findNight 25 = .ok (.bipush 8, 2) := by decide +kernel
theorem dX6_findNight_27 : decode cX6_findNight 27 = .ok (.invokevirtual 82, 3) := by decide +kernel
theorem dX6_findNight_30 : decode cX6_findNight 30 = .ok (.pop, 1) := by decide +kernel
theorem dX6_findNight_31 : decode cX6_findNight 31 = .ok (.aload_n 0, 1) := by decide +kernel
theorem dX6_findNight_32 : decode cX6_findNight 32 = .ok (.getfield 7, 3) := by decide +kernel
theorem dX6_findNight_35 : decode cX6_findNight 35 = .ok (.bipush 7, 2) := by decide +kernel
theorem dX6_findNight_37 : decode cX6_findNight 37 = .ok (.iaload, 1) := by decide +kernel
theorem dX6_findNight_38 : decode cX6_findNight 38 = .ok (.invokestatic 54, 3) := by decide +kernel
theorem dX6_findNight_41 : decode cX6_findNight 41 = .ok (.istore 4, 2) := by decide +kernel
theorem dX6_findNight_43 : decode cX6_findNight 43 = .ok (.aload_n 0, 1) := by decide +kernel
theorem dX6_findNight_44 : decode cX6_findNight 44 = .ok (.invokevirtual 156, 3) := by decide +kernel
theorem dX6_findNight_47 : decode cX6_findNight 47 = .ok (.iload_n 3, 1) := by decide +kernel
theorem dX6_findNight_48 : decode cX6_findNight 48 = .ok (.ifCond .eq 9, 3) := by decide +kernel
theorem dX6_findNight_51 : decode cX6_findNight 51 = .ok (.iload 4, 2) := by decide +kernel
theorem dX6_findNight_53 : decode cX6_findNight 53 = .ok (.iload_n 2, 1) := by decide +kernel
theorem dX6_findNight_54 : decode cX6_findNight 54 = .ok (.if_icmp .ge 8, 3) := by decide +kernel
theorem dX6_findNight_57 : decode cX6_findNight 57 = .ok (.iload_n 3, 1) := by decide +kernel
theorem dX6_findNight_58 : decode cX6_findNight 58 = .ok (.istore_n 1, 1) := by decide +kernel
theorem dX6_findNight_59 : decode cX6_findNight 59 = .ok (.iload 4, 2) := by decide +kernel
theorem dX6_findNight_61 : decode cX6_findNight 61 = .ok (.istore_n 2, 1) := by decide +kernel
theorem dX6_findNight_62 : decode cX6_findNight 62 = .ok (.iinc 3 1, 3) := by decide +kernel
theorem dX6_findNight_65 : decode cX6_findNight 65 = .ok (.goto (-59), 3) := by decide +kernel
theorem dX6_findNight_68 : decode cX6_findNight 68 = .ok (.iload_n 1, 1) := by decide +kernel
theorem dX6_findNight_69 : decode cX6_findNight 69 = .ok (.ireturn, 1) := by decide +kernel
set_option maxRecDepth 20000 in
theorem ggX6_nightPose_X6_findNight : GoodIn wsX6_nightPose wsX6_findNight := goodIn_r _ [6, 7, 8, 9, 10, 5, 11, 12, 13, 14, 15, 16, 17, 18, 19, 20, 21, 22, 23, 24, 25, 26, 27, 28, 29, 30, 31, 32, 33, 34, 35, 36, 37, 38, 39, 40, 41, 42, 43, 44, 45, 46, 47, 48, 49, 50, 51, 52, 53, 54, 55, 56] (by decide +kernel) (by decide +kernel)
set_option maxRecDepth 20000 in
theorem gX6_nightPose_X6_findNight : GoodIn wsX6_nightPose (wsV RX6 170 RX6 yX6_findNight wsX6_findNight) := goodIn_app (goodIn_of _ (by decide +kernel)) ggX6_nightPose_X6_findNight
theorem dX6_nightPose_0 : decode cX6_nightPose 0 = .ok (.aload_n 0, 1) := by decide +kernel
theorem dX6_nightPose_1 : decode cX6_nightPose 1 = .ok (.iconst 0, 1) := by decide +kernel
theorem dX6_nightPose_2 : decode cX6_nightPose 2 = .ok (.putfield 28, 3) := by decide +kernel
theorem dX6_nightPose_5 : decode cX6_nightPose 5 = .ok (.aload_n 0, 1) := by decide +kernel
theorem dX6_nightPose_6 : decode cX6_nightPose 6 = .ok (.invokevirtual 170, 3) := by decide +kernel
theorem dX6_nightPose_9 : decode cX6_nightPose 9 = .ok (.ireturn, 1) := by decide +kernel
theorem dX6_share_0 : decode cX6_share 0 = .ok (.aload_n 0, 1) := by decide +kernel
theorem dX6_share_1 : decode cX6_share 1 = .ok (.getfield 7, 3) := by decide +kernel
theorem dX6_share_4 : decode cX6_share 4 = .ok (.iconst 0, 1) := by decide +kernel
theorem dX6_share_5 : decode cX6_share 5 = .ok (.iaload, 1) := by decide +kernel
theorem dX6_share_6 : decode cX6_share 6 = .ok (.ifCond .ne 7, 3) := by decide +kernel
theorem dX6_share_9 : decode cX6_share 9 = .ok (.dconst 1, 1) := by decide +kernel
theorem dX6_share_10 : decode cX6_share 10 = .ok (.goto 19, 3) := by decide +kernel
theorem dX6_share_13 : decode cX6_share 13 = .ok (.aload_n 0, 1) := by decide +kernel
theorem dX6_share_14 : decode cX6_share 14 = .ok (.getfield 7, 3) := by decide +kernel
theorem dX6_share_17 : decode cX6_share 17 = .ok (.bipush 9, 2) := by decide +kernel
theorem dX6_share_19 : decode cX6_share 19 = .ok (.iaload, 1) := by decide +kernel
theorem dX6_share_20 : decode cX6_share 20 = .ok (.i2d, 1) := by decide +kernel
theorem dX6_share_21 : decode cX6_share 21 = .ok (.aload_n 0, 1) := by decide +kernel
theorem dX6_share_22 : decode cX6_share 22 = .ok (.getfield 7, 3) := by decide +kernel
theorem dX6_share_25 : decode cX6_share 25 = .ok (.iconst 0, 1) := by decide +kernel
theorem dX6_share_26 : decode cX6_share 26 = .ok (.iaload, 1) := by decide +kernel
theorem dX6_share_27 : decode cX6_share 27 = .ok (.i2d, 1) := by decide +kernel
theorem dX6_share_28 : decode cX6_share 28 = .ok (.ddiv, 1) := by decide +kernel
theorem dX6_share_29 : decode cX6_share 29 = .ok (.dreturn, 1) := by decide +kernel
set_option maxRecDepth 20000 in
theorem ggX6_going_X6_share : GoodIn wsX6_going wsX6_share := goodIn_r _ [6, 7, 8, 9, 10, 11, 12, 13, 14, 15, 16, 17, 18] (by decide +kernel) (by decide +kernel)
set_option maxRecDepth 20000 in
theorem gX6_going_X6_share : GoodIn wsX6_going (wsV RX6 173 RX6 yX6_share wsX6_share) := goodIn_app (goodIn_of _ (by decide +kernel)) ggX6_going_X6_share
theorem dX6_going_0 : decode cX6_going 0 = .ok (.aload_n 0, 1) := by decide +kernel
theorem dX6_going_1 : decode cX6_going 1 = .ok (.iconst 0, 1) := by decide +kernel
theorem dX6_going_2 : decode cX6_going 2 = .ok (.putfield 28, 3) := by decide +kernel
theorem dX6_going_5 : decode cX6_going 5 = .ok (.aload_n 0, 1) := by decide +kernel
theorem dX6_going_6 : decode cX6_going 6 = .ok (.invokevirtual 173, 3) := by decide +kernel
theorem dX6_going_9 : decode cX6_going 9 = .ok (.dreturn, 1) := by decide +kernel
set_option maxRecDepth 20000 in
theorem ggX6_digest_X6_countNow : GoodIn wsX6_digest wsX6_countNow := goodIn_r _ [11, 4, 12, 13, 14, 15, 10, 16, 17, 18, 19, 20, 21, 22, 23, 24, 25, 26, 27, 28, 29, 30, 31, 32, 33, 34, 35, 36, 37, 38, 39, 40, 41, 42, 43, 124, 125, 126, 127, 128, 129, 130, 131, 132, 133, 134] (by decide +kernel) (by decide +kernel)
set_option maxRecDepth 20000 in
theorem gX6_digest_X6_countNow : GoodIn wsX6_digest (wsV RX6 150 RX6 yX6_countNow wsX6_countNow) := goodIn_app (goodIn_of _ (by decide +kernel)) ggX6_digest_X6_countNow
set_option maxRecDepth 20000 in
theorem ggX6_digest_X6_poseNow : GoodIn wsX6_digest wsX6_poseNow := goodIn_r _ [47, 4, 33, 34, 35, 10, 36, 37, 38, 39, 40, 21, 22, 23, 24, 48, 49, 50, 51, 41, 42, 43, 52, 53, 54, 55, 56, 57, 58, 59, 60, 61, 62, 63, 64, 65, 66, 124, 125, 126, 127, 128, 129, 130, 131, 132, 133, 134] (by decide +kernel) (by decide +kernel)
set_option maxRecDepth 20000 in
theorem gX6_digest_X6_poseNow : GoodIn wsX6_digest (wsV RX6 137 RX6 yX6_poseNow wsX6_poseNow) := goodIn_app (goodIn_of _ (by decide +kernel)) ggX6_digest_X6_poseNow
set_option maxRecDepth 20000 in
theorem ggX6_digest_X6_stopsNow : GoodIn wsX6_digest wsX6_stopsNow := goodIn_r _ [70, 4, 71, 72, 73, 10, 74, 75, 17, 18, 19, 20, 21, 22, 23, 24, 76, 77, 78, 79, 48, 49, 50, 51, 41, 42, 43, 80, 81, 82, 83, 84, 85, 86, 124, 125, 126, 127, 128, 129, 130, 131, 132, 133, 134] (by decide +kernel) (by decide +kernel)
set_option maxRecDepth 20000 in
theorem gX6_digest_X6_stopsNow : GoodIn wsX6_digest (wsV RX6 167 RX6 yX6_stopsNow wsX6_stopsNow) := goodIn_app (goodIn_of _ (by decide +kernel)) ggX6_digest_X6_stopsNow
set_option maxRecDepth 20000 in
theorem ggX6_digest_X6_readingNow : GoodIn wsX6_digest wsX6_readingNow := goodIn_r _ [90, 37, 38, 39, 10, 40, 4, 124, 125, 126, 127, 128, 129, 130, 131, 132, 133, 134] (by decide +kernel) (by decide +kernel)
set_option maxRecDepth 20000 in
theorem gX6_digest_X6_readingNow : GoodIn wsX6_digest (wsV RX6 140 RX6 yX6_readingNow wsX6_readingNow) := goodIn_app (goodIn_of _ (by decide +kernel)) ggX6_digest_X6_readingNow
set_option maxRecDepth 20000 in
theorem ggX6_digest_X6_worn : GoodIn wsX6_digest wsX6_worn := goodIn_r _ [94, 4, 75, 95, 71, 72, 73, 10, 74, 96, 97, 98, 99, 76, 77, 78, 79, 17, 18, 19, 20, 21, 22, 23, 24, 48, 49, 50, 51, 41, 42, 43, 80, 81, 82, 83, 84, 85, 86, 124, 125, 126, 127, 128, 129, 130, 131, 132, 133, 134] (by decide +kernel) (by decide +kernel)
set_option maxRecDepth 20000 in
theorem gX6_digest_X6_worn : GoodIn wsX6_digest (wsV RX6 160 RX6 yX6_worn wsX6_worn) := goodIn_app (goodIn_of _ (by decide +kernel)) ggX6_digest_X6_worn
set_option maxRecDepth 20000 in
theorem ggX6_digest_X6_findRegulator : GoodIn wsX6_digest wsX6_findRegulator := goodIn_r _ [103, 4, 48, 49, 50, 10, 51, 21, 22, 23, 24, 41, 42, 43, 56, 57, 58, 124, 125, 126, 127, 128, 129, 130, 131, 132, 133, 134] (by decide +kernel) (by decide +kernel)
set_option maxRecDepth 20000 in
theorem gX6_digest_X6_findRegulator : GoodIn wsX6_digest (wsV RX6 164 RX6 yX6_findRegulator wsX6_findRegulator) := goodIn_app (goodIn_of _ (by decide +kernel)) ggX6_digest_X6_findRegulator
set_option maxRecDepth 20000 in
theorem ggX6_digest_X6_findNight : GoodIn wsX6_digest wsX6_findNight := goodIn_r _ [107, 4, 71, 72, 73, 10, 74, 75, 96, 97, 98, 99, 76, 77, 78, 79, 17, 18, 19, 20, 21, 22, 23, 24, 48, 49, 50, 51, 41, 42, 43, 80, 81, 82, 56, 57, 58, 83, 84, 85, 86, 124, 125, 126, 127, 128, 129, 130, 131, 132, 133, 134] (by decide +kernel) (by decide +kernel)
set_option maxRecDepth 20000 in
theorem gX6_digest_X6_findNight : GoodIn wsX6_digest (wsV RX6 170 RX6 yX6_findNight wsX6_findNight) := goodIn_app (goodIn_of _ (by decide +kernel)) ggX6_digest_X6_findNight
set_option maxRecDepth 20000 in
theorem ggX6_digest_X6_share : GoodIn wsX6_digest wsX6_share := goodIn_r _ [111, 4, 124, 125, 126, 127, 128, 129, 130, 131, 132, 133, 134] (by decide +kernel) (by decide +kernel)
set_option maxRecDepth 20000 in
theorem gX6_digest_X6_share : GoodIn wsX6_digest (wsV RX6 173 RX6 yX6_share wsX6_share) := goodIn_app (goodIn_of _ (by decide +kernel)) ggX6_digest_X6_share
set_option maxRecDepth 20000 in
theorem ggX6_digest_Jxe99ae_doubleToLongBits_ccdee : GoodIn wsX6_digest wsJxe99ae_doubleToLongBits_ccdee := goodIn_r _ [115, 116, 117, 118, 119, 120, 121, 122, 114, 123] (by decide +kernel) (by decide +kernel)
set_option maxRecDepth 20000 in
theorem gX6_digest_Jxe99ae_doubleToLongBits_ccdee : GoodIn wsX6_digest (va_wsS RX6 181 yJxe99ae_doubleToLongBits_ccdee wsJxe99ae_doubleToLongBits_ccdee) := goodIn_app (goodIn_of _ (by decide +kernel)) ggX6_digest_Jxe99ae_doubleToLongBits_ccdee
theorem dX6_digest_0 : decode cX6_digest 0 = .ok (.aload_n 0, 1) := by decide +kernel
theorem dX6_digest_1 : decode cX6_digest 1 = .ok (.iconst 0, 1) := by decide +kernel
theorem dX6_digest_2 : decode cX6_digest 2 = .ok (.putfield 28, 3) := by decide +kernel
theorem dX6_digest_5 : decode cX6_digest 5 = .ok (.ldc2_w 177, 3) := by decide +kernel
theorem dX6_digest_8 : decode cX6_digest 8 = .ok (.lstore_n 1, 1) := by decide +kernel
theorem dX6_digest_9 : decode cX6_digest 9 = .ok (.iconst 0, 1) := by decide +kernel
theorem dX6_digest_10 : decode cX6_digest 10 = .ok (.istore_n 3, 1) := by decide +kernel
theorem dX6_digest_11 : decode cX6_digest 11 = .ok (.iload_n 3, 1) := by decide +kernel
theorem dX6_digest_12 : decode cX6_digest 12 = .ok (.bipush 21, 2) := by decide +kernel
theorem dX6_digest_14 : decode cX6_digest 14 = .ok (.if_icmp .ge 22, 3) := by decide +kernel
theorem dX6_digest_17 : decode cX6_digest 17 = .ok (.ldc2_w 179, 3) := by decide +kernel
theorem dX6_digest_20 : decode cX6_digest 20 = .ok (.lload_n 1, 1) := by decide +kernel
theorem dX6_digest_21 : decode cX6_digest 21 = .ok (.lmul, 1) := by decide +kernel
theorem dX6_digest_22 : decode cX6_digest 22 = .ok (.aload_n 0, 1) := by decide +kernel
theorem dX6_digest_23 : decode cX6_digest 23 = .ok (.iload_n 3, 1) := by decide +kernel
theorem dX6_digest_24 : decode cX6_digest 24 = .ok (.invokevirtual 150, 3) := by decide +kernel
theorem dX6_digest_27 : decode cX6_digest 27 = .ok (.i2l, 1) := by decide +kernel
theorem dX6_digest_28 : decode cX6_digest 28 = .ok (.ladd, 1) := by decide +kernel
theorem dX6_digest_29 : decode cX6_digest 29 = .ok (.lstore_n 1, 1) := by decide +kernel
theorem dX6_digest_30 : decode cX6_digest 30 = .ok (.iinc 3 1, 3) := by decide +kernel
theorem dX6_digest_33 : decode cX6_digest 33 = .ok (.goto (-22), 3) := by decide +kernel
theorem dX6_digest_36 : decode cX6_digest 36 = .ok (.iconst 0, 1) := by decide +kernel
theorem dX6_digest_37 : decode cX6_digest 37 = .ok (.istore_n 3, 1) := by decide +kernel
theorem dX6_digest_38 : decode cX6_digest 38 = .ok (.iload_n 3, 1) := by decide +kernel
theorem dX6_digest_39 : decode cX6_digest 39 = .ok (.bipush 6, 2) := by decide +kernel
theorem dX6_digest_41 : decode cX6_digest 41 = .ok (.if_icmp .ge 53, 3) := by decide +kernel
theorem dX6_digest_44 : decode cX6_digest 44 = .ok (.iconst 0, 1) := by decide +kernel
theorem dX6_digest_45 : decode cX6_digest 45 = .ok (.istore 4, 2) := by decide +kernel
theorem dX6_digest_47 : decode cX6_digest 47 = .ok (.iload 4, 2) := by decide +kernel
theorem dX6_digest_49 : decode cX6_digest 49 = .ok (.bipush 8, 2) := by decide +kernel
theorem dX6_digest_51 : decode cX6_digest 51 = .ok (.if_icmp .ge 24, 3) := by decide +kernel
theorem dX6_digest_54 : decode cX6_digest 54 = .ok (.ldc2_w 179, 3) := by decide +kernel
theorem dX6_digest_57 : decode cX6_digest 57 = .ok (.lload_n 1, 1) := by decide +kernel
theorem dX6_digest_58 : decode cX6_digest 58 = .ok (.lmul, 1) := by decide +kernel
theorem dX6_digest_59 : decode cX6_digest 59 = .ok (.aload_n 0, 1) := by decide +kernel
theorem dX6_digest_60 : decode cX6_digest 60 = .ok (.iload_n 3, 1) := by decide +kernel
theorem dX6_digest_61 : decode cX6_digest 61 = .ok (.iload 4, 2) := by decide +kernel
theorem dX6_digest_63 : decode cX6_digest 63 = .ok (.invokevirtual 137, 3) := by decide +kernel
theorem dX6_digest_66 : decode cX6_digest 66 = .ok (.i2l, 1) := by decide +kernel
theorem dX6_digest_67 : decode cX6_digest 67 = .ok (.ladd, 1) := by decide +kernel
theorem dX6_digest_68 : decode cX6_digest 68 = .ok (.lstore_n 1, 1) := by decide +kernel
theorem dX6_digest_69 : decode cX6_digest 69 = .ok (.iinc 4 1, 3) := by decide +kernel
theorem dX6_digest_72 : decode cX6_digest 72 = .ok (.goto (-25), 3) := by decide +kernel
theorem dX6_digest_75 : decode cX6_digest 75 = .ok (.ldc2_w 179, 3) := by decide +kernel
theorem dX6_digest_78 : decode cX6_digest 78 = .ok (.lload_n 1, 1) := by decide +kernel
theorem dX6_digest_79 : decode cX6_digest 79 = .ok (.lmul, 1) := by decide +kernel
theorem dX6_digest_80 : decode cX6_digest 80 = .ok (.aload_n 0, 1) := by decide +kernel
theorem dX6_digest_81 : decode cX6_digest 81 = .ok (.iload_n 3, 1) := by decide +kernel
theorem dX6_digest_82 : decode cX6_digest 82 = .ok (.invokevirtual 167, 3) := by decide +kernel
theorem dX6_digest_85 : decode cX6_digest 85 = .ok (.i2l, 1) := by decide +kernel
theorem dX6_digest_86 : decode cX6_digest 86 = .ok (.ladd, 1) := by decide +kernel
theorem dX6_digest_87 : decode cX6_digest 87 = .ok (.lstore_n 1, 1) := by decide +kernel
theorem dX6_digest_88 : decode cX6_digest 88 = .ok (.iinc 3 1, 3) := by decide +kernel
theorem dX6_digest_91 : decode cX6_digest 91 = .ok (.goto (-53), 3) := by decide +kernel
theorem dX6_digest_94 : decode cX6_digest 94 = .ok (.iconst 0, 1) := by decide +kernel
theorem dX6_digest_95 : decode cX6_digest 95 = .ok (.istore_n 3, 1) := by decide +kernel
theorem dX6_digest_96 : decode cX6_digest 96 = .ok (.iload_n 3, 1) := by decide +kernel
theorem dX6_digest_97 : decode cX6_digest 97 = .ok (.iconst 5, 1) := by decide +kernel
theorem dX6_digest_98 : decode cX6_digest 98 = .ok (.aload_n 0, 1) := by decide +kernel
theorem dX6_digest_99 : decode cX6_digest 99 = .ok (.getfield 7, 3) := by decide +kernel
theorem dX6_digest_102 : decode cX6_digest 102 = .ok (.bipush 10, 2) := by decide +kernel
theorem dX6_digest_104 : decode cX6_digest 104 = .ok (.iaload, 1) := by decide +kernel
theorem dX6_digest_105 : decode cX6_digest 105 = .ok (.imul, 1) := by decide +kernel
theorem dX6_digest_106 : decode cX6_digest 106 = .ok (.if_icmp .ge 27, 3) := by decide +kernel
theorem dX6_digest_109 : decode cX6_digest 109 = .ok (.ldc2_w 179, 3) := by decide +kernel
theorem dX6_digest_112 : decode cX6_digest 112 = .ok (.lload_n 1, 1) := by decide +kernel
theorem dX6_digest_113 : decode cX6_digest 113 = .ok (.lmul, 1) := by decide +kernel
theorem dX6_digest_114 : decode cX6_digest 114 = .ok (.aload_n 0, 1) := by decide +kernel
theorem dX6_digest_115 : decode cX6_digest 115 = .ok (.iload_n 3, 1) := by decide +kernel
theorem dX6_digest_116 : decode cX6_digest 116 = .ok (.iconst 5, 1) := by decide +kernel
theorem dX6_digest_117 : decode cX6_digest 117 = .ok (.idiv, 1) := by decide +kernel
theorem dX6_digest_118 : decode cX6_digest 118 = .ok (.iload_n 3, 1) := by decide +kernel
theorem dX6_digest_119 : decode cX6_digest 119 = .ok (.iconst 5, 1) := by decide +kernel
theorem dX6_digest_120 : decode cX6_digest 120 = .ok (.irem, 1) := by decide +kernel
theorem dX6_digest_121 : decode cX6_digest 121 = .ok (.invokevirtual 140, 3) := by decide +kernel
theorem dX6_digest_124 : decode cX6_digest 124 = .ok (.i2l, 1) := by decide +kernel
theorem dX6_digest_125 : decode cX6_digest 125 = .ok (.ladd, 1) := by decide +kernel
theorem dX6_digest_126 : decode cX6_digest 126 = .ok (.lstore_n 1, 1) := by decide +kernel
theorem dX6_digest_127 : decode cX6_digest 127 = .ok (.iinc 3 1, 3) := by decide +kernel
theorem dX6_digest_130 : decode cX6_digest 130 = .ok (.goto (-34), 3) := by decide +kernel
theorem dX6_digest_133 : decode cX6_digest 133 = .ok (.iconst 0, 1) := by decide +kernel
theorem dX6_digest_134 : decode cX6_digest 134 = .ok (.istore_n 3, 1) := by decide +kernel
theorem dX6_digest_135 : decode cX6_digest 135 = .ok (.iload_n 3, 1) := by decide +kernel
theorem dX6_digest_136 : decode cX6_digest 136 = .ok (.iconst 3, 1) := by decide +kernel
theorem dX6_digest_137 : decode cX6_digest 137 = .ok (.if_icmp .ge 26, 3) := by decide +kernel
theorem dX6_digest_140 : decode cX6_digest 140 = .ok (.ldc2_w 179, 3) := by decide +kernel
theorem dX6_digest_143 : decode cX6_digest 143 = .ok (.lload_n 1, 1) := by decide +kernel
theorem dX6_digest_144 : decode cX6_digest 144 = .ok (.lmul, 1) := by decide +kernel
theorem dX6_digest_145 : decode cX6_digest 145 = .ok (.aload_n 0, 1) := by decide +kernel
theorem dX6_digest_146 : decode cX6_digest 146 = .ok (.getfield 7, 3) := by decide +kernel
theorem dX6_digest_149 : decode cX6_digest 149 = .ok (.bipush 16, 2) := by decide +kernel
theorem dX6_digest_151 : decode cX6_digest 151 = .ok (.iload_n 3, 1) := by decide +kernel
theorem dX6_digest_152 : decode cX6_digest 152 = .ok (.iadd, 1) := by decide +kernel
theorem dX6_digest_153 : decode cX6_digest 153 = .ok (.iaload, 1) := by decide +kernel
theorem dX6_digest_154 : decode cX6_digest 154 = .ok (.i2l, 1) := by decide +kernel
theorem dX6_digest_155 : decode cX6_digest 155 = .ok (.ladd, 1) := by decide +kernel
theorem dX6_digest_156 : decode cX6_digest 156 = .ok (.lstore_n 1, 1) := by decide +kernel
theorem dX6_digest_157 : decode cX6_digest 157 = .ok (.iinc 3 1, 3) := by decide +kernel
theorem dX6_digest_160 : decode cX6_digest 160 = .ok (.goto (-25), 3) := by decide +kernel
theorem dX6_digest_163 : decode cX6_digest 163 = .ok (.ldc2_w 179, 3) := by decide +kernel
theorem dX6_digest_166 : decode cX6_digest 166 = .ok (.ldc2_w 179, 3) := by decide +kernel
theorem dX6_digest_169 : decode cX6_digest 169 = .ok (.lload_n 1, 1) := by decide +kernel
theorem dX6_digest_170 : decode cX6_digest 170 = .ok (.lmul, 1) := by decide +kernel
theorem dX6_digest_171 : decode cX6_digest 171 = .ok (.aload_n 0, 1) := by decide +kernel
theorem dX6_digest_172 : decode cX6_digest 172 = .ok (.iconst 0, 1) := by decide +kernel
theorem dX6_digest_173 : decode cX6_digest 173 = .ok (.iconst 2, 1) := by decide +kernel
theorem dX6_digest_174 : decode cX6_digest 174 = .ok (.iconst 4, 1) := by decide +kernel
theorem dX6_digest_175 : decode cX6_digest 175 = .ok (.iconst 0, 1) := by decide +kernel
theorem dX6_digest_176 : decode cX6_digest 176 = .ok (.invokevirtual 160, 3) := by decide +kernel
theorem dX6_digest_179 : decode cX6_digest 179 = .ok (.i2l, 1) := by decide +kernel
theorem dX6_digest_180 : decode cX6_digest 180 = .ok (.ladd, 1) := by decide +kernel
theorem dX6_digest_181 : decode cX6_digest 181 = .ok (.lmul, 1) := by decide +kernel
theorem dX6_digest_182 : decode cX6_digest 182 = .ok (.aload_n 0, 1) := by decide +kernel
theorem dX6_digest_183 : decode cX6_digest 183 = .ok (.iconst 0, 1) := by decide +kernel
theorem dX6_digest_184 : decode cX6_digest 184 = .ok (.iconst 2, 1) := by decide +kernel
theorem dX6_digest_185 : decode cX6_digest 185 = .ok (.iconst 4, 1) := by decide +kernel
theorem dX6_digest_186 : decode cX6_digest 186 = .ok (.iconst 1, 1) := by decide +kernel
theorem dX6_digest_187 : decode cX6_digest 187 = .ok (.invokevirtual 160, 3) := by decide +kernel
theorem dX6_digest_190 : decode cX6_digest 190 = .ok (.i2l, 1) := by decide +kernel
theorem dX6_digest_191 : decode cX6_digest 191 = .ok (.ladd, 1) := by decide +kernel
theorem dX6_digest_192 : decode cX6_digest 192 = .ok (.lstore_n 1, 1) := by decide +kernel
theorem dX6_digest_193 : decode cX6_digest 193 = .ok (.ldc2_w 179, 3) := by decide +kernel
theorem dX6_digest_196 : decode cX6_digest 196 = .ok (.ldc2_w 179, 3) := by decide +kernel
theorem dX6_digest_199 : decode cX6_digest 199 = .ok (.lload_n 1, 1) := by decide +kernel
theorem dX6_digest_200 : decode cX6_digest 200 = .ok (.lmul, 1) := by decide +kernel
theorem dX6_digest_201 : decode cX6_digest 201 = .ok (.aload_n 0, 1) := by decide +kernel
theorem dX6_digest_202 : decode cX6_digest 202 = .ok (.iconst 1, 1) := by decide +kernel
theorem dX6_digest_203 : decode cX6_digest 203 = .ok (.iconst 1, 1) := by decide +kernel
theorem dX6_digest_204 : decode cX6_digest 204 = .ok (.iconst 5, 1) := by decide +kernel
theorem dX6_digest_205 : decode cX6_digest 205 = .ok (.iconst 0, 1) := by decide +kernel
theorem dX6_digest_206 : decode cX6_digest 206 = .ok (.invokevirtual 160, 3) := by decide +kernel
theorem dX6_digest_209 : decode cX6_digest 209 = .ok (.i2l, 1) := by decide +kernel
theorem dX6_digest_210 : decode cX6_digest 210 = .ok (.ladd, 1) := by decide +kernel
theorem dX6_digest_211 : decode cX6_digest 211 = .ok (.lmul, 1) := by decide +kernel
theorem dX6_digest_212 : decode cX6_digest 212 = .ok (.aload_n 0, 1) := by decide +kernel
theorem dX6_digest_213 : decode cX6_digest 213 = .ok (.iconst 1, 1) := by decide +kernel
theorem dX6_digest_214 : decode cX6_digest 214 = .ok (.iconst 1, 1) := by decide +kernel
theorem dX6_digest_215 : decode cX6_digest 215 = .ok (.iconst 5, 1) := by decide +kernel
theorem dX6_digest_216 : decode cX6_digest 216 = .ok (.iconst 1, 1) := by decide +kernel
theorem dX6_digest_217 : decode cX6_digest 217 = .ok (.invokevirtual 160, 3) := by decide +kernel
theorem dX6_digest_220 : decode cX6_digest 220 = .ok (.i2l, 1) := by decide +kernel
theorem dX6_digest_221 : decode cX6_digest 221 = .ok (.ladd, 1) := by decide +kernel
theorem dX6_digest_222 : decode cX6_digest 222 = .ok (.lstore_n 1, 1) := by decide +kernel
theorem dX6_digest_223 : decode cX6_digest 223 = .ok (.ldc2_w 179, 3) := by decide +kernel
theorem dX6_digest_226 : decode cX6_digest 226 = .ok (.ldc2_w 179, 3) := by decide +kernel
theorem dX6_digest_229 : decode cX6_digest 229 = .ok (.lload_n 1, 1) := by decide +kernel
theorem dX6_digest_230 : decode cX6_digest 230 = .ok (.lmul, 1) := by decide +kernel
theorem dX6_digest_231 : decode cX6_digest 231 = .ok (.aload_n 0, 1) := by decide +kernel
theorem dX6_digest_232 : decode cX6_digest 232 = .ok (.invokevirtual 164, 3) := by decide +kernel
theorem dX6_digest_235 : decode cX6_digest 235 = .ok (.i2l, 1) := by decide +kernel
theorem dX6_digest_236 : decode cX6_digest 236 = .ok (.ladd, 1) := by decide +kernel
theorem dX6_digest_237 : decode cX6_digest 237 = .ok (.lmul, 1) := by decide +kernel
theorem dX6_digest_238 : decode cX6_digest 238 = .ok (.aload_n 0, 1) := by decide +kernel
theorem dX6_digest_239 : decode cX6_digest 239 = .ok (.invokevirtual 170, 3) := by decide +kernel
theorem dX6_digest_242 : decode cX6_digest 242 = .ok (.i2l, 1) := by decide +kernel
theorem dX6_digest_243 : decode cX6_digest 243 = .ok (.ladd, 1) := by decide +kernel
theorem dX6_digest_244 : decode cX6_digest 244 = .ok (.lstore_n 1, 1) := by decide +kernel
theorem dX6_digest_245 : decode cX6_digest 245 = .ok (.ldc2_w 179, 3) := by decide +kernel
theorem dX6_digest_248 : decode cX6_digest 248 = .ok (.lload_n 1, 1) := by decide +kernel
theorem dX6_digest_249 : decode cX6_digest 249 = .ok (.lmul, 1) := by decide +kernel
theorem dX6_digest_250 : decode cX6_digest 250 = .ok (.aload_n 0, 1) := by decide +kernel
theorem dX6_digest_251 : decode cX6_digest 251 = .ok (.invokevirtual 173, 3) := by decide +kernel
theorem dX6_digest_254 : decode cX6_digest 254 = .ok (.invokestatic 181, 3) := by decide +kernel
theorem dX6_digest_257 : decode cX6_digest 257 = .ok (.ladd, 1) := by decide +kernel
theorem dX6_digest_258 : decode cX6_digest 258 = .ok (.lstore_n 1, 1) := by decide +kernel
theorem dX6_digest_259 : decode cX6_digest 259 = .ok (.ldc2_w 179, 3) := by decide +kernel
theorem dX6_digest_262 : decode cX6_digest 262 = .ok (.lload_n 1, 1) := by decide +kernel
theorem dX6_digest_263 : decode cX6_digest 263 = .ok (.lmul, 1) := by decide +kernel
theorem dX6_digest_264 : decode cX6_digest 264 = .ok (.aload_n 0, 1) := by decide +kernel
theorem dX6_digest_265 : decode cX6_digest 265 = .ok (.getfield 97, 3) := by decide +kernel
theorem dX6_digest_268 : decode cX6_digest 268 = .ok (.i2l, 1) := by decide +kernel
theorem dX6_digest_269 : decode cX6_digest 269 = .ok (.ladd, 1) := by decide +kernel
theorem dX6_digest_270 : decode cX6_digest 270 = .ok (.lstore_n 1, 1) := by decide +kernel
theorem dX6_digest_271 : decode cX6_digest 271 = .ok (.iconst 0, 1) := by decide +kernel
theorem dX6_digest_272 : decode cX6_digest 272 = .ok (.istore_n 3, 1) := by decide +kernel
theorem dX6_digest_273 : decode cX6_digest 273 = .ok (.iload_n 3, 1) := by decide +kernel
theorem dX6_digest_274 : decode cX6_digest 274 = .ok (.aload_n 0, 1) := by decide +kernel
theorem dX6_digest_275 : decode cX6_digest 275 = .ok (.getfield 97, 3) := by decide +kernel
theorem dX6_digest_278 : decode cX6_digest 278 = .ok (.if_icmp .ge 23, 3) := by decide +kernel
theorem dX6_digest_281 : decode cX6_digest 281 = .ok (.ldc2_w 179, 3) := by decide +kernel
theorem dX6_digest_284 : decode cX6_digest 284 = .ok (.lload_n 1, 1) := by decide +kernel
theorem dX6_digest_285 : decode cX6_digest 285 = .ok (.lmul, 1) := by decide +kernel
theorem dX6_digest_286 : decode cX6_digest 286 = .ok (.aload_n 0, 1) := by decide +kernel
theorem dX6_digest_287 : decode cX6_digest 287 = .ok (.getfield 22, 3) := by decide +kernel
theorem dX6_digest_290 : decode cX6_digest 290 = .ok (.iload_n 3, 1) := by decide +kernel
theorem dX6_digest_291 : decode cX6_digest 291 = .ok (.iaload, 1) := by decide +kernel
theorem dX6_digest_292 : decode cX6_digest 292 = .ok (.i2l, 1) := by decide +kernel
theorem dX6_digest_293 : decode cX6_digest 293 = .ok (.ladd, 1) := by decide +kernel
theorem dX6_digest_294 : decode cX6_digest 294 = .ok (.lstore_n 1, 1) := by decide +kernel
theorem dX6_digest_295 : decode cX6_digest 295 = .ok (.iinc 3 1, 3) := by decide +kernel
theorem dX6_digest_298 : decode cX6_digest 298 = .ok (.goto (-25), 3) := by decide +kernel
theorem dX6_digest_301 : decode cX6_digest 301 = .ok (.lload_n 1, 1) := by decide +kernel
theorem dX6_digest_302 : decode cX6_digest 302 = .ok (.lreturn, 1) := by decide +kernel
theorem dJxe99ae_isNaN_b9ae7_0 : decode cJxe99ae_isNaN_b9ae7 0 = .ok (.dload_n 0, 1) := by decide +kernel
theorem dJxe99ae_isNaN_b9ae7_1 : decode cJxe99ae_isNaN_b9ae7 1 = .ok (.dload_n 0, 1) := by decide +kernel
theorem dJxe99ae_isNaN_b9ae7_2 : decode cJxe99ae_isNaN_b9ae7 2 = .ok (.dcmp .l, 1) := by decide +kernel
theorem dJxe99ae_isNaN_b9ae7_3 : decode cJxe99ae_isNaN_b9ae7 3 = .ok (.ifCond .eq 7, 3) := by decide +kernel
theorem dJxe99ae_isNaN_b9ae7_6 : decode cJxe99ae_isNaN_b9ae7 6 = .ok (.iconst 1, 1) := by decide +kernel
theorem dJxe99ae_isNaN_b9ae7_7 : decode cJxe99ae_isNaN_b9ae7 7 = .ok (.goto 4, 3) := by decide +kernel
theorem dJxe99ae_isNaN_b9ae7_10 : decode cJxe99ae_isNaN_b9ae7 10 = .ok (.iconst 0, 1) := by decide +kernel
theorem dJxe99ae_isNaN_b9ae7_11 : decode cJxe99ae_isNaN_b9ae7 11 = .ok (.ireturn, 1) := by decide +kernel
set_option maxRecDepth 20000 in
theorem ggJxe99ae_doubleToLongBits_ccdee_Jxe99ae_isNaN_b9ae7 : GoodIn wsJxe99ae_doubleToLongBits_ccdee wsJxe99ae_isNaN_b9ae7 := goodIn_r _ [9] (by decide +kernel) (by decide +kernel)
set_option maxRecDepth 20000 in
theorem gJxe99ae_doubleToLongBits_ccdee_Jxe99ae_isNaN_b9ae7 : GoodIn wsJxe99ae_doubleToLongBits_ccdee (va_wsS RJxe99ae 122 yJxe99ae_isNaN_b9ae7 wsJxe99ae_isNaN_b9ae7) := goodIn_app (goodIn_of _ (by decide +kernel)) ggJxe99ae_doubleToLongBits_ccdee_Jxe99ae_isNaN_b9ae7
theorem dJxe99ae_doubleToLongBits_ccdee_0 : decode cJxe99ae_doubleToLongBits_ccdee 0 = .ok (.dload_n 0, 1) := by decide +kernel
