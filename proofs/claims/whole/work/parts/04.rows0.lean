theorem in_ps {big : List Cond} (ws : List Cond) (ps : List Nat) (hp : ws = ps.filterMap (fun i => big[i]?)) : ∀ w ∈ ws, w ∈ big := by
  intro w hw
  rw [hp] at hw
  obtain ⟨i, -, hi⟩ := List.mem_filterMap.mp hw
  exact List.mem_of_getElem? hi
set_option maxRecDepth 20000 in
theorem in_wsL_law0_r1 : ∀ w ∈ wsL_law0_r1, w ∈ lw_tbl := in_ps _ [72, 73, 56, 818, 819, 62, 1145, 74, 75, 76, 77, 78, 79, 80, 81, 57, 258, 259, 197, 198, 60, 260, 217, 218] (by decide +kernel)
set_option maxRecDepth 20000 in
theorem in_wsL_law0_r2 : ∀ w ∈ wsL_law0_r2, w ∈ lw_tbl := in_ps _ [61, 261, 256, 87, 58, 262, 263, 83, 84, 85, 86, 171, 152, 153, 59, 173, 167, 169, 95, 96, 97, 98, 170, 175] (by decide +kernel)
set_option maxRecDepth 20000 in
theorem in_wsL_law0_r3 : ∀ w ∈ wsL_law0_r3, w ∈ lw_tbl := in_ps _ [177, 179, 180, 181, 89, 90, 91, 92, 94, 100, 101, 102, 104, 106, 109, 112, 114, 118, 122, 124, 126, 155, 156, 157] (by decide +kernel)
set_option maxRecDepth 20000 in
theorem in_wsL_law0_r4 : ∀ w ∈ wsL_law0_r4, w ∈ lw_tbl := in_ps _ [151, 158, 159, 199, 200, 201, 202, 203, 206, 207, 208, 220, 221, 222, 223, 225, 227, 229, 231, 233, 234, 235, 236, 820] (by decide +kernel)
set_option maxRecDepth 20000 in
theorem in_wsL_law0_r5 : ∀ w ∈ wsL_law0_r5, w ∈ lw_tbl := in_ps _ [821, 822, 823, 829, 830, 831, 833, 835, 824, 826, 21, 827, 525, 526, 55, 527, 528, 529, 530, 531, 532, 172, 108, 533] (by decide +kernel)
set_option maxRecDepth 20000 in
theorem in_wsL_law0_r6 : ∀ w ∈ wsL_law0_r6, w ∈ lw_tbl := in_ps _ [534, 535, 536, 66, 281, 282, 283, 284, 302, 303, 68, 304, 285, 286, 287, 288, 301, 295, 294, 67, 289, 290, 291, 292] (by decide +kernel)
set_option maxRecDepth 20000 in
theorem in_wsL_law0_r7 : ∀ w ∈ wsL_law0_r7, w ∈ lw_tbl := in_ps _ [293, 296, 297, 298, 299, 300, 604, 605, 606, 607, 417, 882, 883, 884, 885, 828, 886, 887, 888, 878, 880, 22, 881, 832] (by decide +kernel)
set_option maxRecDepth 20000 in
theorem in_wsL_law0_r8 : ∀ w ∈ wsL_law0_r8, w ∈ lw_tbl := in_ps _ [889, 891, 23, 892, 893, 894, 895, 862, 863, 864, 865, 608, 609, 610, 611, 612, 613, 614, 615, 616, 617, 618, 620, 69] (by decide +kernel)
set_option maxRecDepth 20000 in
theorem in_wsL_law0_r9 : ∀ w ∈ wsL_law0_r9, w ∈ lw_tbl := in_ps _ [619, 390, 391, 473, 386, 387, 388, 636, 637, 638, 639, 896, 897, 898, 899, 900, 901, 902, 640, 641, 642, 643, 644, 645] (by decide +kernel)
set_option maxRecDepth 20000 in
theorem in_wsL_law0_r10 : ∀ w ∈ wsL_law0_r10, w ∈ lw_tbl := in_ps _ [646, 103, 105, 903, 904, 905, 906, 647, 648, 649, 650, 651, 652, 653, 111, 654, 907, 908, 909, 910, 277, 278, 279, 280] (by decide +kernel)
set_option maxRecDepth 20000 in
theorem in_wsL_law0_r11 : ∀ w ∈ wsL_law0_r11, w ∈ lw_tbl := in_ps _ [911, 912, 913, 914, 915, 917, 24, 918, 305, 306, 307, 308, 113, 919, 920, 921, 922, 655, 656, 657, 658, 659, 660, 661] (by decide +kernel)
set_option maxRecDepth 20000 in
theorem in_wsL_law0_r12 : ∀ w ∈ wsL_law0_r12, w ∈ lw_tbl := in_ps _ [117, 923, 924, 925, 926, 662, 663, 664, 665, 666, 667, 668, 404, 405, 406, 407, 408, 410, 10, 411, 412, 413, 414, 415] (by decide +kernel)
set_option maxRecDepth 20000 in
theorem in_wsL_law0_r13 : ∀ w ∈ wsL_law0_r13, w ∈ lw_tbl := in_ps _ [378, 379, 380, 381, 382, 383, 384, 416, 375, 376, 377, 385, 392, 393, 68, 394, 927, 928, 929, 930, 931, 933, 25, 934] (by decide +kernel)
set_option maxRecDepth 20000 in
theorem in_wsL_law0_r14 : ∀ w ∈ wsL_law0_r14, w ∈ lw_tbl := in_ps _ [935, 937, 26, 938, 939, 941, 27, 942, 943, 945, 28, 946, 947, 949, 29, 950, 951, 952, 953, 669, 670, 671, 672, 673] (by decide +kernel)
set_option maxRecDepth 20000 in
theorem in_wsL_law0_r15 : ∀ w ∈ wsL_law0_r15, w ∈ lw_tbl := in_ps _ [674, 675, 676, 677, 70, 480, 481, 482, 483, 107, 110, 484, 485, 476, 477, 478, 479, 396, 397, 486, 487, 488, 489, 693] (by decide +kernel)
set_option maxRecDepth 20000 in
theorem in_wsL_law0_r16 : ∀ w ∈ wsL_law0_r16, w ∈ lw_tbl := in_ps _ [694, 695, 696, 115, 697, 698, 699, 700, 119, 116, 701, 702, 703, 704, 374, 954, 955, 956, 957, 958, 960, 30, 961, 962] (by decide +kernel)
set_option maxRecDepth 20000 in
theorem in_wsL_law0_r17 : ∀ w ∈ wsL_law0_r17, w ∈ lw_tbl := in_ps _ [964, 31, 965, 966, 967, 968, 969, 971, 32, 972, 309, 310, 311, 312, 174, 161, 973, 974, 975, 976, 705, 706, 707, 708] (by decide +kernel)
set_option maxRecDepth 20000 in
theorem in_wsL_law0_r18 : ∀ w ∈ wsL_law0_r18, w ∈ lw_tbl := in_ps _ [709, 710, 711, 713, 715, 176, 977, 978, 979, 980, 981, 982, 983, 984, 985, 986, 717, 718, 719, 720, 721, 722, 723, 226] (by decide +kernel)
set_option maxRecDepth 20000 in
theorem in_wsL_law0_r19 : ∀ w ∈ wsL_law0_r19, w ∈ lw_tbl := in_ps _ [224, 987, 988, 989, 990, 836, 313, 314, 315, 316, 991, 992, 993, 994, 317, 318, 319, 320, 321, 322, 323, 324, 325, 327] (by decide +kernel)
set_option maxRecDepth 20000 in
theorem in_wsL_law0_r20 : ∀ w ∈ wsL_law0_r20, w ∈ lw_tbl := in_ps _ [0, 328, 329, 331, 1, 332, 333, 335, 2, 336, 337, 339, 3, 340, 341, 343, 4, 344, 345, 347, 5, 348, 349, 351] (by decide +kernel)
set_option maxRecDepth 20000 in
theorem in_wsL_law0_r21 : ∀ w ∈ wsL_law0_r21, w ∈ lw_tbl := in_ps _ [6, 352, 353, 355, 7, 356, 357, 359, 8, 360, 361, 363, 9, 364, 995, 996, 997, 998, 999, 1001, 33, 1002, 1003, 1005] (by decide +kernel)
set_option maxRecDepth 20000 in
theorem in_wsL_law0_r22 : ∀ w ∈ wsL_law0_r22, w ∈ lw_tbl := in_ps _ [34, 1006, 837, 1007, 1009, 35, 1010, 1011, 1013, 36, 1014, 838, 1015, 1017, 37, 1018, 1019, 1021, 38, 1022, 725, 726, 727, 728] (by decide +kernel)
set_option maxRecDepth 20000 in
theorem in_wsL_law0_r23 : ∀ w ∈ wsL_law0_r23, w ∈ lw_tbl := in_ps _ [729, 730, 731, 232, 732, 733, 734, 735, 736, 738, 739, 740, 741, 742, 743, 744, 745, 746, 748, 19, 749, 230, 228, 750] (by decide +kernel)
set_option maxRecDepth 20000 in
theorem in_wsL_law0_r24 : ∀ w ∈ wsL_law0_r24, w ∈ lw_tbl := in_ps _ [752, 20, 753, 754, 1023, 1024, 1025, 1026, 1027, 1029, 39, 1030, 755, 756, 757, 758, 759, 760, 761, 507, 508, 509, 510, 1031] (by decide +kernel)
set_option maxRecDepth 20000 in
theorem in_wsL_law0_r25 : ∀ w ∈ wsL_law0_r25, w ∈ lw_tbl := in_ps _ [1032, 1033, 1034, 762, 763, 764, 765, 766, 767, 768, 209, 770, 771, 772, 773, 866, 867, 868, 869, 365, 366, 367, 368, 121] (by decide +kernel)
set_option maxRecDepth 20000 in
theorem in_wsL_law0_r26 : ∀ w ∈ wsL_law0_r26, w ∈ lw_tbl := in_ps _ [369, 870, 871, 872, 873, 834, 774, 775, 776, 777, 778, 779, 780, 874, 875, 876, 877, 782, 783, 784, 785, 786, 787, 788] (by decide +kernel)
set_option maxRecDepth 20000 in
theorem in_wsL_law0_r27 : ∀ w ∈ wsL_law0_r27, w ∈ lw_tbl := in_ps _ [468, 470, 13, 471, 472, 444, 445, 446, 447, 448, 449, 450, 474, 475, 490, 491, 492, 493, 494, 1035, 1036, 1037, 1038, 1039] (by decide +kernel)
set_option maxRecDepth 20000 in
theorem in_wsL_law0_r28 : ∀ w ∈ wsL_law0_r28, w ∈ lw_tbl := in_ps _ [1041, 40, 1042, 1043, 1045, 41, 1046, 1047, 1049, 42, 1050, 1051, 1053, 43, 1054, 789, 790, 791, 792, 793, 794, 795, 503, 505] (by decide +kernel)
set_option maxRecDepth 20000 in
theorem in_wsL_law0_r29 : ∀ w ∈ wsL_law0_r29, w ∈ lw_tbl := in_ps _ [16, 506, 1055, 1056, 1057, 1058, 1059, 1061, 44, 1062, 797, 798, 799, 800, 801, 802, 803, 427, 429, 11, 430, 123, 432, 125] (by decide +kernel)
set_option maxRecDepth 20000 in
theorem in_wsL_law0_r30 : ∀ w ∈ wsL_law0_r30, w ∈ lw_tbl := in_ps _ [178, 127, 431, 433, 434, 435, 436, 437, 438, 439, 440, 441, 442, 452, 453, 120, 443, 451, 454, 455, 456, 457, 458, 160] (by decide +kernel)
set_option maxRecDepth 20000 in
theorem in_wsL_law0_r31 : ∀ w ∈ wsL_law0_r31, w ∈ lw_tbl := in_ps _ [459, 1063, 1064, 1065, 1066, 1067, 1069, 45, 1070, 1071, 1072, 1074, 46, 1075, 1076, 1078, 47, 1079, 804, 805, 806, 807, 808, 809] (by decide +kernel)
set_option maxRecDepth 20000 in
theorem in_wsL_law0_r32 : ∀ w ∈ wsL_law0_r32, w ∈ lw_tbl := in_ps _ [810, 511, 513, 17, 514, 515, 403, 1080, 1081, 1082, 1083, 1084, 1086, 48, 1087, 1096, 1088, 1090, 49, 1091, 1092, 1094, 50, 1095] (by decide +kernel)
set_option maxRecDepth 20000 in
theorem in_wsL_law0_r33 : ∀ w ∈ wsL_law0_r33, w ∈ lw_tbl := in_ps _ [370, 371, 372, 373, 395, 1097, 1098, 1099, 1100, 1101, 1103, 51, 1104, 811, 812, 813, 814, 815, 816, 817, 495, 497, 14, 498] (by decide +kernel)
set_option maxRecDepth 20000 in
theorem in_wsL_law0_r34 : ∀ w ∈ wsL_law0_r34, w ∈ lw_tbl := in_ps _ [1105, 1106, 1107, 1108, 1109, 1111, 52, 1112, 398, 399, 400, 401, 402, 1113, 1114, 1115, 1116, 1117, 1119, 53, 1120, 418, 419, 420] (by decide +kernel)
set_option maxRecDepth 20000 in
theorem in_wsL_law0_r35 : ∀ w ∈ wsL_law0_r35, w ∈ lw_tbl := in_ps _ [421, 1121, 1122, 1123, 1124, 1125, 1127, 54, 1128, 422, 423, 424, 425, 426, 460, 461, 462, 463, 464, 466, 12, 467, 499, 501] (by decide +kernel)
set_option maxRecDepth 20000 in
theorem in_wsL_law0_r36 : ∀ w ∈ wsL_law0_r36, w ∈ lw_tbl := in_ps _ [15, 502, 516, 517, 518, 519, 520, 521, 522, 523, 524, 1129, 1130, 1131, 1132, 1133, 1134, 1135, 1136, 71, 1137, 1141, 1143, 1142] (by decide +kernel)
set_option maxRecDepth 20000 in
theorem in_wsL_law0_r37 : ∀ w ∈ wsL_law0_r37, w ∈ lw_tbl := in_ps _ [71, 1144, 1138, 1139, 1140] (by decide +kernel)
set_option maxRecDepth 20000 in
theorem in_wsX50 : ∀ w ∈ wsX50, w ∈ lw_tbl := in_ps _ [264, 266, 268, 270, 272, 274] (by decide +kernel)
set_option maxRecDepth 20000 in
theorem in_wsX60 : ∀ w ∈ wsX60, w ∈ lw_tbl := in_ps _ [839, 841, 843, 845, 847, 849, 851, 853, 855, 857, 859] (by decide +kernel)
set_option maxRecDepth 20000 in
theorem in_wsX30 : ∀ w ∈ wsX30, w ∈ lw_tbl := in_ps _ [182, 184, 186, 188, 190, 192, 194] (by decide +kernel)
set_option maxRecDepth 20000 in
theorem in_wsX20 : ∀ w ∈ wsX20, w ∈ lw_tbl := in_ps _ [210, 212, 214] (by decide +kernel)
set_option maxRecDepth 20000 in
theorem in_wsX00 : ∀ w ∈ wsX00, w ∈ lw_tbl := in_ps _ [237, 239, 241, 243, 245, 247, 249, 251, 253] (by decide +kernel)
set_option maxRecDepth 20000 in
theorem in_wsX40 : ∀ w ∈ wsX40, w ∈ lw_tbl := in_ps _ [128, 130, 132, 134, 136, 138, 140, 142, 144, 146, 148] (by decide +kernel)
set_option maxRecDepth 20000 in
theorem in_wsX10 : ∀ w ∈ wsX10, w ∈ lw_tbl := in_ps _ [162, 164] (by decide +kernel)
theorem wsL_law_in0 : ∀ w ∈ wsL_law0, w ∈ lw_tbl := (fun w h => (List.mem_append.mp h).elim ((fun w h => (List.mem_append.mp h).elim ((fun w h => (List.mem_append.mp h).elim ((fun w h => (List.mem_append.mp h).elim ((fun w h => (List.mem_append.mp h).elim ((fun w h => (List.mem_append.mp h).elim ((fun w h => (List.mem_append.mp h).elim ((fun w h => (List.mem_append.mp h).elim ((fun w h => (List.mem_append.mp h).elim (in_wsL_law0_r1 w) ((fun w h => (List.mem_append.mp h).elim (in_wsL_law0_r2 w) ((fun w h => (List.mem_append.mp h).elim (in_wsL_law0_r3 w) ((fun w h => (List.mem_append.mp h).elim (in_wsL_law0_r4 w) ((fun w h => (List.mem_append.mp h).elim (in_wsL_law0_r5 w) ((fun w h => (List.mem_append.mp h).elim (in_wsL_law0_r6 w) ((fun w h => (List.mem_append.mp h).elim (in_wsL_law0_r7 w) ((fun w h => (List.mem_append.mp h).elim (in_wsL_law0_r8 w) ((fun w h => (List.mem_append.mp h).elim (in_wsL_law0_r9 w) ((fun w h => (List.mem_append.mp h).elim (in_wsL_law0_r10 w) ((fun w h => (List.mem_append.mp h).elim (in_wsL_law0_r11 w) ((fun w h => (List.mem_append.mp h).elim (in_wsL_law0_r12 w) ((fun w h => (List.mem_append.mp h).elim (in_wsL_law0_r13 w) ((fun w h => (List.mem_append.mp h).elim (in_wsL_law0_r14 w) ((fun w h => (List.mem_append.mp h).elim (in_wsL_law0_r15 w) ((fun w h => (List.mem_append.mp h).elim (in_wsL_law0_r16 w) ((fun w h => (List.mem_append.mp h).elim (in_wsL_law0_r17 w) ((fun w h => (List.mem_append.mp h).elim (in_wsL_law0_r18 w) ((fun w h => (List.mem_append.mp h).elim (in_wsL_law0_r19 w) ((fun w h => (List.mem_append.mp h).elim (in_wsL_law0_r20 w) ((fun w h => (List.mem_append.mp h).elim (in_wsL_law0_r21 w) ((fun w h => (List.mem_append.mp h).elim (in_wsL_law0_r22 w) ((fun w h => (List.mem_append.mp h).elim (in_wsL_law0_r23 w) ((fun w h => (List.mem_append.mp h).elim (in_wsL_law0_r24 w) ((fun w h => (List.mem_append.mp h).elim (in_wsL_law0_r25 w) ((fun w h => (List.mem_append.mp h).elim (in_wsL_law0_r26 w) ((fun w h => (List.mem_append.mp h).elim (in_wsL_law0_r27 w) ((fun w h => (List.mem_append.mp h).elim (in_wsL_law0_r28 w) ((fun w h => (List.mem_append.mp h).elim (in_wsL_law0_r29 w) ((fun w h => (List.mem_append.mp h).elim (in_wsL_law0_r30 w) ((fun w h => (List.mem_append.mp h).elim (in_wsL_law0_r31 w) ((fun w h => (List.mem_append.mp h).elim (in_wsL_law0_r32 w) ((fun w h => (List.mem_append.mp h).elim (in_wsL_law0_r33 w) ((fun w h => (List.mem_append.mp h).elim (in_wsL_law0_r34 w) ((fun w h => (List.mem_append.mp h).elim (in_wsL_law0_r35 w) ((fun w h => (List.mem_append.mp h).elim (in_wsL_law0_r36 w) (in_wsL_law0_r37 w)) w)) w)) w)) w)) w)) w)) w)) w)) w)) w)) w)) w)) w)) w)) w)) w)) w)) w)) w)) w)) w)) w)) w)) w)) w)) w)) w)) w)) w)) w)) w)) w)) w)) w)) w)) w) (in_wsX50 w)) w) (in_wsX60 w)) w) (in_wsX30 w)) w) (in_wsX20 w)) w) (in_wsX00 w)) w) (in_wsX40 w)) w) (in_wsX10 w)) w) (fun h => absurd h List.not_mem_nil))
theorem wsL_law_x0 : ∀ w ∈ (vx_atS RX5 156 "java/lang/IllegalArgumentException" ["java/lang/RuntimeException", "java/lang/Exception"]).filter goodWord, w ∈ lw_tbl := by decide +kernel
theorem wsL_law_x1 : ∀ w ∈ (vx_atS RX5 127 "java/lang/IndexOutOfBoundsException" ["java/lang/RuntimeException", "java/lang/Exception"]).filter goodWord, w ∈ lw_tbl := by decide +kernel
theorem wsL_law_x2 : ∀ w ∈ (vx_atS RX5 105 "java/lang/IllegalStateException" ["java/lang/RuntimeException", "java/lang/Exception"]).filter goodWord, w ∈ lw_tbl := by decide +kernel
theorem wsL_law_in : ∀ w ∈ wsL_law, w ∈ lw_tbl := fun w h => (List.mem_append.mp h).elim (fun h => (List.mem_append.mp h).elim (fun h => (List.mem_append.mp h).elim (fun h => wsL_law_in0 w h) (fun h => wsL_law_x0 w h)) (fun h => wsL_law_x1 w h)) (fun h => wsL_law_x2 w h)
theorem inlX0 : ∀ w ∈ wsX00, w ∈ wsL_law := fun _ h => List.mem_append_left _ (List.mem_append_left _ (List.mem_append_left _ (List.mem_append_left _ (List.mem_append_left _ (List.mem_append_left _ (List.mem_append_right _ h))))))
theorem inX0 : ∀ w ∈ wsX00, w ∈ lw_tbl := fun w h => wsL_law_in w (inlX0 w h)
theorem inlX1 : ∀ w ∈ wsX10, w ∈ wsL_law := fun _ h => List.mem_append_left _ (List.mem_append_left _ (List.mem_append_left _ (List.mem_append_left _ (List.mem_append_right _ h))))
theorem inX1 : ∀ w ∈ wsX10, w ∈ lw_tbl := fun w h => wsL_law_in w (inlX1 w h)
theorem inlX2 : ∀ w ∈ wsX20, w ∈ wsL_law := fun _ h => List.mem_append_left _ (List.mem_append_left _ (List.mem_append_left _ (List.mem_append_left _ (List.mem_append_left _ (List.mem_append_left _ (List.mem_append_left _ (List.mem_append_right _ h)))))))
theorem inX2 : ∀ w ∈ wsX20, w ∈ lw_tbl := fun w h => wsL_law_in w (inlX2 w h)
theorem inlX3 : ∀ w ∈ wsX30, w ∈ wsL_law := fun _ h => List.mem_append_left _ (List.mem_append_left _ (List.mem_append_left _ (List.mem_append_left _ (List.mem_append_left _ (List.mem_append_left _ (List.mem_append_left _ (List.mem_append_left _ (List.mem_append_right _ h))))))))
theorem inX3 : ∀ w ∈ wsX30, w ∈ lw_tbl := fun w h => wsL_law_in w (inlX3 w h)
theorem inlX4 : ∀ w ∈ wsX40, w ∈ wsL_law := fun _ h => List.mem_append_left _ (List.mem_append_left _ (List.mem_append_left _ (List.mem_append_left _ (List.mem_append_left _ (List.mem_append_right _ h)))))
theorem inX4 : ∀ w ∈ wsX40, w ∈ lw_tbl := fun w h => wsL_law_in w (inlX4 w h)
theorem inlX5 : ∀ w ∈ wsX50, w ∈ wsL_law := fun _ h => List.mem_append_left _ (List.mem_append_left _ (List.mem_append_left _ (List.mem_append_left _ (List.mem_append_left _ (List.mem_append_left _ (List.mem_append_left _ (List.mem_append_left _ (List.mem_append_left _ (List.mem_append_left _ (List.mem_append_right _ h))))))))))
theorem inX5 : ∀ w ∈ wsX50, w ∈ lw_tbl := fun w h => wsL_law_in w (inlX5 w h)
theorem inlX6 : ∀ w ∈ wsX60, w ∈ wsL_law := fun _ h => List.mem_append_left _ (List.mem_append_left _ (List.mem_append_left _ (List.mem_append_left _ (List.mem_append_left _ (List.mem_append_left _ (List.mem_append_left _ (List.mem_append_left _ (List.mem_append_left _ (List.mem_append_right _ h)))))))))
theorem inX6 : ∀ w ∈ wsX60, w ∈ lw_tbl := fun w h => wsL_law_in w (inlX6 w h)
theorem inJx8e188 : ∀ w ∈ wsJx8e1880, w ∈ lw_tbl := by decide +kernel
theorem inJxe99ae : ∀ w ∈ wsJxe99ae0, w ∈ lw_tbl := by decide +kernel
theorem inJ9 : ∀ w ∈ wsJ90, w ∈ lw_tbl := by decide +kernel
theorem inJ0 : ∀ w ∈ wsJ00, w ∈ lw_tbl := by decide +kernel
theorem inJ10 : ∀ w ∈ wsJ100, w ∈ lw_tbl := by decide +kernel
theorem dX0_init_0 : decode cX0_init 0 = .ok (.aload_n 0, 1) := by decide +kernel
theorem dX0_init_1 : decode cX0_init 1 = .ok (.invokespecial 3, 3) := by decide +kernel
theorem dX0_init_4 : decode cX0_init 4 = .ok (.aload_n 0, 1) := by decide +kernel
theorem dX0_init_5 : decode cX0_init 5 = .ok (.bipush 60, 2) := by decide +kernel
theorem dX0_init_7 : decode cX0_init 7 = .ok (.newarray .int, 2) := by decide +kernel
theorem dX0_init_9 : decode cX0_init 9 = .ok (.putfield 11, 3) := by decide +kernel
theorem dX0_init_12 : decode cX0_init 12 = .ok (.aload_n 0, 1) := by decide +kernel
theorem dX0_init_13 : decode cX0_init 13 = .ok (.iconst 0, 1) := by decide +kernel
theorem dX0_init_14 : decode cX0_init 14 = .ok (.putfield 15, 3) := by decide +kernel
theorem dX0_init_17 : decode cX0_init 17 = .ok (.aload_n 0, 1) := by decide +kernel
theorem dX0_init_18 : decode cX0_init 18 = .ok (.bipush 60, 2) := by decide +kernel
theorem dX0_init_20 : decode cX0_init 20 = .ok (.newarray .int, 2) := by decide +kernel
theorem dX0_init_22 : decode cX0_init 22 = .ok (.putfield 19, 3) := by decide +kernel
theorem dX0_init_25 : decode cX0_init 25 = .ok (.aload_n 0, 1) := by decide +kernel
theorem dX0_init_26 : decode cX0_init 26 = .ok (.bipush 60, 2) := by decide +kernel
theorem dX0_init_28 : decode cX0_init 28 = .ok (.newarray .int, 2) := by decide +kernel
theorem dX0_init_30 : decode cX0_init 30 = .ok (.putfield 22, 3) := by decide +kernel
theorem dX0_init_33 : decode cX0_init 33 = .ok (.aload_n 0, 1) := by decide +kernel
theorem dX0_init_34 : decode cX0_init 34 = .ok (.iconst 0, 1) := by decide +kernel
theorem dX0_init_35 : decode cX0_init 35 = .ok (.putfield 25, 3) := by decide +kernel
theorem dX0_init_38 : decode cX0_init 38 = .ok (.aload_n 0, 1) := by decide +kernel
theorem dX0_init_39 : decode cX0_init 39 = .ok (.iconst 0, 1) := by decide +kernel
theorem dX0_init_40 : decode cX0_init 40 = .ok (.putfield 28, 3) := by decide +kernel
theorem dX0_init_43 : decode cX0_init 43 = .ok (.aload_n 0, 1) := by decide +kernel
theorem dX0_init_44 : decode cX0_init 44 = .ok (.iconst 0, 1) := by decide +kernel
theorem dX0_init_45 : decode cX0_init 45 = .ok (.putfield 31, 3) := by decide +kernel
theorem dX0_init_48 : decode cX0_init 48 = .ok (.aload_n 0, 1) := by decide +kernel
theorem dX0_init_49 : decode cX0_init 49 = .ok (.iconst 0, 1) := by decide +kernel
theorem dX0_init_50 : decode cX0_init 50 = .ok (.putfield 35, 3) := by decide +kernel
theorem dX0_init_53 : decode cX0_init 53 = .ok (.aload_n 0, 1) := by decide +kernel
theorem dX0_init_54 : decode cX0_init 54 = .ok (.iconst 0, 1) := by decide +kernel
theorem dX0_init_55 : decode cX0_init 55 = .ok (.putfield 38, 3) := by decide +kernel
theorem dX0_init_58 : decode cX0_init 58 = .ok (.return_, 1) := by decide +kernel
set_option maxRecDepth 20000 in
theorem ggX0_scan_X0_beginPart : GoodIn wsX0_scan wsX0_beginPart := goodIn_r _ [8, 9, 10, 11, 12, 51, 52, 53, 54, 55, 56, 57, 58, 59] (by decide +kernel) (by decide +kernel)
set_option maxRecDepth 20000 in
theorem gX0_scan_X0_beginPart : GoodIn wsX0_scan (wsV RX0 41 RX0 yX0_beginPart wsX0_beginPart) := goodIn_app (goodIn_of _ (by decide +kernel)) ggX0_scan_X0_beginPart
set_option maxRecDepth 20000 in
theorem ggX0_scan_X0_takes : GoodIn wsX0_scan wsX0_takes := goodIn_r _ [16, 9, 17, 18, 19, 7, 20, 21, 22, 23, 24, 25, 26, 27, 28, 11, 29, 30, 31, 32, 1, 33, 34, 10, 12, 4, 5, 6, 8, 35, 36, 37, 38, 39, 40, 41, 42, 43, 44, 45, 46, 47, 48, 49, 50, 51, 52, 53, 54, 55, 56, 57, 58, 59] (by decide +kernel) (by decide +kernel)
set_option maxRecDepth 20000 in
theorem gX0_scan_X0_takes : GoodIn wsX0_scan (wsV RX0 44 RX0 yX0_takes wsX0_takes) := goodIn_app (goodIn_of _ (by decide +kernel)) ggX0_scan_X0_takes
theorem dX0_scan_0 : decode cX0_scan 0 = .ok (.aload_n 0, 1) := by decide +kernel
theorem dX0_scan_1 : decode cX0_scan 1 = .ok (.iconst 0, 1) := by decide +kernel
theorem dX0_scan_2 : decode cX0_scan 2 = .ok (.putfield 25, 3) := by decide +kernel
theorem dX0_scan_5 : decode cX0_scan 5 = .ok (.aload_n 0, 1) := by decide +kernel
theorem dX0_scan_6 : decode cX0_scan 6 = .ok (.invokevirtual 41, 3) := by decide +kernel
theorem dX0_scan_9 : decode cX0_scan 9 = .ok (.iconst 0, 1) := by decide +kernel
theorem dX0_scan_10 : decode cX0_scan 10 = .ok (.istore_n 1, 1) := by decide +kernel
theorem dX0_scan_11 : decode cX0_scan 11 = .ok (.iload_n 1, 1) := by decide +kernel
theorem dX0_scan_12 : decode cX0_scan 12 = .ok (.aload_n 0, 1) := by decide +kernel
theorem dX0_scan_13 : decode cX0_scan 13 = .ok (.getfield 15, 3) := by decide +kernel
theorem dX0_scan_16 : decode cX0_scan 16 = .ok (.if_icmp .ge 24, 3) := by decide +kernel
theorem dX0_scan_19 : decode cX0_scan 19 = .ok (.aload_n 0, 1) := by decide +kernel
theorem dX0_scan_20 : decode cX0_scan 20 = .ok (.aload_n 0, 1) := by decide +kernel
theorem dX0_scan_21 : decode cX0_scan 21 = .ok (.getfield 11, 3) := by decide +kernel
theorem dX0_scan_24 : decode cX0_scan 24 = .ok (.iload_n 1, 1) := by decide +kernel
theorem dX0_scan_25 : decode cX0_scan 25 = .ok (.iaload, 1) := by decide +kernel
theorem dX0_scan_26 : decode cX0_scan 26 = .ok (.invokevirtual 44, 3) := by decide +kernel
theorem dX0_scan_29 : decode cX0_scan 29 = .ok (.ifCond .ne 5, 3) := by decide +kernel
theorem dX0_scan_32 : decode cX0_scan 32 = .ok (.iload_n 1, 1) := by decide +kernel
theorem dX0_scan_33 : decode cX0_scan 33 = .ok (.ireturn, 1) := by decide +kernel
theorem dX0_scan_34 : decode cX0_scan 34 = .ok (.iinc 1 1, 3) := by decide +kernel
theorem dX0_scan_37 : decode cX0_scan 37 = .ok (.goto (-26), 3) := by decide +kernel
theorem dX0_scan_40 : decode cX0_scan 40 = .ok (.aload_n 0, 1) := by decide +kernel
theorem dX0_scan_41 : decode cX0_scan 41 = .ok (.getfield 15, 3) := by decide +kernel
theorem dX0_scan_44 : decode cX0_scan 44 = .ok (.ireturn, 1) := by decide +kernel
set_option maxRecDepth 20000 in
theorem ggX0_isComplete_X0_scan : GoodIn wsX0_isComplete wsX0_scan := goodIn_r _ [6, 7, 1, 8, 9, 10, 11, 5, 12, 13, 14, 15, 16, 17, 18, 19, 20, 21, 22, 23, 24, 25, 26, 27, 28, 29, 30, 31, 32, 33, 34, 35, 36, 37, 38, 39, 40, 41, 42, 43, 44, 45, 46, 47, 48, 49, 50, 51, 52, 53, 54, 55, 56, 57, 58, 59, 60, 61, 62, 63] (by decide +kernel) (by decide +kernel)
set_option maxRecDepth 20000 in
theorem gX0_isComplete_X0_scan : GoodIn wsX0_isComplete (wsV RX0 48 RX0 yX0_scan wsX0_scan) := goodIn_app (goodIn_of _ (by decide +kernel)) ggX0_isComplete_X0_scan
set_option maxRecDepth 20000 in
theorem ggX0_isComplete_X0_isPartWhole : GoodIn wsX0_isComplete wsX0_isPartWhole := goodIn_r _ [32, 13, 15, 55, 56, 57, 58, 59, 60, 61, 62, 63] (by decide +kernel) (by decide +kernel)
set_option maxRecDepth 20000 in
theorem gX0_isComplete_X0_isPartWhole : GoodIn wsX0_isComplete (wsV RX0 52 RX0 yX0_isPartWhole wsX0_isPartWhole) := goodIn_app (goodIn_of _ (by decide +kernel)) ggX0_isComplete_X0_isPartWhole
set_option maxRecDepth 20000 in
theorem ggX0_isComplete_X0_endPart : GoodIn wsX0_isComplete wsX0_endPart := goodIn_r _ [36, 7, 37, 13, 38, 14, 16, 9, 10, 11, 5, 12, 15, 55, 56, 57, 58, 59, 60, 61, 62, 63] (by decide +kernel) (by decide +kernel)
set_option maxRecDepth 20000 in
theorem gX0_isComplete_X0_endPart : GoodIn wsX0_isComplete (wsV RX0 56 RX0 yX0_endPart wsX0_endPart) := goodIn_app (goodIn_of _ (by decide +kernel)) ggX0_isComplete_X0_endPart
theorem dX0_isComplete_0 : decode cX0_isComplete 0 = .ok (.aload_n 0, 1) := by decide +kernel
theorem dX0_isComplete_1 : decode cX0_isComplete 1 = .ok (.invokevirtual 48, 3) := by decide +kernel
theorem dX0_isComplete_4 : decode cX0_isComplete 4 = .ok (.aload_n 0, 1) := by decide +kernel
theorem dX0_isComplete_5 : decode cX0_isComplete 5 = .ok (.getfield 15, 3) := by decide +kernel
theorem dX0_isComplete_8 : decode cX0_isComplete 8 = .ok (.if_icmp .lt 10, 3) := by decide +kernel
theorem dX0_isComplete_11 : decode cX0_isComplete 11 = .ok (.aload_n 0, 1) := by decide +kernel
theorem dX0_isComplete_12 : decode cX0_isComplete 12 = .ok (.invokevirtual 52, 3) := by decide +kernel
theorem dX0_isComplete_15 : decode cX0_isComplete 15 = .ok (.ifCond .ne 5, 3) := by decide +kernel
theorem dX0_isComplete_18 : decode cX0_isComplete 18 = .ok (.iconst 0, 1) := by decide +kernel
theorem dX0_isComplete_19 : decode cX0_isComplete 19 = .ok (.ireturn, 1) := by decide +kernel
theorem dX0_isComplete_20 : decode cX0_isComplete 20 = .ok (.aload_n 0, 1) := by decide +kernel
theorem dX0_isComplete_21 : decode cX0_isComplete 21 = .ok (.invokevirtual 56, 3) := by decide +kernel
theorem dX0_isComplete_24 : decode cX0_isComplete 24 = .ok (.iconst 1, 1) := by decide +kernel
theorem dX0_isComplete_25 : decode cX0_isComplete 25 = .ok (.ireturn, 1) := by decide +kernel
theorem dX0_beginPart_0 : decode cX0_beginPart 0 = .ok (.aload_n 0, 1) := by decide +kernel
theorem dX0_beginPart_1 : decode cX0_beginPart 1 = .ok (.iconst 0, 1) := by decide +kernel
theorem dX0_beginPart_2 : decode cX0_beginPart 2 = .ok (.putfield 28, 3) := by decide +kernel
theorem dX0_beginPart_5 : decode cX0_beginPart 5 = .ok (.aload_n 0, 1) := by decide +kernel
theorem dX0_beginPart_6 : decode cX0_beginPart 6 = .ok (.iconst 0, 1) := by decide +kernel
theorem dX0_beginPart_7 : decode cX0_beginPart 7 = .ok (.putfield 31, 3) := by decide +kernel
theorem dX0_beginPart_10 : decode cX0_beginPart 10 = .ok (.aload_n 0, 1) := by decide +kernel
theorem dX0_beginPart_11 : decode cX0_beginPart 11 = .ok (.iconst 0, 1) := by decide +kernel
theorem dX0_beginPart_12 : decode cX0_beginPart 12 = .ok (.putfield 35, 3) := by decide +kernel
theorem dX0_beginPart_15 : decode cX0_beginPart 15 = .ok (.aload_n 0, 1) := by decide +kernel
theorem dX0_beginPart_16 : decode cX0_beginPart 16 = .ok (.iconst 0, 1) := by decide +kernel
theorem dX0_beginPart_17 : decode cX0_beginPart 17 = .ok (.putfield 38, 3) := by decide +kernel
theorem dX0_beginPart_20 : decode cX0_beginPart 20 = .ok (.return_, 1) := by decide +kernel
theorem dX0_isPartWhole_0 : decode cX0_isPartWhole 0 = .ok (.aload_n 0, 1) := by decide +kernel
theorem dX0_isPartWhole_1 : decode cX0_isPartWhole 1 = .ok (.getfield 28, 3) := by decide +kernel
theorem dX0_isPartWhole_4 : decode cX0_isPartWhole 4 = .ok (.bipush 100, 2) := by decide +kernel
theorem dX0_isPartWhole_6 : decode cX0_isPartWhole 6 = .ok (.if_icmp .eq 10, 3) := by decide +kernel
theorem dX0_isPartWhole_9 : decode cX0_isPartWhole 9 = .ok (.aload_n 0, 1) := by decide +kernel
theorem dX0_isPartWhole_10 : decode cX0_isPartWhole 10 = .ok (.getfield 35, 3) := by decide +kernel
theorem dX0_isPartWhole_13 : decode cX0_isPartWhole 13 = .ok (.ifCond .le 7, 3) := by decide +kernel
theorem dX0_isPartWhole_16 : decode cX0_isPartWhole 16 = .ok (.iconst 1, 1) := by decide +kernel
theorem dX0_isPartWhole_17 : decode cX0_isPartWhole 17 = .ok (.goto 4, 3) := by decide +kernel
theorem dX0_isPartWhole_20 : decode cX0_isPartWhole 20 = .ok (.iconst 0, 1) := by decide +kernel
theorem dX0_isPartWhole_21 : decode cX0_isPartWhole 21 = .ok (.ireturn, 1) := by decide +kernel
set_option maxRecDepth 20000 in
theorem ggX0_endPart_X0_beginPart : GoodIn wsX0_endPart wsX0_beginPart := goodIn_r _ [11, 3, 5, 12, 6, 13, 14, 15, 16, 17, 18, 19, 20, 21] (by decide +kernel) (by decide +kernel)
set_option maxRecDepth 20000 in
theorem gX0_endPart_X0_beginPart : GoodIn wsX0_endPart (wsV RX0 41 RX0 yX0_beginPart wsX0_beginPart) := goodIn_app (goodIn_of _ (by decide +kernel)) ggX0_endPart_X0_beginPart
theorem dX0_endPart_0 : decode cX0_endPart 0 = .ok (.aload_n 0, 1) := by decide +kernel
theorem dX0_endPart_1 : decode cX0_endPart 1 = .ok (.getfield 25, 3) := by decide +kernel
theorem dX0_endPart_4 : decode cX0_endPart 4 = .ok (.bipush 60, 2) := by decide +kernel
theorem dX0_endPart_6 : decode cX0_endPart 6 = .ok (.if_icmp .ge 54, 3) := by decide +kernel
theorem dX0_endPart_9 : decode cX0_endPart 9 = .ok (.aload_n 0, 1) := by decide +kernel
theorem dX0_endPart_10 : decode cX0_endPart 10 = .ok (.getfield 19, 3) := by decide +kernel
theorem dX0_endPart_13 : decode cX0_endPart 13 = .ok (.aload_n 0, 1) := by decide +kernel
theorem dX0_endPart_14 : decode cX0_endPart 14 = .ok (.getfield 25, 3) := by decide +kernel
theorem dX0_endPart_17 : decode cX0_endPart 17 = .ok (.aload_n 0, 1) := by decide +kernel
theorem dX0_endPart_18 : decode cX0_endPart 18 = .ok (.getfield 28, 3) := by decide +kernel
theorem dX0_endPart_21 : decode cX0_endPart 21 = .ok (.iastore, 1) := by decide +kernel
theorem dX0_endPart_22 : decode cX0_endPart 22 = .ok (.aload_n 0, 1) := by decide +kernel
theorem dX0_endPart_23 : decode cX0_endPart 23 = .ok (.getfield 22, 3) := by decide +kernel
theorem dX0_endPart_26 : decode cX0_endPart 26 = .ok (.aload_n 0, 1) := by decide +kernel
theorem dX0_endPart_27 : decode cX0_endPart 27 = .ok (.getfield 25, 3) := by decide +kernel
theorem dX0_endPart_30 : decode cX0_endPart 30 = .ok (.aload_n 0, 1) := by decide +kernel
theorem dX0_endPart_31 : decode cX0_endPart 31 = .ok (.getfield 31, 3) := by decide +kernel
theorem dX0_endPart_34 : decode cX0_endPart 34 = .ok (.ifCond .eq 11, 3) := by decide +kernel
theorem dX0_endPart_37 : decode cX0_endPart 37 = .ok (.aload_n 0, 1) := by decide +kernel
theorem dX0_endPart_38 : decode cX0_endPart 38 = .ok (.getfield 38, 3) := by decide +kernel
theorem dX0_endPart_41 : decode cX0_endPart 41 = .ok (.ineg, 1) := by decide +kernel
theorem dX0_endPart_42 : decode cX0_endPart 42 = .ok (.goto 7, 3) := by decide +kernel
theorem dX0_endPart_45 : decode cX0_endPart 45 = .ok (.aload_n 0, 1) := by decide +kernel
theorem dX0_endPart_46 : decode cX0_endPart 46 = .ok (.getfield 38, 3) := by decide +kernel
theorem dX0_endPart_49 : decode cX0_endPart 49 = .ok (.iastore, 1) := by decide +kernel
theorem dX0_endPart_50 : decode cX0_endPart 50 = .ok (.aload_n 0, 1) := by decide +kernel
theorem dX0_endPart_51 : decode cX0_endPart 51 = .ok (.dup, 1) := by decide +kernel
theorem dX0_endPart_52 : decode cX0_endPart 52 = .ok (.getfield 25, 3) := by decide +kernel
theorem dX0_endPart_55 : decode cX0_endPart 55 = .ok (.iconst 1, 1) := by decide +kernel
theorem dX0_endPart_56 : decode cX0_endPart 56 = .ok (.iadd, 1) := by decide +kernel
theorem dX0_endPart_57 : decode cX0_endPart 57 = .ok (.putfield 25, 3) := by decide +kernel
theorem dX0_endPart_60 : decode cX0_endPart 60 = .ok (.aload_n 0, 1) := by decide +kernel
theorem dX0_endPart_61 : decode cX0_endPart 61 = .ok (.invokevirtual 41, 3) := by decide +kernel
theorem dX0_endPart_64 : decode cX0_endPart 64 = .ok (.return_, 1) := by decide +kernel
set_option maxRecDepth 20000 in
theorem ggX0_takes_X0_takesKind : GoodIn wsX0_takes wsX0_takesKind := goodIn_r _ [6, 1, 45, 46, 47, 48, 49, 50, 51, 52, 53] (by decide +kernel) (by decide +kernel)
set_option maxRecDepth 20000 in
theorem gX0_takes_X0_takesKind : GoodIn wsX0_takes (wsV RX0 59 RX0 yX0_takesKind wsX0_takesKind) := goodIn_app (goodIn_of _ (by decide +kernel)) ggX0_takes_X0_takesKind
set_option maxRecDepth 20000 in
theorem ggX0_takes_X0_takesSemicolon : GoodIn wsX0_takes wsX0_takesSemicolon := goodIn_r _ [10, 11, 12, 13, 5, 14, 1, 15, 16, 17, 18, 19, 20, 21, 22, 23, 24, 25, 26, 27, 28, 45, 46, 47, 48, 49, 50, 51, 52, 53] (by decide +kernel) (by decide +kernel)
set_option maxRecDepth 20000 in
theorem gX0_takes_X0_takesSemicolon : GoodIn wsX0_takes (wsV RX0 62 RX0 yX0_takesSemicolon wsX0_takesSemicolon) := goodIn_app (goodIn_of _ (by decide +kernel)) ggX0_takes_X0_takesSemicolon
set_option maxRecDepth 20000 in
theorem ggX0_takes_X0_takesMinus : GoodIn wsX0_takes wsX0_takesMinus := goodIn_r _ [32, 1, 23, 15, 45, 46, 47, 48, 49, 50, 51, 52, 53] (by decide +kernel) (by decide +kernel)
set_option maxRecDepth 20000 in
theorem gX0_takes_X0_takesMinus : GoodIn wsX0_takes (wsV RX0 65 RX0 yX0_takesMinus wsX0_takesMinus) := goodIn_app (goodIn_of _ (by decide +kernel)) ggX0_takes_X0_takesMinus
set_option maxRecDepth 20000 in
theorem ggX0_takes_X0_takesDigit : GoodIn wsX0_takes wsX0_takesDigit := goodIn_r _ [36, 15, 24, 37, 38, 39, 5, 40, 1, 23, 41, 42, 43, 44, 45, 46, 47, 48, 49, 50, 51, 52, 53] (by decide +kernel) (by decide +kernel)
set_option maxRecDepth 20000 in
theorem gX0_takes_X0_takesDigit : GoodIn wsX0_takes (wsV RX0 68 RX0 yX0_takesDigit wsX0_takesDigit) := goodIn_app (goodIn_of _ (by decide +kernel)) ggX0_takes_X0_takesDigit
theorem dX0_takes_0 : decode cX0_takes 0 = .ok (.aload_n 0, 1) := by decide +kernel
theorem dX0_takes_1 : decode cX0_takes 1 = .ok (.getfield 28, 3) := by decide +kernel
theorem dX0_takes_4 : decode cX0_takes 4 = .ok (.ifCond .ne 9, 3) := by decide +kernel
theorem dX0_takes_7 : decode cX0_takes 7 = .ok (.aload_n 0, 1) := by decide +kernel
theorem dX0_takes_8 : decode cX0_takes 8 = .ok (.iload_n 1, 1) := by decide +kernel
theorem dX0_takes_9 : decode cX0_takes 9 = .ok (.invokevirtual 59, 3) := by decide +kernel
theorem dX0_takes_12 : decode cX0_takes 12 = .ok (.ireturn, 1) := by decide +kernel
theorem dX0_takes_13 : decode cX0_takes 13 = .ok (.iload_n 1, 1) := by decide +kernel
theorem dX0_takes_14 : decode cX0_takes 14 = .ok (.bipush 59, 2) := by decide +kernel
theorem dX0_takes_16 : decode cX0_takes 16 = .ok (.if_icmp .ne 8, 3) := by decide +kernel
theorem dX0_takes_19 : decode cX0_takes 19 = .ok (.aload_n 0, 1) := by decide +kernel
theorem dX0_takes_20 : decode cX0_takes 20 = .ok (.invokevirtual 62, 3) := by decide +kernel
theorem dX0_takes_23 : decode cX0_takes 23 = .ok (.ireturn, 1) := by decide +kernel
theorem dX0_takes_24 : decode cX0_takes 24 = .ok (.iload_n 1, 1) := by decide +kernel
theorem dX0_takes_25 : decode cX0_takes 25 = .ok (.bipush 45, 2) := by decide +kernel
theorem dX0_takes_27 : decode cX0_takes 27 = .ok (.if_icmp .ne 8, 3) := by decide +kernel
theorem dX0_takes_30 : decode cX0_takes 30 = .ok (.aload_n 0, 1) := by decide +kernel
theorem dX0_takes_31 : decode cX0_takes 31 = .ok (.invokevirtual 65, 3) := by decide +kernel
theorem dX0_takes_34 : decode cX0_takes 34 = .ok (.ireturn, 1) := by decide +kernel
theorem dX0_takes_35 : decode cX0_takes 35 = .ok (.aload_n 0, 1) := by decide +kernel
theorem dX0_takes_36 : decode cX0_takes 36 = .ok (.iload_n 1, 1) := by decide +kernel
theorem dX0_takes_37 : decode cX0_takes 37 = .ok (.bipush 48, 2) := by decide +kernel
theorem dX0_takes_39 : decode cX0_takes 39 = .ok (.isub, 1) := by decide +kernel
theorem dX0_takes_40 : decode cX0_takes 40 = .ok (.invokevirtual 68, 3) := by decide +kernel
theorem dX0_takes_43 : decode cX0_takes 43 = .ok (.ireturn, 1) := by decide +kernel
theorem dX0_takesKind_0 : decode cX0_takesKind 0 = .ok (.iload_n 1, 1) := by decide +kernel
theorem dX0_takesKind_1 : decode cX0_takesKind 1 = .ok (.lookupswitch 66 #[(43, 59), (100, 59), (103, 59), (112, 59), (114, 59), (119, 59)], 59) := by decide +kernel
theorem dX0_takesKind_60 : decode cX0_takesKind 60 = .ok (.aload_n 0, 1) := by decide +kernel
theorem dX0_takesKind_61 : decode cX0_takesKind 61 = .ok (.iload_n 1, 1) := by decide +kernel
theorem dX0_takesKind_62 : decode cX0_takesKind 62 = .ok (.putfield 28, 3) := by decide +kernel
theorem dX0_takesKind_65 : decode cX0_takesKind 65 = .ok (.iconst 1, 1) := by decide +kernel
theorem dX0_takesKind_66 : decode cX0_takesKind 66 = .ok (.ireturn, 1) := by decide +kernel
theorem dX0_takesKind_67 : decode cX0_takesKind 67 = .ok (.iconst 0, 1) := by decide +kernel
theorem dX0_takesKind_68 : decode cX0_takesKind 68 = .ok (.ireturn, 1) := by decide +kernel
set_option maxRecDepth 20000 in
theorem ggX0_takesSemicolon_X0_isPartWhole : GoodIn wsX0_takesSemicolon wsX0_isPartWhole := goodIn_r _ [5, 6, 7, 21, 22, 23, 24, 25, 26, 27, 28, 29] (by decide +kernel) (by decide +kernel)
set_option maxRecDepth 20000 in
theorem gX0_takesSemicolon_X0_isPartWhole : GoodIn wsX0_takesSemicolon (wsV RX0 52 RX0 yX0_isPartWhole wsX0_isPartWhole) := goodIn_app (goodIn_of _ (by decide +kernel)) ggX0_takesSemicolon_X0_isPartWhole
set_option maxRecDepth 20000 in
theorem ggX0_takesSemicolon_X0_endPart : GoodIn wsX0_takesSemicolon wsX0_endPart := goodIn_r _ [11, 12, 13, 6, 14, 15, 16, 17, 18, 19, 4, 20, 7, 21, 22, 23, 24, 25, 26, 27, 28, 29] (by decide +kernel) (by decide +kernel)
set_option maxRecDepth 20000 in
theorem gX0_takesSemicolon_X0_endPart : GoodIn wsX0_takesSemicolon (wsV RX0 56 RX0 yX0_endPart wsX0_endPart) := goodIn_app (goodIn_of _ (by decide +kernel)) ggX0_takesSemicolon_X0_endPart
theorem dX0_takesSemicolon_0 : decode cX0_takesSemicolon 0 = .ok (.aload_n 0, 1) := by decide +kernel
theorem dX0_takesSemicolon_1 : decode cX0_takesSemicolon 1 = .ok (.invokevirtual 52, 3) := by decide +kernel
theorem dX0_takesSemicolon_4 : decode cX0_takesSemicolon 4 = .ok (.ifCond .ne 5, 3) := by decide +kernel
theorem dX0_takesSemicolon_7 : decode cX0_takesSemicolon 7 = .ok (.iconst 0, 1) := by decide +kernel
theorem dX0_takesSemicolon_8 : decode cX0_takesSemicolon 8 = .ok (.ireturn, 1) := by decide +kernel
theorem dX0_takesSemicolon_9 : decode cX0_takesSemicolon 9 = .ok (.aload_n 0, 1) := by decide +kernel
theorem dX0_takesSemicolon_10 : decode cX0_takesSemicolon 10 = .ok (.invokevirtual 56, 3) := by decide +kernel
theorem dX0_takesSemicolon_13 : decode cX0_takesSemicolon 13 = .ok (.iconst 1, 1) := by decide +kernel
theorem dX0_takesSemicolon_14 : decode cX0_takesSemicolon 14 = .ok (.ireturn, 1) := by decide +kernel
theorem dX0_takesMinus_0 : decode cX0_takesMinus 0 = .ok (.aload_n 0, 1) := by decide +kernel
theorem dX0_takesMinus_1 : decode cX0_takesMinus 1 = .ok (.getfield 28, 3) := by decide +kernel
theorem dX0_takesMinus_4 : decode cX0_takesMinus 4 = .ok (.bipush 103, 2) := by decide +kernel
theorem dX0_takesMinus_6 : decode cX0_takesMinus 6 = .ok (.if_icmp .ne 17, 3) := by decide +kernel
theorem dX0_takesMinus_9 : decode cX0_takesMinus 9 = .ok (.aload_n 0, 1) := by decide +kernel
theorem dX0_takesMinus_10 : decode cX0_takesMinus 10 = .ok (.getfield 31, 3) := by decide +kernel
theorem dX0_takesMinus_13 : decode cX0_takesMinus 13 = .ok (.ifCond .ne 10, 3) := by decide +kernel
theorem dX0_takesMinus_16 : decode cX0_takesMinus 16 = .ok (.aload_n 0, 1) := by decide +kernel
theorem dX0_takesMinus_17 : decode cX0_takesMinus 17 = .ok (.getfield 35, 3) := by decide +kernel
theorem dX0_takesMinus_20 : decode cX0_takesMinus 20 = .ok (.ifCond .le 5, 3) := by decide +kernel
theorem dX0_takesMinus_23 : decode cX0_takesMinus 23 = .ok (.iconst 0, 1) := by decide +kernel
theorem dX0_takesMinus_24 : decode cX0_takesMinus 24 = .ok (.ireturn, 1) := by decide +kernel
theorem dX0_takesMinus_25 : decode cX0_takesMinus 25 = .ok (.aload_n 0, 1) := by decide +kernel
theorem dX0_takesMinus_26 : decode cX0_takesMinus 26 = .ok (.iconst 1, 1) := by decide +kernel
theorem dX0_takesMinus_27 : decode cX0_takesMinus 27 = .ok (.putfield 31, 3) := by decide +kernel
theorem dX0_takesMinus_30 : decode cX0_takesMinus 30 = .ok (.iconst 1, 1) := by decide +kernel
theorem dX0_takesMinus_31 : decode cX0_takesMinus 31 = .ok (.ireturn, 1) := by decide +kernel
set_option maxRecDepth 20000 in
theorem ggX0_takesDigit_X0_leastNumber : GoodIn wsX0_takesDigit wsX0_leastNumber := goodIn_r _ [7, 8, 9, 14, 15, 16, 17, 18, 19, 20, 21, 22] (by decide +kernel) (by decide +kernel)
set_option maxRecDepth 20000 in
theorem gX0_takesDigit_X0_leastNumber : GoodIn wsX0_takesDigit (wsV RX0 71 RX0 yX0_leastNumber wsX0_leastNumber) := goodIn_app (goodIn_of _ (by decide +kernel)) ggX0_takesDigit_X0_leastNumber
set_option maxRecDepth 20000 in
theorem ggX0_takesDigit_X0_mostNumber : GoodIn wsX0_takesDigit wsX0_mostNumber := goodIn_r _ [13, 8, 14, 15, 16, 17, 18, 19, 20, 21, 22] (by decide +kernel) (by decide +kernel)
set_option maxRecDepth 20000 in
theorem gX0_takesDigit_X0_mostNumber : GoodIn wsX0_takesDigit (wsV RX0 74 RX0 yX0_mostNumber wsX0_mostNumber) := goodIn_app (goodIn_of _ (by decide +kernel)) ggX0_takesDigit_X0_mostNumber
theorem dX0_takesDigit_0 : decode cX0_takesDigit 0 = .ok (.aload_n 0, 1) := by decide +kernel
theorem dX0_takesDigit_1 : decode cX0_takesDigit 1 = .ok (.getfield 35, 3) := by decide +kernel
theorem dX0_takesDigit_4 : decode cX0_takesDigit 4 = .ok (.ifCond .le 14, 3) := by decide +kernel
theorem dX0_takesDigit_7 : decode cX0_takesDigit 7 = .ok (.aload_n 0, 1) := by decide +kernel
theorem dX0_takesDigit_8 : decode cX0_takesDigit 8 = .ok (.getfield 38, 3) := by decide +kernel
theorem dX0_takesDigit_11 : decode cX0_takesDigit 11 = .ok (.ifCond .ne 7, 3) := by decide +kernel
theorem dX0_takesDigit_14 : decode cX0_takesDigit 14 = .ok (.iconst 1, 1) := by decide +kernel
theorem dX0_takesDigit_15 : decode cX0_takesDigit 15 = .ok (.goto 4, 3) := by decide +kernel
theorem dX0_takesDigit_18 : decode cX0_takesDigit 18 = .ok (.iconst 0, 1) := by decide +kernel
theorem dX0_takesDigit_19 : decode cX0_takesDigit 19 = .ok (.istore_n 2, 1) := by decide +kernel
theorem dX0_takesDigit_20 : decode cX0_takesDigit 20 = .ok (.bipush 10, 2) := by decide +kernel
theorem dX0_takesDigit_22 : decode cX0_takesDigit 22 = .ok (.aload_n 0, 1) := by decide +kernel
theorem dX0_takesDigit_23 : decode cX0_takesDigit 23 = .ok (.getfield 38, 3) := by decide +kernel
theorem dX0_takesDigit_26 : decode cX0_takesDigit 26 = .ok (.imul, 1) := by decide +kernel
theorem dX0_takesDigit_27 : decode cX0_takesDigit 27 = .ok (.iload_n 1, 1) := by decide +kernel
theorem dX0_takesDigit_28 : decode cX0_takesDigit 28 = .ok (.iadd, 1) := by decide +kernel
theorem dX0_takesDigit_29 : decode cX0_takesDigit 29 = .ok (.istore_n 3, 1) := by decide +kernel
theorem dX0_takesDigit_30 : decode cX0_takesDigit 30 = .ok (.iload_n 1, 1) := by decide +kernel
theorem dX0_takesDigit_31 : decode cX0_takesDigit 31 = .ok (.ifCond .lt 29, 3) := by decide +kernel
theorem dX0_takesDigit_34 : decode cX0_takesDigit 34 = .ok (.iload_n 1, 1) := by decide +kernel
theorem dX0_takesDigit_35 : decode cX0_takesDigit 35 = .ok (.bipush 9, 2) := by decide +kernel
theorem dX0_takesDigit_37 : decode cX0_takesDigit 37 = .ok (.if_icmp .gt 23, 3) := by decide +kernel
theorem dX0_takesDigit_40 : decode cX0_takesDigit 40 = .ok (.iload_n 2, 1) := by decide +kernel
theorem dX0_takesDigit_41 : decode cX0_takesDigit 41 = .ok (.ifCond .ne 19, 3) := by decide +kernel
theorem dX0_takesDigit_44 : decode cX0_takesDigit 44 = .ok (.iload_n 3, 1) := by decide +kernel
theorem dX0_takesDigit_45 : decode cX0_takesDigit 45 = .ok (.aload_n 0, 1) := by decide +kernel
theorem dX0_takesDigit_46 : decode cX0_takesDigit 46 = .ok (.invokevirtual 71, 3) := by decide +kernel
theorem dX0_takesDigit_49 : decode cX0_takesDigit 49 = .ok (.if_icmp .lt 11, 3) := by decide +kernel
theorem dX0_takesDigit_52 : decode cX0_takesDigit 52 = .ok (.iload_n 3, 1) := by decide +kernel
theorem dX0_takesDigit_53 : decode cX0_takesDigit 53 = .ok (.aload_n 0, 1) := by decide +kernel
theorem dX0_takesDigit_54 : decode cX0_takesDigit 54 = .ok (.invokevirtual 74, 3) := by decide +kernel
theorem dX0_takesDigit_57 : decode cX0_takesDigit 57 = .ok (.if_icmp .le 5, 3) := by decide +kernel
theorem dX0_takesDigit_60 : decode cX0_takesDigit 60 = .ok (.iconst 0, 1) := by decide +kernel
theorem dX0_takesDigit_61 : decode cX0_takesDigit 61 = .ok (.ireturn, 1) := by decide +kernel
theorem dX0_takesDigit_62 : decode cX0_takesDigit 62 = .ok (.aload_n 0, 1) := by decide +kernel
theorem dX0_takesDigit_63 : decode cX0_takesDigit 63 = .ok (.dup, 1) := by decide +kernel
theorem dX0_takesDigit_64 : decode cX0_takesDigit 64 = .ok (.getfield 35, 3) := by decide +kernel
theorem dX0_takesDigit_67 : decode cX0_takesDigit 67 = .ok (.iconst 1, 1) := by decide +kernel
theorem dX0_takesDigit_68 : decode cX0_takesDigit 68 = .ok (.iadd, 1) := by decide +kernel
theorem dX0_takesDigit_69 : decode cX0_takesDigit 69 = .ok (.putfield 35, 3) := by decide +kernel
theorem dX0_takesDigit_72 : decode cX0_takesDigit 72 = .ok (.aload_n 0, 1) := by decide +kernel
theorem dX0_takesDigit_73 : decode cX0_takesDigit 73 = .ok (.iload_n 3, 1) := by decide +kernel
theorem dX0_takesDigit_74 : decode cX0_takesDigit 74 = .ok (.putfield 38, 3) := by decide +kernel
theorem dX0_takesDigit_77 : decode cX0_takesDigit 77 = .ok (.iconst 1, 1) := by decide +kernel
theorem dX0_takesDigit_78 : decode cX0_takesDigit 78 = .ok (.ireturn, 1) := by decide +kernel
theorem dX0_leastNumber_0 : decode cX0_leastNumber 0 = .ok (.aload_n 0, 1) := by decide +kernel
theorem dX0_leastNumber_1 : decode cX0_leastNumber 1 = .ok (.getfield 28, 3) := by decide +kernel
theorem dX0_leastNumber_4 : decode cX0_leastNumber 4 = .ok (.bipush 119, 2) := by decide +kernel
theorem dX0_leastNumber_6 : decode cX0_leastNumber 6 = .ok (.if_icmp .eq 19, 3) := by decide +kernel
theorem dX0_leastNumber_9 : decode cX0_leastNumber 9 = .ok (.aload_n 0, 1) := by decide +kernel
theorem dX0_leastNumber_10 : decode cX0_leastNumber 10 = .ok (.getfield 28, 3) := by decide +kernel
theorem dX0_leastNumber_13 : decode cX0_leastNumber 13 = .ok (.bipush 43, 2) := by decide +kernel
theorem dX0_leastNumber_15 : decode cX0_leastNumber 15 = .ok (.if_icmp .eq 10, 3) := by decide +kernel
theorem dX0_leastNumber_18 : decode cX0_leastNumber 18 = .ok (.aload_n 0, 1) := by decide +kernel
theorem dX0_leastNumber_19 : decode cX0_leastNumber 19 = .ok (.getfield 31, 3) := by decide +kernel
theorem dX0_leastNumber_22 : decode cX0_leastNumber 22 = .ok (.ifCond .eq 7, 3) := by decide +kernel
theorem dX0_leastNumber_25 : decode cX0_leastNumber 25 = .ok (.iconst 1, 1) := by decide +kernel
theorem dX0_leastNumber_26 : decode cX0_leastNumber 26 = .ok (.goto 4, 3) := by decide +kernel
theorem dX0_leastNumber_29 : decode cX0_leastNumber 29 = .ok (.iconst 0, 1) := by decide +kernel
theorem dX0_leastNumber_30 : decode cX0_leastNumber 30 = .ok (.ireturn, 1) := by decide +kernel
theorem dX0_mostNumber_0 : decode cX0_mostNumber 0 = .ok (.aload_n 0, 1) := by decide +kernel
theorem dX0_mostNumber_1 : decode cX0_mostNumber 1 = .ok (.getfield 28, 3) := by decide +kernel
theorem dX0_mostNumber_4 : decode cX0_mostNumber 4 = .ok (.lookupswitch 63 #[(43, 60), (103, 57), (112, 55), (114, 55), (119, 52)], 52) := by decide +kernel
theorem dX0_mostNumber_56 : decode cX0_mostNumber 56 = .ok (.bipush 48, 2) := by decide +kernel
theorem dX0_mostNumber_58 : decode cX0_mostNumber 58 = .ok (.ireturn, 1) := by decide +kernel
theorem dX0_mostNumber_59 : decode cX0_mostNumber 59 = .ok (.iconst 5, 1) := by decide +kernel
theorem dX0_mostNumber_60 : decode cX0_mostNumber 60 = .ok (.ireturn, 1) := by decide +kernel
theorem dX0_mostNumber_61 : decode cX0_mostNumber 61 = .ok (.bipush 99, 2) := by decide +kernel
theorem dX0_mostNumber_63 : decode cX0_mostNumber 63 = .ok (.ireturn, 1) := by decide +kernel
theorem dX0_mostNumber_64 : decode cX0_mostNumber 64 = .ok (.bipush 99, 2) := by decide +kernel
theorem dX0_mostNumber_66 : decode cX0_mostNumber 66 = .ok (.ireturn, 1) := by decide +kernel
theorem dX0_mostNumber_67 : decode cX0_mostNumber 67 = .ok (.iconst (-1), 1) := by decide +kernel
theorem dX0_mostNumber_68 : decode cX0_mostNumber 68 = .ok (.ireturn, 1) := by decide +kernel
theorem dX1_init_0 : decode cX1_init 0 = .ok (.aload_n 0, 1) := by decide +kernel
theorem dX1_init_1 : decode cX1_init 1 = .ok (.invokespecial 3, 3) := by decide +kernel
theorem dX1_init_4 : decode cX1_init 4 = .ok (.aload_n 0, 1) := by decide +kernel
theorem dX1_init_5 : decode cX1_init 5 = .ok (.sipush 200, 3) := by decide +kernel
theorem dX1_init_8 : decode cX1_init 8 = .ok (.newarray .int, 2) := by decide +kernel
theorem dX1_init_10 : decode cX1_init 10 = .ok (.putfield 11, 3) := by decide +kernel
theorem dX1_init_13 : decode cX1_init 13 = .ok (.aload_n 0, 1) := by decide +kernel
theorem dX1_init_14 : decode cX1_init 14 = .ok (.iconst 0, 1) := by decide +kernel
theorem dX1_init_15 : decode cX1_init 15 = .ok (.putfield 15, 3) := by decide +kernel
theorem dX1_init_18 : decode cX1_init 18 = .ok (.return_, 1) := by decide +kernel
theorem dX1_isFull_0 : decode cX1_isFull 0 = .ok (.aload_n 0, 1) := by decide +kernel
theorem dX1_isFull_1 : decode cX1_isFull 1 = .ok (.getfield 15, 3) := by decide +kernel
theorem dX1_isFull_4 : decode cX1_isFull 4 = .ok (.bipush 40, 2) := by decide +kernel
theorem dX1_isFull_6 : decode cX1_isFull 6 = .ok (.if_icmp .lt 7, 3) := by decide +kernel
theorem dX1_isFull_9 : decode cX1_isFull 9 = .ok (.iconst 1, 1) := by decide +kernel
theorem dX1_isFull_10 : decode cX1_isFull 10 = .ok (.goto 4, 3) := by decide +kernel
theorem dX1_isFull_13 : decode cX1_isFull 13 = .ok (.iconst 0, 1) := by decide +kernel
theorem dX1_isFull_14 : decode cX1_isFull 14 = .ok (.ireturn, 1) := by decide +kernel
set_option maxRecDepth 20000 in
theorem ggX1_print_X1_isFull : GoodIn wsX1_print wsX1_isFull := goodIn_r _ [9, 1, 48, 49] (by decide +kernel) (by decide +kernel)
set_option maxRecDepth 20000 in
theorem gX1_print_X1_isFull : GoodIn wsX1_print (wsV RX1 19 RX1 yX1_isFull wsX1_isFull) := goodIn_app (goodIn_of _ (by decide +kernel)) ggX1_print_X1_isFull
set_option maxRecDepth 20000 in
theorem ggX1_print_X4_rateIn : GoodIn wsX1_print wsX4_rateIn := goodIn_r _ [14, 15, 16, 17, 18, 19, 13, 20, 21, 22, 23, 24, 25, 26, 27, 28, 29, 30, 31, 32, 33, 34, 35, 36, 37, 38, 50, 51, 52, 53, 54, 55, 56, 57, 58, 59, 60] (by decide +kernel) (by decide +kernel)
set_option maxRecDepth 20000 in
theorem gX1_print_X4_rateIn : GoodIn wsX1_print (wsV RX1 31 RX4 yX4_rateIn wsX4_rateIn) := goodIn_app (goodIn_of _ (by decide +kernel)) ggX1_print_X4_rateIn
set_option maxRecDepth 20000 in
theorem ggX1_print_X4_beatErrorIn : GoodIn wsX1_print wsX4_beatErrorIn := goodIn_r _ [42, 43, 44, 45, 25, 46, 22, 50, 51, 52, 53, 54, 55, 56, 57, 58, 59, 60] (by decide +kernel) (by decide +kernel)
set_option maxRecDepth 20000 in
theorem gX1_print_X4_beatErrorIn : GoodIn wsX1_print (wsV RX1 35 RX4 yX4_beatErrorIn wsX4_beatErrorIn) := goodIn_app (goodIn_of _ (by decide +kernel)) ggX1_print_X4_beatErrorIn
set_option maxRecDepth 20000 in
theorem ggX1_print_X4_swingIn : GoodIn wsX1_print wsX4_swingIn := goodIn_r _ [20, 21, 22, 23, 24, 25, 26, 50, 51, 52, 53, 54, 55, 56, 57, 58, 59, 60] (by decide +kernel) (by decide +kernel)
set_option maxRecDepth 20000 in
theorem gX1_print_X4_swingIn : GoodIn wsX1_print (wsV RX1 38 RX4 yX4_swingIn wsX4_swingIn) := goodIn_app (goodIn_of _ (by decide +kernel)) ggX1_print_X4_swingIn
theorem dX1_print_0 : decode cX1_print 0 = .ok (.aload_n 0, 1) := by decide +kernel
theorem dX1_print_1 : decode cX1_print 1 = .ok (.invokevirtual 19, 3) := by decide +kernel
theorem dX1_print_4 : decode cX1_print 4 = .ok (.ifCond .eq 4, 3) := by decide +kernel
theorem dX1_print_7 : decode cX1_print 7 = .ok (.return_, 1) := by decide +kernel
theorem dX1_print_8 : decode cX1_print 8 = .ok (.aload_n 0, 1) := by decide +kernel
theorem dX1_print_9 : decode cX1_print 9 = .ok (.getfield 15, 3) := by decide +kernel
theorem dX1_print_12 : decode cX1_print 12 = .ok (.iconst 5, 1) := by decide +kernel
theorem dX1_print_13 : decode cX1_print 13 = .ok (.imul, 1) := by decide +kernel
theorem dX1_print_14 : decode cX1_print 14 = .ok (.istore_n 2, 1) := by decide +kernel
theorem dX1_print_15 : decode cX1_print 15 = .ok (.aload_n 0, 1) := by decide +kernel
theorem dX1_print_16 : decode cX1_print 16 = .ok (.getfield 11, 3) := by decide +kernel
theorem dX1_print_19 : decode cX1_print 19 = .ok (.iload_n 2, 1) := by decide +kernel
theorem dX1_print_20 : decode cX1_print 20 = .ok (.iconst 0, 1) := by decide +kernel
theorem dX1_print_21 : decode cX1_print 21 = .ok (.iadd, 1) := by decide +kernel
theorem dX1_print_22 : decode cX1_print 22 = .ok (.aload_n 1, 1) := by decide +kernel
theorem dX1_print_23 : decode cX1_print 23 = .ok (.getfield 23, 3) := by decide +kernel
theorem dX1_print_26 : decode cX1_print 26 = .ok (.iastore, 1) := by decide +kernel
theorem dX1_print_27 : decode cX1_print 27 = .ok (.aload_n 0, 1) := by decide +kernel
theorem dX1_print_28 : decode cX1_print 28 = .ok (.getfield 11, 3) := by decide +kernel
theorem dX1_print_31 : decode cX1_print 31 = .ok (.iload_n 2, 1) := by decide +kernel
theorem dX1_print_32 : decode cX1_print 32 = .ok (.iconst 1, 1) := by decide +kernel
theorem dX1_print_33 : decode cX1_print 33 = .ok (.iadd, 1) := by decide +kernel
theorem dX1_print_34 : decode cX1_print 34 = .ok (.aload_n 1, 1) := by decide +kernel
theorem dX1_print_35 : decode cX1_print 35 = .ok (.getfield 28, 3) := by decide +kernel
theorem dX1_print_38 : decode cX1_print 38 = .ok (.iastore, 1) := by decide +kernel
theorem dX1_print_39 : decode cX1_print 39 = .ok (.aload_n 0, 1) := by decide +kernel
theorem dX1_print_40 : decode cX1_print 40 = .ok (.getfield 11, 3) := by decide +kernel
theorem dX1_print_43 : decode cX1_print 43 = .ok (.iload_n 2, 1) := by decide +kernel
theorem dX1_print_44 : decode cX1_print 44 = .ok (.iconst 2, 1) := by decide +kernel
theorem dX1_print_45 : decode cX1_print 45 = .ok (.iadd, 1) := by decide +kernel
theorem dX1_print_46 : decode cX1_print 46 = .ok (.aload_n 1, 1) := by decide +kernel
theorem dX1_print_47 : decode cX1_print 47 = .ok (.aload_n 1, 1) := by decide +kernel
theorem dX1_print_48 : decode cX1_print 48 = .ok (.getfield 28, 3) := by decide +kernel
theorem dX1_print_51 : decode cX1_print 51 = .ok (.invokevirtual 31, 3) := by decide +kernel
theorem dX1_print_54 : decode cX1_print 54 = .ok (.iastore, 1) := by decide +kernel
theorem dX1_print_55 : decode cX1_print 55 = .ok (.aload_n 0, 1) := by decide +kernel
theorem dX1_print_56 : decode cX1_print 56 = .ok (.getfield 11, 3) := by decide +kernel
theorem dX1_print_59 : decode cX1_print 59 = .ok (.iload_n 2, 1) := by decide +kernel
theorem dX1_print_60 : decode cX1_print 60 = .ok (.iconst 3, 1) := by decide +kernel
theorem dX1_print_61 : decode cX1_print 61 = .ok (.iadd, 1) := by decide +kernel
theorem dX1_print_62 : decode cX1_print 62 = .ok (.aload_n 1, 1) := by decide +kernel
theorem dX1_print_63 : decode cX1_print 63 = .ok (.aload_n 1, 1) := by decide +kernel
theorem dX1_print_64 : decode cX1_print 64 = .ok (.getfield 28, 3) := by decide +kernel
theorem dX1_print_67 : decode cX1_print 67 = .ok (.invokevirtual 35, 3) := by decide +kernel
theorem dX1_print_70 : decode cX1_print 70 = .ok (.iastore, 1) := by decide +kernel
theorem dX1_print_71 : decode cX1_print 71 = .ok (.aload_n 0, 1) := by decide +kernel
theorem dX1_print_72 : decode cX1_print 72 = .ok (.getfield 11, 3) := by decide +kernel
theorem dX1_print_75 : decode cX1_print 75 = .ok (.iload_n 2, 1) := by decide +kernel
theorem dX1_print_76 : decode cX1_print 76 = .ok (.iconst 4, 1) := by decide +kernel
theorem dX1_print_77 : decode cX1_print 77 = .ok (.iadd, 1) := by decide +kernel
theorem dX1_print_78 : decode cX1_print 78 = .ok (.aload_n 1, 1) := by decide +kernel
theorem dX1_print_79 : decode cX1_print 79 = .ok (.aload_n 1, 1) := by decide +kernel
theorem dX1_print_80 : decode cX1_print 80 = .ok (.getfield 28, 3) := by decide +kernel
theorem dX1_print_83 : decode cX1_print 83 = .ok (.invokevirtual 38, 3) := by decide +kernel
theorem dX1_print_86 : decode cX1_print 86 = .ok (.iastore, 1) := by decide +kernel
theorem dX1_print_87 : decode cX1_print 87 = .ok (.aload_n 0, 1) := by decide +kernel
theorem dX1_print_88 : decode cX1_print 88 = .ok (.dup, 1) := by decide +kernel
theorem dX1_print_89 : decode cX1_print 89 = .ok (.getfield 15, 3) := by decide +kernel
theorem dX1_print_92 : decode cX1_print 92 = .ok (.iconst 1, 1) := by decide +kernel
theorem dX1_print_93 : decode cX1_print 93 = .ok (.iadd, 1) := by decide +kernel
theorem dX1_print_94 : decode cX1_print 94 = .ok (.putfield 15, 3) := by decide +kernel
theorem dX1_print_97 : decode cX1_print 97 = .ok (.return_, 1) := by decide +kernel
theorem dX1_number_0 : decode cX1_number 0 = .ok (.iload_n 1, 1) := by decide +kernel
theorem dX1_number_1 : decode cX1_number 1 = .ok (.ifCond .lt 20, 3) := by decide +kernel
theorem dX1_number_4 : decode cX1_number 4 = .ok (.iload_n 1, 1) := by decide +kernel
theorem dX1_number_5 : decode cX1_number 5 = .ok (.aload_n 0, 1) := by decide +kernel
theorem dX1_number_6 : decode cX1_number 6 = .ok (.getfield 15, 3) := by decide +kernel
theorem dX1_number_9 : decode cX1_number 9 = .ok (.if_icmp .ge 12, 3) := by decide +kernel
theorem dX1_number_12 : decode cX1_number 12 = .ok (.iload_n 2, 1) := by decide +kernel
theorem dX1_number_13 : decode cX1_number 13 = .ok (.ifCond .lt 8, 3) := by decide +kernel
theorem dX1_number_16 : decode cX1_number 16 = .ok (.iload_n 2, 1) := by decide +kernel
theorem dX1_number_17 : decode cX1_number 17 = .ok (.iconst 5, 1) := by decide +kernel
theorem dX1_number_18 : decode cX1_number 18 = .ok (.if_icmp .lt 5, 3) := by decide +kernel
theorem dX1_number_21 : decode cX1_number 21 = .ok (.iconst (-1), 1) := by decide +kernel
theorem dX1_number_22 : decode cX1_number 22 = .ok (.ireturn, 1) := by decide +kernel
theorem dX1_number_23 : decode cX1_number 23 = .ok (.aload_n 0, 1) := by decide +kernel
theorem dX1_number_24 : decode cX1_number 24 = .ok (.getfield 11, 3) := by decide +kernel
theorem dX1_number_27 : decode cX1_number 27 = .ok (.iload_n 1, 1) := by decide +kernel
theorem dX1_number_28 : decode cX1_number 28 = .ok (.iconst 5, 1) := by decide +kernel
theorem dX1_number_29 : decode cX1_number 29 = .ok (.imul, 1) := by decide +kernel
theorem dX1_number_30 : decode cX1_number 30 = .ok (.iload_n 2, 1) := by decide +kernel
theorem dX1_number_31 : decode cX1_number 31 = .ok (.iadd, 1) := by decide +kernel
theorem dX1_number_32 : decode cX1_number 32 = .ok (.iaload, 1) := by decide +kernel
theorem dX1_number_33 : decode cX1_number 33 = .ok (.ireturn, 1) := by decide +kernel
set_option maxRecDepth 20000 in
theorem ggX1_latestIn_X1_number : GoodIn wsX1_latestIn wsX1_number := goodIn_r _ [6, 1, 7, 8, 9] (by decide +kernel) (by decide +kernel)
set_option maxRecDepth 20000 in
theorem gX1_latestIn_X1_number : GoodIn wsX1_latestIn (wsV RX1 41 RX1 yX1_number wsX1_number) := goodIn_app (goodIn_of _ (by decide +kernel)) ggX1_latestIn_X1_number
theorem dX1_latestIn_0 : decode cX1_latestIn 0 = .ok (.aload_n 0, 1) := by decide +kernel
theorem dX1_latestIn_1 : decode cX1_latestIn 1 = .ok (.getfield 15, 3) := by decide +kernel
theorem dX1_latestIn_4 : decode cX1_latestIn 4 = .ok (.iconst 1, 1) := by decide +kernel
theorem dX1_latestIn_5 : decode cX1_latestIn 5 = .ok (.isub, 1) := by decide +kernel
theorem dX1_latestIn_6 : decode cX1_latestIn 6 = .ok (.istore_n 2, 1) := by decide +kernel
theorem dX1_latestIn_7 : decode cX1_latestIn 7 = .ok (.iload_n 2, 1) := by decide +kernel
theorem dX1_latestIn_8 : decode cX1_latestIn 8 = .ok (.ifCond .lt 21, 3) := by decide +kernel
theorem dX1_latestIn_11 : decode cX1_latestIn 11 = .ok (.aload_n 0, 1) := by decide +kernel
theorem dX1_latestIn_12 : decode cX1_latestIn 12 = .ok (.iload_n 2, 1) := by decide +kernel
theorem dX1_latestIn_13 : decode cX1_latestIn 13 = .ok (.iconst 1, 1) := by decide +kernel
theorem dX1_latestIn_14 : decode cX1_latestIn 14 = .ok (.invokevirtual 41, 3) := by decide +kernel
theorem dX1_latestIn_17 : decode cX1_latestIn 17 = .ok (.iload_n 1, 1) := by decide +kernel
theorem dX1_latestIn_18 : decode cX1_latestIn 18 = .ok (.if_icmp .ne 5, 3) := by decide +kernel
theorem dX1_latestIn_21 : decode cX1_latestIn 21 = .ok (.iload_n 2, 1) := by decide +kernel
theorem dX1_latestIn_22 : decode cX1_latestIn 22 = .ok (.ireturn, 1) := by decide +kernel
theorem dX1_latestIn_23 : decode cX1_latestIn 23 = .ok (.iinc 2 (-1), 3) := by decide +kernel
theorem dX1_latestIn_26 : decode cX1_latestIn 26 = .ok (.goto (-19), 3) := by decide +kernel
theorem dX1_latestIn_29 : decode cX1_latestIn 29 = .ok (.iconst (-1), 1) := by decide +kernel
theorem dX1_latestIn_30 : decode cX1_latestIn 30 = .ok (.ireturn, 1) := by decide +kernel
set_option maxRecDepth 20000 in
theorem ggX1_readingsIn_X1_number : GoodIn wsX1_readingsIn wsX1_number := goodIn_r _ [6, 1, 7, 8, 9] (by decide +kernel) (by decide +kernel)
set_option maxRecDepth 20000 in
theorem gX1_readingsIn_X1_number : GoodIn wsX1_readingsIn (wsV RX1 41 RX1 yX1_number wsX1_number) := goodIn_app (goodIn_of _ (by decide +kernel)) ggX1_readingsIn_X1_number
theorem dX1_readingsIn_0 : decode cX1_readingsIn 0 = .ok (.iconst 0, 1) := by decide +kernel
theorem dX1_readingsIn_1 : decode cX1_readingsIn 1 = .ok (.istore_n 2, 1) := by decide +kernel
theorem dX1_readingsIn_2 : decode cX1_readingsIn 2 = .ok (.iconst 0, 1) := by decide +kernel
theorem dX1_readingsIn_3 : decode cX1_readingsIn 3 = .ok (.istore_n 3, 1) := by decide +kernel
theorem dX1_readingsIn_4 : decode cX1_readingsIn 4 = .ok (.iload_n 3, 1) := by decide +kernel
theorem dX1_readingsIn_5 : decode cX1_readingsIn 5 = .ok (.aload_n 0, 1) := by decide +kernel
theorem dX1_readingsIn_6 : decode cX1_readingsIn 6 = .ok (.getfield 15, 3) := by decide +kernel
theorem dX1_readingsIn_9 : decode cX1_readingsIn 9 = .ok (.if_icmp .ge 22, 3) := by decide +kernel
theorem dX1_readingsIn_12 : decode cX1_readingsIn 12 = .ok (.aload_n 0, 1) := by decide +kernel
theorem dX1_readingsIn_13 : decode cX1_readingsIn 13 = .ok (.iload_n 3, 1) := by decide +kernel
theorem dX1_readingsIn_14 : decode cX1_readingsIn 14 = .ok (.iconst 1, 1) := by decide +kernel
theorem dX1_readingsIn_15 : decode cX1_readingsIn 15 = .ok (.invokevirtual 41, 3) := by decide +kernel
theorem dX1_readingsIn_18 : decode cX1_readingsIn 18 = .ok (.iload_n 1, 1) := by decide +kernel
theorem dX1_readingsIn_19 : decode cX1_readingsIn 19 = .ok (.if_icmp .ne 6, 3) := by decide +kernel
theorem dX1_readingsIn_22 : decode cX1_readingsIn 22 = .ok (.iinc 2 1, 3) := by decide +kernel
theorem dX1_readingsIn_25 : decode cX1_readingsIn 25 = .ok (.iinc 3 1, 3) := by decide +kernel
theorem dX1_readingsIn_28 : decode cX1_readingsIn 28 = .ok (.goto (-24), 3) := by decide +kernel
theorem dX1_readingsIn_31 : decode cX1_readingsIn 31 = .ok (.iload_n 2, 1) := by decide +kernel
theorem dX1_readingsIn_32 : decode cX1_readingsIn 32 = .ok (.ireturn, 1) := by decide +kernel
theorem dX1_copyFrom_0 : decode cX1_copyFrom 0 = .ok (.aload_n 1, 1) := by decide +kernel
theorem dX1_copyFrom_1 : decode cX1_copyFrom 1 = .ok (.getfield 11, 3) := by decide +kernel
theorem dX1_copyFrom_4 : decode cX1_copyFrom 4 = .ok (.iconst 0, 1) := by decide +kernel
theorem dX1_copyFrom_5 : decode cX1_copyFrom 5 = .ok (.aload_n 0, 1) := by decide +kernel
theorem dX1_copyFrom_6 : decode cX1_copyFrom 6 = .ok (.getfield 11, 3) := by decide +kernel
theorem dX1_copyFrom_9 : decode cX1_copyFrom 9 = .ok (.iconst 0, 1) := by decide +kernel
theorem dX1_copyFrom_10 : decode cX1_copyFrom 10 = .ok (.aload_n 0, 1) := by decide +kernel
theorem dX1_copyFrom_11 : decode cX1_copyFrom 11 = .ok (.getfield 11, 3) := by decide +kernel
theorem dX1_copyFrom_14 : decode cX1_copyFrom 14 = .ok (.arraylength, 1) := by decide +kernel
theorem dX1_copyFrom_15 : decode cX1_copyFrom 15 = .ok (.invokestatic 45, 3) := by decide +kernel
theorem dX1_copyFrom_18 : decode cX1_copyFrom 18 = .ok (.aload_n 0, 1) := by decide +kernel
theorem dX1_copyFrom_19 : decode cX1_copyFrom 19 = .ok (.aload_n 1, 1) := by decide +kernel
theorem dX1_copyFrom_20 : decode cX1_copyFrom 20 = .ok (.getfield 15, 3) := by decide +kernel
theorem dX1_copyFrom_23 : decode cX1_copyFrom 23 = .ok (.putfield 15, 3) := by decide +kernel
theorem dX1_copyFrom_26 : decode cX1_copyFrom 26 = .ok (.return_, 1) := by decide +kernel
set_option maxRecDepth 20000 in
theorem ggX2_init_X3_init : GoodIn wsX2_init wsX3_init := goodIn_r _ [11, 12, 2, 3, 13, 14, 15, 16, 17, 18, 19, 20, 21, 22, 23, 24, 25, 26, 27, 28, 29, 30, 31, 32, 33, 34, 35, 36, 37, 38, 39, 40, 41, 42, 43, 44, 45, 46, 47, 48, 49, 50, 51, 52, 53, 54, 55, 66, 67, 68, 69, 70, 71, 72, 73, 74, 75, 76, 59, 60, 61, 62, 63, 64, 65, 77, 78] (by decide +kernel) (by decide +kernel)
set_option maxRecDepth 20000 in
theorem gX2_init_X3_init_n22 : GoodIn wsX2_init (wsX3_init) := ggX2_init_X3_init
theorem dX2_init_0 : decode cX2_init 0 = .ok (.aload_n 0, 1) := by decide +kernel
theorem dX2_init_1 : decode cX2_init 1 = .ok (.invokespecial 1, 3) := by decide +kernel
theorem dX2_init_4 : decode cX2_init 4 = .ok (.aload_n 0, 1) := by decide +kernel
theorem dX2_init_5 : decode cX2_init 5 = .ok (.bipush 6, 2) := by decide +kernel
theorem dX2_init_7 : decode cX2_init 7 = .ok (.anewarray 9, 3) := by decide +kernel
theorem dX2_init_10 : decode cX2_init 10 = .ok (.putfield 11, 3) := by decide +kernel
theorem dX2_init_13 : decode cX2_init 13 = .ok (.aload_n 0, 1) := by decide +kernel
theorem dX2_init_14 : decode cX2_init 14 = .ok (.iconst 0, 1) := by decide +kernel
theorem dX2_init_15 : decode cX2_init 15 = .ok (.putfield 15, 3) := by decide +kernel
theorem dX2_init_18 : decode cX2_init 18 = .ok (.aload_n 0, 1) := by decide +kernel
theorem dX2_init_19 : decode cX2_init 19 = .ok (.iconst 0, 1) := by decide +kernel
theorem dX2_init_20 : decode cX2_init 20 = .ok (.putfield 19, 3) := by decide +kernel
theorem dX2_init_23 : decode cX2_init 23 = .ok (.iconst 0, 1) := by decide +kernel
theorem dX2_init_24 : decode cX2_init 24 = .ok (.istore_n 1, 1) := by decide +kernel
theorem dX2_init_25 : decode cX2_init 25 = .ok (.iload_n 1, 1) := by decide +kernel
theorem dX2_init_26 : decode cX2_init 26 = .ok (.bipush 6, 2) := by decide +kernel
theorem dX2_init_28 : decode cX2_init 28 = .ok (.if_icmp .ge 22, 3) := by decide +kernel
theorem dX2_init_31 : decode cX2_init 31 = .ok (.aload_n 0, 1) := by decide +kernel
theorem dX2_init_32 : decode cX2_init 32 = .ok (.getfield 11, 3) := by decide +kernel
theorem dX2_init_35 : decode cX2_init 35 = .ok (.iload_n 1, 1) := by decide +kernel
theorem dX2_init_36 : decode cX2_init 36 = .ok (.new 9, 3) := by decide +kernel
theorem dX2_init_39 : decode cX2_init 39 = .ok (.dup, 1) := by decide +kernel
theorem dX2_init_40 : decode cX2_init 40 = .ok (.invokespecial 22, 3) := by decide +kernel
theorem dX2_init_43 : decode cX2_init 43 = .ok (.aastore, 1) := by decide +kernel
theorem dX2_init_44 : decode cX2_init 44 = .ok (.iinc 1 1, 3) := by decide +kernel
theorem dX2_init_47 : decode cX2_init 47 = .ok (.goto (-22), 3) := by decide +kernel
theorem dX2_init_50 : decode cX2_init 50 = .ok (.return_, 1) := by decide +kernel
set_option maxRecDepth 20000 in
theorem ggX2_push_X3_copyFrom : GoodIn wsX2_push wsX3_copyFrom := goodIn_r _ [12, 13, 14, 15, 16, 17, 18, 19, 20, 21, 22, 23, 24, 25, 26, 27, 28, 29, 30, 31, 32, 33, 34, 35, 36, 37, 38, 39, 40, 41, 42, 43, 44, 45, 46, 47, 48, 52, 53, 54, 55, 56, 57, 58, 59, 60, 61, 62, 63, 64, 65, 66, 67, 68, 69, 70, 71] (by decide +kernel) (by decide +kernel)
set_option maxRecDepth 20000 in
theorem gX2_push_X3_copyFrom : GoodIn wsX2_push (wsV RX2 23 RX3 yX3_copyFrom wsX3_copyFrom) := goodIn_app (goodIn_of _ (by decide +kernel)) ggX2_push_X3_copyFrom
theorem dX2_push_0 : decode cX2_push 0 = .ok (.aload_n 0, 1) := by decide +kernel
theorem dX2_push_1 : decode cX2_push 1 = .ok (.getfield 11, 3) := by decide +kernel
theorem dX2_push_4 : decode cX2_push 4 = .ok (.aload_n 0, 1) := by decide +kernel
theorem dX2_push_5 : decode cX2_push 5 = .ok (.getfield 15, 3) := by decide +kernel
theorem dX2_push_8 : decode cX2_push 8 = .ok (.aaload, 1) := by decide +kernel
theorem dX2_push_9 : decode cX2_push 9 = .ok (.aload_n 1, 1) := by decide +kernel
theorem dX2_push_10 : decode cX2_push 10 = .ok (.invokevirtual 23, 3) := by decide +kernel
theorem dX2_push_13 : decode cX2_push 13 = .ok (.aload_n 0, 1) := by decide +kernel
theorem dX2_push_14 : decode cX2_push 14 = .ok (.aload_n 0, 1) := by decide +kernel
theorem dX2_push_15 : decode cX2_push 15 = .ok (.getfield 15, 3) := by decide +kernel
theorem dX2_push_18 : decode cX2_push 18 = .ok (.iconst 1, 1) := by decide +kernel
theorem dX2_push_19 : decode cX2_push 19 = .ok (.iadd, 1) := by decide +kernel
theorem dX2_push_20 : decode cX2_push 20 = .ok (.bipush 6, 2) := by decide +kernel
theorem dX2_push_22 : decode cX2_push 22 = .ok (.irem, 1) := by decide +kernel
theorem dX2_push_23 : decode cX2_push 23 = .ok (.putfield 15, 3) := by decide +kernel
theorem dX2_push_26 : decode cX2_push 26 = .ok (.aload_n 0, 1) := by decide +kernel
theorem dX2_push_27 : decode cX2_push 27 = .ok (.bipush 6, 2) := by decide +kernel
theorem dX2_push_29 : decode cX2_push 29 = .ok (.aload_n 0, 1) := by decide +kernel
theorem dX2_push_30 : decode cX2_push 30 = .ok (.getfield 19, 3) := by decide +kernel
theorem dX2_push_33 : decode cX2_push 33 = .ok (.iconst 1, 1) := by decide +kernel
theorem dX2_push_34 : decode cX2_push 34 = .ok (.iadd, 1) := by decide +kernel
theorem dX2_push_35 : decode cX2_push 35 = .ok (.invokestatic 27, 3) := by decide +kernel
theorem dX2_push_38 : decode cX2_push 38 = .ok (.putfield 19, 3) := by decide +kernel
theorem dX2_push_41 : decode cX2_push 41 = .ok (.return_, 1) := by decide +kernel
set_option maxRecDepth 20000 in
theorem ggX2_popInto_X3_copyFrom : GoodIn wsX2_popInto wsX3_copyFrom := goodIn_r _ [8, 9, 10, 11, 12, 13, 14, 15, 16, 17, 18, 19, 20, 21, 22, 23, 24, 25, 26, 27, 28, 29, 30, 31, 32, 33, 34, 35, 36, 37, 38, 39, 40, 41, 42, 43, 44, 48, 49, 50, 51, 52, 53, 54, 55, 56, 57, 58, 59, 60, 61, 62, 63, 64, 65, 66, 67] (by decide +kernel) (by decide +kernel)
set_option maxRecDepth 20000 in
theorem gX2_popInto_X3_copyFrom : GoodIn wsX2_popInto (wsV RX2 23 RX3 yX3_copyFrom wsX3_copyFrom) := goodIn_app (goodIn_of _ (by decide +kernel)) ggX2_popInto_X3_copyFrom
theorem dX2_popInto_0 : decode cX2_popInto 0 = .ok (.aload_n 0, 1) := by decide +kernel
theorem dX2_popInto_1 : decode cX2_popInto 1 = .ok (.getfield 19, 3) := by decide +kernel
theorem dX2_popInto_4 : decode cX2_popInto 4 = .ok (.ifCond .ne 4, 3) := by decide +kernel
theorem dX2_popInto_7 : decode cX2_popInto 7 = .ok (.return_, 1) := by decide +kernel
theorem dX2_popInto_8 : decode cX2_popInto 8 = .ok (.aload_n 0, 1) := by decide +kernel
theorem dX2_popInto_9 : decode cX2_popInto 9 = .ok (.aload_n 0, 1) := by decide +kernel
theorem dX2_popInto_10 : decode cX2_popInto 10 = .ok (.getfield 15, 3) := by decide +kernel
theorem dX2_popInto_13 : decode cX2_popInto 13 = .ok (.bipush 6, 2) := by decide +kernel
theorem dX2_popInto_15 : decode cX2_popInto 15 = .ok (.iadd, 1) := by decide +kernel
theorem dX2_popInto_16 : decode cX2_popInto 16 = .ok (.iconst 1, 1) := by decide +kernel
theorem dX2_popInto_17 : decode cX2_popInto 17 = .ok (.isub, 1) := by decide +kernel
theorem dX2_popInto_18 : decode cX2_popInto 18 = .ok (.bipush 6, 2) := by decide +kernel
theorem dX2_popInto_20 : decode cX2_popInto 20 = .ok (.irem, 1) := by decide +kernel
theorem dX2_popInto_21 : decode cX2_popInto 21 = .ok (.putfield 15, 3) := by decide +kernel
theorem dX2_popInto_24 : decode cX2_popInto 24 = .ok (.aload_n 0, 1) := by decide +kernel
theorem dX2_popInto_25 : decode cX2_popInto 25 = .ok (.dup, 1) := by decide +kernel
theorem dX2_popInto_26 : decode cX2_popInto 26 = .ok (.getfield 19, 3) := by decide +kernel
theorem dX2_popInto_29 : decode cX2_popInto 29 = .ok (.iconst 1, 1) := by decide +kernel
theorem dX2_popInto_30 : decode cX2_popInto 30 = .ok (.isub, 1) := by decide +kernel
theorem dX2_popInto_31 : decode cX2_popInto 31 = .ok (.putfield 19, 3) := by decide +kernel
theorem dX2_popInto_34 : decode cX2_popInto 34 = .ok (.aload_n 1, 1) := by decide +kernel
theorem dX2_popInto_35 : decode cX2_popInto 35 = .ok (.aload_n 0, 1) := by decide +kernel
theorem dX2_popInto_36 : decode cX2_popInto 36 = .ok (.getfield 11, 3) := by decide +kernel
theorem dX2_popInto_39 : decode cX2_popInto 39 = .ok (.aload_n 0, 1) := by decide +kernel
theorem dX2_popInto_40 : decode cX2_popInto 40 = .ok (.getfield 15, 3) := by decide +kernel
theorem dX2_popInto_43 : decode cX2_popInto 43 = .ok (.aaload, 1) := by decide +kernel
theorem dX2_popInto_44 : decode cX2_popInto 44 = .ok (.invokevirtual 23, 3) := by decide +kernel
theorem dX2_popInto_47 : decode cX2_popInto 47 = .ok (.return_, 1) := by decide +kernel
set_option maxRecDepth 20000 in
theorem ggX3_init_X4_init : GoodIn wsX3_init wsX4_init := goodIn_r _ [25, 26, 2, 3, 27, 28, 14, 15, 16, 17, 29, 30, 31, 32, 33, 34, 35, 36, 37, 38, 39, 40, 47, 48, 49, 50, 51, 52, 53, 54, 55, 56, 57] (by decide +kernel) (by decide +kernel)
set_option maxRecDepth 20000 in
theorem gX3_init_X4_init_n11 : GoodIn wsX3_init (wsX4_init) := ggX3_init_X4_init
set_option maxRecDepth 20000 in
theorem ggX3_init_X1_init : GoodIn wsX3_init wsX1_init := goodIn_r _ [42, 43, 2, 3, 44, 45, 46, 65, 66] (by decide +kernel) (by decide +kernel)
set_option maxRecDepth 20000 in
theorem gX3_init_X1_init_n20 : GoodIn wsX3_init (wsX1_init) := ggX3_init_X1_init
theorem dX3_init_0 : decode cX3_init 0 = .ok (.aload_n 0, 1) := by decide +kernel
theorem dX3_init_1 : decode cX3_init 1 = .ok (.invokespecial 3, 3) := by decide +kernel
theorem dX3_init_4 : decode cX3_init 4 = .ok (.aload_n 0, 1) := by decide +kernel
theorem dX3_init_5 : decode cX3_init 5 = .ok (.new 9, 3) := by decide +kernel
theorem dX3_init_8 : decode cX3_init 8 = .ok (.dup, 1) := by decide +kernel
theorem dX3_init_9 : decode cX3_init 9 = .ok (.invokespecial 11, 3) := by decide +kernel
theorem dX3_init_12 : decode cX3_init 12 = .ok (.putfield 12, 3) := by decide +kernel
theorem dX3_init_15 : decode cX3_init 15 = .ok (.aload_n 0, 1) := by decide +kernel
theorem dX3_init_16 : decode cX3_init 16 = .ok (.new 18, 3) := by decide +kernel
theorem dX3_init_19 : decode cX3_init 19 = .ok (.dup, 1) := by decide +kernel
theorem dX3_init_20 : decode cX3_init 20 = .ok (.invokespecial 20, 3) := by decide +kernel
theorem dX3_init_23 : decode cX3_init 23 = .ok (.putfield 21, 3) := by decide +kernel
theorem dX3_init_26 : decode cX3_init 26 = .ok (.aload_n 0, 1) := by decide +kernel
theorem dX3_init_27 : decode cX3_init 27 = .ok (.getstatic 25, 3) := by decide +kernel
theorem dX3_init_30 : decode cX3_init 30 = .ok (.invokevirtual 29, 3) := by decide +kernel
theorem dX3_init_33 : decode cX3_init 33 = .ok (.checkcast 30, 3) := by decide +kernel
theorem dX3_init_36 : decode cX3_init 36 = .ok (.putfield 34, 3) := by decide +kernel
theorem dX3_init_39 : decode cX3_init 39 = .ok (.aload_n 0, 1) := by decide +kernel
theorem dX3_init_40 : decode cX3_init 40 = .ok (.iconst 0, 1) := by decide +kernel
theorem dX3_init_41 : decode cX3_init 41 = .ok (.putfield 37, 3) := by decide +kernel
theorem dX3_init_44 : decode cX3_init 44 = .ok (.aload_n 0, 1) := by decide +kernel
theorem dX3_init_45 : decode cX3_init 45 = .ok (.iconst (-1), 1) := by decide +kernel
theorem dX3_init_46 : decode cX3_init 46 = .ok (.putfield 41, 3) := by decide +kernel
theorem dX3_init_49 : decode cX3_init 49 = .ok (.aload_n 0, 1) := by decide +kernel
theorem dX3_init_50 : decode cX3_init 50 = .ok (.iconst (-1), 1) := by decide +kernel
theorem dX3_init_51 : decode cX3_init 51 = .ok (.putfield 44, 3) := by decide +kernel
theorem dX3_init_54 : decode cX3_init 54 = .ok (.aload_n 0, 1) := by decide +kernel
theorem dX3_init_55 : decode cX3_init 55 = .ok (.iconst (-1), 1) := by decide +kernel
theorem dX3_init_56 : decode cX3_init 56 = .ok (.putfield 47, 3) := by decide +kernel
theorem dX3_init_59 : decode cX3_init 59 = .ok (.return_, 1) := by decide +kernel
set_option maxRecDepth 20000 in
theorem ggX3_whyNoReading_X4_swingIn : GoodIn wsX3_whyNoReading wsX4_swingIn := goodIn_r _ [10, 11, 12, 13, 14, 15, 16, 38, 39, 40, 41, 42, 43, 44, 45, 46, 47, 48] (by decide +kernel) (by decide +kernel)
set_option maxRecDepth 20000 in
theorem gX3_whyNoReading_X4_swingIn : GoodIn wsX3_whyNoReading (wsV RX3 53 RX4 yX4_swingIn wsX4_swingIn) := goodIn_app (goodIn_of _ (by decide +kernel)) ggX3_whyNoReading_X4_swingIn
set_option maxRecDepth 20000 in
theorem ggX3_whyNoReading_X4_beatErrorIn : GoodIn wsX3_whyNoReading wsX4_beatErrorIn := goodIn_r _ [20, 21, 22, 23, 15, 24, 12, 38, 39, 40, 41, 42, 43, 44, 45, 46, 47, 48] (by decide +kernel) (by decide +kernel)
set_option maxRecDepth 20000 in
theorem gX3_whyNoReading_X4_beatErrorIn : GoodIn wsX3_whyNoReading (wsV RX3 57 RX4 yX4_beatErrorIn wsX4_beatErrorIn) := goodIn_app (goodIn_of _ (by decide +kernel)) ggX3_whyNoReading_X4_beatErrorIn
set_option maxRecDepth 20000 in
theorem ggX3_whyNoReading_X1_isFull : GoodIn wsX3_whyNoReading wsX1_isFull := goodIn_r _ [29, 30, 49, 50] (by decide +kernel) (by decide +kernel)
set_option maxRecDepth 20000 in
theorem gX3_whyNoReading_X1_isFull : GoodIn wsX3_whyNoReading (wsV RX3 63 RX1 yX1_isFull wsX1_isFull) := goodIn_app (goodIn_of _ (by decide +kernel)) ggX3_whyNoReading_X1_isFull
theorem dX3_whyNoReading_0 : decode cX3_whyNoReading 0 = .ok (.aload_n 0, 1) := by decide +kernel
theorem dX3_whyNoReading_1 : decode cX3_whyNoReading 1 = .ok (.getfield 12, 3) := by decide +kernel
theorem dX3_whyNoReading_4 : decode cX3_whyNoReading 4 = .ok (.getfield 50, 3) := by decide +kernel
theorem dX3_whyNoReading_7 : decode cX3_whyNoReading 7 = .ok (.ifCond .gt 5, 3) := by decide +kernel
theorem dX3_whyNoReading_10 : decode cX3_whyNoReading 10 = .ok (.iconst 1, 1) := by decide +kernel
theorem dX3_whyNoReading_11 : decode cX3_whyNoReading 11 = .ok (.ireturn, 1) := by decide +kernel
theorem dX3_whyNoReading_12 : decode cX3_whyNoReading 12 = .ok (.aload_n 0, 1) := by decide +kernel
theorem dX3_whyNoReading_13 : decode cX3_whyNoReading 13 = .ok (.getfield 12, 3) := by decide +kernel
theorem dX3_whyNoReading_16 : decode cX3_whyNoReading 16 = .ok (.iload_n 1, 1) := by decide +kernel
theorem dX3_whyNoReading_17 : decode cX3_whyNoReading 17 = .ok (.invokevirtual 53, 3) := by decide +kernel
theorem dX3_whyNoReading_20 : decode cX3_whyNoReading 20 = .ok (.bipush 120, 2) := by decide +kernel
theorem dX3_whyNoReading_22 : decode cX3_whyNoReading 22 = .ok (.if_icmp .ge 5, 3) := by decide +kernel
theorem dX3_whyNoReading_25 : decode cX3_whyNoReading 25 = .ok (.iconst 2, 1) := by decide +kernel
theorem dX3_whyNoReading_26 : decode cX3_whyNoReading 26 = .ok (.ireturn, 1) := by decide +kernel
theorem dX3_whyNoReading_27 : decode cX3_whyNoReading 27 = .ok (.aload_n 0, 1) := by decide +kernel
theorem dX3_whyNoReading_28 : decode cX3_whyNoReading 28 = .ok (.getfield 12, 3) := by decide +kernel
theorem dX3_whyNoReading_31 : decode cX3_whyNoReading 31 = .ok (.iload_n 1, 1) := by decide +kernel
theorem dX3_whyNoReading_32 : decode cX3_whyNoReading 32 = .ok (.invokevirtual 57, 3) := by decide +kernel
theorem dX3_whyNoReading_35 : decode cX3_whyNoReading 35 = .ok (.aload_n 0, 1) := by decide +kernel
theorem dX3_whyNoReading_36 : decode cX3_whyNoReading 36 = .ok (.getfield 34, 3) := by decide +kernel
theorem dX3_whyNoReading_39 : decode cX3_whyNoReading 39 = .ok (.iconst 0, 1) := by decide +kernel
theorem dX3_whyNoReading_40 : decode cX3_whyNoReading 40 = .ok (.iaload, 1) := by decide +kernel
theorem dX3_whyNoReading_41 : decode cX3_whyNoReading 41 = .ok (.if_icmp .le 5, 3) := by decide +kernel
theorem dX3_whyNoReading_44 : decode cX3_whyNoReading 44 = .ok (.iconst 3, 1) := by decide +kernel
theorem dX3_whyNoReading_45 : decode cX3_whyNoReading 45 = .ok (.ireturn, 1) := by decide +kernel
theorem dX3_whyNoReading_46 : decode cX3_whyNoReading 46 = .ok (.aload_n 0, 1) := by decide +kernel
theorem dX3_whyNoReading_47 : decode cX3_whyNoReading 47 = .ok (.getfield 12, 3) := by decide +kernel
theorem dX3_whyNoReading_50 : decode cX3_whyNoReading 50 = .ok (.getfield 60, 3) := by decide +kernel
theorem dX3_whyNoReading_53 : decode cX3_whyNoReading 53 = .ok (.aload_n 0, 1) := by decide +kernel
theorem dX3_whyNoReading_54 : decode cX3_whyNoReading 54 = .ok (.getfield 34, 3) := by decide +kernel
theorem dX3_whyNoReading_57 : decode cX3_whyNoReading 57 = .ok (.iconst 1, 1) := by decide +kernel
theorem dX3_whyNoReading_58 : decode cX3_whyNoReading 58 = .ok (.iaload, 1) := by decide +kernel
theorem dX3_whyNoReading_59 : decode cX3_whyNoReading 59 = .ok (.if_icmp .le 5, 3) := by decide +kernel
theorem dX3_whyNoReading_62 : decode cX3_whyNoReading 62 = .ok (.iconst 4, 1) := by decide +kernel
theorem dX3_whyNoReading_63 : decode cX3_whyNoReading 63 = .ok (.ireturn, 1) := by decide +kernel
theorem dX3_whyNoReading_64 : decode cX3_whyNoReading 64 = .ok (.aload_n 0, 1) := by decide +kernel
theorem dX3_whyNoReading_65 : decode cX3_whyNoReading 65 = .ok (.getfield 21, 3) := by decide +kernel
theorem dX3_whyNoReading_68 : decode cX3_whyNoReading 68 = .ok (.invokevirtual 63, 3) := by decide +kernel
theorem dX3_whyNoReading_71 : decode cX3_whyNoReading 71 = .ok (.ifCond .eq 7, 3) := by decide +kernel
theorem dX3_whyNoReading_74 : decode cX3_whyNoReading 74 = .ok (.iconst 5, 1) := by decide +kernel
theorem dX3_whyNoReading_75 : decode cX3_whyNoReading 75 = .ok (.goto 4, 3) := by decide +kernel
theorem dX3_whyNoReading_78 : decode cX3_whyNoReading 78 = .ok (.iconst 0, 1) := by decide +kernel
theorem dX3_whyNoReading_79 : decode cX3_whyNoReading 79 = .ok (.ireturn, 1) := by decide +kernel
set_option maxRecDepth 20000 in
theorem ggX3_makeReading_X1_print : GoodIn wsX3_makeReading wsX1_print := goodIn_r _ [9, 10, 11, 12, 13, 14, 15, 16, 8, 17, 18, 19, 20, 21, 22, 23, 24, 25, 26, 27, 28, 29, 30, 31, 32, 33, 34, 35, 36, 37, 38, 39, 40, 41, 42, 43, 44, 45, 46, 47, 48, 49, 50, 51, 52, 53, 54, 55, 74, 75, 63, 64, 65, 66, 67, 68, 69, 70, 71, 72, 73] (by decide +kernel) (by decide +kernel)
set_option maxRecDepth 20000 in
theorem gX3_makeReading_X1_print : GoodIn wsX3_makeReading (wsV RX3 70 RX1 yX1_print wsX1_print) := goodIn_app (goodIn_of _ (by decide +kernel)) ggX3_makeReading_X1_print
theorem dX3_makeReading_0 : decode cX3_makeReading 0 = .ok (.aload_n 0, 1) := by decide +kernel
theorem dX3_makeReading_1 : decode cX3_makeReading 1 = .ok (.getfield 12, 3) := by decide +kernel
theorem dX3_makeReading_4 : decode cX3_makeReading 4 = .ok (.iload_n 1, 1) := by decide +kernel
theorem dX3_makeReading_5 : decode cX3_makeReading 5 = .ok (.putfield 67, 3) := by decide +kernel
theorem dX3_makeReading_8 : decode cX3_makeReading 8 = .ok (.aload_n 0, 1) := by decide +kernel
theorem dX3_makeReading_9 : decode cX3_makeReading 9 = .ok (.getfield 21, 3) := by decide +kernel
theorem dX3_makeReading_12 : decode cX3_makeReading 12 = .ok (.aload_n 0, 1) := by decide +kernel
theorem dX3_makeReading_13 : decode cX3_makeReading 13 = .ok (.getfield 12, 3) := by decide +kernel
theorem dX3_makeReading_16 : decode cX3_makeReading 16 = .ok (.invokevirtual 70, 3) := by decide +kernel
theorem dX3_makeReading_19 : decode cX3_makeReading 19 = .ok (.aload_n 0, 1) := by decide +kernel
theorem dX3_makeReading_20 : decode cX3_makeReading 20 = .ok (.dup, 1) := by decide +kernel
theorem dX3_makeReading_21 : decode cX3_makeReading 21 = .ok (.getfield 37, 3) := by decide +kernel
theorem dX3_makeReading_24 : decode cX3_makeReading 24 = .ok (.iconst 1, 1) := by decide +kernel
theorem dX3_makeReading_25 : decode cX3_makeReading 25 = .ok (.iadd, 1) := by decide +kernel
theorem dX3_makeReading_26 : decode cX3_makeReading 26 = .ok (.putfield 37, 3) := by decide +kernel
theorem dX3_makeReading_29 : decode cX3_makeReading 29 = .ok (.return_, 1) := by decide +kernel
set_option maxRecDepth 20000 in
theorem ggX3_whyNoDayRate_X1_latestIn : GoodIn wsX3_whyNoDayRate wsX1_latestIn := goodIn_r _ [18, 19, 20, 21, 22, 17, 23, 24, 44, 45] (by decide +kernel) (by decide +kernel)
set_option maxRecDepth 20000 in
theorem gX3_whyNoDayRate_X1_latestIn : GoodIn wsX3_whyNoDayRate (wsV RX3 76 RX1 yX1_latestIn wsX1_latestIn) := goodIn_app (goodIn_of _ (by decide +kernel)) ggX3_whyNoDayRate_X1_latestIn
set_option maxRecDepth 20000 in
theorem ggX3_whyNoDayRate_X1_number : GoodIn wsX3_whyNoDayRate wsX1_number := goodIn_r _ [23, 19, 24, 44, 45] (by decide +kernel) (by decide +kernel)
set_option maxRecDepth 20000 in
theorem gX3_whyNoDayRate_X1_number : GoodIn wsX3_whyNoDayRate (wsV RX3 79 RX1 yX1_number wsX1_number) := goodIn_app (goodIn_of _ (by decide +kernel)) ggX3_whyNoDayRate_X1_number
theorem dX3_whyNoDayRate_0 : decode cX3_whyNoDayRate 0 = .ok (.ldc 74, 2) := by decide +kernel
theorem dX3_whyNoDayRate_2 : decode cX3_whyNoDayRate 2 = .ok (.istore_n 1, 1) := by decide +kernel
theorem dX3_whyNoDayRate_3 : decode cX3_whyNoDayRate 3 = .ok (.ldc 74, 2) := by decide +kernel
theorem dX3_whyNoDayRate_5 : decode cX3_whyNoDayRate 5 = .ok (.istore_n 2, 1) := by decide +kernel
theorem dX3_whyNoDayRate_6 : decode cX3_whyNoDayRate 6 = .ok (.ldc 75, 2) := by decide +kernel
theorem dX3_whyNoDayRate_8 : decode cX3_whyNoDayRate 8 = .ok (.istore_n 3, 1) := by decide +kernel
theorem dX3_whyNoDayRate_9 : decode cX3_whyNoDayRate 9 = .ok (.iconst 0, 1) := by decide +kernel
theorem dX3_whyNoDayRate_10 : decode cX3_whyNoDayRate 10 = .ok (.istore 4, 2) := by decide +kernel
theorem dX3_whyNoDayRate_12 : decode cX3_whyNoDayRate 12 = .ok (.iload 4, 2) := by decide +kernel
theorem dX3_whyNoDayRate_14 : decode cX3_whyNoDayRate 14 = .ok (.bipush 6, 2) := by decide +kernel
theorem dX3_whyNoDayRate_16 : decode cX3_whyNoDayRate 16 = .ok (.if_icmp .ge 70, 3) := by decide +kernel
theorem dX3_whyNoDayRate_19 : decode cX3_whyNoDayRate 19 = .ok (.aload_n 0, 1) := by decide +kernel
theorem dX3_whyNoDayRate_20 : decode cX3_whyNoDayRate 20 = .ok (.getfield 21, 3) := by decide +kernel
theorem dX3_whyNoDayRate_23 : decode cX3_whyNoDayRate 23 = .ok (.iload 4, 2) := by decide +kernel
theorem dX3_whyNoDayRate_25 : decode cX3_whyNoDayRate 25 = .ok (.invokevirtual 76, 3) := by decide +kernel
theorem dX3_whyNoDayRate_28 : decode cX3_whyNoDayRate 28 = .ok (.istore 5, 2) := by decide +kernel
theorem dX3_whyNoDayRate_30 : decode cX3_whyNoDayRate 30 = .ok (.iload 5, 2) := by decide +kernel
theorem dX3_whyNoDayRate_32 : decode cX3_whyNoDayRate 32 = .ok (.iconst (-1), 1) := by decide +kernel
theorem dX3_whyNoDayRate_33 : decode cX3_whyNoDayRate 33 = .ok (.if_icmp .ne 6, 3) := by decide +kernel
theorem dX3_whyNoDayRate_36 : decode cX3_whyNoDayRate 36 = .ok (.bipush 6, 2) := by decide +kernel
theorem dX3_whyNoDayRate_38 : decode cX3_whyNoDayRate 38 = .ok (.ireturn, 1) := by decide +kernel
theorem dX3_whyNoDayRate_39 : decode cX3_whyNoDayRate 39 = .ok (.aload_n 0, 1) := by decide +kernel
theorem dX3_whyNoDayRate_40 : decode cX3_whyNoDayRate 40 = .ok (.getfield 21, 3) := by decide +kernel
theorem dX3_whyNoDayRate_43 : decode cX3_whyNoDayRate 43 = .ok (.iload 5, 2) := by decide +kernel
theorem dX3_whyNoDayRate_45 : decode cX3_whyNoDayRate 45 = .ok (.iconst 2, 1) := by decide +kernel
theorem dX3_whyNoDayRate_46 : decode cX3_whyNoDayRate 46 = .ok (.invokevirtual 79, 3) := by decide +kernel
theorem dX3_whyNoDayRate_49 : decode cX3_whyNoDayRate 49 = .ok (.istore 6, 2) := by decide +kernel
theorem dX3_whyNoDayRate_51 : decode cX3_whyNoDayRate 51 = .ok (.iload_n 1, 1) := by decide +kernel
theorem dX3_whyNoDayRate_52 : decode cX3_whyNoDayRate 52 = .ok (.aload_n 0, 1) := by decide +kernel
theorem dX3_whyNoDayRate_53 : decode cX3_whyNoDayRate 53 = .ok (.getfield 21, 3) := by decide +kernel
theorem dX3_whyNoDayRate_56 : decode cX3_whyNoDayRate 56 = .ok (.iload 5, 2) := by decide +kernel
theorem dX3_whyNoDayRate_58 : decode cX3_whyNoDayRate 58 = .ok (.iconst 0, 1) := by decide +kernel
theorem dX3_whyNoDayRate_59 : decode cX3_whyNoDayRate 59 = .ok (.invokevirtual 79, 3) := by decide +kernel
theorem dX3_whyNoDayRate_62 : decode cX3_whyNoDayRate 62 = .ok (.invokestatic 83, 3) := by decide +kernel
theorem dX3_whyNoDayRate_65 : decode cX3_whyNoDayRate 65 = .ok (.istore_n 1, 1) := by decide +kernel
theorem dX3_whyNoDayRate_66 : decode cX3_whyNoDayRate 66 = .ok (.iload_n 2, 1) := by decide +kernel
theorem dX3_whyNoDayRate_67 : decode cX3_whyNoDayRate 67 = .ok (.iload 6, 2) := by decide +kernel
theorem dX3_whyNoDayRate_69 : decode cX3_whyNoDayRate 69 = .ok (.invokestatic 83, 3) := by decide +kernel
theorem dX3_whyNoDayRate_72 : decode cX3_whyNoDayRate 72 = .ok (.istore_n 2, 1) := by decide +kernel
theorem dX3_whyNoDayRate_73 : decode cX3_whyNoDayRate 73 = .ok (.iload_n 3, 1) := by decide +kernel
theorem dX3_whyNoDayRate_74 : decode cX3_whyNoDayRate 74 = .ok (.iload 6, 2) := by decide +kernel
theorem dX3_whyNoDayRate_76 : decode cX3_whyNoDayRate 76 = .ok (.invokestatic 88, 3) := by decide +kernel
theorem dX3_whyNoDayRate_79 : decode cX3_whyNoDayRate 79 = .ok (.istore_n 3, 1) := by decide +kernel
theorem dX3_whyNoDayRate_80 : decode cX3_whyNoDayRate 80 = .ok (.iinc 4 1, 3) := by decide +kernel
theorem dX3_whyNoDayRate_83 : decode cX3_whyNoDayRate 83 = .ok (.goto (-71), 3) := by decide +kernel
theorem dX3_whyNoDayRate_86 : decode cX3_whyNoDayRate 86 = .ok (.aload_n 0, 1) := by decide +kernel
theorem dX3_whyNoDayRate_87 : decode cX3_whyNoDayRate 87 = .ok (.getfield 12, 3) := by decide +kernel
theorem dX3_whyNoDayRate_90 : decode cX3_whyNoDayRate 90 = .ok (.getfield 91, 3) := by decide +kernel
theorem dX3_whyNoDayRate_93 : decode cX3_whyNoDayRate 93 = .ok (.iload_n 1, 1) := by decide +kernel
theorem dX3_whyNoDayRate_94 : decode cX3_whyNoDayRate 94 = .ok (.isub, 1) := by decide +kernel
theorem dX3_whyNoDayRate_95 : decode cX3_whyNoDayRate 95 = .ok (.aload_n 0, 1) := by decide +kernel
theorem dX3_whyNoDayRate_96 : decode cX3_whyNoDayRate 96 = .ok (.getfield 34, 3) := by decide +kernel
theorem dX3_whyNoDayRate_99 : decode cX3_whyNoDayRate 99 = .ok (.iconst 2, 1) := by decide +kernel
theorem dX3_whyNoDayRate_100 : decode cX3_whyNoDayRate 100 = .ok (.iaload, 1) := by decide +kernel
theorem dX3_whyNoDayRate_101 : decode cX3_whyNoDayRate 101 = .ok (.if_icmp .le 6, 3) := by decide +kernel
theorem dX3_whyNoDayRate_104 : decode cX3_whyNoDayRate 104 = .ok (.bipush 7, 2) := by decide +kernel
theorem dX3_whyNoDayRate_106 : decode cX3_whyNoDayRate 106 = .ok (.ireturn, 1) := by decide +kernel
theorem dX3_whyNoDayRate_107 : decode cX3_whyNoDayRate 107 = .ok (.iload_n 3, 1) := by decide +kernel
theorem dX3_whyNoDayRate_108 : decode cX3_whyNoDayRate 108 = .ok (.iload_n 2, 1) := by decide +kernel
theorem dX3_whyNoDayRate_109 : decode cX3_whyNoDayRate 109 = .ok (.isub, 1) := by decide +kernel
theorem dX3_whyNoDayRate_110 : decode cX3_whyNoDayRate 110 = .ok (.aload_n 0, 1) := by decide +kernel
theorem dX3_whyNoDayRate_111 : decode cX3_whyNoDayRate 111 = .ok (.getfield 34, 3) := by decide +kernel
theorem dX3_whyNoDayRate_114 : decode cX3_whyNoDayRate 114 = .ok (.iconst 3, 1) := by decide +kernel
theorem dX3_whyNoDayRate_115 : decode cX3_whyNoDayRate 115 = .ok (.iaload, 1) := by decide +kernel
theorem dX3_whyNoDayRate_116 : decode cX3_whyNoDayRate 116 = .ok (.if_icmp .le 8, 3) := by decide +kernel
theorem dX3_whyNoDayRate_119 : decode cX3_whyNoDayRate 119 = .ok (.bipush 8, 2) := by decide +kernel
theorem dX3_whyNoDayRate_121 : decode cX3_whyNoDayRate 121 = .ok (.goto 4, 3) := by decide +kernel
theorem dX3_whyNoDayRate_124 : decode cX3_whyNoDayRate 124 = .ok (.iconst 0, 1) := by decide +kernel
theorem dX3_whyNoDayRate_125 : decode cX3_whyNoDayRate 125 = .ok (.ireturn, 1) := by decide +kernel
set_option maxRecDepth 20000 in
theorem ggX3_dayRateByPoses_X3_whyNoDayRate : GoodIn wsX3_dayRateByPoses wsX3_whyNoDayRate := goodIn_r _ [6, 7, 8, 1, 9, 10, 11, 12, 13, 14, 15, 16, 17, 18, 19, 20, 21, 22, 23, 24, 25, 26, 27, 28, 29, 30, 35, 36, 37, 38, 39, 40, 41, 42, 43, 44, 45, 46, 47, 48, 49, 50, 51, 52, 53, 54] (by decide +kernel) (by decide +kernel)
set_option maxRecDepth 20000 in
theorem gX3_dayRateByPoses_X3_whyNoDayRate : GoodIn wsX3_dayRateByPoses (wsV RX3 94 RX3 yX3_whyNoDayRate wsX3_whyNoDayRate) := goodIn_app (goodIn_of _ (by decide +kernel)) ggX3_dayRateByPoses_X3_whyNoDayRate
set_option maxRecDepth 20000 in
theorem ggX3_dayRateByPoses_X1_latestIn : GoodIn wsX3_dayRateByPoses wsX1_latestIn := goodIn_r _ [23, 24, 25, 26, 27, 22, 28, 29, 53, 54] (by decide +kernel) (by decide +kernel)
set_option maxRecDepth 20000 in
theorem gX3_dayRateByPoses_X1_latestIn : GoodIn wsX3_dayRateByPoses (wsV RX3 76 RX1 yX1_latestIn wsX1_latestIn) := goodIn_app (goodIn_of _ (by decide +kernel)) ggX3_dayRateByPoses_X1_latestIn
set_option maxRecDepth 20000 in
theorem ggX3_dayRateByPoses_X1_number : GoodIn wsX3_dayRateByPoses wsX1_number := goodIn_r _ [28, 24, 29, 53, 54] (by decide +kernel) (by decide +kernel)
set_option maxRecDepth 20000 in
theorem gX3_dayRateByPoses_X1_number : GoodIn wsX3_dayRateByPoses (wsV RX3 79 RX1 yX1_number wsX1_number) := goodIn_app (goodIn_of _ (by decide +kernel)) ggX3_dayRateByPoses_X1_number
set_option maxRecDepth 20000 in
theorem ggX3_dayRateByPoses_J9_floorDiv_7cf53 : GoodIn wsX3_dayRateByPoses wsJ9_floorDiv_7cf53 := goodIn_r _ [34] (by decide +kernel) (by decide +kernel)
set_option maxRecDepth 20000 in
theorem gX3_dayRateByPoses_J9_floorDiv_7cf53 : GoodIn wsX3_dayRateByPoses (va_wsS RX3 98 yJ9_floorDiv_7cf53 wsJ9_floorDiv_7cf53) := goodIn_app (goodIn_of _ (by decide +kernel)) ggX3_dayRateByPoses_J9_floorDiv_7cf53
theorem dX3_dayRateByPoses_0 : decode cX3_dayRateByPoses 0 = .ok (.aload_n 0, 1) := by decide +kernel
theorem dX3_dayRateByPoses_1 : decode cX3_dayRateByPoses 1 = .ok (.invokevirtual 94, 3) := by decide +kernel
theorem dX3_dayRateByPoses_4 : decode cX3_dayRateByPoses 4 = .ok (.ifCond .eq 5, 3) := by decide +kernel
theorem dX3_dayRateByPoses_7 : decode cX3_dayRateByPoses 7 = .ok (.iconst (-1), 1) := by decide +kernel
theorem dX3_dayRateByPoses_8 : decode cX3_dayRateByPoses 8 = .ok (.ireturn, 1) := by decide +kernel
theorem dX3_dayRateByPoses_9 : decode cX3_dayRateByPoses 9 = .ok (.iconst 0, 1) := by decide +kernel
theorem dX3_dayRateByPoses_10 : decode cX3_dayRateByPoses 10 = .ok (.istore_n 1, 1) := by decide +kernel
theorem dX3_dayRateByPoses_11 : decode cX3_dayRateByPoses 11 = .ok (.iconst 0, 1) := by decide +kernel
theorem dX3_dayRateByPoses_12 : decode cX3_dayRateByPoses 12 = .ok (.istore_n 2, 1) := by decide +kernel
theorem dX3_dayRateByPoses_13 : decode cX3_dayRateByPoses 13 = .ok (.iload_n 2, 1) := by decide +kernel
theorem dX3_dayRateByPoses_14 : decode cX3_dayRateByPoses 14 = .ok (.bipush 6, 2) := by decide +kernel
theorem dX3_dayRateByPoses_16 : decode cX3_dayRateByPoses 16 = .ok (.if_icmp .ge 28, 3) := by decide +kernel
theorem dX3_dayRateByPoses_19 : decode cX3_dayRateByPoses 19 = .ok (.iload_n 1, 1) := by decide +kernel
theorem dX3_dayRateByPoses_20 : decode cX3_dayRateByPoses 20 = .ok (.aload_n 0, 1) := by decide +kernel
theorem dX3_dayRateByPoses_21 : decode cX3_dayRateByPoses 21 = .ok (.getfield 21, 3) := by decide +kernel
theorem dX3_dayRateByPoses_24 : decode cX3_dayRateByPoses 24 = .ok (.aload_n 0, 1) := by decide +kernel
theorem dX3_dayRateByPoses_25 : decode cX3_dayRateByPoses 25 = .ok (.getfield 21, 3) := by decide +kernel
theorem dX3_dayRateByPoses_28 : decode cX3_dayRateByPoses 28 = .ok (.iload_n 2, 1) := by decide +kernel
theorem dX3_dayRateByPoses_29 : decode cX3_dayRateByPoses 29 = .ok (.invokevirtual 76, 3) := by decide +kernel
theorem dX3_dayRateByPoses_32 : decode cX3_dayRateByPoses 32 = .ok (.iconst 2, 1) := by decide +kernel
theorem dX3_dayRateByPoses_33 : decode cX3_dayRateByPoses 33 = .ok (.invokevirtual 79, 3) := by decide +kernel
theorem dX3_dayRateByPoses_36 : decode cX3_dayRateByPoses 36 = .ok (.iadd, 1) := by decide +kernel
theorem dX3_dayRateByPoses_37 : decode cX3_dayRateByPoses 37 = .ok (.istore_n 1, 1) := by decide +kernel
theorem dX3_dayRateByPoses_38 : decode cX3_dayRateByPoses 38 = .ok (.iinc 2 1, 3) := by decide +kernel
theorem dX3_dayRateByPoses_41 : decode cX3_dayRateByPoses 41 = .ok (.goto (-28), 3) := by decide +kernel
theorem dX3_dayRateByPoses_44 : decode cX3_dayRateByPoses 44 = .ok (.iload_n 1, 1) := by decide +kernel
theorem dX3_dayRateByPoses_45 : decode cX3_dayRateByPoses 45 = .ok (.bipush 6, 2) := by decide +kernel
theorem dX3_dayRateByPoses_47 : decode cX3_dayRateByPoses 47 = .ok (.invokestatic 98, 3) := by decide +kernel
theorem dX3_dayRateByPoses_50 : decode cX3_dayRateByPoses 50 = .ok (.sipush 10000, 3) := by decide +kernel
theorem dX3_dayRateByPoses_53 : decode cX3_dayRateByPoses 53 = .ok (.iadd, 1) := by decide +kernel
theorem dX3_dayRateByPoses_54 : decode cX3_dayRateByPoses 54 = .ok (.ireturn, 1) := by decide +kernel
set_option maxRecDepth 20000 in
theorem ggX3_dayRateByPaper_X1_number : GoodIn wsX3_dayRateByPaper wsX1_number := goodIn_r _ [19, 20, 21, 33, 34] (by decide +kernel) (by decide +kernel)
set_option maxRecDepth 20000 in
theorem gX3_dayRateByPaper_X1_number : GoodIn wsX3_dayRateByPaper (wsV RX3 79 RX1 yX1_number wsX1_number) := goodIn_app (goodIn_of _ (by decide +kernel)) ggX3_dayRateByPaper_X1_number
set_option maxRecDepth 20000 in
theorem ggX3_dayRateByPaper_J9_floorDiv_7cf53 : GoodIn wsX3_dayRateByPaper wsJ9_floorDiv_7cf53 := goodIn_r _ [25] (by decide +kernel) (by decide +kernel)
set_option maxRecDepth 20000 in
theorem gX3_dayRateByPaper_J9_floorDiv_7cf53 : GoodIn wsX3_dayRateByPaper (va_wsS RX3 98 yJ9_floorDiv_7cf53 wsJ9_floorDiv_7cf53) := goodIn_app (goodIn_of _ (by decide +kernel)) ggX3_dayRateByPaper_J9_floorDiv_7cf53
theorem dX3_dayRateByPaper_0 : decode cX3_dayRateByPaper 0 = .ok (.iconst 0, 1) := by decide +kernel
theorem dX3_dayRateByPaper_1 : decode cX3_dayRateByPaper 1 = .ok (.istore_n 1, 1) := by decide +kernel
theorem dX3_dayRateByPaper_2 : decode cX3_dayRateByPaper 2 = .ok (.iconst 0, 1) := by decide +kernel
theorem dX3_dayRateByPaper_3 : decode cX3_dayRateByPaper 3 = .ok (.istore_n 2, 1) := by decide +kernel
theorem dX3_dayRateByPaper_4 : decode cX3_dayRateByPaper 4 = .ok (.iconst 0, 1) := by decide +kernel
theorem dX3_dayRateByPaper_5 : decode cX3_dayRateByPaper 5 = .ok (.istore_n 3, 1) := by decide +kernel
theorem dX3_dayRateByPaper_6 : decode cX3_dayRateByPaper 6 = .ok (.ldc 74, 2) := by decide +kernel
theorem dX3_dayRateByPaper_8 : decode cX3_dayRateByPaper 8 = .ok (.istore 4, 2) := by decide +kernel
theorem dX3_dayRateByPaper_10 : decode cX3_dayRateByPaper 10 = .ok (.ldc 75, 2) := by decide +kernel
theorem dX3_dayRateByPaper_12 : decode cX3_dayRateByPaper 12 = .ok (.istore 5, 2) := by decide +kernel
theorem dX3_dayRateByPaper_14 : decode cX3_dayRateByPaper 14 = .ok (.aload_n 0, 1) := by decide +kernel
theorem dX3_dayRateByPaper_15 : decode cX3_dayRateByPaper 15 = .ok (.getfield 21, 3) := by decide +kernel
theorem dX3_dayRateByPaper_18 : decode cX3_dayRateByPaper 18 = .ok (.getfield 101, 3) := by decide +kernel
theorem dX3_dayRateByPaper_21 : decode cX3_dayRateByPaper 21 = .ok (.iconst 1, 1) := by decide +kernel
theorem dX3_dayRateByPaper_22 : decode cX3_dayRateByPaper 22 = .ok (.isub, 1) := by decide +kernel
theorem dX3_dayRateByPaper_23 : decode cX3_dayRateByPaper 23 = .ok (.istore 6, 2) := by decide +kernel
theorem dX3_dayRateByPaper_25 : decode cX3_dayRateByPaper 25 = .ok (.iload 6, 2) := by decide +kernel
theorem dX3_dayRateByPaper_27 : decode cX3_dayRateByPaper 27 = .ok (.ifCond .lt 111, 3) := by decide +kernel
theorem dX3_dayRateByPaper_30 : decode cX3_dayRateByPaper 30 = .ok (.iload_n 2, 1) := by decide +kernel
theorem dX3_dayRateByPaper_31 : decode cX3_dayRateByPaper 31 = .ok (.bipush 6, 2) := by decide +kernel
theorem dX3_dayRateByPaper_33 : decode cX3_dayRateByPaper 33 = .ok (.if_icmp .ge 105, 3) := by decide +kernel
theorem dX3_dayRateByPaper_36 : decode cX3_dayRateByPaper 36 = .ok (.iconst 1, 1) := by decide +kernel
theorem dX3_dayRateByPaper_37 : decode cX3_dayRateByPaper 37 = .ok (.aload_n 0, 1) := by decide +kernel
theorem dX3_dayRateByPaper_38 : decode cX3_dayRateByPaper 38 = .ok (.getfield 21, 3) := by decide +kernel
theorem dX3_dayRateByPaper_41 : decode cX3_dayRateByPaper 41 = .ok (.iload 6, 2) := by decide +kernel
theorem dX3_dayRateByPaper_43 : decode cX3_dayRateByPaper 43 = .ok (.iconst 1, 1) := by decide +kernel
theorem dX3_dayRateByPaper_44 : decode cX3_dayRateByPaper 44 = .ok (.invokevirtual 79, 3) := by decide +kernel
theorem dX3_dayRateByPaper_47 : decode cX3_dayRateByPaper 47 = .ok (.ishl, 1) := by decide +kernel
theorem dX3_dayRateByPaper_48 : decode cX3_dayRateByPaper 48 = .ok (.istore 7, 2) := by decide +kernel
theorem dX3_dayRateByPaper_50 : decode cX3_dayRateByPaper 50 = .ok (.iload_n 1, 1) := by decide +kernel
theorem dX3_dayRateByPaper_51 : decode cX3_dayRateByPaper 51 = .ok (.iload 7, 2) := by decide +kernel
theorem dX3_dayRateByPaper_53 : decode cX3_dayRateByPaper 53 = .ok (.iand, 1) := by decide +kernel
theorem dX3_dayRateByPaper_54 : decode cX3_dayRateByPaper 54 = .ok (.ifCond .eq 6, 3) := by decide +kernel
theorem dX3_dayRateByPaper_57 : decode cX3_dayRateByPaper 57 = .ok (.goto 75, 3) := by decide +kernel
theorem dX3_dayRateByPaper_60 : decode cX3_dayRateByPaper 60 = .ok (.aload_n 0, 1) := by decide +kernel
theorem dX3_dayRateByPaper_61 : decode cX3_dayRateByPaper 61 = .ok (.getfield 12, 3) := by decide +kernel
theorem dX3_dayRateByPaper_64 : decode cX3_dayRateByPaper 64 = .ok (.getfield 91, 3) := by decide +kernel
theorem dX3_dayRateByPaper_67 : decode cX3_dayRateByPaper 67 = .ok (.aload_n 0, 1) := by decide +kernel
theorem dX3_dayRateByPaper_68 : decode cX3_dayRateByPaper 68 = .ok (.getfield 21, 3) := by decide +kernel
theorem dX3_dayRateByPaper_71 : decode cX3_dayRateByPaper 71 = .ok (.iload 6, 2) := by decide +kernel
theorem dX3_dayRateByPaper_73 : decode cX3_dayRateByPaper 73 = .ok (.iconst 0, 1) := by decide +kernel
theorem dX3_dayRateByPaper_74 : decode cX3_dayRateByPaper 74 = .ok (.invokevirtual 79, 3) := by decide +kernel
theorem dX3_dayRateByPaper_77 : decode cX3_dayRateByPaper 77 = .ok (.isub, 1) := by decide +kernel
theorem dX3_dayRateByPaper_78 : decode cX3_dayRateByPaper 78 = .ok (.aload_n 0, 1) := by decide +kernel
theorem dX3_dayRateByPaper_79 : decode cX3_dayRateByPaper 79 = .ok (.getfield 34, 3) := by decide +kernel
theorem dX3_dayRateByPaper_82 : decode cX3_dayRateByPaper 82 = .ok (.iconst 2, 1) := by decide +kernel
theorem dX3_dayRateByPaper_83 : decode cX3_dayRateByPaper 83 = .ok (.iaload, 1) := by decide +kernel
theorem dX3_dayRateByPaper_84 : decode cX3_dayRateByPaper 84 = .ok (.if_icmp .le 5, 3) := by decide +kernel
theorem dX3_dayRateByPaper_87 : decode cX3_dayRateByPaper 87 = .ok (.iconst (-1), 1) := by decide +kernel
theorem dX3_dayRateByPaper_88 : decode cX3_dayRateByPaper 88 = .ok (.ireturn, 1) := by decide +kernel
theorem dX3_dayRateByPaper_89 : decode cX3_dayRateByPaper 89 = .ok (.aload_n 0, 1) := by decide +kernel
theorem dX3_dayRateByPaper_90 : decode cX3_dayRateByPaper 90 = .ok (.getfield 21, 3) := by decide +kernel
theorem dX3_dayRateByPaper_93 : decode cX3_dayRateByPaper 93 = .ok (.iload 6, 2) := by decide +kernel
theorem dX3_dayRateByPaper_95 : decode cX3_dayRateByPaper 95 = .ok (.iconst 2, 1) := by decide +kernel
theorem dX3_dayRateByPaper_96 : decode cX3_dayRateByPaper 96 = .ok (.invokevirtual 79, 3) := by decide +kernel
theorem dX3_dayRateByPaper_99 : decode cX3_dayRateByPaper 99 = .ok (.istore 8, 2) := by decide +kernel
theorem dX3_dayRateByPaper_101 : decode cX3_dayRateByPaper 101 = .ok (.iload_n 1, 1) := by decide +kernel
theorem dX3_dayRateByPaper_102 : decode cX3_dayRateByPaper 102 = .ok (.iload 7, 2) := by decide +kernel
theorem dX3_dayRateByPaper_104 : decode cX3_dayRateByPaper 104 = .ok (.ior, 1) := by decide +kernel
theorem dX3_dayRateByPaper_105 : decode cX3_dayRateByPaper 105 = .ok (.istore_n 1, 1) := by decide +kernel
theorem dX3_dayRateByPaper_106 : decode cX3_dayRateByPaper 106 = .ok (.iinc 2 1, 3) := by decide +kernel
theorem dX3_dayRateByPaper_109 : decode cX3_dayRateByPaper 109 = .ok (.iload_n 3, 1) := by decide +kernel
theorem dX3_dayRateByPaper_110 : decode cX3_dayRateByPaper 110 = .ok (.iload 8, 2) := by decide +kernel
theorem dX3_dayRateByPaper_112 : decode cX3_dayRateByPaper 112 = .ok (.iadd, 1) := by decide +kernel
theorem dX3_dayRateByPaper_113 : decode cX3_dayRateByPaper 113 = .ok (.istore_n 3, 1) := by decide +kernel
theorem dX3_dayRateByPaper_114 : decode cX3_dayRateByPaper 114 = .ok (.iload 4, 2) := by decide +kernel
theorem dX3_dayRateByPaper_116 : decode cX3_dayRateByPaper 116 = .ok (.iload 8, 2) := by decide +kernel
theorem dX3_dayRateByPaper_118 : decode cX3_dayRateByPaper 118 = .ok (.invokestatic 83, 3) := by decide +kernel
theorem dX3_dayRateByPaper_121 : decode cX3_dayRateByPaper 121 = .ok (.istore 4, 2) := by decide +kernel
theorem dX3_dayRateByPaper_123 : decode cX3_dayRateByPaper 123 = .ok (.iload 5, 2) := by decide +kernel
theorem dX3_dayRateByPaper_125 : decode cX3_dayRateByPaper 125 = .ok (.iload 8, 2) := by decide +kernel
theorem dX3_dayRateByPaper_127 : decode cX3_dayRateByPaper 127 = .ok (.invokestatic 88, 3) := by decide +kernel
theorem dX3_dayRateByPaper_130 : decode cX3_dayRateByPaper 130 = .ok (.istore 5, 2) := by decide +kernel
theorem dX3_dayRateByPaper_132 : decode cX3_dayRateByPaper 132 = .ok (.iinc 6 (-1), 3) := by decide +kernel
theorem dX3_dayRateByPaper_135 : decode cX3_dayRateByPaper 135 = .ok (.goto (-110), 3) := by decide +kernel
theorem dX3_dayRateByPaper_138 : decode cX3_dayRateByPaper 138 = .ok (.iload_n 2, 1) := by decide +kernel
theorem dX3_dayRateByPaper_139 : decode cX3_dayRateByPaper 139 = .ok (.bipush 6, 2) := by decide +kernel
theorem dX3_dayRateByPaper_141 : decode cX3_dayRateByPaper 141 = .ok (.if_icmp .lt 17, 3) := by decide +kernel
theorem dX3_dayRateByPaper_144 : decode cX3_dayRateByPaper 144 = .ok (.iload 5, 2) := by decide +kernel
theorem dX3_dayRateByPaper_146 : decode cX3_dayRateByPaper 146 = .ok (.iload 4, 2) := by decide +kernel
theorem dX3_dayRateByPaper_148 : decode cX3_dayRateByPaper 148 = .ok (.isub, 1) := by decide +kernel
theorem dX3_dayRateByPaper_149 : decode cX3_dayRateByPaper 149 = .ok (.aload_n 0, 1) := by decide +kernel
theorem dX3_dayRateByPaper_150 : decode cX3_dayRateByPaper 150 = .ok (.getfield 34, 3) := by decide +kernel
theorem dX3_dayRateByPaper_153 : decode cX3_dayRateByPaper 153 = .ok (.iconst 3, 1) := by decide +kernel
theorem dX3_dayRateByPaper_154 : decode cX3_dayRateByPaper 154 = .ok (.iaload, 1) := by decide +kernel
theorem dX3_dayRateByPaper_155 : decode cX3_dayRateByPaper 155 = .ok (.if_icmp .le 5, 3) := by decide +kernel
theorem dX3_dayRateByPaper_158 : decode cX3_dayRateByPaper 158 = .ok (.iconst (-1), 1) := by decide +kernel
theorem dX3_dayRateByPaper_159 : decode cX3_dayRateByPaper 159 = .ok (.ireturn, 1) := by decide +kernel
theorem dX3_dayRateByPaper_160 : decode cX3_dayRateByPaper 160 = .ok (.iload_n 3, 1) := by decide +kernel
theorem dX3_dayRateByPaper_161 : decode cX3_dayRateByPaper 161 = .ok (.bipush 6, 2) := by decide +kernel
theorem dX3_dayRateByPaper_163 : decode cX3_dayRateByPaper 163 = .ok (.invokestatic 98, 3) := by decide +kernel
theorem dX3_dayRateByPaper_166 : decode cX3_dayRateByPaper 166 = .ok (.sipush 10000, 3) := by decide +kernel
theorem dX3_dayRateByPaper_169 : decode cX3_dayRateByPaper 169 = .ok (.iadd, 1) := by decide +kernel
theorem dX3_dayRateByPaper_170 : decode cX3_dayRateByPaper 170 = .ok (.ireturn, 1) := by decide +kernel
theorem dX3_noteStop_0 : decode cX3_noteStop 0 = .ok (.aload_n 0, 1) := by decide +kernel
theorem dX3_noteStop_1 : decode cX3_noteStop 1 = .ok (.iload_n 1, 1) := by decide +kernel
theorem dX3_noteStop_2 : decode cX3_noteStop 2 = .ok (.putfield 41, 3) := by decide +kernel
theorem dX3_noteStop_5 : decode cX3_noteStop 5 = .ok (.aload_n 0, 1) := by decide +kernel
theorem dX3_noteStop_6 : decode cX3_noteStop 6 = .ok (.iload_n 2, 1) := by decide +kernel
theorem dX3_noteStop_7 : decode cX3_noteStop 7 = .ok (.putfield 44, 3) := by decide +kernel
theorem dX3_noteStop_10 : decode cX3_noteStop 10 = .ok (.aload_n 0, 1) := by decide +kernel
theorem dX3_noteStop_11 : decode cX3_noteStop 11 = .ok (.iload_n 3, 1) := by decide +kernel
theorem dX3_noteStop_12 : decode cX3_noteStop 12 = .ok (.putfield 47, 3) := by decide +kernel
theorem dX3_noteStop_15 : decode cX3_noteStop 15 = .ok (.return_, 1) := by decide +kernel
set_option maxRecDepth 20000 in
theorem ggX3_forgetStop_X3_noteStop : GoodIn wsX3_forgetStop wsX3_noteStop := goodIn_r _ [5, 6, 7, 8, 9, 10, 11, 12, 13, 14, 15] (by decide +kernel) (by decide +kernel)
set_option maxRecDepth 20000 in
theorem gX3_forgetStop_X3_noteStop : GoodIn wsX3_forgetStop (wsV RX3 104 RX3 yX3_noteStop wsX3_noteStop) := goodIn_app (goodIn_of _ (by decide +kernel)) ggX3_forgetStop_X3_noteStop
theorem dX3_forgetStop_0 : decode cX3_forgetStop 0 = .ok (.aload_n 0, 1) := by decide +kernel
theorem dX3_forgetStop_1 : decode cX3_forgetStop 1 = .ok (.iconst (-1), 1) := by decide +kernel
theorem dX3_forgetStop_2 : decode cX3_forgetStop 2 = .ok (.iconst (-1), 1) := by decide +kernel
theorem dX3_forgetStop_3 : decode cX3_forgetStop 3 = .ok (.iconst (-1), 1) := by decide +kernel
theorem dX3_forgetStop_4 : decode cX3_forgetStop 4 = .ok (.invokevirtual 104, 3) := by decide +kernel
theorem dX3_forgetStop_7 : decode cX3_forgetStop 7 = .ok (.return_, 1) := by decide +kernel
theorem dX3_stopNumber_0 : decode cX3_stopNumber 0 = .ok (.iload_n 1, 1) := by decide +kernel
theorem dX3_stopNumber_1 : decode cX3_stopNumber 1 = .ok (.lookupswitch 37 #[(0, 27), (1, 32)], 27) := by decide +kernel
theorem dX3_stopNumber_28 : decode cX3_stopNumber 28 = .ok (.aload_n 0, 1) := by decide +kernel
theorem dX3_stopNumber_29 : decode cX3_stopNumber 29 = .ok (.getfield 41, 3) := by decide +kernel
theorem dX3_stopNumber_32 : decode cX3_stopNumber 32 = .ok (.ireturn, 1) := by decide +kernel
theorem dX3_stopNumber_33 : decode cX3_stopNumber 33 = .ok (.aload_n 0, 1) := by decide +kernel
theorem dX3_stopNumber_34 : decode cX3_stopNumber 34 = .ok (.getfield 44, 3) := by decide +kernel
theorem dX3_stopNumber_37 : decode cX3_stopNumber 37 = .ok (.ireturn, 1) := by decide +kernel
theorem dX3_stopNumber_38 : decode cX3_stopNumber 38 = .ok (.aload_n 0, 1) := by decide +kernel
theorem dX3_stopNumber_39 : decode cX3_stopNumber 39 = .ok (.getfield 47, 3) := by decide +kernel
theorem dX3_stopNumber_42 : decode cX3_stopNumber 42 = .ok (.ireturn, 1) := by decide +kernel
set_option maxRecDepth 20000 in
theorem ggX3_copyFrom_X4_copyFrom : GoodIn wsX3_copyFrom wsX4_copyFrom := goodIn_r _ [16, 17, 18, 5, 6, 7, 19, 20, 21, 22, 23, 24, 25, 26, 27, 28, 44, 45, 46, 47, 48, 49, 50, 51, 52, 53, 54] (by decide +kernel) (by decide +kernel)
set_option maxRecDepth 20000 in
theorem gX3_copyFrom_X4_copyFrom : GoodIn wsX3_copyFrom (wsV RX3 108 RX4 yX4_copyFrom wsX4_copyFrom) := goodIn_app (goodIn_of _ (by decide +kernel)) ggX3_copyFrom_X4_copyFrom
set_option maxRecDepth 20000 in
theorem ggX3_copyFrom_X1_copyFrom : GoodIn wsX3_copyFrom wsX1_copyFrom := goodIn_r _ [33, 34, 35, 5, 6, 7, 36, 55, 56] (by decide +kernel) (by decide +kernel)
set_option maxRecDepth 20000 in
theorem gX3_copyFrom_X1_copyFrom : GoodIn wsX3_copyFrom (wsV RX3 111 RX1 yX1_copyFrom wsX1_copyFrom) := goodIn_app (goodIn_of _ (by decide +kernel)) ggX3_copyFrom_X1_copyFrom
theorem dX3_copyFrom_0 : decode cX3_copyFrom 0 = .ok (.aload_n 0, 1) := by decide +kernel
theorem dX3_copyFrom_1 : decode cX3_copyFrom 1 = .ok (.getfield 12, 3) := by decide +kernel
theorem dX3_copyFrom_4 : decode cX3_copyFrom 4 = .ok (.aload_n 1, 1) := by decide +kernel
theorem dX3_copyFrom_5 : decode cX3_copyFrom 5 = .ok (.getfield 12, 3) := by decide +kernel
theorem dX3_copyFrom_8 : decode cX3_copyFrom 8 = .ok (.invokevirtual 108, 3) := by decide +kernel
theorem dX3_copyFrom_11 : decode cX3_copyFrom 11 = .ok (.aload_n 0, 1) := by decide +kernel
theorem dX3_copyFrom_12 : decode cX3_copyFrom 12 = .ok (.getfield 21, 3) := by decide +kernel
theorem dX3_copyFrom_15 : decode cX3_copyFrom 15 = .ok (.aload_n 1, 1) := by decide +kernel
theorem dX3_copyFrom_16 : decode cX3_copyFrom 16 = .ok (.getfield 21, 3) := by decide +kernel
theorem dX3_copyFrom_19 : decode cX3_copyFrom 19 = .ok (.invokevirtual 111, 3) := by decide +kernel
theorem dX3_copyFrom_22 : decode cX3_copyFrom 22 = .ok (.aload_n 1, 1) := by decide +kernel
theorem dX3_copyFrom_23 : decode cX3_copyFrom 23 = .ok (.getfield 34, 3) := by decide +kernel
theorem dX3_copyFrom_26 : decode cX3_copyFrom 26 = .ok (.iconst 0, 1) := by decide +kernel
theorem dX3_copyFrom_27 : decode cX3_copyFrom 27 = .ok (.aload_n 0, 1) := by decide +kernel
theorem dX3_copyFrom_28 : decode cX3_copyFrom 28 = .ok (.getfield 34, 3) := by decide +kernel
theorem dX3_copyFrom_31 : decode cX3_copyFrom 31 = .ok (.iconst 0, 1) := by decide +kernel
theorem dX3_copyFrom_32 : decode cX3_copyFrom 32 = .ok (.iconst 4, 1) := by decide +kernel
theorem dX3_copyFrom_33 : decode cX3_copyFrom 33 = .ok (.invokestatic 114, 3) := by decide +kernel
theorem dX3_copyFrom_36 : decode cX3_copyFrom 36 = .ok (.aload_n 0, 1) := by decide +kernel
theorem dX3_copyFrom_37 : decode cX3_copyFrom 37 = .ok (.aload_n 1, 1) := by decide +kernel
theorem dX3_copyFrom_38 : decode cX3_copyFrom 38 = .ok (.getfield 37, 3) := by decide +kernel
theorem dX3_copyFrom_41 : decode cX3_copyFrom 41 = .ok (.putfield 37, 3) := by decide +kernel
theorem dX3_copyFrom_44 : decode cX3_copyFrom 44 = .ok (.aload_n 0, 1) := by decide +kernel
theorem dX3_copyFrom_45 : decode cX3_copyFrom 45 = .ok (.aload_n 1, 1) := by decide +kernel
theorem dX3_copyFrom_46 : decode cX3_copyFrom 46 = .ok (.getfield 41, 3) := by decide +kernel
theorem dX3_copyFrom_49 : decode cX3_copyFrom 49 = .ok (.putfield 41, 3) := by decide +kernel
theorem dX3_copyFrom_52 : decode cX3_copyFrom 52 = .ok (.aload_n 0, 1) := by decide +kernel
theorem dX3_copyFrom_53 : decode cX3_copyFrom 53 = .ok (.aload_n 1, 1) := by decide +kernel
theorem dX3_copyFrom_54 : decode cX3_copyFrom 54 = .ok (.getfield 44, 3) := by decide +kernel
theorem dX3_copyFrom_57 : decode cX3_copyFrom 57 = .ok (.putfield 44, 3) := by decide +kernel
theorem dX3_copyFrom_60 : decode cX3_copyFrom 60 = .ok (.aload_n 0, 1) := by decide +kernel
theorem dX3_copyFrom_61 : decode cX3_copyFrom 61 = .ok (.aload_n 1, 1) := by decide +kernel
theorem dX3_copyFrom_62 : decode cX3_copyFrom 62 = .ok (.getfield 47, 3) := by decide +kernel
theorem dX3_copyFrom_65 : decode cX3_copyFrom 65 = .ok (.putfield 47, 3) := by decide +kernel
theorem dX3_copyFrom_68 : decode cX3_copyFrom 68 = .ok (.return_, 1) := by decide +kernel
theorem dX4_init_0 : decode cX4_init 0 = .ok (.aload_n 0, 1) := by decide +kernel
theorem dX4_init_1 : decode cX4_init 1 = .ok (.invokespecial 3, 3) := by decide +kernel
theorem dX4_init_4 : decode cX4_init 4 = .ok (.aload_n 0, 1) := by decide +kernel
theorem dX4_init_5 : decode cX4_init 5 = .ok (.getstatic 9, 3) := by decide +kernel
theorem dX4_init_8 : decode cX4_init 8 = .ok (.invokevirtual 15, 3) := by decide +kernel
theorem dX4_init_11 : decode cX4_init 11 = .ok (.checkcast 16, 3) := by decide +kernel
theorem dX4_init_14 : decode cX4_init 14 = .ok (.putfield 20, 3) := by decide +kernel
theorem dX4_init_17 : decode cX4_init 17 = .ok (.aload_n 0, 1) := by decide +kernel
theorem dX4_init_18 : decode cX4_init 18 = .ok (.iconst 0, 1) := by decide +kernel
theorem dX4_init_19 : decode cX4_init 19 = .ok (.putfield 23, 3) := by decide +kernel
theorem dX4_init_22 : decode cX4_init 22 = .ok (.aload_n 0, 1) := by decide +kernel
theorem dX4_init_23 : decode cX4_init 23 = .ok (.bipush 10, 2) := by decide +kernel
theorem dX4_init_25 : decode cX4_init 25 = .ok (.putfield 27, 3) := by decide +kernel
theorem dX4_init_28 : decode cX4_init 28 = .ok (.aload_n 0, 1) := by decide +kernel
theorem dX4_init_29 : decode cX4_init 29 = .ok (.iconst 0, 1) := by decide +kernel
theorem dX4_init_30 : decode cX4_init 30 = .ok (.putfield 30, 3) := by decide +kernel
theorem dX4_init_33 : decode cX4_init 33 = .ok (.aload_n 0, 1) := by decide +kernel
theorem dX4_init_34 : decode cX4_init 34 = .ok (.iconst 0, 1) := by decide +kernel
theorem dX4_init_35 : decode cX4_init 35 = .ok (.putfield 33, 3) := by decide +kernel
theorem dX4_init_38 : decode cX4_init 38 = .ok (.aload_n 0, 1) := by decide +kernel
theorem dX4_init_39 : decode cX4_init 39 = .ok (.iconst 0, 1) := by decide +kernel
theorem dX4_init_40 : decode cX4_init 40 = .ok (.putfield 36, 3) := by decide +kernel
theorem dX4_init_43 : decode cX4_init 43 = .ok (.aload_n 0, 1) := by decide +kernel
theorem dX4_init_44 : decode cX4_init 44 = .ok (.iconst 0, 1) := by decide +kernel
theorem dX4_init_45 : decode cX4_init 45 = .ok (.putfield 39, 3) := by decide +kernel
theorem dX4_init_48 : decode cX4_init 48 = .ok (.aload_n 0, 1) := by decide +kernel
theorem dX4_init_49 : decode cX4_init 49 = .ok (.iconst 0, 1) := by decide +kernel
theorem dX4_init_50 : decode cX4_init 50 = .ok (.putfield 42, 3) := by decide +kernel
theorem dX4_init_53 : decode cX4_init 53 = .ok (.aload_n 0, 1) := by decide +kernel
theorem dX4_init_54 : decode cX4_init 54 = .ok (.iconst 0, 1) := by decide +kernel
theorem dX4_init_55 : decode cX4_init 55 = .ok (.putfield 45, 3) := by decide +kernel
theorem dX4_init_58 : decode cX4_init 58 = .ok (.aload_n 0, 1) := by decide +kernel
theorem dX4_init_59 : decode cX4_init 59 = .ok (.iconst 0, 1) := by decide +kernel
theorem dX4_init_60 : decode cX4_init 60 = .ok (.putfield 48, 3) := by decide +kernel
theorem dX4_init_63 : decode cX4_init 63 = .ok (.aload_n 0, 1) := by decide +kernel
theorem dX4_init_64 : decode cX4_init 64 = .ok (.iconst 0, 1) := by decide +kernel
theorem dX4_init_65 : decode cX4_init 65 = .ok (.putfield 51, 3) := by decide +kernel
theorem dX4_init_68 : decode cX4_init 68 = .ok (.return_, 1) := by decide +kernel
set_option maxRecDepth 20000 in
theorem ggX4_weightOf_X5_isPose : GoodIn wsX4_weightOf wsX5_isPose := goodIn_r _ [4] (by decide +kernel) (by decide +kernel)
set_option maxRecDepth 20000 in
theorem gX4_weightOf_X5_isPose_n54 : GoodIn wsX4_weightOf (wsX5_isPose) := ggX4_weightOf_X5_isPose
theorem dX4_weightOf_0 : decode cX4_weightOf 0 = .ok (.iload_n 1, 1) := by decide +kernel
theorem dX4_weightOf_1 : decode cX4_weightOf 1 = .ok (.invokestatic 54, 3) := by decide +kernel
theorem dX4_weightOf_4 : decode cX4_weightOf 4 = .ok (.ifCond .eq 12, 3) := by decide +kernel
theorem dX4_weightOf_7 : decode cX4_weightOf 7 = .ok (.aload_n 0, 1) := by decide +kernel
theorem dX4_weightOf_8 : decode cX4_weightOf 8 = .ok (.getfield 20, 3) := by decide +kernel
theorem dX4_weightOf_11 : decode cX4_weightOf 11 = .ok (.iload_n 1, 1) := by decide +kernel
theorem dX4_weightOf_12 : decode cX4_weightOf 12 = .ok (.iaload, 1) := by decide +kernel
theorem dX4_weightOf_13 : decode cX4_weightOf 13 = .ok (.goto 4, 3) := by decide +kernel
theorem dX4_weightOf_16 : decode cX4_weightOf 16 = .ok (.iconst 0, 1) := by decide +kernel
theorem dX4_weightOf_17 : decode cX4_weightOf 17 = .ok (.ireturn, 1) := by decide +kernel
set_option maxRecDepth 20000 in
theorem ggX4_putWeight_X5_isPose : GoodIn wsX4_putWeight wsX5_isPose := goodIn_r _ [4] (by decide +kernel) (by decide +kernel)
set_option maxRecDepth 20000 in
theorem gX4_putWeight_X5_isPose_n54 : GoodIn wsX4_putWeight (wsX5_isPose) := ggX4_putWeight_X5_isPose
theorem dX4_putWeight_0 : decode cX4_putWeight 0 = .ok (.iload_n 1, 1) := by decide +kernel
theorem dX4_putWeight_1 : decode cX4_putWeight 1 = .ok (.invokestatic 54, 3) := by decide +kernel
theorem dX4_putWeight_4 : decode cX4_putWeight 4 = .ok (.ifCond .eq 10, 3) := by decide +kernel
theorem dX4_putWeight_7 : decode cX4_putWeight 7 = .ok (.aload_n 0, 1) := by decide +kernel
theorem dX4_putWeight_8 : decode cX4_putWeight 8 = .ok (.getfield 20, 3) := by decide +kernel
theorem dX4_putWeight_11 : decode cX4_putWeight 11 = .ok (.iload_n 1, 1) := by decide +kernel
theorem dX4_putWeight_12 : decode cX4_putWeight 12 = .ok (.iload_n 2, 1) := by decide +kernel
theorem dX4_putWeight_13 : decode cX4_putWeight 13 = .ok (.iastore, 1) := by decide +kernel
theorem dX4_putWeight_14 : decode cX4_putWeight 14 = .ok (.return_, 1) := by decide +kernel
theorem dX4_tighten_0 : decode cX4_tighten 0 = .ok (.aload_n 0, 1) := by decide +kernel
theorem dX4_tighten_1 : decode cX4_tighten 1 = .ok (.bipush 48, 2) := by decide +kernel
theorem dX4_tighten_3 : decode cX4_tighten 3 = .ok (.aload_n 0, 1) := by decide +kernel
theorem dX4_tighten_4 : decode cX4_tighten 4 = .ok (.getfield 30, 3) := by decide +kernel
theorem dX4_tighten_7 : decode cX4_tighten 7 = .ok (.iload_n 1, 1) := by decide +kernel
theorem dX4_tighten_8 : decode cX4_tighten 8 = .ok (.iadd, 1) := by decide +kernel
theorem dX4_tighten_9 : decode cX4_tighten 9 = .ok (.invokestatic 58, 3) := by decide +kernel
theorem dX4_tighten_12 : decode cX4_tighten 12 = .ok (.putfield 30, 3) := by decide +kernel
theorem dX4_tighten_15 : decode cX4_tighten 15 = .ok (.return_, 1) := by decide +kernel
theorem dX4_swingIn_0 : decode cX4_swingIn 0 = .ok (.sipush 320, 3) := by decide +kernel
theorem dX4_swingIn_3 : decode cX4_swingIn 3 = .ok (.iconst 3, 1) := by decide +kernel
theorem dX4_swingIn_4 : decode cX4_swingIn 4 = .ok (.bipush 48, 2) := by decide +kernel
theorem dX4_swingIn_6 : decode cX4_swingIn 6 = .ok (.aload_n 0, 1) := by decide +kernel
theorem dX4_swingIn_7 : decode cX4_swingIn 7 = .ok (.getfield 30, 3) := by decide +kernel
theorem dX4_swingIn_10 : decode cX4_swingIn 10 = .ok (.isub, 1) := by decide +kernel
theorem dX4_swingIn_11 : decode cX4_swingIn 11 = .ok (.imul, 1) := by decide +kernel
theorem dX4_swingIn_12 : decode cX4_swingIn 12 = .ok (.isub, 1) := by decide +kernel
theorem dX4_swingIn_13 : decode cX4_swingIn 13 = .ok (.aload_n 0, 1) := by decide +kernel
theorem dX4_swingIn_14 : decode cX4_swingIn 14 = .ok (.getfield 36, 3) := by decide +kernel
theorem dX4_swingIn_17 : decode cX4_swingIn 17 = .ok (.isub, 1) := by decide +kernel
theorem dX4_swingIn_18 : decode cX4_swingIn 18 = .ok (.istore_n 2, 1) := by decide +kernel
theorem dX4_swingIn_19 : decode cX4_swingIn 19 = .ok (.iload_n 1, 1) := by decide +kernel
theorem dX4_swingIn_20 : decode cX4_swingIn 20 = .ok (.iconst 2, 1) := by decide +kernel
theorem dX4_swingIn_21 : decode cX4_swingIn 21 = .ok (.if_icmp .lt 6, 3) := by decide +kernel
theorem dX4_swingIn_24 : decode cX4_swingIn 24 = .ok (.iinc 2 (-20), 3) := by decide +kernel
theorem dX4_swingIn_27 : decode cX4_swingIn 27 = .ok (.iconst 0, 1) := by decide +kernel
theorem dX4_swingIn_28 : decode cX4_swingIn 28 = .ok (.iload_n 2, 1) := by decide +kernel
theorem dX4_swingIn_29 : decode cX4_swingIn 29 = .ok (.invokestatic 64, 3) := by decide +kernel
theorem dX4_swingIn_32 : decode cX4_swingIn 32 = .ok (.ireturn, 1) := by decide +kernel
set_option maxRecDepth 20000 in
theorem ggX4_rateIn_X4_swingIn : GoodIn wsX4_rateIn wsX4_swingIn := goodIn_r _ [7, 8, 9, 10, 11, 12, 13, 26, 27, 28, 29, 30, 31, 32, 33, 34, 35, 36] (by decide +kernel) (by decide +kernel)
set_option maxRecDepth 20000 in
theorem gX4_rateIn_X4_swingIn : GoodIn wsX4_rateIn (wsV RX4 67 RX4 yX4_swingIn wsX4_swingIn) := goodIn_app (goodIn_of _ (by decide +kernel)) ggX4_rateIn_X4_swingIn
set_option maxRecDepth 20000 in
theorem ggX4_rateIn_X4_weightOf : GoodIn wsX4_rateIn wsX4_weightOf := goodIn_r _ [17, 18, 19, 20, 21, 26, 27, 28, 29, 30, 31, 32, 33, 34, 35, 36] (by decide +kernel) (by decide +kernel)
set_option maxRecDepth 20000 in
theorem gX4_rateIn_X4_weightOf : GoodIn wsX4_rateIn (wsV RX4 71 RX4 yX4_weightOf wsX4_weightOf) := goodIn_app (goodIn_of _ (by decide +kernel)) ggX4_rateIn_X4_weightOf
set_option maxRecDepth 20000 in
theorem ggX4_rateIn_J9_floorDiv_7cf53 : GoodIn wsX4_rateIn wsJ9_floorDiv_7cf53 := goodIn_r _ [25] (by decide +kernel) (by decide +kernel)
set_option maxRecDepth 20000 in
theorem gX4_rateIn_J9_floorDiv_7cf53 : GoodIn wsX4_rateIn (va_wsS RX4 74 yJ9_floorDiv_7cf53 wsJ9_floorDiv_7cf53) := goodIn_app (goodIn_of _ (by decide +kernel)) ggX4_rateIn_J9_floorDiv_7cf53
theorem dX4_rateIn_0 : decode cX4_rateIn 0 = .ok (.aload_n 0, 1) := by decide +kernel
theorem dX4_rateIn_1 : decode cX4_rateIn 1 = .ok (.iload_n 1, 1) := by decide +kernel
theorem dX4_rateIn_2 : decode cX4_rateIn 2 = .ok (.invokevirtual 67, 3) := by decide +kernel
theorem dX4_rateIn_5 : decode cX4_rateIn 5 = .ok (.istore_n 2, 1) := by decide +kernel
theorem dX4_rateIn_6 : decode cX4_rateIn 6 = .ok (.aload_n 0, 1) := by decide +kernel
theorem dX4_rateIn_7 : decode cX4_rateIn 7 = .ok (.getfield 23, 3) := by decide +kernel
theorem dX4_rateIn_10 : decode cX4_rateIn 10 = .ok (.aload_n 0, 1) := by decide +kernel
theorem dX4_rateIn_11 : decode cX4_rateIn 11 = .ok (.iload_n 1, 1) := by decide +kernel
theorem dX4_rateIn_12 : decode cX4_rateIn 12 = .ok (.invokevirtual 71, 3) := by decide +kernel
theorem dX4_rateIn_15 : decode cX4_rateIn 15 = .ok (.sipush 360, 3) := by decide +kernel
theorem dX4_rateIn_18 : decode cX4_rateIn 18 = .ok (.iload_n 2, 1) := by decide +kernel
theorem dX4_rateIn_19 : decode cX4_rateIn 19 = .ok (.isub, 1) := by decide +kernel
theorem dX4_rateIn_20 : decode cX4_rateIn 20 = .ok (.imul, 1) := by decide +kernel
theorem dX4_rateIn_21 : decode cX4_rateIn 21 = .ok (.bipush 100, 2) := by decide +kernel
theorem dX4_rateIn_23 : decode cX4_rateIn 23 = .ok (.invokestatic 74, 3) := by decide +kernel
theorem dX4_rateIn_26 : decode cX4_rateIn 26 = .ok (.iadd, 1) := by decide +kernel
theorem dX4_rateIn_27 : decode cX4_rateIn 27 = .ok (.iconst 2, 1) := by decide +kernel
theorem dX4_rateIn_28 : decode cX4_rateIn 28 = .ok (.aload_n 0, 1) := by decide +kernel
theorem dX4_rateIn_29 : decode cX4_rateIn 29 = .ok (.getfield 33, 3) := by decide +kernel
theorem dX4_rateIn_32 : decode cX4_rateIn 32 = .ok (.imul, 1) := by decide +kernel
theorem dX4_rateIn_33 : decode cX4_rateIn 33 = .ok (.iadd, 1) := by decide +kernel
theorem dX4_rateIn_34 : decode cX4_rateIn 34 = .ok (.istore_n 3, 1) := by decide +kernel
theorem dX4_rateIn_35 : decode cX4_rateIn 35 = .ok (.aload_n 0, 1) := by decide +kernel
theorem dX4_rateIn_36 : decode cX4_rateIn 36 = .ok (.getfield 33, 3) := by decide +kernel
theorem dX4_rateIn_39 : decode cX4_rateIn 39 = .ok (.bipush 50, 2) := by decide +kernel
theorem dX4_rateIn_41 : decode cX4_rateIn 41 = .ok (.if_icmp .le 9, 3) := by decide +kernel
theorem dX4_rateIn_44 : decode cX4_rateIn 44 = .ok (.iload_n 3, 1) := by decide +kernel
theorem dX4_rateIn_45 : decode cX4_rateIn 45 = .ok (.sipush 300, 3) := by decide +kernel
theorem dX4_rateIn_48 : decode cX4_rateIn 48 = .ok (.iadd, 1) := by decide +kernel
theorem dX4_rateIn_49 : decode cX4_rateIn 49 = .ok (.ireturn, 1) := by decide +kernel
theorem dX4_rateIn_50 : decode cX4_rateIn 50 = .ok (.iload_n 2, 1) := by decide +kernel
theorem dX4_rateIn_51 : decode cX4_rateIn 51 = .ok (.sipush 300, 3) := by decide +kernel
theorem dX4_rateIn_54 : decode cX4_rateIn 54 = .ok (.if_icmp .le 11, 3) := by decide +kernel
theorem dX4_rateIn_57 : decode cX4_rateIn 57 = .ok (.iload_n 3, 1) := by decide +kernel
theorem dX4_rateIn_58 : decode cX4_rateIn 58 = .ok (.sipush 600, 3) := by decide +kernel
theorem dX4_rateIn_61 : decode cX4_rateIn 61 = .ok (.iadd, 1) := by decide +kernel
theorem dX4_rateIn_62 : decode cX4_rateIn 62 = .ok (.goto 4, 3) := by decide +kernel
theorem dX4_rateIn_65 : decode cX4_rateIn 65 = .ok (.iload_n 3, 1) := by decide +kernel
theorem dX4_rateIn_66 : decode cX4_rateIn 66 = .ok (.ireturn, 1) := by decide +kernel
theorem dX4_beatErrorIn_0 : decode cX4_beatErrorIn 0 = .ok (.aload_n 0, 1) := by decide +kernel
theorem dX4_beatErrorIn_1 : decode cX4_beatErrorIn 1 = .ok (.getfield 27, 3) := by decide +kernel
theorem dX4_beatErrorIn_4 : decode cX4_beatErrorIn 4 = .ok (.invokestatic 77, 3) := by decide +kernel
theorem dX4_beatErrorIn_7 : decode cX4_beatErrorIn 7 = .ok (.aload_n 0, 1) := by decide +kernel
theorem dX4_beatErrorIn_8 : decode cX4_beatErrorIn 8 = .ok (.getfield 36, 3) := by decide +kernel
theorem dX4_beatErrorIn_11 : decode cX4_beatErrorIn 11 = .ok (.bipush 10, 2) := by decide +kernel
theorem dX4_beatErrorIn_13 : decode cX4_beatErrorIn 13 = .ok (.idiv, 1) := by decide +kernel
theorem dX4_beatErrorIn_14 : decode cX4_beatErrorIn 14 = .ok (.iadd, 1) := by decide +kernel
theorem dX4_beatErrorIn_15 : decode cX4_beatErrorIn 15 = .ok (.istore_n 2, 1) := by decide +kernel
theorem dX4_beatErrorIn_16 : decode cX4_beatErrorIn 16 = .ok (.iload_n 1, 1) := by decide +kernel
theorem dX4_beatErrorIn_17 : decode cX4_beatErrorIn 17 = .ok (.iconst 2, 1) := by decide +kernel
theorem dX4_beatErrorIn_18 : decode cX4_beatErrorIn 18 = .ok (.if_icmp .lt 9, 3) := by decide +kernel
theorem dX4_beatErrorIn_21 : decode cX4_beatErrorIn 21 = .ok (.iload_n 2, 1) := by decide +kernel
theorem dX4_beatErrorIn_22 : decode cX4_beatErrorIn 22 = .ok (.iconst 2, 1) := by decide +kernel
theorem dX4_beatErrorIn_23 : decode cX4_beatErrorIn 23 = .ok (.iadd, 1) := by decide +kernel
theorem dX4_beatErrorIn_24 : decode cX4_beatErrorIn 24 = .ok (.goto 4, 3) := by decide +kernel
theorem dX4_beatErrorIn_27 : decode cX4_beatErrorIn 27 = .ok (.iload_n 2, 1) := by decide +kernel
theorem dX4_beatErrorIn_28 : decode cX4_beatErrorIn 28 = .ok (.ireturn, 1) := by decide +kernel
set_option maxRecDepth 20000 in
theorem ggX4_goes_X4_swingIn : GoodIn wsX4_goes wsX4_swingIn := goodIn_r _ [7, 1, 8, 9, 10, 11, 12, 13, 14, 15, 16, 17, 18, 19, 20, 21, 22, 23] (by decide +kernel) (by decide +kernel)
set_option maxRecDepth 20000 in
theorem gX4_goes_X4_swingIn : GoodIn wsX4_goes (wsV RX4 67 RX4 yX4_swingIn wsX4_swingIn) := goodIn_app (goodIn_of _ (by decide +kernel)) ggX4_goes_X4_swingIn
theorem dX4_goes_0 : decode cX4_goes 0 = .ok (.aload_n 0, 1) := by decide +kernel
theorem dX4_goes_1 : decode cX4_goes 1 = .ok (.getfield 30, 3) := by decide +kernel
theorem dX4_goes_4 : decode cX4_goes 4 = .ok (.ifCond .le 20, 3) := by decide +kernel
theorem dX4_goes_7 : decode cX4_goes 7 = .ok (.aload_n 0, 1) := by decide +kernel
theorem dX4_goes_8 : decode cX4_goes 8 = .ok (.aload_n 0, 1) := by decide +kernel
theorem dX4_goes_9 : decode cX4_goes 9 = .ok (.getfield 39, 3) := by decide +kernel
theorem dX4_goes_12 : decode cX4_goes 12 = .ok (.invokevirtual 67, 3) := by decide +kernel
theorem dX4_goes_15 : decode cX4_goes 15 = .ok (.bipush 120, 2) := by decide +kernel
theorem dX4_goes_17 : decode cX4_goes 17 = .ok (.if_icmp .lt 7, 3) := by decide +kernel
theorem dX4_goes_20 : decode cX4_goes 20 = .ok (.iconst 1, 1) := by decide +kernel
theorem dX4_goes_21 : decode cX4_goes 21 = .ok (.goto 4, 3) := by decide +kernel
theorem dX4_goes_24 : decode cX4_goes 24 = .ok (.iconst 0, 1) := by decide +kernel
theorem dX4_goes_25 : decode cX4_goes 25 = .ok (.ireturn, 1) := by decide +kernel
set_option maxRecDepth 20000 in
theorem ggX4_run_X4_runHour : GoodIn wsX4_run wsX4_runHour := goodIn_r _ [6, 7, 8, 9, 10, 11, 1, 12, 13, 14, 15, 16, 17, 18, 19, 5, 20, 21, 22, 23, 24, 25, 26, 27, 28, 29, 30, 31, 32, 33, 34, 35, 36, 37, 38, 39, 40, 41, 42, 43, 44, 45, 46, 47, 48, 49, 50, 51, 52, 53, 54, 55, 56] (by decide +kernel) (by decide +kernel)
set_option maxRecDepth 20000 in
theorem gX4_run_X4_runHour : GoodIn wsX4_run (wsV RX4 80 RX4 yX4_runHour wsX4_runHour) := goodIn_app (goodIn_of _ (by decide +kernel)) ggX4_run_X4_runHour
theorem dX4_run_0 : decode cX4_run 0 = .ok (.aload_n 0, 1) := by decide +kernel
theorem dX4_run_1 : decode cX4_run 1 = .ok (.getfield 51, 3) := by decide +kernel
theorem dX4_run_4 : decode cX4_run 4 = .ok (.istore_n 2, 1) := by decide +kernel
theorem dX4_run_5 : decode cX4_run 5 = .ok (.iconst 0, 1) := by decide +kernel
theorem dX4_run_6 : decode cX4_run 6 = .ok (.istore_n 3, 1) := by decide +kernel
theorem dX4_run_7 : decode cX4_run 7 = .ok (.iload_n 3, 1) := by decide +kernel
theorem dX4_run_8 : decode cX4_run 8 = .ok (.iload_n 1, 1) := by decide +kernel
theorem dX4_run_9 : decode cX4_run 9 = .ok (.if_icmp .ge 13, 3) := by decide +kernel
theorem dX4_run_12 : decode cX4_run 12 = .ok (.aload_n 0, 1) := by decide +kernel
theorem dX4_run_13 : decode cX4_run 13 = .ok (.invokevirtual 80, 3) := by decide +kernel
theorem dX4_run_16 : decode cX4_run 16 = .ok (.iinc 3 1, 3) := by decide +kernel
theorem dX4_run_19 : decode cX4_run 19 = .ok (.goto (-12), 3) := by decide +kernel
theorem dX4_run_22 : decode cX4_run 22 = .ok (.aload_n 0, 1) := by decide +kernel
theorem dX4_run_23 : decode cX4_run 23 = .ok (.getfield 51, 3) := by decide +kernel
theorem dX4_run_26 : decode cX4_run 26 = .ok (.iload_n 2, 1) := by decide +kernel
theorem dX4_run_27 : decode cX4_run 27 = .ok (.isub, 1) := by decide +kernel
theorem dX4_run_28 : decode cX4_run 28 = .ok (.ireturn, 1) := by decide +kernel
set_option maxRecDepth 20000 in
theorem ggX4_runHour_X4_goes : GoodIn wsX4_runHour wsX4_goes := goodIn_r _ [16, 5, 4, 17, 18, 19, 15, 20, 7, 21, 22, 10, 23, 42, 43, 44, 45, 46, 47, 48, 49, 50, 51, 52] (by decide +kernel) (by decide +kernel)
set_option maxRecDepth 20000 in
theorem gX4_runHour_X4_goes : GoodIn wsX4_runHour (wsV RX4 83 RX4 yX4_goes wsX4_goes) := goodIn_app (goodIn_of _ (by decide +kernel)) ggX4_runHour_X4_goes
set_option maxRecDepth 20000 in
theorem ggX4_runHour_X4_rateIn : GoodIn wsX4_runHour wsX4_rateIn := goodIn_r _ [27, 28, 29, 17, 18, 19, 15, 20, 5, 7, 21, 22, 10, 23, 30, 31, 32, 33, 34, 35, 36, 37, 38, 39, 40, 41, 42, 43, 44, 45, 46, 47, 48, 49, 50, 51, 52] (by decide +kernel) (by decide +kernel)
set_option maxRecDepth 20000 in
theorem gX4_runHour_X4_rateIn : GoodIn wsX4_runHour (wsV RX4 87 RX4 yX4_rateIn wsX4_rateIn) := goodIn_app (goodIn_of _ (by decide +kernel)) ggX4_runHour_X4_rateIn
set_option maxRecDepth 20000 in
theorem ggX4_runHour_J9_floorDiv_7cf53 : GoodIn wsX4_runHour wsJ9_floorDiv_7cf53 := goodIn_r _ [41] (by decide +kernel) (by decide +kernel)
set_option maxRecDepth 20000 in
theorem gX4_runHour_J9_floorDiv_7cf53 : GoodIn wsX4_runHour (va_wsS RX4 74 yJ9_floorDiv_7cf53 wsJ9_floorDiv_7cf53) := goodIn_app (goodIn_of _ (by decide +kernel)) ggX4_runHour_J9_floorDiv_7cf53
theorem dX4_runHour_0 : decode cX4_runHour 0 = .ok (.aload_n 0, 1) := by decide +kernel
theorem dX4_runHour_1 : decode cX4_runHour 1 = .ok (.dup, 1) := by decide +kernel
theorem dX4_runHour_2 : decode cX4_runHour 2 = .ok (.getfield 42, 3) := by decide +kernel
theorem dX4_runHour_5 : decode cX4_runHour 5 = .ok (.iconst 1, 1) := by decide +kernel
theorem dX4_runHour_6 : decode cX4_runHour 6 = .ok (.iadd, 1) := by decide +kernel
theorem dX4_runHour_7 : decode cX4_runHour 7 = .ok (.putfield 42, 3) := by decide +kernel
theorem dX4_runHour_10 : decode cX4_runHour 10 = .ok (.aload_n 0, 1) := by decide +kernel
theorem dX4_runHour_11 : decode cX4_runHour 11 = .ok (.invokevirtual 83, 3) := by decide +kernel
theorem dX4_runHour_14 : decode cX4_runHour 14 = .ok (.ifCond .ne 14, 3) := by decide +kernel
theorem dX4_runHour_17 : decode cX4_runHour 17 = .ok (.aload_n 0, 1) := by decide +kernel
theorem dX4_runHour_18 : decode cX4_runHour 18 = .ok (.dup, 1) := by decide +kernel
theorem dX4_runHour_19 : decode cX4_runHour 19 = .ok (.getfield 48, 3) := by decide +kernel
theorem dX4_runHour_22 : decode cX4_runHour 22 = .ok (.iconst 1, 1) := by decide +kernel
theorem dX4_runHour_23 : decode cX4_runHour 23 = .ok (.iadd, 1) := by decide +kernel
theorem dX4_runHour_24 : decode cX4_runHour 24 = .ok (.putfield 48, 3) := by decide +kernel
theorem dX4_runHour_27 : decode cX4_runHour 27 = .ok (.return_, 1) := by decide +kernel
theorem dX4_runHour_28 : decode cX4_runHour 28 = .ok (.aload_n 0, 1) := by decide +kernel
theorem dX4_runHour_29 : decode cX4_runHour 29 = .ok (.dup, 1) := by decide +kernel
theorem dX4_runHour_30 : decode cX4_runHour 30 = .ok (.getfield 45, 3) := by decide +kernel
theorem dX4_runHour_33 : decode cX4_runHour 33 = .ok (.aload_n 0, 1) := by decide +kernel
theorem dX4_runHour_34 : decode cX4_runHour 34 = .ok (.aload_n 0, 1) := by decide +kernel
theorem dX4_runHour_35 : decode cX4_runHour 35 = .ok (.getfield 39, 3) := by decide +kernel
theorem dX4_runHour_38 : decode cX4_runHour 38 = .ok (.invokevirtual 87, 3) := by decide +kernel
theorem dX4_runHour_41 : decode cX4_runHour 41 = .ok (.bipush 24, 2) := by decide +kernel
theorem dX4_runHour_43 : decode cX4_runHour 43 = .ok (.invokestatic 74, 3) := by decide +kernel
theorem dX4_runHour_46 : decode cX4_runHour 46 = .ok (.iadd, 1) := by decide +kernel
theorem dX4_runHour_47 : decode cX4_runHour 47 = .ok (.putfield 45, 3) := by decide +kernel
theorem dX4_runHour_50 : decode cX4_runHour 50 = .ok (.aload_n 0, 1) := by decide +kernel
theorem dX4_runHour_51 : decode cX4_runHour 51 = .ok (.dup, 1) := by decide +kernel
theorem dX4_runHour_52 : decode cX4_runHour 52 = .ok (.getfield 30, 3) := by decide +kernel
theorem dX4_runHour_55 : decode cX4_runHour 55 = .ok (.iconst 1, 1) := by decide +kernel
theorem dX4_runHour_56 : decode cX4_runHour 56 = .ok (.isub, 1) := by decide +kernel
theorem dX4_runHour_57 : decode cX4_runHour 57 = .ok (.putfield 30, 3) := by decide +kernel
theorem dX4_runHour_60 : decode cX4_runHour 60 = .ok (.aload_n 0, 1) := by decide +kernel
theorem dX4_runHour_61 : decode cX4_runHour 61 = .ok (.dup, 1) := by decide +kernel
theorem dX4_runHour_62 : decode cX4_runHour 62 = .ok (.getfield 51, 3) := by decide +kernel
theorem dX4_runHour_65 : decode cX4_runHour 65 = .ok (.iconst 1, 1) := by decide +kernel
theorem dX4_runHour_66 : decode cX4_runHour 66 = .ok (.iadd, 1) := by decide +kernel
theorem dX4_runHour_67 : decode cX4_runHour 67 = .ok (.putfield 51, 3) := by decide +kernel
theorem dX4_runHour_70 : decode cX4_runHour 70 = .ok (.aload_n 0, 1) := by decide +kernel
theorem dX4_runHour_71 : decode cX4_runHour 71 = .ok (.getfield 51, 3) := by decide +kernel
theorem dX4_runHour_74 : decode cX4_runHour 74 = .ok (.bipush 24, 2) := by decide +kernel
theorem dX4_runHour_76 : decode cX4_runHour 76 = .ok (.irem, 1) := by decide +kernel
theorem dX4_runHour_77 : decode cX4_runHour 77 = .ok (.ifCond .ne 18, 3) := by decide +kernel
theorem dX4_runHour_80 : decode cX4_runHour 80 = .ok (.aload_n 0, 1) := by decide +kernel
theorem dX4_runHour_81 : decode cX4_runHour 81 = .ok (.bipush 100, 2) := by decide +kernel
theorem dX4_runHour_83 : decode cX4_runHour 83 = .ok (.aload_n 0, 1) := by decide +kernel
theorem dX4_runHour_84 : decode cX4_runHour 84 = .ok (.getfield 36, 3) := by decide +kernel
theorem dX4_runHour_87 : decode cX4_runHour 87 = .ok (.iconst 1, 1) := by decide +kernel
theorem dX4_runHour_88 : decode cX4_runHour 88 = .ok (.iadd, 1) := by decide +kernel
theorem dX4_runHour_89 : decode cX4_runHour 89 = .ok (.invokestatic 58, 3) := by decide +kernel
theorem dX4_runHour_92 : decode cX4_runHour 92 = .ok (.putfield 36, 3) := by decide +kernel
theorem dX4_runHour_95 : decode cX4_runHour 95 = .ok (.return_, 1) := by decide +kernel
theorem dX4_copyFrom_0 : decode cX4_copyFrom 0 = .ok (.aload_n 1, 1) := by decide +kernel
theorem dX4_copyFrom_1 : decode cX4_copyFrom 1 = .ok (.getfield 20, 3) := by decide +kernel
theorem dX4_copyFrom_4 : decode cX4_copyFrom 4 = .ok (.iconst 0, 1) := by decide +kernel
theorem dX4_copyFrom_5 : decode cX4_copyFrom 5 = .ok (.aload_n 0, 1) := by decide +kernel
theorem dX4_copyFrom_6 : decode cX4_copyFrom 6 = .ok (.getfield 20, 3) := by decide +kernel
theorem dX4_copyFrom_9 : decode cX4_copyFrom 9 = .ok (.iconst 0, 1) := by decide +kernel
theorem dX4_copyFrom_10 : decode cX4_copyFrom 10 = .ok (.bipush 6, 2) := by decide +kernel
theorem dX4_copyFrom_12 : decode cX4_copyFrom 12 = .ok (.invokestatic 90, 3) := by decide +kernel
theorem dX4_copyFrom_15 : decode cX4_copyFrom 15 = .ok (.aload_n 0, 1) := by decide +kernel
theorem dX4_copyFrom_16 : decode cX4_copyFrom 16 = .ok (.aload_n 1, 1) := by decide +kernel
theorem dX4_copyFrom_17 : decode cX4_copyFrom 17 = .ok (.getfield 23, 3) := by decide +kernel
theorem dX4_copyFrom_20 : decode cX4_copyFrom 20 = .ok (.putfield 23, 3) := by decide +kernel
theorem dX4_copyFrom_23 : decode cX4_copyFrom 23 = .ok (.aload_n 0, 1) := by decide +kernel
theorem dX4_copyFrom_24 : decode cX4_copyFrom 24 = .ok (.aload_n 1, 1) := by decide +kernel
theorem dX4_copyFrom_25 : decode cX4_copyFrom 25 = .ok (.getfield 27, 3) := by decide +kernel
theorem dX4_copyFrom_28 : decode cX4_copyFrom 28 = .ok (.putfield 27, 3) := by decide +kernel
theorem dX4_copyFrom_31 : decode cX4_copyFrom 31 = .ok (.aload_n 0, 1) := by decide +kernel
theorem dX4_copyFrom_32 : decode cX4_copyFrom 32 = .ok (.aload_n 1, 1) := by decide +kernel
theorem dX4_copyFrom_33 : decode cX4_copyFrom 33 = .ok (.getfield 30, 3) := by decide +kernel
theorem dX4_copyFrom_36 : decode cX4_copyFrom 36 = .ok (.putfield 30, 3) := by decide +kernel
theorem dX4_copyFrom_39 : decode cX4_copyFrom 39 = .ok (.aload_n 0, 1) := by decide +kernel
theorem dX4_copyFrom_40 : decode cX4_copyFrom 40 = .ok (.aload_n 1, 1) := by decide +kernel
theorem dX4_copyFrom_41 : decode cX4_copyFrom 41 = .ok (.getfield 33, 3) := by decide +kernel
theorem dX4_copyFrom_44 : decode cX4_copyFrom 44 = .ok (.putfield 33, 3) := by decide +kernel
theorem dX4_copyFrom_47 : decode cX4_copyFrom 47 = .ok (.aload_n 0, 1) := by decide +kernel
theorem dX4_copyFrom_48 : decode cX4_copyFrom 48 = .ok (.aload_n 1, 1) := by decide +kernel
theorem dX4_copyFrom_49 : decode cX4_copyFrom 49 = .ok (.getfield 36, 3) := by decide +kernel
theorem dX4_copyFrom_52 : decode cX4_copyFrom 52 = .ok (.putfield 36, 3) := by decide +kernel
theorem dX4_copyFrom_55 : decode cX4_copyFrom 55 = .ok (.aload_n 0, 1) := by decide +kernel
theorem dX4_copyFrom_56 : decode cX4_copyFrom 56 = .ok (.aload_n 1, 1) := by decide +kernel
theorem dX4_copyFrom_57 : decode cX4_copyFrom 57 = .ok (.getfield 39, 3) := by decide +kernel
theorem dX4_copyFrom_60 : decode cX4_copyFrom 60 = .ok (.putfield 39, 3) := by decide +kernel
theorem dX4_copyFrom_63 : decode cX4_copyFrom 63 = .ok (.aload_n 0, 1) := by decide +kernel
theorem dX4_copyFrom_64 : decode cX4_copyFrom 64 = .ok (.aload_n 1, 1) := by decide +kernel
theorem dX4_copyFrom_65 : decode cX4_copyFrom 65 = .ok (.getfield 42, 3) := by decide +kernel
theorem dX4_copyFrom_68 : decode cX4_copyFrom 68 = .ok (.putfield 42, 3) := by decide +kernel
theorem dX4_copyFrom_71 : decode cX4_copyFrom 71 = .ok (.aload_n 0, 1) := by decide +kernel
theorem dX4_copyFrom_72 : decode cX4_copyFrom 72 = .ok (.aload_n 1, 1) := by decide +kernel
theorem dX4_copyFrom_73 : decode cX4_copyFrom 73 = .ok (.getfield 45, 3) := by decide +kernel
theorem dX4_copyFrom_76 : decode cX4_copyFrom 76 = .ok (.putfield 45, 3) := by decide +kernel
theorem dX4_copyFrom_79 : decode cX4_copyFrom 79 = .ok (.aload_n 0, 1) := by decide +kernel
theorem dX4_copyFrom_80 : decode cX4_copyFrom 80 = .ok (.aload_n 1, 1) := by decide +kernel
theorem dX4_copyFrom_81 : decode cX4_copyFrom 81 = .ok (.getfield 48, 3) := by decide +kernel
theorem dX4_copyFrom_84 : decode cX4_copyFrom 84 = .ok (.putfield 48, 3) := by decide +kernel
theorem dX4_copyFrom_87 : decode cX4_copyFrom 87 = .ok (.aload_n 0, 1) := by decide +kernel
theorem dX4_copyFrom_88 : decode cX4_copyFrom 88 = .ok (.aload_n 1, 1) := by decide +kernel
theorem dX4_copyFrom_89 : decode cX4_copyFrom 89 = .ok (.getfield 51, 3) := by decide +kernel
theorem dX4_copyFrom_92 : decode cX4_copyFrom 92 = .ok (.putfield 51, 3) := by decide +kernel
theorem dX4_copyFrom_95 : decode cX4_copyFrom 95 = .ok (.return_, 1) := by decide +kernel
set_option maxRecDepth 20000 in
theorem ggX5_init_X3_init : GoodIn wsX5_init wsX3_init := goodIn_r _ [23, 24, 2, 3, 25, 18, 19, 26, 27, 28, 29, 30, 31, 32, 33, 34, 35, 36, 37, 38, 39, 40, 41, 42, 43, 44, 45, 46, 47, 48, 49, 50, 51, 52, 53, 54, 55, 56, 57, 58, 59, 60, 61, 62, 63, 64, 65, 111, 112, 113, 114, 115, 116, 117, 118, 119, 120, 121, 86, 87, 88, 89, 90, 91, 92, 122, 123] (by decide +kernel) (by decide +kernel)
set_option maxRecDepth 20000 in
theorem gX5_init_X3_init_n9 : GoodIn wsX5_init (wsX3_init) := ggX5_init_X3_init
set_option maxRecDepth 20000 in
theorem ggX5_init_X2_init : GoodIn wsX5_init wsX2_init := goodIn_r _ [68, 69, 2, 3, 70, 71, 72, 73, 5, 6, 22, 23, 24, 25, 18, 19, 26, 27, 28, 29, 30, 31, 32, 33, 34, 35, 36, 37, 38, 39, 40, 41, 42, 43, 44, 45, 46, 47, 48, 49, 50, 51, 52, 53, 54, 55, 56, 57, 58, 59, 60, 61, 62, 63, 64, 65, 99, 100, 101, 86, 87, 88, 89, 90, 91, 92, 111, 112, 113, 114, 115, 116, 117, 118, 119, 120, 121, 122, 123] (by decide +kernel) (by decide +kernel)
set_option maxRecDepth 20000 in
theorem gX5_init_X2_init : GoodIn wsX5_init (wsX2_init) := ggX5_init_X2_init
set_option maxRecDepth 20000 in
theorem ggX5_init_X0_init : GoodIn wsX5_init wsX0_init := goodIn_r _ [75, 76, 2, 3, 63, 77, 78, 79, 80, 81, 82, 83, 84, 85, 102, 103, 104, 105, 106, 107, 108, 109, 110] (by decide +kernel) (by decide +kernel)
set_option maxRecDepth 20000 in
theorem gX5_init_X0_init_n28 : GoodIn wsX5_init (wsX0_init) := ggX5_init_X0_init
set_option maxRecDepth 20000 in
theorem ggX5_init_X4_init : GoodIn wsX5_init wsX4_init := goodIn_r _ [44, 45, 2, 3, 46, 47, 33, 34, 35, 36, 48, 49, 50, 51, 52, 53, 54, 55, 56, 57, 58, 59, 111, 112, 113, 114, 115, 116, 117, 118, 119, 120, 121] (by decide +kernel) (by decide +kernel)
set_option maxRecDepth 20000 in
theorem gX5_init_X4_init_n35 : GoodIn wsX5_init (wsX4_init) := ggX5_init_X4_init
theorem dX5_init_0 : decode cX5_init 0 = .ok (.aload_n 0, 1) := by decide +kernel
theorem dX5_init_1 : decode cX5_init 1 = .ok (.invokespecial 1, 3) := by decide +kernel
theorem dX5_init_4 : decode cX5_init 4 = .ok (.aload_n 0, 1) := by decide +kernel
theorem dX5_init_5 : decode cX5_init 5 = .ok (.new 7, 3) := by decide +kernel
theorem dX5_init_8 : decode cX5_init 8 = .ok (.dup, 1) := by decide +kernel
theorem dX5_init_9 : decode cX5_init 9 = .ok (.invokespecial 9, 3) := by decide +kernel
theorem dX5_init_12 : decode cX5_init 12 = .ok (.putfield 10, 3) := by decide +kernel
theorem dX5_init_15 : decode cX5_init 15 = .ok (.aload_n 0, 1) := by decide +kernel
theorem dX5_init_16 : decode cX5_init 16 = .ok (.new 7, 3) := by decide +kernel
theorem dX5_init_19 : decode cX5_init 19 = .ok (.dup, 1) := by decide +kernel
theorem dX5_init_20 : decode cX5_init 20 = .ok (.invokespecial 9, 3) := by decide +kernel
theorem dX5_init_23 : decode cX5_init 23 = .ok (.putfield 16, 3) := by decide +kernel
theorem dX5_init_26 : decode cX5_init 26 = .ok (.aload_n 0, 1) := by decide +kernel
theorem dX5_init_27 : decode cX5_init 27 = .ok (.new 19, 3) := by decide +kernel
theorem dX5_init_30 : decode cX5_init 30 = .ok (.dup, 1) := by decide +kernel
theorem dX5_init_31 : decode cX5_init 31 = .ok (.invokespecial 21, 3) := by decide +kernel
theorem dX5_init_34 : decode cX5_init 34 = .ok (.putfield 22, 3) := by decide +kernel
theorem dX5_init_37 : decode cX5_init 37 = .ok (.aload_n 0, 1) := by decide +kernel
theorem dX5_init_38 : decode cX5_init 38 = .ok (.new 26, 3) := by decide +kernel
theorem dX5_init_41 : decode cX5_init 41 = .ok (.dup, 1) := by decide +kernel
theorem dX5_init_42 : decode cX5_init 42 = .ok (.invokespecial 28, 3) := by decide +kernel
theorem dX5_init_45 : decode cX5_init 45 = .ok (.putfield 29, 3) := by decide +kernel
theorem dX5_init_48 : decode cX5_init 48 = .ok (.aload_n 0, 1) := by decide +kernel
theorem dX5_init_49 : decode cX5_init 49 = .ok (.new 33, 3) := by decide +kernel
theorem dX5_init_52 : decode cX5_init 52 = .ok (.dup, 1) := by decide +kernel
theorem dX5_init_53 : decode cX5_init 53 = .ok (.invokespecial 35, 3) := by decide +kernel
theorem dX5_init_56 : decode cX5_init 56 = .ok (.putfield 36, 3) := by decide +kernel
theorem dX5_init_59 : decode cX5_init 59 = .ok (.aload_n 0, 1) := by decide +kernel
theorem dX5_init_60 : decode cX5_init 60 = .ok (.iconst 0, 1) := by decide +kernel
theorem dX5_init_61 : decode cX5_init 61 = .ok (.putfield 40, 3) := by decide +kernel
theorem dX5_init_64 : decode cX5_init 64 = .ok (.return_, 1) := by decide +kernel
set_option maxRecDepth 20000 in
theorem ggX5_wind_X5_demandRange : GoodIn wsX5_wind wsX5_demandRange := goodIn_ca (goodIn_r _ [8, 9, 10] (by decide +kernel) (by decide +kernel)) (goodIn_sub (fun _ h => List.mem_cons_of_mem _ (List.mem_append_right _ h)) (by decide +kernel))
set_option maxRecDepth 20000 in
theorem gX5_wind_X5_demandRange : GoodIn wsX5_wind (va_wsS RX5 44 yX5_demandRange wsX5_demandRange) := goodIn_app (goodIn_of _ (by decide +kernel)) ggX5_wind_X5_demandRange
set_option maxRecDepth 20000 in
theorem ggX5_wind_X2_push : GoodIn wsX5_wind wsX2_push := goodIn_r _ [15, 16, 17, 18, 19, 20, 21, 22, 23, 24, 25, 26, 27, 28, 29, 30, 31, 32, 33, 34, 35, 36, 37, 38, 39, 40, 41, 42, 43, 44, 45, 46, 47, 48, 49, 50, 51, 52, 53, 54, 55, 56, 57, 58, 59, 60, 61, 62, 63, 93, 94, 95, 75, 76, 77, 78, 79, 80, 81, 82, 83, 84, 85, 86, 87, 88, 89, 90, 91, 92, 96, 97] (by decide +kernel) (by decide +kernel)
set_option maxRecDepth 20000 in
theorem gX5_wind_X2_push : GoodIn wsX5_wind (wsV RX5 48 RX2 yX2_push wsX2_push) := goodIn_app (goodIn_of _ (by decide +kernel)) ggX5_wind_X2_push
set_option maxRecDepth 20000 in
theorem ggX5_wind_X4_tighten : GoodIn wsX5_wind wsX4_tighten := goodIn_r _ [67, 48, 68, 20, 21, 22, 82, 83, 84, 85, 86, 87, 88, 89, 90, 91, 92] (by decide +kernel) (by decide +kernel)
set_option maxRecDepth 20000 in
theorem gX5_wind_X4_tighten : GoodIn wsX5_wind (wsV RX5 55 RX4 yX4_tighten wsX4_tighten) := goodIn_app (goodIn_of _ (by decide +kernel)) ggX5_wind_X4_tighten
theorem dX5_wind_0 : decode cX5_wind 0 = .ok (.iload_n 1, 1) := by decide +kernel
theorem dX5_wind_1 : decode cX5_wind 1 = .ok (.iconst 1, 1) := by decide +kernel
theorem dX5_wind_2 : decode cX5_wind 2 = .ok (.bipush 48, 2) := by decide +kernel
theorem dX5_wind_4 : decode cX5_wind 4 = .ok (.invokestatic 44, 3) := by decide +kernel
theorem dX5_wind_7 : decode cX5_wind 7 = .ok (.aload_n 0, 1) := by decide +kernel
theorem dX5_wind_8 : decode cX5_wind 8 = .ok (.getfield 22, 3) := by decide +kernel
theorem dX5_wind_11 : decode cX5_wind 11 = .ok (.aload_n 0, 1) := by decide +kernel
theorem dX5_wind_12 : decode cX5_wind 12 = .ok (.getfield 10, 3) := by decide +kernel
theorem dX5_wind_15 : decode cX5_wind 15 = .ok (.invokevirtual 48, 3) := by decide +kernel
theorem dX5_wind_18 : decode cX5_wind 18 = .ok (.aload_n 0, 1) := by decide +kernel
