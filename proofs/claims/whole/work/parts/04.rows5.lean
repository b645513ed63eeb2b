set_option maxRecDepth 20000 in
theorem ggL_law_X5_init : GoodIn wsL_law wsX5_init := goodIn_r _ [9, 10, 11, 12, 13, 14, 15, 16, 17, 18, 19, 20, 21, 22, 23, 24, 25, 26, 27, 28, 29, 30, 31, 32, 33, 34, 35, 36, 37, 38, 39, 40, 41, 42, 43, 44, 45, 46, 47, 48, 49, 50, 51, 52, 53, 54, 55, 56, 57, 58, 59, 60, 61, 62, 63, 64, 65, 66, 67, 68, 69, 70, 71, 72, 73, 74, 75, 76, 77, 78, 79, 80, 81, 82, 83, 84, 85, 86, 87, 88, 89, 90, 91, 92, 93, 94, 886, 887, 888, 889, 890, 891, 892, 869, 870, 871, 872, 873, 874, 893, 894, 895, 896, 897, 898, 899, 900, 901, 902, 903, 904, 905, 906, 907, 908, 909, 910, 911, 912, 913, 914, 915, 916, 917] (by decide +kernel) (by decide +kernel)
set_option maxRecDepth 20000 in
theorem gL_law_X5_init : GoodIn wsL_law (wsX5_init) := ggL_law_X5_init
set_option maxRecDepth 20000 in
theorem ggL_law_X6_init : GoodIn wsL_law wsX6_init := goodIn_r _ [97, 98, 11, 12, 72, 99, 100, 101, 102, 103, 104, 105, 106, 5, 107, 875, 876, 877, 878, 879, 880, 881, 882, 883, 884, 885] (by decide +kernel) (by decide +kernel)
set_option maxRecDepth 20000 in
theorem gL_law_X6_init : GoodIn wsL_law (wsX6_init) := ggL_law_X6_init
set_option maxRecDepth 20000 in
theorem ggL_law_L_wind : GoodIn wsL_law wsL_wind := goodIn_ca (goodIn_r _ [111, 112, 113, 114, 115, 2, 116, 21, 16, 117, 118, 119, 120, 121, 122, 123, 124, 125, 126, 20, 127, 80, 81, 82, 128, 129, 130, 131, 132, 133, 134, 15, 135, 35, 39, 47, 136, 137, 138, 139, 48, 49, 50, 51, 140, 141, 142, 28, 143, 58, 144, 59, 60, 61, 62, 63, 64, 65, 66, 67, 68, 145, 146, 147, 38, 148, 73, 149, 74, 150, 151, 152, 153, 154, 869, 870, 871, 872, 873, 874, 886, 887, 888, 889, 890, 891, 892, 905, 906, 907, 908, 909, 910, 911, 912, 913, 914, 915, 893, 894, 895, 916, 917] (by decide +kernel) (by decide +kernel)) (goodIn_sub (fun _ h => List.mem_append_left _ (List.mem_append_left _ (List.mem_append_right _ h))) (by decide +kernel))
set_option maxRecDepth 20000 in
theorem gL_law_L_wind : GoodIn wsL_law (va_wsS RL 77 yL_wind wsL_wind) := goodIn_app (goodIn_of _ (by decide +kernel)) ggL_law_L_wind
set_option maxRecDepth 20000 in
theorem ggL_law_X6_wind : GoodIn wsL_law wsX6_wind := goodIn_r _ [158, 159, 160, 161, 5, 162, 163, 164, 165, 166, 167, 101, 99, 168, 169, 170, 171, 172, 173, 174, 875, 876, 877, 878, 879, 880, 881, 882, 883, 884, 885] (by decide +kernel) (by decide +kernel)
set_option maxRecDepth 20000 in
theorem gL_law_X6_wind : GoodIn wsL_law (wsV RL 82 RX6 yX6_wind wsX6_wind) := goodIn_app (goodIn_of _ (by decide +kernel)) ggL_law_X6_wind
set_option maxRecDepth 20000 in
theorem ggL_law_X6_thrown : GoodIn wsL_law wsX6_thrown := goodIn_r _ [178, 159, 875, 876, 877, 878, 879, 880, 881, 882, 883, 884, 885] (by decide +kernel) (by decide +kernel)
set_option maxRecDepth 20000 in
theorem gL_law_X6_thrown : GoodIn wsL_law (wsV RL 83 RX6 yX6_thrown wsX6_thrown) := goodIn_app (goodIn_of _ (by decide +kernel)) ggL_law_X6_thrown
set_option maxRecDepth 20000 in
theorem ggL_law_L_weigh : GoodIn wsL_law wsL_weigh := goodIn_ca (goodIn_ca (goodIn_r _ [181, 182, 112, 183, 184, 185, 2, 186, 21, 16, 117, 187, 188, 189, 190, 191, 192, 193, 194, 119, 120, 121, 122, 123, 124, 125, 126, 20, 127, 80, 81, 82, 128, 129, 130, 131, 132, 133, 134, 15, 135, 35, 39, 47, 136, 137, 138, 139, 48, 49, 50, 51, 140, 141, 142, 28, 143, 58, 144, 59, 60, 61, 62, 63, 64, 65, 66, 67, 68, 145, 146, 147, 38, 148, 73, 149, 74, 195, 196, 197, 198, 199, 200, 201, 202, 869, 870, 871, 872, 873, 874, 886, 887, 888, 889, 890, 891, 892, 893, 894, 895, 905, 906, 907, 908, 909, 910, 911, 912, 913, 914, 915, 916, 917] (by decide +kernel) (by decide +kernel)) (goodIn_sub (fun _ h => List.mem_append_left _ (List.mem_append_right _ h)) (by decide +kernel))) (goodIn_sub (fun _ h => List.mem_append_left _ (List.mem_append_left _ (List.mem_append_right _ h))) (by decide +kernel))
set_option maxRecDepth 20000 in
theorem gL_law_L_weigh : GoodIn wsL_law (va_wsS RL 86 yL_weigh wsL_weigh) := goodIn_app (goodIn_of _ (by decide +kernel)) ggL_law_L_weigh
set_option maxRecDepth 20000 in
theorem ggL_law_X6_weigh : GoodIn wsL_law wsX6_weigh := goodIn_r _ [206, 159, 99, 207, 208, 5, 209, 160, 161, 162, 163, 164, 165, 166, 167, 101, 875, 876, 877, 878, 879, 880, 881, 882, 883, 884, 885] (by decide +kernel) (by decide +kernel)
set_option maxRecDepth 20000 in
theorem gL_law_X6_weigh : GoodIn wsL_law (wsV RL 89 RX6 yX6_weigh wsX6_weigh) := goodIn_app (goodIn_of _ (by decide +kernel)) ggL_law_X6_weigh
set_option maxRecDepth 20000 in
theorem ggL_law_L_adjust : GoodIn wsL_law wsL_adjust := goodIn_ca (goodIn_r _ [212, 112, 213, 214, 215, 2, 216, 21, 16, 117, 217, 218, 119, 120, 121, 122, 123, 124, 125, 126, 20, 127, 80, 81, 82, 128, 129, 130, 131, 132, 133, 134, 15, 135, 35, 39, 47, 136, 137, 138, 139, 48, 49, 50, 51, 140, 141, 142, 28, 143, 58, 144, 59, 60, 61, 62, 63, 64, 65, 66, 67, 68, 145, 146, 147, 38, 148, 73, 149, 74, 869, 870, 871, 872, 873, 874, 886, 887, 888, 889, 890, 891, 892, 905, 906, 907, 908, 909, 910, 911, 912, 913, 914, 915, 893, 894, 895, 916, 917] (by decide +kernel) (by decide +kernel)) (goodIn_sub (fun _ h => List.mem_append_left _ (List.mem_append_left _ (List.mem_append_right _ h))) (by decide +kernel))
set_option maxRecDepth 20000 in
theorem gL_law_L_adjust : GoodIn wsL_law (va_wsS RL 90 yL_adjust wsL_adjust) := goodIn_app (goodIn_of _ (by decide +kernel)) ggL_law_L_adjust
set_option maxRecDepth 20000 in
theorem ggL_law_X6_adjust : GoodIn wsL_law wsX6_adjust := goodIn_r _ [222, 159, 99, 160, 161, 5, 162, 163, 164, 165, 166, 167, 101, 875, 876, 877, 878, 879, 880, 881, 882, 883, 884, 885] (by decide +kernel) (by decide +kernel)
set_option maxRecDepth 20000 in
theorem gL_law_X6_adjust : GoodIn wsL_law (wsV RL 92 RX6 yX6_adjust wsX6_adjust) := goodIn_app (goodIn_of _ (by decide +kernel)) ggL_law_X6_adjust
set_option maxRecDepth 20000 in
theorem ggL_law_L_magnetise : GoodIn wsL_law wsL_magnetise := goodIn_ca (goodIn_r _ [225, 112, 226, 227, 228, 2, 229, 21, 16, 117, 230, 231, 129, 130, 131, 119, 120, 121, 122, 123, 124, 125, 126, 20, 127, 80, 81, 82, 128, 132, 133, 134, 15, 135, 35, 39, 47, 136, 137, 138, 139, 48, 49, 50, 51, 140, 141, 142, 28, 143, 58, 144, 59, 60, 61, 62, 63, 64, 65, 66, 67, 68, 145, 146, 147, 38, 148, 73, 149, 74, 869, 870, 871, 872, 873, 874, 886, 887, 888, 889, 890, 891, 892, 905, 906, 907, 908, 909, 910, 911, 912, 913, 914, 915, 893, 894, 895, 916, 917] (by decide +kernel) (by decide +kernel)) (goodIn_sub (fun _ h => List.mem_append_left _ (List.mem_append_left _ (List.mem_append_right _ h))) (by decide +kernel))
set_option maxRecDepth 20000 in
theorem gL_law_L_magnetise : GoodIn wsL_law (va_wsS RL 93 yL_magnetise wsL_magnetise) := goodIn_app (goodIn_of _ (by decide +kernel)) ggL_law_L_magnetise
set_option maxRecDepth 20000 in
theorem ggL_law_X6_magnetise : GoodIn wsL_law wsX6_magnetise := goodIn_r _ [235, 159, 99, 160, 161, 5, 162, 163, 164, 165, 166, 167, 101, 172, 173, 174, 875, 876, 877, 878, 879, 880, 881, 882, 883, 884, 885] (by decide +kernel) (by decide +kernel)
set_option maxRecDepth 20000 in
theorem gL_law_X6_magnetise : GoodIn wsL_law (wsV RL 95 RX6 yX6_magnetise wsX6_magnetise) := goodIn_app (goodIn_of _ (by decide +kernel)) ggL_law_X6_magnetise
set_option maxRecDepth 20000 in
theorem ggL_law_X5_demagnetise : GoodIn wsL_law wsX5_demagnetise := goodIn_r _ [239, 21, 16, 117, 230, 124, 125, 126, 20, 127, 80, 81, 82, 128, 129, 130, 131, 132, 133, 134, 15, 135, 35, 39, 47, 136, 137, 138, 139, 48, 49, 50, 51, 140, 141, 142, 28, 143, 58, 144, 59, 60, 61, 62, 63, 64, 65, 66, 67, 68, 145, 146, 147, 38, 148, 73, 149, 74, 869, 870, 871, 872, 873, 874, 886, 887, 888, 889, 890, 891, 892, 905, 906, 907, 908, 909, 910, 911, 912, 913, 914, 915, 893, 894, 895, 916, 917] (by decide +kernel) (by decide +kernel)
set_option maxRecDepth 20000 in
theorem gL_law_X5_demagnetise : GoodIn wsL_law (wsV RL 96 RX5 yX5_demagnetise wsX5_demagnetise) := goodIn_app (goodIn_of _ (by decide +kernel)) ggL_law_X5_demagnetise
set_option maxRecDepth 20000 in
theorem ggL_law_X6_demagnetise : GoodIn wsL_law wsX6_demagnetise := goodIn_r _ [243, 159, 244, 245, 246, 5, 247, 99, 163, 164, 165, 166, 167, 101, 875, 876, 877, 878, 879, 880, 881, 882, 883, 884, 885] (by decide +kernel) (by decide +kernel)
set_option maxRecDepth 20000 in
theorem gL_law_X6_demagnetise : GoodIn wsL_law (wsV RL 99 RX6 yX6_demagnetise wsX6_demagnetise) := goodIn_app (goodIn_of _ (by decide +kernel)) ggL_law_X6_demagnetise
set_option maxRecDepth 20000 in
theorem ggL_law_X5_clean : GoodIn wsL_law wsX5_clean := goodIn_r _ [251, 21, 16, 117, 252, 124, 125, 126, 20, 127, 80, 81, 82, 128, 129, 130, 131, 132, 133, 134, 15, 135, 35, 39, 47, 136, 137, 138, 139, 48, 49, 50, 51, 140, 141, 142, 28, 143, 58, 144, 59, 60, 61, 62, 63, 64, 65, 66, 67, 68, 145, 146, 147, 38, 148, 73, 149, 74, 869, 870, 871, 872, 873, 874, 886, 887, 888, 889, 890, 891, 892, 905, 906, 907, 908, 909, 910, 911, 912, 913, 914, 915, 893, 894, 895, 916, 917] (by decide +kernel) (by decide +kernel)
set_option maxRecDepth 20000 in
theorem gL_law_X5_clean : GoodIn wsL_law (wsV RL 100 RX5 yX5_clean wsX5_clean) := goodIn_app (goodIn_of _ (by decide +kernel)) ggL_law_X5_clean
set_option maxRecDepth 20000 in
theorem ggL_law_X6_clean : GoodIn wsL_law wsX6_clean := goodIn_r _ [256, 159, 244, 245, 246, 5, 247, 99, 163, 164, 165, 166, 167, 101, 875, 876, 877, 878, 879, 880, 881, 882, 883, 884, 885] (by decide +kernel) (by decide +kernel)
set_option maxRecDepth 20000 in
theorem gL_law_X6_clean : GoodIn wsL_law (wsV RL 103 RX6 yX6_clean wsX6_clean) := goodIn_app (goodIn_of _ (by decide +kernel)) ggL_law_X6_clean
set_option maxRecDepth 20000 in
theorem ggL_law_L_lay : GoodIn wsL_law wsL_lay := goodIn_ca (goodIn_r _ [259, 182, 260, 261, 262, 2, 263, 21, 16, 117, 264, 187, 188, 189, 190, 191, 192, 193, 194, 124, 125, 126, 20, 127, 80, 81, 82, 128, 129, 130, 131, 132, 133, 134, 15, 135, 35, 39, 47, 136, 137, 138, 139, 48, 49, 50, 51, 140, 141, 142, 28, 143, 58, 144, 59, 60, 61, 62, 63, 64, 65, 66, 67, 68, 145, 146, 147, 38, 148, 73, 149, 74, 869, 870, 871, 872, 873, 874, 886, 887, 888, 889, 890, 891, 892, 905, 906, 907, 908, 909, 910, 911, 912, 913, 914, 915, 893, 894, 895, 916, 917] (by decide +kernel) (by decide +kernel)) (goodIn_sub (fun _ h => List.mem_append_left _ (List.mem_append_right _ h)) (by decide +kernel))
set_option maxRecDepth 20000 in
theorem gL_law_L_lay : GoodIn wsL_law (va_wsS RL 104 yL_lay wsL_lay) := goodIn_app (goodIn_of _ (by decide +kernel)) ggL_law_L_lay
set_option maxRecDepth 20000 in
theorem ggL_law_X6_lay : GoodIn wsL_law wsX6_lay := goodIn_r _ [268, 159, 207, 208, 5, 209, 160, 161, 162, 244, 245, 246, 247, 99, 163, 164, 165, 166, 167, 101, 875, 876, 877, 878, 879, 880, 881, 882, 883, 884, 885] (by decide +kernel) (by decide +kernel)
set_option maxRecDepth 20000 in
theorem gL_law_X6_lay : GoodIn wsL_law (wsV RL 106 RX6 yX6_lay wsX6_lay) := goodIn_app (goodIn_of _ (by decide +kernel)) ggL_law_X6_lay
set_option maxRecDepth 20000 in
theorem ggL_law_L_pass : GoodIn wsL_law wsL_pass := goodIn_ca (goodIn_r _ [271, 112, 272, 273, 274, 2, 275, 21, 16, 117, 119, 120, 121, 122, 123, 124, 125, 126, 20, 127, 80, 81, 82, 128, 129, 130, 131, 132, 133, 134, 15, 135, 35, 39, 47, 136, 137, 138, 139, 48, 49, 50, 51, 140, 141, 142, 28, 143, 58, 144, 59, 60, 61, 62, 63, 64, 65, 66, 67, 68, 145, 146, 147, 38, 148, 73, 149, 74, 276, 277, 278, 279, 280, 281, 282, 283, 154, 284, 285, 286, 287, 288, 289, 290, 291, 292, 293, 294, 295, 296, 297, 298, 299, 196, 197, 198, 193, 194, 300, 301, 302, 303, 869, 870, 871, 872, 873, 874, 886, 887, 888, 889, 890, 891, 892, 893, 894, 895, 905, 906, 907, 908, 909, 910, 911, 912, 913, 914, 915, 916, 917] (by decide +kernel) (by decide +kernel)) (goodIn_sub (fun _ h => List.mem_append_left _ (List.mem_append_left _ (List.mem_append_right _ h))) (by decide +kernel))
set_option maxRecDepth 20000 in
theorem gL_law_L_pass : GoodIn wsL_law (va_wsS RL 107 yL_pass wsL_pass) := goodIn_app (goodIn_of _ (by decide +kernel)) ggL_law_L_pass
set_option maxRecDepth 20000 in
theorem ggL_law_X6_pass : GoodIn wsL_law wsX6_pass := goodIn_r _ [307, 159, 160, 161, 5, 162, 163, 164, 165, 166, 167, 101, 99, 308, 309, 310, 311, 312, 313, 314, 315, 316, 317, 318, 319, 320, 321, 322, 323, 324, 325, 326, 327, 328, 329, 330, 172, 173, 174, 875, 876, 877, 878, 879, 880, 881, 882, 883, 884, 885] (by decide +kernel) (by decide +kernel)
set_option maxRecDepth 20000 in
theorem gL_law_X6_pass : GoodIn wsL_law (wsV RL 109 RX6 yX6_pass wsX6_pass) := goodIn_app (goodIn_of _ (by decide +kernel)) ggL_law_X6_pass
set_option maxRecDepth 20000 in
theorem ggL_law_L_read : GoodIn wsL_law wsL_read := goodIn_ca (goodIn_ca (goodIn_r _ [333, 182, 334, 335, 336, 337, 2, 338, 339, 340, 16, 21, 117, 187, 188, 189, 190, 191, 192, 193, 194, 341, 342, 343, 15, 344, 35, 345, 47, 346, 39, 347, 289, 290, 28, 291, 61, 63, 292, 293, 130, 294, 348, 349, 350, 351, 60, 352, 353, 354, 355, 356, 357, 38, 358, 74, 124, 125, 126, 20, 127, 80, 81, 82, 128, 129, 131, 132, 133, 134, 135, 136, 137, 138, 139, 48, 49, 50, 51, 140, 141, 142, 143, 58, 144, 59, 62, 64, 65, 66, 67, 68, 145, 146, 147, 148, 73, 149, 359, 360, 361, 362, 363, 364, 365, 366, 367, 368, 369, 370, 371, 296, 297, 298, 288, 299, 196, 197, 198, 300, 301, 302, 303, 372, 373, 374, 869, 870, 871, 872, 873, 874, 886, 887, 888, 889, 890, 891, 892, 905, 906, 907, 908, 909, 910, 911, 912, 913, 914, 915, 916, 917, 893, 894, 895] (by decide +kernel) (by decide +kernel)) (goodIn_sub (fun _ h => List.mem_append_right _ h) (by decide +kernel))) (goodIn_sub (fun _ h => List.mem_append_left _ (List.mem_append_right _ h)) (by decide +kernel))
set_option maxRecDepth 20000 in
theorem gL_law_L_read : GoodIn wsL_law (va_wsS RL 110 yL_read wsL_read) := goodIn_app (goodIn_of _ (by decide +kernel)) ggL_law_L_read
set_option maxRecDepth 20000 in
theorem ggL_law_X6_read : GoodIn wsL_law wsX6_read := goodIn_r _ [378, 159, 207, 208, 5, 209, 160, 161, 162, 379, 380, 381, 382, 99, 320, 321, 322, 323, 383, 384, 385, 386, 387, 388, 389, 163, 164, 165, 166, 167, 101, 390, 391, 392, 393, 324, 325, 326, 327, 328, 329, 330, 875, 876, 877, 878, 879, 880, 881, 882, 883, 884, 885] (by decide +kernel) (by decide +kernel)
set_option maxRecDepth 20000 in
theorem gL_law_X6_read : GoodIn wsL_law (wsV RL 112 RX6 yX6_read wsX6_read) := goodIn_app (goodIn_of _ (by decide +kernel)) ggL_law_X6_read
set_option maxRecDepth 20000 in
theorem ggL_law_X5_renew : GoodIn wsL_law wsX5_renew := goodIn_r _ [397, 21, 16, 398, 399, 124, 125, 126, 20, 127, 80, 81, 82, 128, 129, 130, 131, 132, 133, 134, 15, 135, 35, 39, 47, 136, 137, 138, 139, 48, 49, 50, 51, 140, 141, 142, 28, 143, 58, 144, 59, 60, 61, 62, 63, 64, 65, 66, 67, 68, 145, 146, 147, 38, 148, 73, 149, 74, 869, 870, 871, 872, 873, 874, 886, 887, 888, 889, 890, 891, 892, 916, 917, 893, 894, 895, 905, 906, 907, 908, 909, 910, 911, 912, 913, 914, 915] (by decide +kernel) (by decide +kernel)
set_option maxRecDepth 20000 in
theorem gL_law_X5_renew : GoodIn wsL_law (wsV RL 113 RX5 yX5_renew wsX5_renew) := goodIn_app (goodIn_of _ (by decide +kernel)) ggL_law_X5_renew
set_option maxRecDepth 20000 in
theorem ggL_law_X6_renew : GoodIn wsL_law wsX6_renew := goodIn_r _ [403, 159, 244, 245, 246, 5, 247, 99, 163, 164, 165, 166, 167, 101, 875, 876, 877, 878, 879, 880, 881, 882, 883, 884, 885] (by decide +kernel) (by decide +kernel)
set_option maxRecDepth 20000 in
theorem gL_law_X6_renew : GoodIn wsL_law (wsV RL 116 RX6 yX6_renew wsX6_renew) := goodIn_app (goodIn_of _ (by decide +kernel)) ggL_law_X6_renew
set_option maxRecDepth 20000 in
theorem ggL_law_L_set : GoodIn wsL_law wsL_set := goodIn_ca (goodIn_ca (goodIn_r _ [406, 182, 112, 407, 408, 409, 2, 410, 190, 191, 411, 412, 21, 16, 413, 119, 120, 121, 122, 123, 124, 125, 126, 20, 127, 80, 81, 82, 128, 129, 130, 131, 132, 133, 134, 15, 135, 35, 39, 47, 136, 137, 138, 139, 48, 49, 50, 51, 140, 141, 142, 28, 143, 58, 144, 59, 60, 61, 62, 63, 64, 65, 66, 67, 68, 145, 146, 147, 38, 148, 73, 149, 74, 869, 870, 871, 872, 873, 874, 886, 887, 888, 889, 890, 891, 892, 893, 894, 895, 905, 906, 907, 908, 909, 910, 911, 912, 913, 914, 915, 916, 917] (by decide +kernel) (by decide +kernel)) (goodIn_sub (fun _ h => List.mem_append_left _ (List.mem_append_right _ h)) (by decide +kernel))) (goodIn_sub (fun _ h => List.mem_append_left _ (List.mem_append_left _ (List.mem_append_right _ h))) (by decide +kernel))
set_option maxRecDepth 20000 in
theorem gL_law_L_set : GoodIn wsL_law (va_wsS RL 117 yL_set wsL_set) := goodIn_app (goodIn_of _ (by decide +kernel)) ggL_law_L_set
set_option maxRecDepth 20000 in
theorem ggL_law_X6_set : GoodIn wsL_law wsX6_set := goodIn_r _ [417, 159, 160, 161, 5, 162, 418, 419, 420, 421, 422, 423, 244, 245, 246, 247, 99, 163, 164, 165, 166, 167, 101, 875, 876, 877, 878, 879, 880, 881, 882, 883, 884, 885] (by decide +kernel) (by decide +kernel)
set_option maxRecDepth 20000 in
theorem gL_law_X6_set : GoodIn wsL_law (wsV RL 119 RX6 yX6_set wsX6_set) := goodIn_app (goodIn_of _ (by decide +kernel)) ggL_law_X6_set
set_option maxRecDepth 20000 in
theorem ggL_law_L_append : GoodIn wsL_law wsL_append := goodIn_ca (goodIn_ca (goodIn_r _ [426, 112, 334, 427, 428, 429, 2, 430, 339, 340, 25, 431, 432, 119, 120, 121, 122, 123, 869, 870, 871, 872, 873, 874, 896, 897, 898, 899, 900, 901, 902, 903, 904] (by decide +kernel) (by decide +kernel)) (goodIn_sub (fun _ h => List.mem_append_right _ h) (by decide +kernel))) (goodIn_sub (fun _ h => List.mem_append_left _ (List.mem_append_left _ (List.mem_append_right _ h))) (by decide +kernel))
set_option maxRecDepth 20000 in
theorem gL_law_L_append : GoodIn wsL_law (va_wsS RL 120 yL_append wsL_append) := goodIn_app (goodIn_of _ (by decide +kernel)) ggL_law_L_append
set_option maxRecDepth 20000 in
theorem ggL_law_X6_append : GoodIn wsL_law wsX6_append := goodIn_r _ [436, 437, 159, 103, 160, 161, 5, 162, 875, 876, 877, 878, 879, 880, 881, 882, 883, 884, 885] (by decide +kernel) (by decide +kernel)
set_option maxRecDepth 20000 in
theorem gL_law_X6_append : GoodIn wsL_law (wsV RL 122 RX6 yX6_append wsX6_append) := goodIn_app (goodIn_of _ (by decide +kernel)) ggL_law_X6_append
set_option maxRecDepth 20000 in
theorem ggL_law_X5_clearBuffer : GoodIn wsL_law wsX5_clearBuffer := goodIn_r _ [441, 25, 431, 869, 870, 871, 872, 873, 874, 896, 897, 898, 899, 900, 901, 902, 903, 904] (by decide +kernel) (by decide +kernel)
set_option maxRecDepth 20000 in
theorem gL_law_X5_clearBuffer : GoodIn wsL_law (wsV RL 123 RX5 yX5_clearBuffer wsX5_clearBuffer) := goodIn_app (goodIn_of _ (by decide +kernel)) ggL_law_X5_clearBuffer
set_option maxRecDepth 20000 in
theorem ggL_law_X6_clearBuffer : GoodIn wsL_law wsX6_clearBuffer := goodIn_r _ [445, 159, 437, 875, 876, 877, 878, 879, 880, 881, 882, 883, 884, 885] (by decide +kernel) (by decide +kernel)
set_option maxRecDepth 20000 in
theorem gL_law_X6_clearBuffer : GoodIn wsL_law (wsV RL 126 RX6 yX6_clearBuffer wsX6_clearBuffer) := goodIn_app (goodIn_of _ (by decide +kernel)) ggL_law_X6_clearBuffer
set_option maxRecDepth 20000 in
theorem ggL_law_X5_firstError : GoodIn wsL_law wsX5_firstError := goodIn_r _ [449, 25, 450, 451, 452, 24, 453, 90, 87, 86, 454, 455, 456, 457, 91, 92, 93, 94, 458, 459, 460, 461, 462, 463, 464, 465, 466, 467, 468, 469, 470, 471, 472, 473, 474, 475, 476, 477, 88, 89, 478, 479, 480, 481, 482, 483, 484, 485, 486, 487, 488, 489, 490, 491, 492, 493, 869, 870, 871, 872, 873, 874, 896, 897, 898, 899, 900, 901, 902, 903, 904] (by decide +kernel) (by decide +kernel)
set_option maxRecDepth 20000 in
theorem gL_law_X5_firstError : GoodIn wsL_law (wsV RL 127 RX5 yX5_firstError wsX5_firstError) := goodIn_app (goodIn_of _ (by decide +kernel)) ggL_law_X5_firstError
set_option maxRecDepth 20000 in
theorem ggL_law_X6_firstError : GoodIn wsL_law wsX6_firstError := goodIn_r _ [497, 159, 437, 498, 499, 500, 5, 501, 103, 502, 503, 504, 505, 506, 507, 508, 509, 510, 511, 512, 513, 514, 515, 160, 161, 162, 516, 517, 518, 519, 207, 208, 209, 520, 521, 522, 523, 875, 876, 877, 878, 879, 880, 881, 882, 883, 884, 885] (by decide +kernel) (by decide +kernel)
set_option maxRecDepth 20000 in
theorem gL_law_X6_firstError : GoodIn wsL_law (wsV RL 130 RX6 yX6_firstError wsX6_firstError) := goodIn_app (goodIn_of _ (by decide +kernel)) ggL_law_X6_firstError
set_option maxRecDepth 20000 in
theorem ggL_law_L_obey : GoodIn wsL_law wsL_obey := goodIn_ca (goodIn_r _ [526, 112, 527, 528, 529, 2, 530, 122, 123, 25, 21, 16, 531, 431, 532, 533, 534, 24, 535, 87, 536, 451, 452, 453, 90, 86, 454, 455, 456, 457, 91, 92, 93, 94, 458, 459, 460, 461, 462, 463, 464, 465, 466, 467, 468, 469, 470, 471, 472, 473, 474, 475, 476, 477, 88, 89, 478, 479, 480, 481, 482, 483, 484, 485, 486, 487, 488, 489, 490, 491, 492, 493, 124, 125, 126, 20, 127, 80, 81, 82, 128, 129, 130, 131, 132, 133, 134, 15, 135, 35, 39, 47, 136, 137, 138, 139, 48, 49, 50, 51, 140, 141, 142, 28, 143, 58, 144, 59, 60, 61, 62, 63, 64, 65, 66, 67, 68, 145, 146, 147, 38, 148, 73, 149, 74, 537, 538, 539, 540, 541, 542, 543, 544, 545, 546, 547, 548, 549, 550, 117, 264, 217, 230, 150, 151, 152, 153, 154, 551, 552, 553, 554, 341, 342, 343, 344, 345, 346, 347, 289, 290, 291, 292, 293, 294, 348, 349, 350, 351, 352, 353, 354, 355, 356, 357, 358, 555, 359, 360, 361, 362, 363, 364, 365, 366, 367, 368, 369, 370, 371, 296, 297, 298, 288, 299, 196, 197, 198, 193, 194, 300, 301, 302, 303, 372, 373, 276, 277, 278, 279, 280, 281, 282, 283, 284, 285, 286, 287, 295, 869, 870, 871, 872, 873, 874, 896, 897, 898, 899, 900, 901, 902, 903, 904, 893, 894, 895, 886, 887, 888, 889, 890, 891, 892, 905, 906, 907, 908, 909, 910, 911, 912, 913, 914, 915, 916, 917] (by decide +kernel) (by decide +kernel)) (goodIn_sub (fun _ h => List.mem_append_left _ (List.mem_append_left _ (List.mem_append_right _ h))) (by decide +kernel))
set_option maxRecDepth 20000 in
theorem gL_law_L_obey : GoodIn wsL_law (va_wsS RL 131 yL_obey wsL_obey) := goodIn_app (goodIn_of _ (by decide +kernel)) ggL_law_L_obey
set_option maxRecDepth 20000 in
theorem ggL_law_X6_obey : GoodIn wsL_law wsX6_obey := goodIn_r _ [559, 159, 437, 506, 515, 99, 498, 499, 500, 5, 501, 103, 502, 503, 504, 505, 507, 508, 509, 510, 511, 512, 513, 514, 160, 161, 162, 516, 517, 518, 519, 207, 208, 209, 520, 521, 522, 523, 163, 164, 165, 166, 167, 101, 104, 105, 106, 107, 379, 380, 381, 382, 320, 321, 322, 323, 383, 384, 385, 386, 387, 388, 389, 560, 561, 562, 563, 168, 169, 170, 171, 172, 173, 174, 390, 391, 392, 393, 324, 325, 326, 327, 328, 329, 330, 308, 309, 310, 311, 312, 313, 314, 315, 316, 317, 318, 319, 875, 876, 877, 878, 879, 880, 881, 882, 883, 884, 885] (by decide +kernel) (by decide +kernel)
set_option maxRecDepth 20000 in
theorem gL_law_X6_obey : GoodIn wsL_law (wsV RL 134 RX6 yX6_obey wsX6_obey) := goodIn_app (goodIn_of _ (by decide +kernel)) ggL_law_X6_obey
set_option maxRecDepth 20000 in
theorem ggL_law_L_stopped : GoodIn wsL_law wsL_stopped := goodIn_ca (goodIn_r _ [566, 112, 567, 568, 569, 2, 570, 16, 119, 120, 121, 122, 123, 571, 572, 573, 15, 574, 49, 50, 51, 869, 870, 871, 872, 873, 874, 886, 887, 888, 889, 890, 891, 892] (by decide +kernel) (by decide +kernel)) (goodIn_sub (fun _ h => List.mem_append_left _ (List.mem_append_left _ (List.mem_append_right _ h))) (by decide +kernel))
set_option maxRecDepth 20000 in
theorem gL_law_L_stopped : GoodIn wsL_law (va_wsS RL 135 yL_stopped wsL_stopped) := goodIn_app (goodIn_of _ (by decide +kernel)) ggL_law_L_stopped
set_option maxRecDepth 20000 in
theorem ggL_law_X6_stopped : GoodIn wsL_law wsX6_stopped := goodIn_r _ [578, 159, 99, 160, 161, 5, 162, 875, 876, 877, 878, 879, 880, 881, 882, 883, 884, 885] (by decide +kernel) (by decide +kernel)
set_option maxRecDepth 20000 in
theorem gL_law_X6_stopped : GoodIn wsL_law (wsV RL 137 RX6 yX6_stopped wsX6_stopped) := goodIn_app (goodIn_of _ (by decide +kernel)) ggL_law_X6_stopped
set_option maxRecDepth 20000 in
theorem ggL_law_L_undo : GoodIn wsL_law wsL_undo := goodIn_ca (goodIn_r _ [581, 334, 582, 583, 584, 2, 585, 339, 340, 21, 586, 16, 587, 588, 589, 20, 590, 82, 81, 80, 132, 133, 134, 15, 135, 35, 39, 47, 136, 137, 138, 139, 48, 49, 50, 51, 140, 141, 142, 28, 143, 58, 144, 59, 60, 61, 62, 63, 64, 65, 66, 67, 68, 145, 146, 147, 38, 148, 73, 149, 74, 869, 870, 871, 872, 873, 874, 893, 894, 895, 886, 887, 888, 889, 890, 891, 892, 905, 906, 907, 908, 909, 910, 911, 912, 913, 914, 915, 916, 917] (by decide +kernel) (by decide +kernel)) (goodIn_sub (fun _ h => List.mem_append_right _ h) (by decide +kernel))
set_option maxRecDepth 20000 in
theorem gL_law_L_undo : GoodIn wsL_law (va_wsS RL 138 yL_undo wsL_undo) := goodIn_app (goodIn_of _ (by decide +kernel)) ggL_law_L_undo
set_option maxRecDepth 20000 in
theorem ggL_law_X6_undo : GoodIn wsL_law wsX6_undo := goodIn_r _ [594, 167, 159, 99, 101, 875, 876, 877, 878, 879, 880, 881, 882, 883, 884, 885] (by decide +kernel) (by decide +kernel)
set_option maxRecDepth 20000 in
theorem gL_law_X6_undo : GoodIn wsL_law (wsV RL 140 RX6 yX6_undo wsX6_undo) := goodIn_app (goodIn_of _ (by decide +kernel)) ggL_law_X6_undo
set_option maxRecDepth 20000 in
theorem ggL_law_X5_keep : GoodIn wsL_law wsX5_keep := goodIn_r _ [598, 17, 16, 30, 117, 599, 600, 133, 134, 15, 135, 35, 39, 47, 136, 137, 138, 139, 48, 49, 50, 51, 140, 141, 142, 28, 143, 58, 144, 59, 60, 61, 62, 63, 64, 65, 66, 67, 68, 145, 146, 147, 38, 148, 73, 149, 74, 869, 870, 871, 872, 873, 874, 886, 887, 888, 889, 890, 891, 892, 905, 906, 907, 908, 909, 910, 911, 912, 913, 914, 915, 916, 917] (by decide +kernel) (by decide +kernel)
set_option maxRecDepth 20000 in
theorem gL_law_X5_keep : GoodIn wsL_law (wsV RL 141 RX5 yX5_keep wsX5_keep) := goodIn_app (goodIn_of _ (by decide +kernel)) ggL_law_X5_keep
set_option maxRecDepth 20000 in
theorem ggL_law_X6_keep : GoodIn wsL_law wsX6_keep := goodIn_r _ [604, 159, 102, 99, 605, 875, 876, 877, 878, 879, 880, 881, 882, 883, 884, 885] (by decide +kernel) (by decide +kernel)
set_option maxRecDepth 20000 in
theorem gL_law_X6_keep : GoodIn wsL_law (wsV RL 144 RX6 yX6_keep wsX6_keep) := goodIn_app (goodIn_of _ (by decide +kernel)) ggL_law_X6_keep
set_option maxRecDepth 20000 in
theorem ggL_law_L_restore : GoodIn wsL_law wsL_restore := goodIn_ca (goodIn_r _ [608, 334, 609, 610, 611, 2, 612, 339, 340, 30, 21, 16, 17, 117, 599, 124, 125, 126, 20, 127, 80, 81, 82, 128, 129, 130, 131, 132, 133, 134, 15, 135, 35, 39, 47, 136, 137, 138, 139, 48, 49, 50, 51, 140, 141, 142, 28, 143, 58, 144, 59, 60, 61, 62, 63, 64, 65, 66, 67, 68, 145, 146, 147, 38, 148, 73, 149, 74, 600, 869, 870, 871, 872, 873, 874, 886, 887, 888, 889, 890, 891, 892, 905, 906, 907, 908, 909, 910, 911, 912, 913, 914, 915, 893, 894, 895, 916, 917] (by decide +kernel) (by decide +kernel)) (goodIn_sub (fun _ h => List.mem_append_right _ h) (by decide +kernel))
set_option maxRecDepth 20000 in
theorem gL_law_L_restore : GoodIn wsL_law (va_wsS RL 145 yL_restore wsL_restore) := goodIn_app (goodIn_of _ (by decide +kernel)) ggL_law_L_restore
set_option maxRecDepth 20000 in
theorem ggL_law_X6_restore : GoodIn wsL_law wsX6_restore := goodIn_r _ [616, 605, 159, 99, 102, 163, 164, 165, 5, 166, 167, 101, 875, 876, 877, 878, 879, 880, 881, 882, 883, 884, 885] (by decide +kernel) (by decide +kernel)
set_option maxRecDepth 20000 in
theorem gL_law_X6_restore : GoodIn wsL_law (wsV RL 147 RX6 yX6_restore wsX6_restore) := goodIn_app (goodIn_of _ (by decide +kernel)) ggL_law_X6_restore
set_option maxRecDepth 20000 in
theorem ggL_law_L_pose : GoodIn wsL_law wsL_pose := goodIn_ca (goodIn_ca (goodIn_r _ [619, 182, 112, 620, 621, 622, 2, 623, 187, 188, 189, 190, 191, 192, 193, 194, 119, 120, 121, 122, 123, 624, 625, 626, 627, 16, 398, 117, 628, 629, 630, 38, 631, 74, 632, 633, 634, 635, 73, 195, 196, 197, 28, 198, 58, 636, 289, 290, 291, 61, 63, 292, 293, 130, 294, 374, 296, 297, 298, 59, 62, 288, 299, 300, 301, 302, 303, 637, 349, 350, 351, 60, 352, 353, 354, 341, 342, 343, 15, 344, 35, 345, 47, 346, 39, 347, 348, 355, 356, 357, 358, 638, 639, 640, 641, 642, 869, 870, 871, 872, 873, 874, 886, 887, 888, 889, 890, 891, 892, 916, 917, 905, 906, 907, 908, 909, 910, 911, 912, 913, 914, 915] (by decide +kernel) (by decide +kernel)) (goodIn_sub (fun _ h => List.mem_append_left _ (List.mem_append_right _ h)) (by decide +kernel))) (goodIn_sub (fun _ h => List.mem_append_left _ (List.mem_append_left _ (List.mem_append_right _ h))) (by decide +kernel))
set_option maxRecDepth 20000 in
theorem gL_law_L_pose : GoodIn wsL_law (va_wsS RL 148 yL_pose wsL_pose) := goodIn_app (goodIn_of _ (by decide +kernel)) ggL_law_L_pose
set_option maxRecDepth 20000 in
theorem ggL_law_X6_pose : GoodIn wsL_law wsX6_pose := goodIn_r _ [646, 159, 207, 208, 5, 209, 160, 161, 162, 647, 648, 649, 650, 99, 651, 652, 653, 654, 655, 656, 657, 658, 320, 321, 322, 323, 324, 325, 326, 327, 328, 329, 330, 383, 384, 385, 386, 387, 388, 389, 379, 380, 381, 382, 659, 660, 661, 662, 875, 876, 877, 878, 879, 880, 881, 882, 883, 884, 885] (by decide +kernel) (by decide +kernel)
set_option maxRecDepth 20000 in
theorem gL_law_X6_pose : GoodIn wsL_law (wsV RL 150 RX6 yX6_pose wsX6_pose) := goodIn_app (goodIn_of _ (by decide +kernel)) ggL_law_X6_pose
set_option maxRecDepth 20000 in
theorem ggL_law_L_reading : GoodIn wsL_law wsL_reading := goodIn_ca (goodIn_r _ [665, 112, 666, 667, 668, 2, 669, 122, 123, 119, 120, 121, 670, 671, 672, 673, 16, 398, 399, 638, 633, 634, 38, 635, 74, 73, 869, 870, 871, 872, 873, 874, 886, 887, 888, 889, 890, 891, 892, 916, 917] (by decide +kernel) (by decide +kernel)) (goodIn_sub (fun _ h => List.mem_append_left _ (List.mem_append_left _ (List.mem_append_right _ h))) (by decide +kernel))
set_option maxRecDepth 20000 in
theorem gL_law_L_reading : GoodIn wsL_law (va_wsS RL 151 yL_reading wsL_reading) := goodIn_app (goodIn_of _ (by decide +kernel)) ggL_law_L_reading
set_option maxRecDepth 20000 in
theorem ggL_law_X6_reading : GoodIn wsL_law wsX6_reading := goodIn_r _ [677, 159, 99, 160, 161, 5, 162, 678, 679, 680, 681, 655, 656, 657, 658, 875, 876, 877, 878, 879, 880, 881, 882, 883, 884, 885] (by decide +kernel) (by decide +kernel)
set_option maxRecDepth 20000 in
theorem gL_law_X6_reading : GoodIn wsL_law (wsV RL 153 RX6 yX6_reading wsX6_reading) := goodIn_app (goodIn_of _ (by decide +kernel)) ggL_law_X6_reading
set_option maxRecDepth 20000 in
theorem ggL_law_L_count : GoodIn wsL_law wsL_count := goodIn_ca (goodIn_r _ [684, 112, 685, 686, 687, 2, 688, 119, 120, 121, 122, 123, 689, 690, 691, 692, 16, 117, 599, 118, 217, 218, 230, 252, 264, 693, 694, 695, 398, 399, 696, 697, 413, 21, 586, 698, 285, 286, 28, 287, 61, 64, 288, 289, 290, 291, 63, 292, 293, 130, 294, 699, 700, 701, 15, 702, 39, 703, 704, 705, 706, 707, 708, 709, 129, 131, 710, 35, 711, 47, 712, 629, 630, 38, 631, 74, 632, 633, 634, 635, 73, 713, 714, 301, 302, 303, 715, 716, 717, 718, 719, 720, 869, 870, 871, 872, 873, 874, 886, 887, 888, 889, 890, 891, 892, 905, 906, 907, 908, 909, 910, 911, 912, 913, 914, 915, 916, 917, 893, 894, 895] (by decide +kernel) (by decide +kernel)) (goodIn_sub (fun _ h => List.mem_append_left _ (List.mem_append_left _ (List.mem_append_right _ h))) (by decide +kernel))
set_option maxRecDepth 20000 in
theorem gL_law_L_count : GoodIn wsL_law (va_wsS RL 154 yL_count wsL_count) := goodIn_app (goodIn_of _ (by decide +kernel)) ggL_law_L_count
set_option maxRecDepth 20000 in
theorem ggL_law_X6_count : GoodIn wsL_law wsX6_count := goodIn_r _ [724, 159, 160, 161, 5, 162, 725, 726, 727, 728, 99, 729, 167, 316, 317, 318, 319, 320, 321, 322, 323, 730, 731, 732, 733, 734, 735, 736, 737, 651, 652, 653, 654, 655, 656, 657, 658, 328, 329, 330, 875, 876, 877, 878, 879, 880, 881, 882, 883, 884, 885] (by decide +kernel) (by decide +kernel)
set_option maxRecDepth 20000 in
theorem gL_law_X6_count : GoodIn wsL_law (wsV RL 156 RX6 yX6_count wsX6_count) := goodIn_app (goodIn_of _ (by decide +kernel)) ggL_law_X6_count
set_option maxRecDepth 20000 in
theorem ggL_law_L_ifWorn : GoodIn wsL_law wsL_ifWorn := goodIn_ca (goodIn_ca (goodIn_r _ [740, 182, 112, 741, 742, 743, 2, 744, 187, 188, 189, 190, 191, 192, 193, 194, 119, 120, 121, 122, 123, 745, 746, 747, 748, 29, 16, 117, 264, 693, 749, 750, 141, 142, 28, 143, 58, 144, 137, 138, 139, 59, 60, 61, 62, 63, 64, 65, 66, 67, 68, 276, 277, 278, 279, 280, 281, 282, 283, 154, 129, 130, 131, 284, 285, 286, 287, 288, 289, 290, 291, 292, 293, 294, 295, 296, 297, 298, 299, 196, 197, 198, 300, 301, 302, 303, 869, 870, 871, 872, 873, 874, 886, 887, 888, 889, 890, 891, 892, 905, 906, 907, 908, 909, 910, 911, 912, 913, 914, 915] (by decide +kernel) (by decide +kernel)) (goodIn_sub (fun _ h => List.mem_append_left _ (List.mem_append_right _ h)) (by decide +kernel))) (goodIn_sub (fun _ h => List.mem_append_left _ (List.mem_append_left _ (List.mem_append_right _ h))) (by decide +kernel))
set_option maxRecDepth 20000 in
theorem gL_law_L_ifWorn : GoodIn wsL_law (va_wsS RL 157 yL_ifWorn wsL_ifWorn) := goodIn_app (goodIn_of _ (by decide +kernel)) ggL_law_L_ifWorn
set_option maxRecDepth 20000 in
theorem ggL_law_X6_ifWorn : GoodIn wsL_law wsX6_ifWorn := goodIn_r _ [754, 159, 207, 208, 5, 209, 160, 161, 162, 755, 756, 757, 758, 99, 100, 759, 760, 761, 762, 763, 308, 309, 310, 311, 312, 313, 314, 315, 316, 317, 318, 319, 320, 321, 322, 323, 324, 325, 326, 327, 328, 329, 330, 172, 173, 174, 764, 765, 766, 767, 875, 876, 877, 878, 879, 880, 881, 882, 883, 884, 885] (by decide +kernel) (by decide +kernel)
set_option maxRecDepth 20000 in
theorem gL_law_X6_ifWorn : GoodIn wsL_law (wsV RL 160 RX6 yX6_ifWorn wsX6_ifWorn) := goodIn_app (goodIn_of _ (by decide +kernel)) ggL_law_X6_ifWorn
set_option maxRecDepth 20000 in
theorem ggL_law_X5_bestRegulator : GoodIn wsL_law wsX5_bestRegulator := goodIn_r _ [771, 16, 117, 217, 772, 353, 130, 354, 374, 296, 297, 28, 298, 59, 62, 288, 289, 290, 291, 61, 63, 292, 293, 294, 299, 196, 197, 198, 58, 193, 2, 194, 300, 301, 302, 303, 869, 870, 871, 872, 873, 874, 886, 887, 888, 889, 890, 891, 892, 905, 906, 907, 908, 909, 910, 911, 912, 913, 914, 915] (by decide +kernel) (by decide +kernel)
set_option maxRecDepth 20000 in
theorem gL_law_X5_bestRegulator : GoodIn wsL_law (wsV RL 161 RX5 yX5_bestRegulator wsX5_bestRegulator) := goodIn_app (goodIn_of _ (by decide +kernel)) ggL_law_X5_bestRegulator
set_option maxRecDepth 20000 in
theorem ggL_law_X6_bestRegulator : GoodIn wsL_law wsX6_bestRegulator := goodIn_r _ [776, 159, 777, 778, 779, 5, 780, 99, 324, 325, 326, 327, 320, 321, 322, 323, 328, 329, 330, 387, 388, 389, 875, 876, 877, 878, 879, 880, 881, 882, 883, 884, 885] (by decide +kernel) (by decide +kernel)
set_option maxRecDepth 20000 in
theorem gL_law_X6_bestRegulator : GoodIn wsL_law (wsV RL 164 RX6 yX6_bestRegulator wsX6_bestRegulator) := goodIn_app (goodIn_of _ (by decide +kernel)) ggL_law_X6_bestRegulator
set_option maxRecDepth 20000 in
theorem ggL_law_L_stopsIn : GoodIn wsL_law wsL_stopsIn := goodIn_ca (goodIn_r _ [783, 182, 784, 785, 786, 2, 787, 187, 188, 189, 190, 191, 192, 193, 194, 788, 789, 790, 791, 29, 16, 117, 264, 750, 141, 142, 28, 143, 58, 144, 137, 138, 139, 59, 60, 61, 62, 63, 64, 65, 66, 67, 68, 276, 277, 278, 279, 280, 281, 282, 283, 154, 129, 130, 131, 284, 285, 286, 287, 288, 289, 290, 291, 292, 293, 294, 295, 296, 297, 298, 299, 196, 197, 198, 300, 301, 302, 303, 869, 870, 871, 872, 873, 874, 886, 887, 888, 889, 890, 891, 892, 905, 906, 907, 908, 909, 910, 911, 912, 913, 914, 915] (by decide +kernel) (by decide +kernel)) (goodIn_sub (fun _ h => List.mem_append_left _ (List.mem_append_right _ h)) (by decide +kernel))
set_option maxRecDepth 20000 in
theorem gL_law_L_stopsIn : GoodIn wsL_law (va_wsS RL 165 yL_stopsIn wsL_stopsIn) := goodIn_app (goodIn_of _ (by decide +kernel)) ggL_law_L_stopsIn
set_option maxRecDepth 20000 in
theorem ggL_law_X6_stopsIn : GoodIn wsL_law wsX6_stopsIn := goodIn_r _ [795, 159, 207, 208, 5, 209, 160, 161, 162, 796, 797, 798, 799, 99, 760, 761, 762, 763, 100, 316, 317, 318, 319, 320, 321, 322, 323, 312, 313, 314, 315, 324, 325, 326, 327, 328, 329, 330, 172, 173, 174, 764, 765, 766, 767, 875, 876, 877, 878, 879, 880, 881, 882, 883, 884, 885] (by decide +kernel) (by decide +kernel)
set_option maxRecDepth 20000 in
theorem gL_law_X6_stopsIn : GoodIn wsL_law (wsV RL 167 RX6 yX6_stopsIn wsX6_stopsIn) := goodIn_app (goodIn_of _ (by decide +kernel)) ggL_law_X6_stopsIn
set_option maxRecDepth 20000 in
theorem ggL_law_X5_nightPose : GoodIn wsL_law wsX5_nightPose := goodIn_r _ [803, 804, 29, 16, 117, 264, 693, 772, 353, 130, 354, 750, 141, 142, 28, 143, 58, 144, 137, 138, 139, 59, 60, 61, 62, 63, 64, 65, 66, 67, 68, 276, 277, 278, 279, 280, 281, 282, 283, 154, 129, 131, 284, 285, 286, 287, 288, 289, 290, 291, 292, 293, 294, 295, 296, 297, 298, 299, 196, 197, 198, 193, 2, 194, 300, 301, 302, 303, 869, 870, 871, 872, 873, 874, 886, 887, 888, 889, 890, 891, 892, 905, 906, 907, 908, 909, 910, 911, 912, 913, 914, 915] (by decide +kernel) (by decide +kernel)
set_option maxRecDepth 20000 in
theorem gL_law_X5_nightPose : GoodIn wsL_law (wsV RL 168 RX5 yX5_nightPose wsX5_nightPose) := goodIn_app (goodIn_of _ (by decide +kernel)) ggL_law_X5_nightPose
set_option maxRecDepth 20000 in
theorem ggL_law_X6_nightPose : GoodIn wsL_law wsX6_nightPose := goodIn_r _ [808, 159, 809, 810, 811, 5, 812, 99, 760, 761, 762, 763, 100, 308, 309, 310, 311, 312, 313, 314, 315, 316, 317, 318, 319, 320, 321, 322, 323, 324, 325, 326, 327, 328, 329, 330, 172, 173, 174, 387, 388, 389, 764, 765, 766, 767, 875, 876, 877, 878, 879, 880, 881, 882, 883, 884, 885] (by decide +kernel) (by decide +kernel)
set_option maxRecDepth 20000 in
theorem gL_law_X6_nightPose : GoodIn wsL_law (wsV RL 171 RX6 yX6_nightPose wsX6_nightPose) := goodIn_app (goodIn_of _ (by decide +kernel)) ggL_law_X6_nightPose
set_option maxRecDepth 20000 in
theorem ggL_law_X5_going : GoodIn wsL_law wsX5_going := goodIn_r _ [816, 16, 117, 599, 697, 869, 870, 871, 872, 873, 874, 886, 887, 888, 889, 890, 891, 892, 905, 906, 907, 908, 909, 910, 911, 912, 913, 914, 915] (by decide +kernel) (by decide +kernel)
set_option maxRecDepth 20000 in
theorem gL_law_X5_going : GoodIn wsL_law (wsV RL 172 RX5 yX5_going wsX5_going) := goodIn_app (goodIn_of _ (by decide +kernel)) ggL_law_X5_going
set_option maxRecDepth 20000 in
theorem ggL_law_X6_going : GoodIn wsL_law wsX6_going := goodIn_r _ [820, 159, 821, 822, 823, 5, 824, 99, 875, 876, 877, 878, 879, 880, 881, 882, 883, 884, 885] (by decide +kernel) (by decide +kernel)
set_option maxRecDepth 20000 in
theorem gL_law_X6_going : GoodIn wsL_law (wsV RL 176 RX6 yX6_going wsX6_going) := goodIn_app (goodIn_of _ (by decide +kernel)) ggL_law_X6_going
