set_option maxRecDepth 20000 in
theorem gp_ggL_law_L_isSo_wsL_isSo_r1 : GoodIn wsL_law wsL_isSo_r1 := goodIn_r _ [95, 96, 97, 98, 2, 99, 100, 101, 102, 103, 104, 105, 106, 107, 108, 13, 109, 110, 111, 112, 113, 35, 114, 70] (by decide +kernel) (by decide +kernel)
set_option maxRecDepth 20000 in
theorem gp_ggL_law_L_isSo_wsL_isSo_r2 : GoodIn wsL_law wsL_isSo_r2 := goodIn_r _ [69, 115, 116, 117, 118, 119, 120, 121, 122, 123, 124, 125, 126, 127, 128, 129, 130, 131, 132, 133, 134, 135, 136, 18] (by decide +kernel) (by decide +kernel)
set_option maxRecDepth 20000 in
theorem gp_ggL_law_L_isSo_wsL_isSo_r3 : GoodIn wsL_law wsL_isSo_r3 := goodIn_r _ [137, 138, 139, 140, 25, 141, 58, 61, 142, 143, 144, 145, 60, 146, 147, 148, 149, 150, 151, 152, 12, 153, 36, 154] (by decide +kernel) (by decide +kernel)
set_option maxRecDepth 20000 in
theorem gp_ggL_law_L_isSo_wsL_isSo_r4 : GoodIn wsL_law wsL_isSo_r4 := goodIn_r _ [155, 156, 157, 158, 159, 160, 161, 162, 163, 32, 164, 44, 165, 166, 167, 168, 169, 170, 171, 172, 173, 174, 175, 176] (by decide +kernel) (by decide +kernel)
set_option maxRecDepth 20000 in
theorem gp_ggL_law_L_isSo_wsL_isSo_r5 : GoodIn wsL_law wsL_isSo_r5 := goodIn_r _ [177, 178, 179, 180, 181, 182, 93, 183, 184, 185, 186, 187, 188, 189, 3, 190, 191, 192, 193, 194, 195, 196, 197, 198] (by decide +kernel) (by decide +kernel)
set_option maxRecDepth 20000 in
theorem gp_ggL_law_L_isSo_wsL_isSo_r6 : GoodIn wsL_law wsL_isSo_r6 := goodIn_r _ [199, 200, 201, 202, 203, 204, 205, 206, 207, 208, 209, 210, 211, 212, 213, 214, 215, 216, 217, 218, 219, 220, 221, 222] (by decide +kernel) (by decide +kernel)
set_option maxRecDepth 20000 in
theorem gp_ggL_law_L_isSo_wsL_isSo_r7 : GoodIn wsL_law wsL_isSo_r7 := goodIn_r _ [223, 224, 225, 226, 55, 227, 228, 229, 230, 231, 56, 59, 232, 233, 234, 235, 236, 237, 57, 238, 239, 240, 241, 242] (by decide +kernel) (by decide +kernel)
set_option maxRecDepth 20000 in
theorem gp_ggL_law_L_isSo_wsL_isSo_r8 : GoodIn wsL_law wsL_isSo_r8 := goodIn_r _ [243, 244, 245, 246, 247, 248, 249, 250, 251, 252, 253, 254, 255, 256, 257, 258, 259, 260, 261, 262, 263, 264, 265, 266] (by decide +kernel) (by decide +kernel)
set_option maxRecDepth 20000 in
theorem gp_ggL_law_L_isSo_wsL_isSo_r9 : GoodIn wsL_law wsL_isSo_r9 := goodIn_r _ [267, 268, 269, 270, 26, 271, 272, 273, 274, 275, 276, 277, 278, 62, 63, 64, 65, 279, 280, 281, 282, 283, 284, 285] (by decide +kernel) (by decide +kernel)
set_option maxRecDepth 20000 in
theorem gp_ggL_law_L_isSo_wsL_isSo_r10 : GoodIn wsL_law wsL_isSo_r10 := goodIn_r _ [286, 287, 288, 289, 290, 291, 292, 293] (by decide +kernel) (by decide +kernel)
set_option maxRecDepth 20000 in
theorem gp_ggL_law_L_isSo_wsX50 : GoodIn wsL_law wsX50 := goodIn_r _ [470, 471, 472, 473, 474, 475] (by decide +kernel) (by decide +kernel)
set_option maxRecDepth 20000 in
theorem gp_ggL_law_L_isSo_wsX30 : GoodIn wsL_law wsX30 := goodIn_r _ [476, 477, 478, 479, 480, 481, 482] (by decide +kernel) (by decide +kernel)
set_option maxRecDepth 20000 in
theorem gp_ggL_law_L_isSo_wsX10 : GoodIn wsL_law wsX10 := goodIn_r _ [506, 507] (by decide +kernel) (by decide +kernel)
set_option maxRecDepth 20000 in
theorem gp_ggL_law_L_isSo_wsX40 : GoodIn wsL_law wsX40 := goodIn_r _ [495, 496, 497, 498, 499, 500, 501, 502, 503, 504, 505] (by decide +kernel) (by decide +kernel)
set_option maxRecDepth 20000 in
theorem gp_ggL_law_L_isSo_wsX20 : GoodIn wsL_law wsX20 := goodIn_r _ [483, 484, 485] (by decide +kernel) (by decide +kernel)
set_option maxRecDepth 20000 in
theorem gp_ggL_law_L_isSo_h : GoodIn wsL_law [.code yL_isSo cL_isSo 7 (some .boolean)] := goodIn_r _ [94] (by decide +kernel) (by decide +kernel)
set_option maxRecDepth 20000 in
theorem ggL_law_L_isSo : GoodIn wsL_law wsL_isSo := goodIn_ca (goodIn_ca (goodIn_app (a := [.code yL_isSo cL_isSo 7 (some .boolean)]) gp_ggL_law_L_isSo_h (goodIn_app (goodIn_app (goodIn_app (goodIn_app (goodIn_app (goodIn_app gp_ggL_law_L_isSo_wsL_isSo_r1 (goodIn_app gp_ggL_law_L_isSo_wsL_isSo_r2 (goodIn_app gp_ggL_law_L_isSo_wsL_isSo_r3 (goodIn_app gp_ggL_law_L_isSo_wsL_isSo_r4 (goodIn_app gp_ggL_law_L_isSo_wsL_isSo_r5 (goodIn_app gp_ggL_law_L_isSo_wsL_isSo_r6 (goodIn_app gp_ggL_law_L_isSo_wsL_isSo_r7 (goodIn_app gp_ggL_law_L_isSo_wsL_isSo_r8 (goodIn_app gp_ggL_law_L_isSo_wsL_isSo_r9 gp_ggL_law_L_isSo_wsL_isSo_r10))))))))) gp_ggL_law_L_isSo_wsX50) gp_ggL_law_L_isSo_wsX30) gp_ggL_law_L_isSo_wsX10) gp_ggL_law_L_isSo_wsX40) gp_ggL_law_L_isSo_wsX20)) (goodIn_sub (fun _ h => List.mem_append_left _ (List.mem_append_left _ (List.mem_append_right _ h))) (by decide +kernel))) (goodIn_sub (fun _ h => List.mem_append_left _ (List.mem_append_right _ h)) (by decide +kernel))
