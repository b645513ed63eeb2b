set_option maxRecDepth 20000 in
theorem gp_ggL_law_L_isAhead_wsL_isAhead_r1 : GoodIn wsL_law wsL_isAhead_r1 := goodIn_r _ [3, 205, 193, 194, 93, 195, 297, 298, 299, 300, 301, 302, 303, 196, 197, 198, 181, 182, 183, 184, 185, 186, 199, 200] (by decide +kernel) (by decide +kernel)
set_option maxRecDepth 20000 in
theorem gp_ggL_law_L_isAhead_wsL_isAhead_r2 : GoodIn wsL_law wsL_isAhead_r2 := goodIn_r _ [201, 202, 203, 204, 304, 305, 306, 2, 307, 210, 211, 212, 213, 214, 215, 216, 217, 102, 103, 104, 100, 101, 308, 309] (by decide +kernel) (by decide +kernel)
set_option maxRecDepth 20000 in
theorem gp_ggL_law_L_isAhead_wsL_isAhead_r3 : GoodIn wsL_law wsL_isAhead_r3 := goodIn_r _ [310, 311, 26, 13, 123, 130, 131, 312, 271, 272, 273, 25, 274, 55, 275, 276, 277, 278, 56, 57, 58, 59, 60, 61] (by decide +kernel) (by decide +kernel)
set_option maxRecDepth 20000 in
theorem gp_ggL_law_L_isAhead_wsL_isAhead_r4 : GoodIn wsL_law wsL_isAhead_r4 := goodIn_r _ [62, 63, 64, 65, 279, 280, 281, 282, 283, 284, 285, 286, 287, 161, 148, 162, 288, 139, 140, 141, 142, 143, 144, 145] (by decide +kernel) (by decide +kernel)
set_option maxRecDepth 20000 in
theorem gp_ggL_law_L_isAhead_wsL_isAhead_r5 : GoodIn wsL_law wsL_isAhead_r5 := goodIn_r _ [146, 147, 149, 289, 229, 230, 231, 232, 224, 225, 226, 233, 172, 173, 174, 313, 314, 315, 316, 317, 318, 239, 240, 319] (by decide +kernel) (by decide +kernel)
set_option maxRecDepth 20000 in
theorem gp_ggL_law_L_isAhead_wsL_isAhead_r6 : GoodIn wsL_law wsL_isAhead_r6 := goodIn_r _ [320, 321, 322, 126, 228] (by decide +kernel) (by decide +kernel)
set_option maxRecDepth 20000 in
theorem gp_ggL_law_L_isAhead_wsX50 : GoodIn wsL_law wsX50 := goodIn_r _ [470, 471, 472, 473, 474, 475] (by decide +kernel) (by decide +kernel)
set_option maxRecDepth 20000 in
theorem gp_ggL_law_L_isAhead_wsX30 : GoodIn wsL_law wsX30 := goodIn_r _ [476, 477, 478, 479, 480, 481, 482] (by decide +kernel) (by decide +kernel)
set_option maxRecDepth 20000 in
theorem gp_ggL_law_L_isAhead_wsX40 : GoodIn wsL_law wsX40 := goodIn_r _ [495, 496, 497, 498, 499, 500, 501, 502, 503, 504, 505] (by decide +kernel) (by decide +kernel)
set_option maxRecDepth 20000 in
theorem gp_ggL_law_L_isAhead_h : GoodIn wsL_law [.code yL_isAhead cL_isAhead 15 (some .boolean)] := goodIn_r _ [296] (by decide +kernel) (by decide +kernel)
set_option maxRecDepth 20000 in
theorem ggL_law_L_isAhead : GoodIn wsL_law wsL_isAhead := goodIn_ca (goodIn_ca (goodIn_app (a := [.code yL_isAhead cL_isAhead 15 (some .boolean)]) gp_ggL_law_L_isAhead_h (goodIn_app (goodIn_app (goodIn_app (goodIn_app gp_ggL_law_L_isAhead_wsL_isAhead_r1 (goodIn_app gp_ggL_law_L_isAhead_wsL_isAhead_r2 (goodIn_app gp_ggL_law_L_isAhead_wsL_isAhead_r3 (goodIn_app gp_ggL_law_L_isAhead_wsL_isAhead_r4 (goodIn_app gp_ggL_law_L_isAhead_wsL_isAhead_r5 gp_ggL_law_L_isAhead_wsL_isAhead_r6))))) gp_ggL_law_L_isAhead_wsX50) gp_ggL_law_L_isAhead_wsX30) gp_ggL_law_L_isAhead_wsX40)) (goodIn_sub (fun _ h => List.mem_append_left _ (List.mem_append_right _ h)) (by decide +kernel))) (goodIn_sub (fun _ h => List.mem_append_left _ (List.mem_append_left _ (List.mem_append_right _ h))) (by decide +kernel))
