set_option maxRecDepth 20000 in
theorem gp_ggL_law_L_act_wsL_act_r1 : GoodIn wsL_law wsL_act_r1 := goodIn_r _ [297, 298, 93, 299, 300, 376, 377, 378, 365, 379, 380, 381, 2, 382, 18, 13, 123, 125, 102, 103, 104, 100, 101, 355] (by decide +kernel) (by decide +kernel)
set_option maxRecDepth 20000 in
theorem gp_ggL_law_L_act_wsL_act_r2 : GoodIn wsL_law wsL_act_r2 := goodIn_r _ [356, 357, 17, 358, 76, 77, 78, 359, 161, 148, 162, 337, 338, 339, 12, 340, 32, 36, 44, 341, 276, 277, 278, 45] (by decide +kernel) (by decide +kernel)
set_option maxRecDepth 20000 in
theorem gp_ggL_law_L_act_wsL_act_r3 : GoodIn wsL_law wsL_act_r3 := goodIn_r _ [46, 47, 48, 342, 272, 273, 25, 274, 55, 275, 56, 57, 58, 59, 60, 61, 62, 63, 64, 65, 343, 344, 345, 35] (by decide +kernel) (by decide +kernel)
set_option maxRecDepth 20000 in
theorem gp_ggL_law_L_act_wsL_act_r4 : GoodIn wsL_law wsL_act_r4 := goodIn_r _ [346, 69, 347, 70, 383, 384, 385, 386, 287, 260, 261, 262, 184, 185, 186, 257, 258, 259, 387, 388, 389, 364, 326, 390] (by decide +kernel) (by decide +kernel)
set_option maxRecDepth 20000 in
theorem gp_ggL_law_L_act_wsL_act_r5 : GoodIn wsL_law wsL_act_r5 := goodIn_r _ [391, 392, 393, 331, 332, 210, 211, 212, 213, 214, 215, 216, 217, 241, 242, 243, 244, 245, 246, 247, 143, 144, 145, 146] (by decide +kernel) (by decide +kernel)
set_option maxRecDepth 20000 in
theorem gp_ggL_law_L_act_wsL_act_r6 : GoodIn wsL_law wsL_act_r6 := goodIn_r _ [147, 149, 248, 235, 236, 237, 238, 239, 240, 249, 250, 251, 252, 394, 395, 396, 397, 398, 399, 400, 401, 402, 403, 404] (by decide +kernel) (by decide +kernel)
set_option maxRecDepth 20000 in
theorem gp_ggL_law_L_act_wsL_act_r7 : GoodIn wsL_law wsL_act_r7 := goodIn_r _ [405, 406, 229, 230, 231, 142, 232, 224, 225, 226, 233, 172, 173, 174, 407, 408, 228, 199, 200, 201, 202, 203, 204, 205] (by decide +kernel) (by decide +kernel)
set_option maxRecDepth 20000 in
theorem gp_ggL_law_L_act_wsL_act_r8 : GoodIn wsL_law wsL_act_r8 := goodIn_r _ [301, 302, 303, 196, 197, 198, 181, 182, 183, 409, 410, 411, 412, 413, 414, 415, 279, 280, 281, 282, 283, 284, 285, 286] (by decide +kernel) (by decide +kernel)
set_option maxRecDepth 20000 in
theorem gp_ggL_law_L_act_wsL_act_r9 : GoodIn wsL_law wsL_act_r9 := goodIn_r _ [288, 139, 140, 141, 289, 416, 417, 418, 419, 420, 421, 422, 223, 423, 424, 425, 426, 427, 428, 429, 430, 431, 432, 433] (by decide +kernel) (by decide +kernel)
set_option maxRecDepth 20000 in
theorem gp_ggL_law_L_act_wsL_act_r10 : GoodIn wsL_law wsL_act_r10 := goodIn_r _ [126, 127, 434, 435, 436, 437, 438, 439, 440, 128, 441, 442, 443, 444, 445, 446, 447, 448, 449, 129, 450, 451, 452, 453] (by decide +kernel) (by decide +kernel)
set_option maxRecDepth 20000 in
theorem gp_ggL_law_L_act_wsL_act_r11 : GoodIn wsL_law wsL_act_r11 := goodIn_r _ [454, 455, 456, 130, 457, 458, 459, 460, 109, 110, 461, 462, 463, 464, 465, 466, 467, 468, 469, 136] (by decide +kernel) (by decide +kernel)
set_option maxRecDepth 20000 in
theorem gp_ggL_law_L_act_wsX50 : GoodIn wsL_law wsX50 := goodIn_r _ [470, 471, 472, 473, 474, 475] (by decide +kernel) (by decide +kernel)
set_option maxRecDepth 20000 in
theorem gp_ggL_law_L_act_wsX30 : GoodIn wsL_law wsX30 := goodIn_r _ [476, 477, 478, 479, 480, 481, 482] (by decide +kernel) (by decide +kernel)
set_option maxRecDepth 20000 in
theorem gp_ggL_law_L_act_wsX40 : GoodIn wsL_law wsX40 := goodIn_r _ [495, 496, 497, 498, 499, 500, 501, 502, 503, 504, 505] (by decide +kernel) (by decide +kernel)
set_option maxRecDepth 20000 in
theorem gp_ggL_law_L_act_wsX20 : GoodIn wsL_law wsX20 := goodIn_r _ [483, 484, 485] (by decide +kernel) (by decide +kernel)
set_option maxRecDepth 20000 in
theorem gp_ggL_law_L_act_wsX10 : GoodIn wsL_law wsX10 := goodIn_r _ [506, 507] (by decide +kernel) (by decide +kernel)
set_option maxRecDepth 200000 in
theorem ggL_law_L_act : GoodIn wsL_law wsL_act := goodIn_ca (goodIn_ca (goodIn_ca (goodIn_hd (n := 375) rfl rfl (goodIn_app (goodIn_app (goodIn_app (goodIn_app (goodIn_app (goodIn_app gp_ggL_law_L_act_wsL_act_r1 (goodIn_app gp_ggL_law_L_act_wsL_act_r2 (goodIn_app gp_ggL_law_L_act_wsL_act_r3 (goodIn_app gp_ggL_law_L_act_wsL_act_r4 (goodIn_app gp_ggL_law_L_act_wsL_act_r5 (goodIn_app gp_ggL_law_L_act_wsL_act_r6 (goodIn_app gp_ggL_law_L_act_wsL_act_r7 (goodIn_app gp_ggL_law_L_act_wsL_act_r8 (goodIn_app gp_ggL_law_L_act_wsL_act_r9 (goodIn_app gp_ggL_law_L_act_wsL_act_r10 gp_ggL_law_L_act_wsL_act_r11)))))))))) gp_ggL_law_L_act_wsX50) gp_ggL_law_L_act_wsX30) gp_ggL_law_L_act_wsX40) gp_ggL_law_L_act_wsX20) gp_ggL_law_L_act_wsX10)) (goodIn_sub (fun _ h => List.mem_append_left _ (List.mem_append_left _ (List.mem_append_right _ h))) (by decide +kernel))) (goodIn_sub (fun _ h => List.mem_append_right _ h) (by decide +kernel))) (goodIn_sub (fun _ h => List.mem_append_left _ (List.mem_append_right _ h)) (by decide +kernel))
