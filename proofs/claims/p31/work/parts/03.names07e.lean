set_option maxRecDepth 20000 in
theorem gL_law_L_isAhead : GoodIn wsL_law (va_wsS RL 154 yL_isAhead wsL_isAhead) := goodIn_app (goodIn_of _ (by decide +kernel)) ggL_law_L_isAhead
set_option maxRecDepth 20000 in
theorem ggL_law_L_undo : GoodIn wsL_law wsL_undo := goodIn_ca (goodIn_r _ [325, 326, 327, 328, 329, 2, 330, 331, 332, 18, 137, 13, 333, 334, 335, 17, 336, 78, 77, 76, 337, 338, 339, 12, 340, 32, 36, 44, 341, 276, 277, 278, 45, 46, 47, 48, 342, 272, 273, 25, 274, 55, 275, 56, 57, 58, 59, 60, 61, 62, 63, 64, 65, 343, 344, 345, 35, 346, 69, 347, 70, 470, 471, 472, 473, 474, 475, 483, 484, 485, 476, 477, 478, 479, 480, 481, 482, 495, 496, 497, 498, 499, 500, 501, 502, 503, 504, 505, 506, 507] (by decide +kernel) (by decide +kernel)) (goodIn_sub (fun _ h => List.mem_append_right _ h) (by decide +kernel))
set_option maxRecDepth 20000 in
theorem gL_law_L_undo : GoodIn wsL_law (va_wsS RL 158 yL_undo wsL_undo) := goodIn_app (goodIn_of _ (by decide +kernel)) ggL_law_L_undo
set_option maxRecDepth 20000 in
theorem ggL_law_L_restore : GoodIn wsL_law wsL_restore := goodIn_ca (goodIn_r _ [350, 326, 351, 352, 353, 2, 354, 331, 332, 27, 18, 13, 14, 123, 124, 355, 356, 357, 17, 358, 76, 77, 78, 359, 161, 148, 162, 337, 338, 339, 12, 340, 32, 36, 44, 341, 276, 277, 278, 45, 46, 47, 48, 342, 272, 273, 25, 274, 55, 275, 56, 57, 58, 59, 60, 61, 62, 63, 64, 65, 343, 344, 345, 35, 346, 69, 347, 70, 360, 470, 471, 472, 473, 474, 475, 476, 477, 478, 479, 480, 481, 482, 495, 496, 497, 498, 499, 500, 501, 502, 503, 504, 505, 483, 484, 485, 506, 507] (by decide +kernel) (by decide +kernel)) (goodIn_sub (fun _ h => List.mem_append_right _ h) (by decide +kernel))
set_option maxRecDepth 20000 in
theorem gL_law_L_restore : GoodIn wsL_law (va_wsS RL 161 yL_restore wsL_restore) := goodIn_app (goodIn_of _ (by decide +kernel)) ggL_law_L_restore
set_option maxRecDepth 20000 in
theorem ggL_law_L_pose : GoodIn wsL_law wsL_pose := goodIn_ca (goodIn_ca (goodIn_r _ [363, 364, 365, 206, 207, 208, 2, 209, 210, 211, 212, 213, 214, 215, 216, 217, 102, 103, 104, 100, 101, 218, 219, 220, 221, 13, 109, 123, 222, 166, 167, 35, 168, 70, 169, 112, 113, 114, 69, 223, 224, 225, 25, 226, 55, 227, 143, 144, 145, 58, 60, 146, 147, 148, 149, 228, 229, 230, 231, 56, 59, 142, 232, 233, 172, 173, 174, 234, 235, 236, 237, 57, 238, 239, 240, 241, 242, 243, 12, 244, 32, 245, 44, 246, 36, 247, 248, 249, 250, 251, 252, 111, 253, 254, 255, 256, 470, 471, 472, 473, 474, 475, 476, 477, 478, 479, 480, 481, 482, 506, 507, 495, 496, 497, 498, 499, 500, 501, 502, 503, 504, 505] (by decide +kernel) (by decide +kernel)) (goodIn_sub (fun _ h => List.mem_append_left _ (List.mem_append_right _ h)) (by decide +kernel))) (goodIn_sub (fun _ h => List.mem_append_left _ (List.mem_append_left _ (List.mem_append_right _ h))) (by decide +kernel))
set_option maxRecDepth 20000 in
theorem gL_law_L_pose : GoodIn wsL_law (va_wsS RL 163 yL_pose wsL_pose) := goodIn_app (goodIn_of _ (by decide +kernel)) ggL_law_L_pose
set_option maxRecDepth 20000 in
theorem ggL_law_L_reading : GoodIn wsL_law wsL_reading := goodIn_ca (goodIn_r _ [368, 365, 96, 97, 98, 2, 99, 100, 101, 102, 103, 104, 105, 106, 107, 108, 13, 109, 110, 111, 112, 113, 35, 114, 70, 69, 470, 471, 472, 473, 474, 475, 476, 477, 478, 479, 480, 481, 482, 506, 507] (by decide +kernel) (by decide +kernel)) (goodIn_sub (fun _ h => List.mem_append_left _ (List.mem_append_left _ (List.mem_append_right _ h))) (by decide +kernel))
set_option maxRecDepth 20000 in
theorem gL_law_L_reading : GoodIn wsL_law (va_wsS RL 165 yL_reading wsL_reading) := goodIn_app (goodIn_of _ (by decide +kernel)) ggL_law_L_reading
set_option maxRecDepth 20000 in
theorem ggL_law_L_cell : GoodIn wsL_law wsL_cell := goodIn_r _ [371, 372] (by decide +kernel) (by decide +kernel)
set_option maxRecDepth 20000 in
theorem gL_law_L_cell : GoodIn wsL_law (va_wsS RL 167 yL_cell wsL_cell) := goodIn_app (goodIn_of _ (by decide +kernel)) ggL_law_L_cell
theorem goodIn_hd {big a : List Cond} {c : Cond} {n : Nat} (h1 : big[n]? = some c) (h2 : goodWord c = true) (ha : GoodIn big a) : GoodIn big (c :: a) := fun w h => (List.mem_cons.mp h).elim (fun e => e ▸ ⟨List.mem_of_getElem? h1, good_of_word h2⟩) (ha w)
