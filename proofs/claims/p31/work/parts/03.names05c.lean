set_option maxRecDepth 20000 in
theorem gp_ggL_isSo_L_arePoses_wsL_arePoses_r1 : GoodIn wsL_isSo wsL_arePoses_r1 := goodIn_r _ [111, 112, 113, 103, 114, 115, 116, 117, 101, 102, 104, 105, 106, 107, 118, 119, 120, 121, 122, 123, 124, 125, 126, 127] (by decide +kernel) (by decide +kernel)
set_option maxRecDepth 20000 in
theorem gp_ggL_isSo_L_arePoses_wsL_arePoses_r2 : GoodIn wsL_isSo wsL_arePoses_r2 := goodIn_r _ [128, 129, 130, 5, 131, 132, 133, 134, 135, 136, 137, 138, 139, 9, 10, 11, 7, 8, 140, 141, 142, 143, 16, 17] (by decide +kernel) (by decide +kernel)
set_option maxRecDepth 20000 in
theorem gp_ggL_isSo_L_arePoses_wsL_arePoses_r3 : GoodIn wsL_isSo wsL_arePoses_r3 := goodIn_r _ [34, 144, 86, 87, 22, 88, 24, 89, 20, 21, 23, 25, 145, 146, 147, 53, 148, 149, 150, 58, 59, 60, 55, 61] (by decide +kernel) (by decide +kernel)
set_option maxRecDepth 20000 in
theorem gp_ggL_isSo_L_arePoses_wsL_arePoses_r4 : GoodIn wsL_isSo wsL_arePoses_r4 := goodIn_r _ [62, 63, 64, 65, 151, 152, 153, 154, 155, 156, 57, 157, 158, 92, 93, 94, 159, 160, 161, 162, 163, 164, 165, 166] (by decide +kernel) (by decide +kernel)
set_option maxRecDepth 20000 in
theorem gp_ggL_isSo_L_arePoses_wsL_arePoses_r5 : GoodIn wsL_isSo wsL_arePoses_r5 := goodIn_r _ [167, 168, 169, 69, 170, 82, 171, 84, 172, 71, 173, 174, 175, 176, 177, 178, 19, 179, 180, 181, 182, 183, 184, 185] (by decide +kernel) (by decide +kernel)
set_option maxRecDepth 20000 in
theorem gp_ggL_isSo_L_arePoses_wsL_arePoses_r6 : GoodIn wsL_isSo wsL_arePoses_r6 := goodIn_r _ [186, 187, 188, 189, 190, 191, 192, 193, 194, 195, 196, 197, 41, 198, 199, 200, 201, 202, 203, 204, 205, 56, 206, 207] (by decide +kernel) (by decide +kernel)
set_option maxRecDepth 20000 in
theorem gp_ggL_isSo_L_arePoses_wsL_arePoses_r7 : GoodIn wsL_isSo wsL_arePoses_r7 := goodIn_r _ [208, 209, 210, 211, 212, 213, 214, 215, 216, 217, 218, 79, 80, 219, 51, 52, 54, 220, 26, 27, 28, 29, 30, 31] (by decide +kernel) (by decide +kernel)
set_option maxRecDepth 20000 in
theorem gp_ggL_isSo_L_arePoses_wsL_arePoses_r8 : GoodIn wsL_isSo wsL_arePoses_r8 := goodIn_r _ [32, 33, 35, 36, 37, 38, 39, 40, 42, 43, 44, 18, 45, 46, 47, 48, 49, 50, 66, 67, 68, 70, 72, 73] (by decide +kernel) (by decide +kernel)
set_option maxRecDepth 20000 in
theorem gp_ggL_isSo_L_arePoses_wsL_arePoses_r9 : GoodIn wsL_isSo wsL_arePoses_r9 := goodIn_r _ [74, 75, 76, 77, 78, 81, 83, 85, 90, 91, 95, 96, 97, 98, 99, 100] (by decide +kernel) (by decide +kernel)
set_option maxRecDepth 20000 in
theorem gp_ggL_isSo_L_arePoses_wsX50 : GoodIn wsL_isSo wsX50 := goodIn_r _ [225, 226, 227, 228, 229, 230] (by decide +kernel) (by decide +kernel)
set_option maxRecDepth 20000 in
theorem gp_ggL_isSo_L_arePoses_wsX30 : GoodIn wsL_isSo wsX30 := goodIn_r _ [231, 232, 233, 234, 235, 236, 237] (by decide +kernel) (by decide +kernel)
set_option maxRecDepth 20000 in
theorem gp_ggL_isSo_L_arePoses_wsX10 : GoodIn wsL_isSo wsX10 := goodIn_r _ [238, 239] (by decide +kernel) (by decide +kernel)
set_option maxRecDepth 20000 in
theorem gp_ggL_isSo_L_arePoses_wsX40 : GoodIn wsL_isSo wsX40 := goodIn_r _ [240, 241, 242, 243, 244, 245, 246, 247, 248, 249, 250] (by decide +kernel) (by decide +kernel)
set_option maxRecDepth 20000 in
theorem gp_ggL_isSo_L_arePoses_wsX20 : GoodIn wsL_isSo wsX20 := goodIn_r _ [251, 252, 253] (by decide +kernel) (by decide +kernel)
set_option maxRecDepth 20000 in
theorem gp_ggL_isSo_L_arePoses_h : GoodIn wsL_isSo [.code yL_arePoses cL_arePoses 14 (some .boolean)] := goodIn_r _ [110] (by decide +kernel) (by decide +kernel)
set_option maxRecDepth 20000 in
theorem ggL_isSo_L_arePoses : GoodIn wsL_isSo wsL_arePoses := goodIn_ca (goodIn_ca (goodIn_app (a := [.code yL_arePoses cL_arePoses 14 (some .boolean)]) gp_ggL_isSo_L_arePoses_h (goodIn_app (goodIn_app (goodIn_app (goodIn_app (goodIn_app (goodIn_app gp_ggL_isSo_L_arePoses_wsL_arePoses_r1 (goodIn_app gp_ggL_isSo_L_arePoses_wsL_arePoses_r2 (goodIn_app gp_ggL_isSo_L_arePoses_wsL_arePoses_r3 (goodIn_app gp_ggL_isSo_L_arePoses_wsL_arePoses_r4 (goodIn_app gp_ggL_isSo_L_arePoses_wsL_arePoses_r5 (goodIn_app gp_ggL_isSo_L_arePoses_wsL_arePoses_r6 (goodIn_app gp_ggL_isSo_L_arePoses_wsL_arePoses_r7 (goodIn_app gp_ggL_isSo_L_arePoses_wsL_arePoses_r8 gp_ggL_isSo_L_arePoses_wsL_arePoses_r9)))))))) gp_ggL_isSo_L_arePoses_wsX50) gp_ggL_isSo_L_arePoses_wsX30) gp_ggL_isSo_L_arePoses_wsX10) gp_ggL_isSo_L_arePoses_wsX40) gp_ggL_isSo_L_arePoses_wsX20)) (goodIn_sub (fun _ h => List.mem_cons_of_mem _ (List.mem_append_right _ h)) (by decide +kernel))) (goodIn_sub (fun _ h => List.mem_cons_of_mem _ (List.mem_append_left _ (List.mem_append_right _ h))) (by decide +kernel))
