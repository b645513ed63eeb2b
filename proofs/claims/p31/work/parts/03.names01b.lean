set_option maxRecDepth 20000 in
theorem in_wsL_law0_r6 : ∀ w ∈ wsL_law0_r6, w ∈ lw_tbl := in_ps _ [528, 5, 529, 122, 71, 58, 53, 55, 61, 63, 67, 73, 531, 75, 128, 77, 126, 159, 530, 503, 504, 505, 417, 407] (by decide +kernel)
set_option maxRecDepth 20000 in
theorem in_wsL_law0_r7 : ∀ w ∈ wsL_law0_r7, w ∈ lw_tbl := in_ps _ [408, 409, 410, 411, 18, 412, 532, 533, 534, 535, 536, 537, 538, 539, 540, 541, 544, 336, 337, 545, 70, 542, 394, 395] (by decide +kernel)
set_option maxRecDepth 20000 in
theorem in_wsL_law0_r8 : ∀ w ∈ wsL_law0_r8, w ∈ lw_tbl := in_ps _ [396, 397, 543, 546, 420, 18, 421, 547, 548, 549, 550, 110, 551, 472, 473, 474, 475, 476, 477, 553, 554, 555, 556, 557] (by decide +kernel)
set_option maxRecDepth 20000 in
theorem in_wsL_law0_r9 : ∀ w ∈ wsL_law0_r9, w ∈ lw_tbl := in_ps _ [558, 459, 460, 461, 469, 470, 471, 478, 479, 480, 481, 482, 483, 484, 344, 345, 346, 347, 348, 349, 350, 354, 19, 351] (by decide +kernel)
set_option maxRecDepth 20000 in
theorem in_wsL_law0_r10 : ∀ w ∈ wsL_law0_r10, w ∈ lw_tbl := in_ps _ [352, 353, 389, 391, 1, 392, 393, 401, 402, 403, 404, 406, 413, 414, 415, 416, 418, 419, 422, 423, 424, 425, 426, 427] (by decide +kernel)
