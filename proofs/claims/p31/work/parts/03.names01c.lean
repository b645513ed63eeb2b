set_option maxRecDepth 20000 in
theorem in_wsL_law0_r11 : ∀ w ∈ wsL_law0_r11, w ∈ lw_tbl := in_ps _ [428, 429, 430, 431, 432, 57, 60, 433, 434, 435, 436, 437, 438, 440, 441, 442, 443, 559, 560, 561, 562, 563, 564, 565] (by decide +kernel)
set_option maxRecDepth 20000 in
theorem in_wsL_law0_r12 : ∀ w ∈ wsL_law0_r12, w ∈ lw_tbl := in_ps _ [566, 567, 568, 569, 571, 6, 572, 493, 311, 312, 313, 314, 316, 315, 20, 494, 495, 496, 497, 498, 500, 4, 501, 507] (by decide +kernel)
set_option maxRecDepth 20000 in
theorem in_wsL_law0_r13 : ∀ w ∈ wsL_law0_r13, w ∈ lw_tbl := in_ps _ [502, 506, 573, 574, 575, 576, 456, 457, 458, 462, 463, 464, 465, 466, 467, 468, 485, 486, 487, 488, 489, 491, 3, 492] (by decide +kernel)
set_option maxRecDepth 20000 in
theorem in_wsL_law0_r14 : ∀ w ∈ wsL_law0_r14, w ∈ lw_tbl := in_ps _ [508, 509, 510, 511, 512, 513, 514, 515, 516, 517, 518, 226, 227, 228, 229, 230, 231, 232, 233, 234, 21, 302, 303, 304] (by decide +kernel)
set_option maxRecDepth 20000 in
theorem in_wsL_law0_r15 : ∀ w ∈ wsL_law0_r15, w ∈ lw_tbl := in_ps _ [305, 306, 307, 308, 309, 322, 310, 317, 318, 319, 320, 321, 323, 324, 325, 326, 327, 328, 329, 331, 332, 333, 334, 335] (by decide +kernel)
