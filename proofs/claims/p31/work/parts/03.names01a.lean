theorem in_ps {big : List Cond} (ws : List Cond) (ps : List Nat) (hp : ws = ps.filterMap (fun i => big[i]?)) : ∀ w ∈ ws, w ∈ big := by
  intro w hw
  rw [hp] at hw
  obtain ⟨i, -, hi⟩ := List.mem_filterMap.mp hw
  exact List.mem_of_getElem? hi
set_option maxRecDepth 20000 in
theorem in_wsL_law0_r1 : ∀ w ∈ wsL_law0_r1, w ∈ lw_tbl := in_ps _ [22, 23, 8, 101, 24, 25, 26, 27, 28, 29, 30, 31, 9, 203, 204, 147, 148, 12, 205, 167, 168, 13, 206, 201] (by decide +kernel)
set_option maxRecDepth 20000 in
theorem in_wsL_law0_r2 : ∀ w ∈ wsL_law0_r2, w ∈ lw_tbl := in_ps _ [37, 10, 207, 208, 33, 34, 35, 36, 121, 102, 103, 11, 123, 117, 119, 45, 46, 47, 48, 120, 125, 127, 129, 130] (by decide +kernel)
set_option maxRecDepth 20000 in
theorem in_wsL_law0_r3 : ∀ w ∈ wsL_law0_r3, w ∈ lw_tbl := in_ps _ [131, 39, 40, 41, 42, 44, 50, 51, 52, 54, 56, 59, 62, 64, 68, 72, 74, 76, 105, 106, 107, 108, 109, 149] (by decide +kernel)
set_option maxRecDepth 20000 in
theorem in_wsL_law0_r4 : ∀ w ∈ wsL_law0_r4, w ∈ lw_tbl := in_ps _ [150, 151, 152, 153, 156, 157, 158, 170, 171, 172, 173, 174, 175, 176, 177, 178, 179, 180, 181, 519, 520, 7, 521, 552] (by decide +kernel)
set_option maxRecDepth 20000 in
theorem in_wsL_law0_r5 : ∀ w ∈ wsL_law0_r5, w ∈ lw_tbl := in_ps _ [447, 448, 449, 450, 373, 17, 370, 371, 372, 452, 454, 2, 455, 124, 111, 439, 398, 399, 400, 522, 523, 524, 525, 526] (by decide +kernel)
