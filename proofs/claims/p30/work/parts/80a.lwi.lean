theorem mem_fm {big ws : List Cond} (ps : List Nat) (hp : ws = ps.filterMap (fun i => big[i]?)) : ∀ w ∈ ws, w ∈ big := fun w hw => by
  rw [hp] at hw
  obtain ⟨i, -, hi⟩ := List.mem_filterMap.mp hw
  exact List.mem_of_getElem? hi
set_option maxRecDepth 20000 in
theorem lwi_1 : ∀ w ∈ wsL_law0_r1, w ∈ lw_tbl := mem_fm [39, 40, 18, 668, 576, 41, 42, 43, 44, 45, 46, 47, 48, 19, 348, 92, 93, 20, 349, 350, 351, 315, 316, 26] (by decide +kernel)
set_option maxRecDepth 20000 in
theorem lwi_2 : ∀ w ∈ wsL_law0_r2, w ∈ lw_tbl := mem_fm [352, 332, 333, 27, 353, 50, 51, 52, 91, 53, 95, 96, 97, 98, 99, 21, 288, 144, 145, 22, 292, 202, 203, 23] (by decide +kernel)
set_option maxRecDepth 20000 in
theorem lwi_3 : ∀ w ∈ wsL_law0_r3, w ∈ lw_tbl := mem_fm [295, 241, 242, 24, 297, 257, 258, 25, 300, 101, 102, 103, 104, 107, 110, 113, 116, 119, 143, 124, 147, 148, 149, 150] (by decide +kernel)
set_option maxRecDepth 20000 in
theorem lwi_4 : ∀ w ∈ wsL_law0_r4, w ∈ lw_tbl := mem_fm [153, 155, 159, 205, 206, 207, 211, 212, 213, 214, 215, 244, 245, 246, 251, 260, 261, 262, 263, 317, 318, 319, 320, 321] (by decide +kernel)
set_option maxRecDepth 20000 in
theorem lwi_5 : ∀ w ∈ wsL_law0_r5, w ∈ lw_tbl := mem_fm [324, 334, 335, 336, 337, 338, 340, 347, 341, 367, 368, 369, 370, 371, 372, 373, 374, 56, 61, 62, 63, 64, 54, 403] (by decide +kernel)
set_option maxRecDepth 20000 in
theorem lwi_6 : ∀ w ∈ wsL_law0_r6, w ∈ lw_tbl := mem_fm [375, 377, 0, 378, 57, 58, 59, 60, 379, 381, 1, 382, 383, 385, 2, 386, 387, 389, 3, 390, 391, 393, 4, 394] (by decide +kernel)
set_option maxRecDepth 20000 in
theorem lwi_7 : ∀ w ∈ wsL_law0_r7, w ∈ lw_tbl := mem_fm [395, 397, 5, 398, 399, 401, 6, 402, 65, 413, 414, 17, 415, 416, 517, 417, 418, 419, 420, 421, 31, 489, 490, 491] (by decide +kernel)
set_option maxRecDepth 20000 in
theorem lwi_8 : ∀ w ∈ wsL_law0_r8, w ∈ lw_tbl := mem_fm [492, 286, 493, 494, 495, 496, 163, 166, 497, 498, 499, 500, 501, 502, 503, 504, 505, 409, 410, 411, 208, 412, 506, 508] (by decide +kernel)
