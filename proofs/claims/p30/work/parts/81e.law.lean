set_option maxRecDepth 20000 in
theorem gr_scripts_1 : ∀ w ∈ wsL_scripts_r1, w ∈ wsL_law := mem_fm [732, 733, 734, 3, 735, 736, 737, 738, 739, 740, 741, 742, 743, 744, 745, 746, 747, 748, 749, 750, 751, 752, 753, 754] (by decide +kernel)
set_option maxRecDepth 20000 in
theorem gr_scripts_2 : ∀ w ∈ wsL_scripts_r2, w ∈ wsL_law := mem_fm [755, 756, 757, 153, 154, 155, 156, 157, 158, 159, 160, 161, 2, 162, 163, 164, 19, 165, 166, 167, 17, 168, 40, 44] (by decide +kernel)
set_option maxRecDepth 20000 in
theorem gr_scripts_3 : ∀ w ∈ wsL_scripts_r3, w ∈ wsL_law := mem_fm [169, 48, 52, 56, 170, 171, 172, 43, 173, 71, 72, 73, 74, 174, 175, 176, 177, 178, 179, 180, 181, 182, 47, 183] (by decide +kernel)
set_option maxRecDepth 20000 in
theorem gr_scripts_4 : ∀ w ∈ wsL_scripts_r4, w ∈ wsL_law := mem_fm [184, 185, 186, 187, 188, 79, 80, 78, 82, 189, 190, 191, 192, 193, 194, 195, 196, 197, 198, 199, 200, 201, 616, 617] (by decide +kernel)
set_option maxRecDepth 20000 in
theorem gr_scripts_5 : ∀ w ∈ wsL_scripts_r5, w ∈ wsL_law := mem_fm [618, 619, 620, 621, 622, 20, 623, 624, 625, 547, 223, 224, 225, 226, 227, 228, 39, 229, 60, 61, 62, 63, 64, 65] (by decide +kernel)
set_option maxRecDepth 20000 in
theorem gr_scripts_6 : ∀ w ∈ wsL_scripts_r6, w ∈ wsL_law := mem_fm [67, 230, 231, 232, 233, 234, 235, 236, 237, 238, 239, 240, 241, 242, 243, 244, 245, 246, 247, 248, 81, 249, 250, 251] (by decide +kernel)
set_option maxRecDepth 20000 in
theorem gr_scripts_7 : ∀ w ∈ wsL_scripts_r7, w ∈ wsL_law := mem_fm [252, 253, 254, 255, 51, 256, 257, 86, 258, 259, 260, 261, 55, 262, 90, 263, 264, 265, 266, 267, 268, 440, 441, 442] (by decide +kernel)
set_option maxRecDepth 20000 in
theorem gr_scripts_8 : ∀ w ∈ wsL_scripts_r8, w ∈ wsL_law := mem_fm [443, 438, 439, 444, 361, 362, 363, 346, 347, 326, 327, 328, 329, 316, 317, 330, 331, 332, 333, 334, 335, 336, 337, 338] (by decide +kernel)
set_option maxRecDepth 20000 in
theorem gr_scripts_9 : ∀ w ∈ wsL_scripts_r9, w ∈ wsL_law := mem_fm [339, 340, 341, 342, 343, 344, 345, 348, 349, 350, 351, 352, 353, 354, 355, 356, 357, 358, 359, 360, 364, 365, 366, 367] (by decide +kernel)
set_option maxRecDepth 20000 in
theorem gr_scripts_10 : ∀ w ∈ wsL_scripts_r10, w ∈ wsL_law := mem_fm [368, 369, 370, 371, 372, 373, 374, 375, 376, 377, 378, 379, 380, 381, 382, 383, 384, 385, 571, 587, 588, 589, 590, 591] (by decide +kernel)
set_option maxRecDepth 20000 in
theorem gr_scripts_11 : ∀ w ∈ wsL_scripts_r11, w ∈ wsL_law := mem_fm [592, 593, 594, 552, 595, 596, 597, 598, 599, 600, 601, 602, 603, 604, 397, 398, 399, 394, 395, 400, 401, 402, 403, 404] (by decide +kernel)
set_option maxRecDepth 20000 in
theorem gr_scripts_12 : ∀ w ∈ wsL_scripts_r12, w ∈ wsL_law := mem_fm [405, 406, 407, 605, 606, 607, 608, 609, 610, 611, 612, 423, 424, 425, 416, 417, 418, 419, 420, 426, 427, 428, 429, 613] (by decide +kernel)
set_option maxRecDepth 20000 in
theorem gr_scripts_13 : ∀ w ∈ wsL_scripts_r13, w ∈ wsL_law := mem_fm [468, 469, 470, 461, 462, 471, 464, 465, 466, 472, 473, 474, 475, 476, 477, 478, 479, 480, 481, 482, 483, 484, 485, 486] (by decide +kernel)
set_option maxRecDepth 20000 in
theorem gr_scripts_14 : ∀ w ∈ wsL_scripts_r14, w ∈ wsL_law := mem_fm [487, 488, 489, 490, 491, 492, 493, 494, 495, 496, 497, 498, 499, 500, 501, 502, 614, 511, 512, 513, 514, 515, 516, 517] (by decide +kernel)
set_option maxRecDepth 20000 in
theorem gr_scripts_15 : ∀ w ∈ wsL_scripts_r15, w ∈ wsL_law := mem_fm [615] (by decide +kernel)
theorem gA_scripts : ∀ w ∈ ((wsL_scripts_r1 ++ (wsL_scripts_r2 ++ (wsL_scripts_r3 ++ (wsL_scripts_r4 ++ (wsL_scripts_r5 ++ (wsL_scripts_r6 ++ (wsL_scripts_r7 ++ (wsL_scripts_r8 ++ (wsL_scripts_r9 ++ (wsL_scripts_r10 ++ (wsL_scripts_r11 ++ (wsL_scripts_r12 ++ (wsL_scripts_r13 ++ (wsL_scripts_r14 ++ wsL_scripts_r15)))))))))))))) ++ wsX110 ++ wsX70 ++ wsX30 ++ wsX10 ++ wsX80 ++ wsX100 ++ wsX00), w ∈ wsL_law := List.forall_mem_append.mpr ⟨List.forall_mem_append.mpr ⟨List.forall_mem_append.mpr ⟨List.forall_mem_append.mpr ⟨List.forall_mem_append.mpr ⟨List.forall_mem_append.mpr ⟨List.forall_mem_append.mpr ⟨List.forall_mem_append.mpr ⟨gr_scripts_1, List.forall_mem_append.mpr ⟨gr_scripts_2, List.forall_mem_append.mpr ⟨gr_scripts_3, List.forall_mem_append.mpr ⟨gr_scripts_4, List.forall_mem_append.mpr ⟨gr_scripts_5, List.forall_mem_append.mpr ⟨gr_scripts_6, List.forall_mem_append.mpr ⟨gr_scripts_7, List.forall_mem_append.mpr ⟨gr_scripts_8, List.forall_mem_append.mpr ⟨gr_scripts_9, List.forall_mem_append.mpr ⟨gr_scripts_10, List.forall_mem_append.mpr ⟨gr_scripts_11, List.forall_mem_append.mpr ⟨gr_scripts_12, List.forall_mem_append.mpr ⟨gr_scripts_13, List.forall_mem_append.mpr ⟨gr_scripts_14, gr_scripts_15⟩⟩⟩⟩⟩⟩⟩⟩⟩⟩⟩⟩⟩⟩, inlX11⟩, inlX7⟩, inlX3⟩, inlX1⟩, inlX8⟩, inlX10⟩, inlX0⟩
set_option maxRecDepth 20000 in
theorem ggL_law_L_scripts : GoodIn wsL_law wsL_scripts := goodIn_ca (goodIn_sub (List.forall_mem_cons.mpr ⟨cm_scripts, gA_scripts⟩) (by decide +kernel)) (goodIn_sub (fun _ h => List.mem_append_left _ (List.mem_append_left _ (List.mem_append_right _ h))) (by decide +kernel))
set_option maxRecDepth 20000 in
theorem gL_law_L_scripts : GoodIn wsL_law (va_wsS RL 279 yL_scripts wsL_scripts) := goodIn_app (goodIn_of _ (by decide +kernel)) ggL_law_L_scripts
