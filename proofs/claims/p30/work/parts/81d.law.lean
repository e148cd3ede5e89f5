set_option maxRecDepth 20000 in
theorem gr_act_1 : ∀ w ∈ wsL_act_r1, w ∈ wsL_law := mem_fm [153, 154, 155, 156, 157, 158, 159, 160, 161, 2, 162, 163, 164, 19, 165, 166, 167, 17, 168, 40, 44, 169, 48, 52] (by decide +kernel)
set_option maxRecDepth 20000 in
theorem gr_act_2 : ∀ w ∈ wsL_act_r2, w ∈ wsL_law := mem_fm [56, 170, 171, 172, 43, 173, 71, 72, 73, 74, 174, 175, 176, 177, 178, 179, 180, 181, 182, 47, 183, 184, 185, 186] (by decide +kernel)
set_option maxRecDepth 20000 in
theorem gr_act_3 : ∀ w ∈ wsL_act_r3, w ∈ wsL_law := mem_fm [187, 188, 79, 80, 78, 82, 189, 190, 191, 192, 193, 194, 195, 196, 197, 198, 199, 200, 201, 308, 309, 310, 311, 312] (by decide +kernel)
set_option maxRecDepth 20000 in
theorem gr_act_4 : ∀ w ∈ wsL_act_r4, w ∈ wsL_law := mem_fm [313, 314, 24, 315, 316, 317, 318, 319, 320, 23, 321, 221, 96, 322, 323, 324, 325, 222, 223, 224, 225, 226, 227, 228] (by decide +kernel)
set_option maxRecDepth 20000 in
theorem gr_act_5 : ∀ w ∈ wsL_act_r5, w ∈ wsL_law := mem_fm [39, 229, 60, 61, 62, 63, 64, 65, 67, 230, 231, 232, 233, 234, 235, 236, 237, 238, 239, 240, 241, 242, 243, 244] (by decide +kernel)
set_option maxRecDepth 20000 in
theorem gr_act_6 : ∀ w ∈ wsL_act_r6, w ∈ wsL_law := mem_fm [245, 246, 247, 248, 81, 249, 250, 251, 252, 253, 254, 255, 51, 256, 257, 86, 258, 259, 260, 261, 55, 262, 90, 263] (by decide +kernel)
set_option maxRecDepth 20000 in
theorem gr_act_7 : ∀ w ∈ wsL_act_r7, w ∈ wsL_law := mem_fm [264, 265, 266, 267, 268, 326, 327, 328, 329, 330, 331, 332, 333, 334, 335, 336, 337, 338, 339, 340, 341, 342, 343, 344] (by decide +kernel)
set_option maxRecDepth 20000 in
theorem gr_act_8 : ∀ w ∈ wsL_act_r8, w ∈ wsL_law := mem_fm [345, 346, 347, 348, 349, 350, 351, 352, 353, 354, 355, 356, 357, 358, 359, 360, 361, 362, 363, 364, 365, 366, 367, 368] (by decide +kernel)
set_option maxRecDepth 20000 in
theorem gr_act_9 : ∀ w ∈ wsL_act_r9, w ∈ wsL_law := mem_fm [369, 370, 371, 372, 373, 374, 375, 376, 377, 378, 379, 380, 381, 382, 383, 384, 385, 386, 387, 388, 389, 390, 391, 392] (by decide +kernel)
set_option maxRecDepth 20000 in
theorem gr_act_10 : ∀ w ∈ wsL_act_r10, w ∈ wsL_law := mem_fm [393, 394, 395, 396, 397, 398, 399, 400, 401, 402, 403, 404, 405, 406, 407, 408, 409, 410, 411, 412, 413, 414, 415, 416] (by decide +kernel)
set_option maxRecDepth 20000 in
theorem gr_act_11 : ∀ w ∈ wsL_act_r11, w ∈ wsL_law := mem_fm [417, 418, 419, 420, 421, 422, 423, 424, 425, 426, 427, 428, 429, 430, 431, 432, 433, 434, 435, 436, 437, 438, 439, 440] (by decide +kernel)
set_option maxRecDepth 20000 in
theorem gr_act_12 : ∀ w ∈ wsL_act_r12, w ∈ wsL_law := mem_fm [441, 442, 443, 444, 445, 446, 447, 277, 272, 448, 449, 450, 451, 282, 283, 284, 285, 286, 287, 292, 293, 294, 295, 296] (by decide +kernel)
set_option maxRecDepth 20000 in
theorem gr_act_13 : ∀ w ∈ wsL_act_r13, w ∈ wsL_law := mem_fm [452, 453, 454, 455, 210, 4, 456, 457, 458, 459, 215, 216, 460, 461, 462, 463, 464, 465, 466, 467, 468, 469, 470, 471] (by decide +kernel)
set_option maxRecDepth 20000 in
theorem gr_act_14 : ∀ w ∈ wsL_act_r14, w ∈ wsL_law := mem_fm [472, 473, 474, 475, 476, 477, 478, 479, 480, 481, 482, 483, 484, 485, 486, 487, 488, 489, 490, 491, 492, 493, 494, 495] (by decide +kernel)
set_option maxRecDepth 20000 in
theorem gr_act_15 : ∀ w ∈ wsL_act_r15, w ∈ wsL_law := mem_fm [496, 497, 498, 499, 500, 501, 502, 503, 504, 505, 506, 507, 508, 509, 510, 511, 512, 513, 514, 515, 516, 517, 725, 726] (by decide +kernel)
set_option maxRecDepth 20000 in
theorem gr_act_16 : ∀ w ∈ wsL_act_r16, w ∈ wsL_law := mem_fm [727, 728, 207, 208, 209, 211, 212, 213, 214, 217, 218, 219, 220, 626, 627, 628, 629, 630, 631, 632, 28, 633, 634, 635] (by decide +kernel)
set_option maxRecDepth 20000 in
theorem gr_act_17 : ∀ w ∈ wsL_act_r17, w ∈ wsL_law := mem_fm [636, 637, 638, 27, 639, 102, 104, 640, 641, 642, 643, 644, 645, 646, 647, 648, 649, 650, 651, 652, 653, 654, 655, 656] (by decide +kernel)
set_option maxRecDepth 20000 in
theorem gr_act_18 : ∀ w ∈ wsL_act_r18, w ∈ wsL_law := mem_fm [657, 658, 659, 660] (by decide +kernel)
theorem gA_act : ∀ w ∈ ((wsL_act_r1 ++ (wsL_act_r2 ++ (wsL_act_r3 ++ (wsL_act_r4 ++ (wsL_act_r5 ++ (wsL_act_r6 ++ (wsL_act_r7 ++ (wsL_act_r8 ++ (wsL_act_r9 ++ (wsL_act_r10 ++ (wsL_act_r11 ++ (wsL_act_r12 ++ (wsL_act_r13 ++ (wsL_act_r14 ++ (wsL_act_r15 ++ (wsL_act_r16 ++ (wsL_act_r17 ++ wsL_act_r18))))))))))))))))) ++ wsX110 ++ wsX70 ++ wsX30 ++ wsX10 ++ wsX80 ++ wsX100 ++ wsX00 ++ wsX20 ++ wsX60), w ∈ wsL_law := List.forall_mem_append.mpr ⟨List.forall_mem_append.mpr ⟨List.forall_mem_append.mpr ⟨List.forall_mem_append.mpr ⟨List.forall_mem_append.mpr ⟨List.forall_mem_append.mpr ⟨List.forall_mem_append.mpr ⟨List.forall_mem_append.mpr ⟨List.forall_mem_append.mpr ⟨List.forall_mem_append.mpr ⟨gr_act_1, List.forall_mem_append.mpr ⟨gr_act_2, List.forall_mem_append.mpr ⟨gr_act_3, List.forall_mem_append.mpr ⟨gr_act_4, List.forall_mem_append.mpr ⟨gr_act_5, List.forall_mem_append.mpr ⟨gr_act_6, List.forall_mem_append.mpr ⟨gr_act_7, List.forall_mem_append.mpr ⟨gr_act_8, List.forall_mem_append.mpr ⟨gr_act_9, List.forall_mem_append.mpr ⟨gr_act_10, List.forall_mem_append.mpr ⟨gr_act_11, List.forall_mem_append.mpr ⟨gr_act_12, List.forall_mem_append.mpr ⟨gr_act_13, List.forall_mem_append.mpr ⟨gr_act_14, List.forall_mem_append.mpr ⟨gr_act_15, List.forall_mem_append.mpr ⟨gr_act_16, List.forall_mem_append.mpr ⟨gr_act_17, gr_act_18⟩⟩⟩⟩⟩⟩⟩⟩⟩⟩⟩⟩⟩⟩⟩⟩⟩, inlX11⟩, inlX7⟩, inlX3⟩, inlX1⟩, inlX8⟩, inlX10⟩, inlX0⟩, inlX2⟩, inlX6⟩
set_option maxRecDepth 20000 in
theorem ggL_law_L_act : GoodIn wsL_law wsL_act := goodIn_ca (goodIn_ca (goodIn_ca (goodIn_sub (List.forall_mem_cons.mpr ⟨cm_act, gA_act⟩) (by decide +kernel)) (goodIn_sub (fun _ h => List.mem_append_left _ (List.mem_append_left _ (List.mem_append_right _ h))) (by decide +kernel))) (goodIn_sub (fun _ h => List.mem_append_right _ h) (by decide +kernel))) (goodIn_sub (fun _ h => List.mem_append_left _ (List.mem_append_right _ h)) (by decide +kernel))
set_option maxRecDepth 20000 in
theorem gL_law_L_act : GoodIn wsL_law (va_wsS RL 276 yL_act wsL_act) := goodIn_app (goodIn_of _ (by decide +kernel)) ggL_law_L_act
