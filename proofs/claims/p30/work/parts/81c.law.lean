set_option maxRecDepth 20000 in
theorem gr_refuses_1 : ∀ w ∈ wsL_refuses_r1, w ∈ wsL_law := mem_fm [158, 272, 4, 273, 153, 154, 155, 156, 157, 159, 160, 161, 2, 162, 163, 164, 19, 165, 166, 167, 17, 168, 40, 44] (by decide +kernel)
set_option maxRecDepth 20000 in
theorem gr_refuses_2 : ∀ w ∈ wsL_refuses_r2, w ∈ wsL_law := mem_fm [169, 48, 52, 56, 170, 171, 172, 43, 173, 71, 72, 73, 74, 174, 175, 176, 177, 178, 179, 180, 181, 182, 47, 183] (by decide +kernel)
set_option maxRecDepth 20000 in
theorem gr_refuses_3 : ∀ w ∈ wsL_refuses_r3, w ∈ wsL_law := mem_fm [184, 185, 186, 187, 188, 79, 80, 78, 82, 189, 190, 191, 192, 193, 194, 195, 196, 197, 198, 199, 200, 201, 274, 275] (by decide +kernel)
set_option maxRecDepth 20000 in
theorem gr_refuses_4 : ∀ w ∈ wsL_refuses_r4, w ∈ wsL_law := mem_fm [276, 277, 278, 279, 280, 281, 282, 283, 284, 285, 286, 287, 288, 289, 290, 291, 292, 293, 294, 295, 81, 296, 297, 298] (by decide +kernel)
set_option maxRecDepth 20000 in
theorem gr_refuses_5 : ∀ w ∈ wsL_refuses_r5, w ∈ wsL_law := mem_fm [299, 300, 301, 302, 303, 304, 305, 306, 55, 307, 90, 265, 266, 267, 268, 308, 309, 310, 311, 312, 313, 314, 24, 315] (by decide +kernel)
set_option maxRecDepth 20000 in
theorem gr_refuses_6 : ∀ w ∈ wsL_refuses_r6, w ∈ wsL_law := mem_fm [316, 317, 318, 319, 320, 23, 321, 221, 96, 322, 323, 324, 325, 222, 223, 224, 225, 226, 227, 228, 39, 229, 60, 61] (by decide +kernel)
set_option maxRecDepth 20000 in
theorem gr_refuses_7 : ∀ w ∈ wsL_refuses_r7, w ∈ wsL_law := mem_fm [62, 63, 64, 65, 67, 230, 231, 232, 233, 234, 235, 236, 237, 238, 239, 240, 241, 242, 243, 244, 245, 246, 247, 248] (by decide +kernel)
set_option maxRecDepth 20000 in
theorem gr_refuses_8 : ∀ w ∈ wsL_refuses_r8, w ∈ wsL_law := mem_fm [249, 250, 251, 252, 253, 254, 255, 51, 256, 257, 86, 258, 259, 260, 261, 262, 263, 264, 326, 327, 328, 329, 330, 331] (by decide +kernel)
set_option maxRecDepth 20000 in
theorem gr_refuses_9 : ∀ w ∈ wsL_refuses_r9, w ∈ wsL_law := mem_fm [332, 333, 334, 335, 336, 337, 338, 339, 340, 341, 342, 343, 344, 345, 346, 347, 348, 349, 350, 351, 352, 353, 354, 355] (by decide +kernel)
set_option maxRecDepth 20000 in
theorem gr_refuses_10 : ∀ w ∈ wsL_refuses_r10, w ∈ wsL_law := mem_fm [356, 357, 358, 359, 360, 361, 362, 363, 364, 365, 366, 367, 368, 369, 370, 371, 372, 373, 374, 375, 376, 377, 378, 379] (by decide +kernel)
set_option maxRecDepth 20000 in
theorem gr_refuses_11 : ∀ w ∈ wsL_refuses_r11, w ∈ wsL_law := mem_fm [380, 381, 382, 383, 384, 385, 386, 387, 388, 389, 390, 391, 392, 393, 394, 395, 396, 397, 398, 399, 400, 401, 402, 403] (by decide +kernel)
set_option maxRecDepth 20000 in
theorem gr_refuses_12 : ∀ w ∈ wsL_refuses_r12, w ∈ wsL_law := mem_fm [404, 405, 406, 407, 408, 409, 410, 411, 412, 413, 414, 415, 416, 417, 418, 419, 420, 421, 422, 423, 424, 425, 426, 427] (by decide +kernel)
set_option maxRecDepth 20000 in
theorem gr_refuses_13 : ∀ w ∈ wsL_refuses_r13, w ∈ wsL_law := mem_fm [428, 429, 430, 431, 432, 433, 434, 435, 436, 437, 438, 439, 440, 441, 442, 443, 444, 445, 446, 447, 448, 449, 450, 451] (by decide +kernel)
set_option maxRecDepth 20000 in
theorem gr_refuses_14 : ∀ w ∈ wsL_refuses_r14, w ∈ wsL_law := mem_fm [452, 453, 454, 455, 210, 456, 457, 458, 459, 215, 216, 460, 461, 462, 463, 464, 465, 466, 467, 468, 469, 470, 471, 472] (by decide +kernel)
set_option maxRecDepth 20000 in
theorem gr_refuses_15 : ∀ w ∈ wsL_refuses_r15, w ∈ wsL_law := mem_fm [473, 474, 475, 476, 477, 478, 479, 480, 481, 482, 483, 484, 485, 486, 487, 488, 489, 490, 491, 492, 493, 494, 495, 496] (by decide +kernel)
set_option maxRecDepth 20000 in
theorem gr_refuses_16 : ∀ w ∈ wsL_refuses_r16, w ∈ wsL_law := mem_fm [497, 498, 499, 500, 501, 502, 503, 504, 505, 506, 507, 508, 509, 510, 511, 512, 513, 514, 515, 516, 517, 518, 519, 520] (by decide +kernel)
set_option maxRecDepth 20000 in
theorem gr_refuses_17 : ∀ w ∈ wsL_refuses_r17, w ∈ wsL_law := mem_fm [521, 522, 523, 524, 525, 526, 527, 528, 529, 530, 531, 532, 533, 534, 535, 536, 537, 538, 539, 540, 541, 542, 543, 20] (by decide +kernel)
set_option maxRecDepth 20000 in
theorem gr_refuses_18 : ∀ w ∈ wsL_refuses_r18, w ∈ wsL_law := mem_fm [544, 545, 546, 547, 548, 549, 550, 551, 552, 553, 554, 555, 556, 557, 558, 559, 560, 561, 562, 563, 564, 565, 566, 567] (by decide +kernel)
set_option maxRecDepth 20000 in
theorem gr_refuses_19 : ∀ w ∈ wsL_refuses_r19, w ∈ wsL_law := mem_fm [568, 569, 570, 571, 572, 573, 574, 575, 576, 577, 578, 579, 580, 581, 582, 583, 584, 585, 586, 587, 588, 589, 590, 591] (by decide +kernel)
set_option maxRecDepth 20000 in
theorem gr_refuses_20 : ∀ w ∈ wsL_refuses_r20, w ∈ wsL_law := mem_fm [592, 593, 594, 595, 596, 597, 598, 599, 600, 601, 602, 603, 604, 605, 606, 607, 608, 609, 610, 611, 612, 613, 614, 615] (by decide +kernel)
set_option maxRecDepth 20000 in
theorem gr_refuses_21 : ∀ w ∈ wsL_refuses_r21, w ∈ wsL_law := mem_fm [616, 617, 618, 619, 620, 621, 622, 623, 624, 625, 626, 627, 628, 629, 630, 631, 632, 28, 633, 634, 635, 636, 637, 638] (by decide +kernel)
set_option maxRecDepth 20000 in
theorem gr_refuses_22 : ∀ w ∈ wsL_refuses_r22, w ∈ wsL_law := mem_fm [27, 639, 102, 104, 640, 641, 642, 643, 644, 645, 646, 647, 648, 649, 650, 651, 652, 653, 654, 655, 656, 657, 658, 659] (by decide +kernel)
set_option maxRecDepth 20000 in
theorem gr_refuses_23 : ∀ w ∈ wsL_refuses_r23, w ∈ wsL_law := mem_fm [660, 661, 662, 663, 664, 665, 666, 667, 14, 668, 669, 670, 13, 671, 118, 672, 673, 674, 675, 33] (by decide +kernel)
theorem gA_refuses : ∀ w ∈ ((wsL_refuses_r1 ++ (wsL_refuses_r2 ++ (wsL_refuses_r3 ++ (wsL_refuses_r4 ++ (wsL_refuses_r5 ++ (wsL_refuses_r6 ++ (wsL_refuses_r7 ++ (wsL_refuses_r8 ++ (wsL_refuses_r9 ++ (wsL_refuses_r10 ++ (wsL_refuses_r11 ++ (wsL_refuses_r12 ++ (wsL_refuses_r13 ++ (wsL_refuses_r14 ++ (wsL_refuses_r15 ++ (wsL_refuses_r16 ++ (wsL_refuses_r17 ++ (wsL_refuses_r18 ++ (wsL_refuses_r19 ++ (wsL_refuses_r20 ++ (wsL_refuses_r21 ++ (wsL_refuses_r22 ++ wsL_refuses_r23)))))))))))))))))))))) ++ wsX110 ++ wsX70 ++ wsX30 ++ wsX10 ++ wsX80 ++ wsX100 ++ wsX00 ++ wsX20 ++ wsX60 ++ wsX90), w ∈ wsL_law := List.forall_mem_append.mpr ⟨List.forall_mem_append.mpr ⟨List.forall_mem_append.mpr ⟨List.forall_mem_append.mpr ⟨List.forall_mem_append.mpr ⟨List.forall_mem_append.mpr ⟨List.forall_mem_append.mpr ⟨List.forall_mem_append.mpr ⟨List.forall_mem_append.mpr ⟨List.forall_mem_append.mpr ⟨List.forall_mem_append.mpr ⟨gr_refuses_1, List.forall_mem_append.mpr ⟨gr_refuses_2, List.forall_mem_append.mpr ⟨gr_refuses_3, List.forall_mem_append.mpr ⟨gr_refuses_4, List.forall_mem_append.mpr ⟨gr_refuses_5, List.forall_mem_append.mpr ⟨gr_refuses_6, List.forall_mem_append.mpr ⟨gr_refuses_7, List.forall_mem_append.mpr ⟨gr_refuses_8, List.forall_mem_append.mpr ⟨gr_refuses_9, List.forall_mem_append.mpr ⟨gr_refuses_10, List.forall_mem_append.mpr ⟨gr_refuses_11, List.forall_mem_append.mpr ⟨gr_refuses_12, List.forall_mem_append.mpr ⟨gr_refuses_13, List.forall_mem_append.mpr ⟨gr_refuses_14, List.forall_mem_append.mpr ⟨gr_refuses_15, List.forall_mem_append.mpr ⟨gr_refuses_16, List.forall_mem_append.mpr ⟨gr_refuses_17, List.forall_mem_append.mpr ⟨gr_refuses_18, List.forall_mem_append.mpr ⟨gr_refuses_19, List.forall_mem_append.mpr ⟨gr_refuses_20, List.forall_mem_append.mpr ⟨gr_refuses_21, List.forall_mem_append.mpr ⟨gr_refuses_22, gr_refuses_23⟩⟩⟩⟩⟩⟩⟩⟩⟩⟩⟩⟩⟩⟩⟩⟩⟩⟩⟩⟩⟩⟩, inlX11⟩, inlX7⟩, inlX3⟩, inlX1⟩, inlX8⟩, inlX10⟩, inlX0⟩, inlX2⟩, inlX6⟩, inlX9⟩
set_option maxRecDepth 20000 in
theorem ggL_law_L_refuses : GoodIn wsL_law wsL_refuses := goodIn_ca (goodIn_ca (goodIn_ca (goodIn_sub (List.forall_mem_cons.mpr ⟨cm_refuses, gA_refuses⟩) (by decide +kernel)) (goodIn_sub (fun _ h => List.mem_append_left _ (List.mem_append_left _ (List.mem_append_right _ h))) (by decide +kernel))) (goodIn_sub (fun _ h => List.mem_append_right _ h) (by decide +kernel))) (goodIn_sub (fun _ h => List.mem_append_left _ (List.mem_append_right _ h)) (by decide +kernel))
set_option maxRecDepth 20000 in
theorem gL_law_L_refuses : GoodIn wsL_law (va_wsS RL 265 yL_refuses wsL_refuses) := goodIn_app (goodIn_of _ (by decide +kernel)) ggL_law_L_refuses
