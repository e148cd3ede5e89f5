set_option maxRecDepth 20000 in
theorem lwi_9 : ∀ w ∈ wsL_law0_r9, w ∈ lw_tbl := mem_fm [8, 509, 510, 512, 9, 513, 514, 515, 32, 516, 404, 405, 406, 407, 408, 518, 519, 520, 521, 522, 523, 524, 525, 526] (by decide +kernel)
set_option maxRecDepth 20000 in
theorem lwi_10 : ∀ w ∈ wsL_law0_r10, w ∈ lw_tbl := mem_fm [33, 542, 543, 544, 545, 325, 546, 547, 548, 549, 550, 551, 552, 553, 554, 556, 555, 34, 125, 557, 558, 559, 560, 169] (by decide +kernel)
set_option maxRecDepth 20000 in
theorem lwi_11 : ∀ w ∈ wsL_law0_r11, w ∈ lw_tbl := mem_fm [173, 175, 177, 178, 561, 562, 563, 564, 565, 216, 217, 218, 219, 566, 567, 568, 569, 247, 570, 571, 572, 573, 574, 575] (by decide +kernel)
set_option maxRecDepth 20000 in
theorem lwi_12 : ∀ w ∈ wsL_law0_r12, w ∈ lw_tbl := mem_fm [264, 267, 268, 269, 271, 759, 760, 761, 610, 1053, 737, 738, 739, 580, 740, 741, 742, 743, 588, 35, 744, 745, 746, 747] (by decide +kernel)
set_option maxRecDepth 20000 in
theorem lwi_13 : ∀ w ∈ wsL_law0_r13, w ∈ lw_tbl := mem_fm [750, 751, 752, 753, 754, 755, 756, 757, 758, 725, 726, 727, 728, 729, 730, 731, 733, 734, 735, 736, 762, 763, 764, 765] (by decide +kernel)
set_option maxRecDepth 20000 in
theorem lwi_14 : ∀ w ∈ wsL_law0_r14, w ∈ lw_tbl := mem_fm [766, 767, 768, 769, 770, 771, 701, 702, 703, 704, 705, 707, 10, 708, 773, 774, 775, 776, 778, 779, 780, 781, 782, 783] (by decide +kernel)
set_option maxRecDepth 20000 in
theorem lwi_15 : ∀ w ∈ wsL_law0_r15, w ∈ lw_tbl := mem_fm [784, 785, 786, 788, 11, 789, 790, 792, 12, 793, 795, 796, 797, 798, 799, 800, 801, 803, 13, 804, 805, 806, 36, 807] (by decide +kernel)
set_option maxRecDepth 20000 in
theorem lwi_16 : ∀ w ∈ wsL_law0_r16, w ∈ lw_tbl := mem_fm [808, 809, 810, 811, 813, 814, 815, 816, 817, 818, 819, 820, 821, 822, 823, 824, 825, 826, 827, 829, 14, 830, 831, 832] (by decide +kernel)
