theorem mem_fm {big ws : List Cond} (ps : List Nat) (hp : ws = ps.filterMap (fun i => big[i]?)) : ∀ w ∈ ws, w ∈ big := fun w hw => by
  rw [hp] at hw
  obtain ⟨i, -, hi⟩ := List.mem_filterMap.mp hw
  exact List.mem_of_getElem? hi
set_option maxRecDepth 20000 in
theorem lwi_1 : ∀ w ∈ wsL_law0_r1, w ∈ lw_tbl := mem_fm [39, 40, 18, 668, 576, 41, 42, 43, 44, 45, 46, 47, 48, 19, 348, 92, 93, 20, 349, 350, 351, 315, 316, 26] (by decide +kernel)
set_option maxRecDepth 20000 in
theorem lwi_2 : ∀ w ∈ wsL_law0_r2, w ∈ lw_tbl := mem_fm [352, 332, 333, 27, 353, 50, 51, 52, 91, 53, 95, 96, 97, 98, 99, 21, 288, 144, 145, 22, 292, 202, 203, 23] (by decide +kernel)
set_option maxRecDepth 20000 in
theorem lwi_3 : ∀ w ∈ wsL_law0_r3, w ∈ lw_tbl := mem_fm [295, 241, 242, 24, 297, 257, 258, 25, 300, 101, 102, 103, 104, 107, 110, 113, 116, 119, 143, 124, 147, 148, 149, 150] (by decide +kernel)
set_option maxRecDepth 20000 in
theorem lwi_4 : ∀ w ∈ wsL_law0_r4, w ∈ lw_tbl := mem_fm [153, 155, 159, 205, 206, 207, 211, 212, 213, 214, 215, 244, 245, 246, 251, 260, 261, 262, 263, 317, 318, 319, 320, 321] (by decide +kernel)
set_option maxRecDepth 20000 in
theorem lwi_5 : ∀ w ∈ wsL_law0_r5, w ∈ lw_tbl := mem_fm [324, 334, 335, 336, 337, 338, 340, 347, 341, 367, 368, 369, 370, 371, 372, 373, 374, 56, 61, 62, 63, 64, 54, 403] (by decide +kernel)
set_option maxRecDepth 20000 in
theorem lwi_6 : ∀ w ∈ wsL_law0_r6, w ∈ lw_tbl := mem_fm [375, 377, 0, 378, 57, 58, 59, 60, 379, 381, 1, 382, 383, 385, 2, 386, 387, 389, 3, 390, 391, 393, 4, 394] (by decide +kernel)
set_option maxRecDepth 20000 in
theorem lwi_7 : ∀ w ∈ wsL_law0_r7, w ∈ lw_tbl := mem_fm [395, 397, 5, 398, 399, 401, 6, 402, 65, 413, 414, 17, 415, 416, 517, 417, 418, 419, 420, 421, 31, 489, 490, 491] (by decide +kernel)
set_option maxRecDepth 20000 in
theorem lwi_8 : ∀ w ∈ wsL_law0_r8, w ∈ lw_tbl := mem_fm [492, 286, 493, 494, 495, 496, 163, 166, 497, 498, 499, 500, 501, 502, 503, 504, 505, 409, 410, 411, 208, 412, 506, 508] (by decide +kernel)
set_option maxRecDepth 20000 in
theorem lwi_9 : ∀ w ∈ wsL_law0_r9, w ∈ lw_tbl := mem_fm [8, 509, 510, 512, 9, 513, 514, 515, 32, 516, 404, 405, 406, 407, 408, 518, 519, 520, 521, 522, 523, 524, 525, 526] (by decide +kernel)
set_option maxRecDepth 20000 in
theorem lwi_10 : ∀ w ∈ wsL_law0_r10, w ∈ lw_tbl := mem_fm [33, 542, 543, 544, 545, 325, 546, 547, 548, 549, 550, 551, 552, 553, 554, 556, 555, 34, 125, 557, 558, 559, 560, 169] (by decide +kernel)
set_option maxRecDepth 20000 in
theorem lwi_11 : ∀ w ∈ wsL_law0_r11, w ∈ lw_tbl := mem_fm [173, 175, 177, 178, 561, 562, 563, 564, 565, 216, 217, 218, 219, 566, 567, 568, 569, 247, 570, 571, 572, 573, 574, 575] (by decide +kernel)
set_option maxRecDepth 20000 in
theorem lwi_12 : ∀ w ∈ wsL_law0_r12, w ∈ lw_tbl := mem_fm [264, 267, 268, 269, 271, 759, 760, 761, 610, 1053, 737, 738, 739, 580, 740, 741, 742, 743, 588, 35, 744, 745, 746, 747] (by decide +kernel)
set_option maxRecDepth 20000 in
theorem lwi_13 : ∀ w ∈ wsL_law0_r13, w ∈ lw_tbl := mem_fm [750, 751, 752, 753, 754, 755, 756, 757, 758, 725, 726, 727, 728, 729, 730, 731, 733, 734, 735, 736, 762, 763, 764, 765] (by decide +kernel)
set_option maxRecDepth 20000 in
theorem lwi_14 : ∀ w ∈ wsL_law0_r14, w ∈ lw_tbl := mem_fm [766, 767, 768, 769, 770, 771, 701, 702, 703, 704, 705, 707, 10, 708, 773, 774, 775, 776, 778, 779, 780, 781, 782, 783] (by decide +kernel)
set_option maxRecDepth 20000 in
theorem lwi_15 : ∀ w ∈ wsL_law0_r15, w ∈ lw_tbl := mem_fm [784, 785, 786, 788, 11, 789, 790, 792, 12, 793, 795, 796, 797, 798, 799, 800, 801, 803, 13, 804, 805, 806, 36, 807] (by decide +kernel)
set_option maxRecDepth 20000 in
theorem lwi_16 : ∀ w ∈ wsL_law0_r16, w ∈ lw_tbl := mem_fm [808, 809, 810, 811, 813, 814, 815, 816, 817, 818, 819, 820, 821, 822, 823, 824, 825, 826, 827, 829, 14, 830, 831, 832] (by decide +kernel)
set_option maxRecDepth 20000 in
theorem lwi_17 : ∀ w ∈ wsL_law0_r17, w ∈ lw_tbl := mem_fm [833, 834, 690, 691, 692, 693, 694, 695, 696, 697, 698, 699, 709, 710, 711, 712, 714, 715, 716, 717, 718, 719, 720, 721] (by decide +kernel)
set_option maxRecDepth 20000 in
theorem lwi_18 : ∀ w ∈ wsL_law0_r18, w ∈ lw_tbl := mem_fm [835, 836, 837, 838, 839, 840, 841, 842, 843, 844, 845, 846, 847, 849, 850, 851, 852, 853, 855, 856, 857, 858, 859, 860] (by decide +kernel)
set_option maxRecDepth 20000 in
theorem lwi_19 : ∀ w ∈ wsL_law0_r19, w ∈ lw_tbl := mem_fm [861, 862, 863, 864, 865, 866, 867, 868, 870, 871, 872, 873, 875, 876, 877, 878, 879, 880, 881, 882, 883, 884, 885, 886] (by decide +kernel)
set_option maxRecDepth 20000 in
theorem lwi_20 : ∀ w ∈ wsL_law0_r20, w ∈ lw_tbl := mem_fm [887, 888, 889, 890, 891, 892, 893, 895, 896, 897, 898, 900, 901, 902, 903, 905, 906, 907, 908, 909, 910, 911, 912, 913] (by decide +kernel)
set_option maxRecDepth 20000 in
theorem lwi_21 : ∀ w ∈ wsL_law0_r21, w ∈ lw_tbl := mem_fm [914, 915, 916, 917, 922, 918, 919, 920, 921, 923, 924, 37, 925, 926, 927, 928, 929, 930, 931, 932, 933, 934, 935, 936] (by decide +kernel)
set_option maxRecDepth 20000 in
theorem lwi_22 : ∀ w ∈ wsL_law0_r22, w ∈ lw_tbl := mem_fm [937, 938, 939, 940, 941, 942, 944, 945, 946, 947, 948, 949, 950, 951, 952, 953, 954, 955, 956, 957, 958, 960, 961, 962] (by decide +kernel)
set_option maxRecDepth 20000 in
theorem lwi_23 : ∀ w ∈ wsL_law0_r23, w ∈ lw_tbl := mem_fm [963, 964, 965, 966, 967, 969, 970, 971, 972, 973, 974, 975, 976, 977, 978, 979, 980, 981, 982, 681, 984, 986, 15, 987] (by decide +kernel)
set_option maxRecDepth 20000 in
theorem lwi_24 : ∀ w ∈ wsL_law0_r24, w ∈ lw_tbl := mem_fm [679, 989, 988, 990, 991, 992, 993, 994, 995, 996, 997, 998, 999, 1000, 1001, 1002, 1004, 16, 1005, 1006, 1007, 1008, 1009, 1010] (by decide +kernel)
set_option maxRecDepth 20000 in
theorem lwi_25 : ∀ w ∈ wsL_law0_r25, w ∈ lw_tbl := mem_fm [1011, 1012, 1013, 1014, 1015, 1016, 1017, 1018, 1019, 1020, 1021, 1023, 1024, 1025, 1026, 1027, 1028, 1029, 1036, 1031, 1032, 38, 1033, 1034] (by decide +kernel)
set_option maxRecDepth 20000 in
theorem lwi_26 : ∀ w ∈ wsL_law0_r26, w ∈ lw_tbl := mem_fm [1037, 1038, 1039, 1040, 1041, 1042, 1043, 1044, 1045, 1046, 1047, 1048, 1049, 1050, 1051, 1052, 1054, 1055, 1056, 1057, 1058, 1059, 1060, 1062] (by decide +kernel)
set_option maxRecDepth 20000 in
theorem lwi_27 : ∀ w ∈ wsL_law0_r27, w ∈ lw_tbl := mem_fm [1063, 1064, 577, 578, 579, 581, 582, 583, 584, 585, 586, 587, 604, 605, 606, 607, 609, 611, 612, 613, 614, 615, 616, 617] (by decide +kernel)
set_option maxRecDepth 20000 in
theorem lwi_28 : ∀ w ∈ wsL_law0_r28, w ∈ lw_tbl := mem_fm [618, 619, 620, 621, 623, 624, 625, 626, 627, 628, 629, 630, 631, 647, 648, 649, 650, 651, 652, 653, 655, 656, 657, 658] (by decide +kernel)
set_option maxRecDepth 20000 in
theorem lwi_29 : ∀ w ∈ wsL_law0_r29, w ∈ lw_tbl := mem_fm [660, 661, 662, 663, 722, 723, 724, 1065, 1066, 1067, 669, 670, 671, 1068, 1069, 1070, 637, 638, 639, 667, 632, 633, 634, 635] (by decide +kernel)
set_option maxRecDepth 20000 in
theorem lwi_30 : ∀ w ∈ wsL_law0_r30, w ∈ lw_tbl := mem_fm [636, 640, 641, 642, 643, 644, 645, 646, 664, 665, 666, 672, 673, 674, 675, 676, 677, 678, 682, 683, 684, 685, 686, 687] (by decide +kernel)
set_option maxRecDepth 20000 in
theorem lwi_31 : ∀ w ∈ wsL_law0_r31, w ∈ lw_tbl := mem_fm [688, 689, 1113, 1114, 1115, 1077, 1078, 1079, 1080, 1084, 1085, 1086, 1087, 1088, 1089, 1090, 1091, 1092, 1093, 1094, 1095, 1096, 1097, 1098] (by decide +kernel)
set_option maxRecDepth 20000 in
theorem lwi_32 : ∀ w ∈ wsL_law0_r32, w ∈ lw_tbl := mem_fm [1099, 1100, 1101, 1102, 1103, 1104, 1105, 1106, 1107, 1108, 1109, 1110, 1111, 1112, 1074, 1075, 1076, 1081, 1082, 1083, 1071, 1072, 1073] (by decide +kernel)
theorem wsL_law_in0 : ∀ w ∈ wsL_law0, w ∈ lw_tbl := List.forall_mem_append.mpr ⟨lwi_1, List.forall_mem_append.mpr ⟨lwi_2, List.forall_mem_append.mpr ⟨lwi_3, List.forall_mem_append.mpr ⟨lwi_4, List.forall_mem_append.mpr ⟨lwi_5, List.forall_mem_append.mpr ⟨lwi_6, List.forall_mem_append.mpr ⟨lwi_7, List.forall_mem_append.mpr ⟨lwi_8, List.forall_mem_append.mpr ⟨lwi_9, List.forall_mem_append.mpr ⟨lwi_10, List.forall_mem_append.mpr ⟨lwi_11, List.forall_mem_append.mpr ⟨lwi_12, List.forall_mem_append.mpr ⟨lwi_13, List.forall_mem_append.mpr ⟨lwi_14, List.forall_mem_append.mpr ⟨lwi_15, List.forall_mem_append.mpr ⟨lwi_16, List.forall_mem_append.mpr ⟨lwi_17, List.forall_mem_append.mpr ⟨lwi_18, List.forall_mem_append.mpr ⟨lwi_19, List.forall_mem_append.mpr ⟨lwi_20, List.forall_mem_append.mpr ⟨lwi_21, List.forall_mem_append.mpr ⟨lwi_22, List.forall_mem_append.mpr ⟨lwi_23, List.forall_mem_append.mpr ⟨lwi_24, List.forall_mem_append.mpr ⟨lwi_25, List.forall_mem_append.mpr ⟨lwi_26, List.forall_mem_append.mpr ⟨lwi_27, List.forall_mem_append.mpr ⟨lwi_28, List.forall_mem_append.mpr ⟨lwi_29, List.forall_mem_append.mpr ⟨lwi_30, List.forall_mem_append.mpr ⟨lwi_31, lwi_32⟩⟩⟩⟩⟩⟩⟩⟩⟩⟩⟩⟩⟩⟩⟩⟩⟩⟩⟩⟩⟩⟩⟩⟩⟩⟩⟩⟩⟩⟩⟩
