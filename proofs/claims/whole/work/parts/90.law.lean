set_option maxRecDepth 20000 in
theorem ggL_law_X12_undo : GoodIn wsL_law wsX12_undo := goodIn_r _ [780, 318, 116, 114, 155, 156, 157, 5, 158, 159, 319, 320, 321, 999, 1000, 1001, 1002, 1003, 1004, 1005, 1006, 1007, 1008, 1009, 1010, 1011, 1012, 1013] (by decide +kernel) (by decide +kernel)
set_option maxRecDepth 20000 in
theorem gL_law_X12_undo : GoodIn wsL_law (wsV RL 152 RX12 yX12_undo wsX12_undo) := goodIn_app (goodIn_of _ (by decide +kernel)) ggL_law_X12_undo
set_option maxRecDepth 20000 in
theorem ggL_law_X11_middle : GoodIn wsL_law wsX11_middle := goodIn_r _ [784, 22, 785, 346, 347, 50, 348, 279, 82, 83, 81, 85, 349, 993, 994, 995, 996, 997, 998, 1026, 1027, 1028, 1029, 1030, 1031, 1055, 1056, 1057, 1058, 1059, 1060, 1061, 1062, 1063, 1064] (by decide +kernel) (by decide +kernel)
set_option maxRecDepth 20000 in
theorem gL_law_X11_middle : GoodIn wsL_law (wsV RL 153 RX11 yX11_middle wsX11_middle) := goodIn_app (goodIn_of _ (by decide +kernel)) ggL_law_X11_middle
set_option maxRecDepth 20000 in
theorem ggL_law_X12_middle : GoodIn wsL_law wsX12_middle := goodIn_r _ [789, 159, 114, 375, 376, 377, 5, 378, 119, 223, 379, 380, 381, 999, 1000, 1001, 1002, 1003, 1004, 1005, 1006, 1007, 1008, 1009, 1010, 1011, 1012, 1013] (by decide +kernel) (by decide +kernel)
set_option maxRecDepth 20000 in
theorem gL_law_X12_middle : GoodIn wsL_law (wsV RL 157 RX12 yX12_middle wsX12_middle) := goodIn_app (goodIn_of _ (by decide +kernel)) ggL_law_X12_middle
set_option maxRecDepth 20000 in
theorem ggL_law_L_proposal : GoodIn wsL_law wsL_proposal := goodIn_ca (goodIn_ca (goodIn_r _ [792, 391, 127, 793, 794, 795, 2, 796, 396, 397, 133, 134, 22, 662, 663, 664, 797, 683, 684, 20, 685, 51, 47, 686, 43, 687, 688, 689, 50, 690, 279, 82, 83, 81, 501, 502, 360, 503, 349, 345, 346, 347, 348, 85, 354, 355, 356, 357, 358, 359, 361, 691, 692, 693, 694, 695, 696, 697, 698, 699, 700, 701, 702, 703, 993, 994, 995, 996, 997, 998, 1026, 1027, 1028, 1029, 1030, 1031, 1044, 1045, 1046, 1047, 1048, 1049, 1050, 1051, 1052, 1053, 1054, 1036, 1037, 1038, 1039, 1040, 1041, 1042, 1043, 1055, 1056, 1057, 1058, 1059, 1060, 1061, 1062, 1063, 1064] (by decide +kernel) (by decide +kernel)) (goodIn_sub (fun _ h => List.mem_append_right _ h) (by decide +kernel))) (goodIn_sub (fun _ h => List.mem_append_left _ (List.mem_append_left _ (List.mem_append_right _ h))) (by decide +kernel))
set_option maxRecDepth 20000 in
theorem gL_law_L_proposal : GoodIn wsL_law (va_wsS RL 158 yL_proposal wsL_proposal) := goodIn_app (goodIn_of _ (by decide +kernel)) ggL_law_L_proposal
set_option maxRecDepth 20000 in
theorem ggL_law_X12_proposal : GoodIn wsL_law wsX12_proposal := goodIn_r _ [801, 580, 114, 223, 709, 710, 5, 711, 712, 152, 153, 154, 155, 156, 157, 158, 159, 367, 368, 369, 370, 371, 372, 373, 374, 375, 376, 377, 378, 119, 379, 380, 381, 382, 383, 384, 385, 386, 387, 725, 726, 727, 728, 729, 730, 731, 732, 733, 734, 735, 999, 1000, 1001, 1002, 1003, 1004, 1005, 1006, 1007, 1008, 1009, 1010, 1011, 1012, 1013] (by decide +kernel) (by decide +kernel)
set_option maxRecDepth 20000 in
theorem gL_law_X12_proposal : GoodIn wsL_law (wsV RL 160 RX12 yX12_proposal wsX12_proposal) := goodIn_app (goodIn_of _ (by decide +kernel)) ggL_law_X12_proposal
set_option maxRecDepth 20000 in
theorem ggL_law_L_toleranceFor : GoodIn wsL_law wsL_toleranceFor := goodIn_ca (goodIn_r _ [804, 127, 805, 806, 807, 2, 808, 133, 134, 22, 809, 810, 811, 50, 812, 349, 345, 346, 347, 348, 279, 82, 83, 81, 85, 350, 351, 352, 353, 354, 355, 356, 357, 358, 359, 360, 361, 993, 994, 995, 996, 997, 998, 1026, 1027, 1028, 1029, 1030, 1031, 1055, 1056, 1057, 1058, 1059, 1060, 1061, 1062, 1063, 1064] (by decide +kernel) (by decide +kernel)) (goodIn_sub (fun _ h => List.mem_append_left _ (List.mem_append_left _ (List.mem_append_right _ h))) (by decide +kernel))
set_option maxRecDepth 20000 in
theorem gL_law_L_toleranceFor : GoodIn wsL_law (va_wsS RL 161 yL_toleranceFor wsL_toleranceFor) := goodIn_app (goodIn_of _ (by decide +kernel)) ggL_law_L_toleranceFor
set_option maxRecDepth 20000 in
theorem ggL_law_X12_toleranceFor : GoodIn wsL_law wsX12_toleranceFor := goodIn_r _ [816, 614, 114, 115, 223, 152, 153, 5, 154, 155, 156, 157, 158, 159, 319, 320, 321, 367, 368, 369, 370, 371, 372, 373, 374, 375, 376, 377, 378, 119, 379, 380, 381, 382, 383, 384, 385, 386, 387, 999, 1000, 1001, 1002, 1003, 1004, 1005, 1006, 1007, 1008, 1009, 1010, 1011, 1012, 1013] (by decide +kernel) (by decide +kernel)
set_option maxRecDepth 20000 in
theorem gL_law_X12_toleranceFor : GoodIn wsL_law (wsV RL 163 RX12 yX12_toleranceFor wsX12_toleranceFor) := goodIn_app (goodIn_of _ (by decide +kernel)) ggL_law_X12_toleranceFor
set_option maxRecDepth 20000 in
theorem ggL_law_L_ahead : GoodIn wsL_law wsL_ahead := goodIn_ca (goodIn_r _ [819, 127, 820, 821, 822, 2, 823, 133, 134, 23, 22, 824, 825, 826, 250, 251, 252, 20, 253, 254, 43, 47, 51, 55, 59, 255, 256, 257, 42, 258, 63, 64, 65, 66, 67, 68, 70, 259, 260, 261, 262, 263, 264, 265, 266, 46, 267, 74, 75, 76, 77, 268, 269, 270, 271, 272, 273, 274, 275, 276, 277, 50, 278, 279, 81, 280, 82, 83, 84, 281, 282, 283, 284, 285, 286, 287, 54, 288, 289, 89, 290, 291, 292, 293, 58, 294, 93, 295, 296, 297, 298, 299, 300, 827, 828, 829, 830, 249, 831, 502, 360, 503, 832, 460, 461, 462, 463, 464, 465, 466, 467, 468, 469, 470, 471, 472, 473, 474, 475, 476, 477, 478, 479, 480, 481, 482, 483, 484, 485, 486, 487, 488, 489, 490, 491, 492, 493, 494, 495, 496, 497, 498, 499, 500, 501, 504, 505, 506, 507, 508, 509, 510, 511, 512, 513, 514, 833, 834, 835, 836, 837, 359, 361, 993, 994, 995, 996, 997, 998, 1026, 1027, 1028, 1029, 1030, 1031, 1036, 1037, 1038, 1039, 1040, 1041, 1042, 1043, 1044, 1045, 1046, 1047, 1048, 1049, 1050, 1051, 1052, 1053, 1054, 1055, 1056, 1057, 1058, 1059, 1060, 1061, 1062, 1063, 1064, 1065, 1066, 1067, 1068, 1069, 1070, 1071, 1072] (by decide +kernel) (by decide +kernel)) (goodIn_sub (fun _ h => List.mem_append_left _ (List.mem_append_left _ (List.mem_append_right _ h))) (by decide +kernel))
set_option maxRecDepth 20000 in
theorem gL_law_L_ahead : GoodIn wsL_law (va_wsS RL 164 yL_ahead wsL_ahead) := goodIn_app (goodIn_of _ (by decide +kernel)) ggL_law_L_ahead
set_option maxRecDepth 20000 in
theorem ggL_law_X12_ahead : GoodIn wsL_law wsX12_ahead := goodIn_r _ [841, 519, 415, 114, 115, 152, 153, 5, 154, 155, 156, 157, 158, 159, 319, 320, 321, 842, 843, 844, 845, 846, 223, 847, 848, 527, 528, 529, 530, 531, 532, 533, 534, 535, 536, 537, 538, 539, 540, 541, 542, 543, 544, 545, 546, 547, 548, 549, 550, 385, 386, 387, 849, 850, 851, 852, 999, 1000, 1001, 1002, 1003, 1004, 1005, 1006, 1007, 1008, 1009, 1010, 1011, 1012, 1013] (by decide +kernel) (by decide +kernel)
set_option maxRecDepth 20000 in
theorem gL_law_X12_ahead : GoodIn wsL_law (wsV RL 166 RX12 yX12_ahead wsX12_ahead) := goodIn_app (goodIn_of _ (by decide +kernel)) ggL_law_X12_ahead
