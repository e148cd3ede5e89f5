set_option maxRecDepth 20000 in
theorem lwi_28 : ∀ w ∈ wsL_law0_r28, w ∈ lw_tbl := mem_fm [618, 619, 620, 621, 623, 624, 625, 626, 627, 628, 629, 630, 631, 647, 648, 649, 650, 651, 652, 653, 655, 656, 657, 658] (by decide +kernel)
set_option maxRecDepth 20000 in
theorem lwi_29 : ∀ w ∈ wsL_law0_r29, w ∈ lw_tbl := mem_fm [660, 661, 662, 663, 722, 723, 724, 1065, 1066, 1067, 669, 670, 671, 1068, 1069, 1070, 637, 638, 639, 667, 632, 633, 634, 635] (by decide +kernel)
set_option maxRecDepth 20000 in
theorem lwi_30 : ∀ w ∈ wsL_law0_r30, w ∈ lw_tbl := mem_fm [636, 640, 641, 642, 643, 644, 645, 646, 664, 665, 666, 672, 673, 674, 675, 676, 677, 678, 682, 683, 684, 685, 686, 687] (by decide +kernel)
set_option maxRecDepth 20000 in
theorem lwi_31 : ∀ w ∈ wsL_law0_r31, w ∈ lw_tbl := mem_fm [688, 689, 1113, 1114, 1115, 1077, 1078, 1079, 1080, 1084, 1085, 1086, 1087, 1088, 1089, 1090, 1091, 1092, 1093, 1094, 1095, 1096, 1097, 1098] (by decide +kernel)
set_option maxRecDepth 20000 in
theorem lwi_32 : ∀ w ∈ wsL_law0_r32, w ∈ lw_tbl := mem_fm [1099, 1100, 1101, 1102, 1103, 1104, 1105, 1106, 1107, 1108, 1109, 1110, 1111, 1112, 1074, 1075, 1076, 1081, 1082, 1083, 1071, 1072, 1073] (by decide +kernel)
