theorem mem_fm {big ws : List Cond} (ps : List Nat) (hp : ws = ps.filterMap (fun i => big[i]?)) : ∀ w ∈ ws, w ∈ big := fun w hw => by
  rw [hp] at hw
  obtain ⟨i, -, hi⟩ := List.mem_filterMap.mp hw
  exact List.mem_of_getElem? hi
set_option maxRecDepth 20000 in
theorem lwi_1 : ∀ w ∈ wsL_law0_r1, w ∈ lw_tbl := mem_fm [59, 60, 37, 1060, 1061, 47, 1391, 1390, 61, 62, 63, 64, 65, 66, 67, 68, 38, 368, 112, 113, 39, 369, 370, 371] (by decide +kernel)
set_option maxRecDepth 20000 in
theorem lwi_2 : ∀ w ∈ wsL_law0_r2, w ∈ lw_tbl := mem_fm [335, 336, 45, 372, 352, 353, 46, 373, 70, 71, 72, 111, 73, 115, 116, 117, 118, 119, 40, 308, 164, 165, 41, 312] (by decide +kernel)
set_option maxRecDepth 20000 in
theorem lwi_3 : ∀ w ∈ wsL_law0_r3, w ∈ lw_tbl := mem_fm [222, 223, 42, 315, 261, 262, 43, 317, 277, 278, 44, 320, 121, 122, 123, 124, 127, 130, 133, 136, 139, 163, 144, 167] (by decide +kernel)
set_option maxRecDepth 20000 in
theorem lwi_4 : ∀ w ∈ wsL_law0_r4, w ∈ lw_tbl := mem_fm [168, 169, 170, 173, 175, 179, 225, 226, 227, 231, 232, 233, 234, 235, 264, 265, 266, 271, 280, 281, 282, 283, 337, 338] (by decide +kernel)
set_option maxRecDepth 20000 in
theorem lwi_5 : ∀ w ∈ wsL_law0_r5, w ∈ lw_tbl := mem_fm [339, 340, 341, 344, 354, 355, 356, 357, 358, 360, 367, 361, 1062, 1063, 1064, 1065, 1070, 1073, 1074, 1075, 1076, 1078, 1079, 1080] (by decide +kernel)
set_option maxRecDepth 20000 in
theorem lwi_6 : ∀ w ∈ wsL_law0_r6, w ∈ lw_tbl := mem_fm [1066, 1067, 1068, 479, 480, 36, 481, 482, 483, 484, 485, 486, 487, 488, 51, 560, 52, 556, 557, 558, 559, 74, 576, 577] (by decide +kernel)
set_option maxRecDepth 20000 in
theorem lwi_7 : ∀ w ∈ wsL_law0_r7, w ∈ lw_tbl := mem_fm [578, 579, 1119, 1120, 1121, 1122, 1123, 1071, 1124, 1125, 1126, 1127, 1129, 17, 1130, 1069, 1115, 1116, 1117, 1118, 387, 388, 389, 390] (by decide +kernel)
set_option maxRecDepth 20000 in
theorem lwi_8 : ∀ w ∈ wsL_law0_r8, w ∈ lw_tbl := mem_fm [1131, 1132, 1133, 1134, 391, 392, 393, 394, 395, 396, 397, 398, 76, 81, 82, 83, 84, 427, 399, 401, 0, 402, 77, 78] (by decide +kernel)
set_option maxRecDepth 20000 in
theorem lwi_9 : ∀ w ∈ wsL_law0_r9, w ∈ lw_tbl := mem_fm [79, 80, 403, 405, 1, 406, 407, 409, 2, 410, 411, 413, 3, 414, 415, 417, 4, 418, 419, 421, 5, 422, 423, 425] (by decide +kernel)
set_option maxRecDepth 20000 in
theorem lwi_10 : ∀ w ∈ wsL_law0_r10, w ∈ lw_tbl := mem_fm [6, 426, 85, 1135, 1136, 1137, 1138, 1151, 1072, 1139, 1141, 18, 1142, 1143, 1145, 19, 1146, 1147, 1149, 20, 1150, 1152, 1153, 1155] (by decide +kernel)
set_option maxRecDepth 20000 in
theorem lwi_11 : ∀ w ∈ wsL_law0_r11, w ∈ lw_tbl := mem_fm [21, 1156, 580, 581, 582, 583, 584, 585, 586, 587, 589, 441, 442, 443, 306, 444, 445, 446, 447, 448, 450, 449, 53, 145] (by decide +kernel)
set_option maxRecDepth 20000 in
theorem lwi_12 : ∀ w ∈ wsL_law0_r12, w ∈ lw_tbl := mem_fm [451, 452, 453, 454, 183, 186, 189, 193, 195, 197, 198, 455, 456, 457, 458, 228, 459, 236, 237, 238, 239, 460, 461, 462] (by decide +kernel)
set_option maxRecDepth 20000 in
theorem lwi_13 : ∀ w ∈ wsL_law0_r13, w ∈ lw_tbl := mem_fm [463, 267, 464, 465, 466, 467, 468, 469, 284, 287, 288, 289, 291, 590, 591, 592, 593, 594, 595, 596, 597, 345, 598, 599] (by decide +kernel)
set_option maxRecDepth 20000 in
theorem lwi_14 : ∀ w ∈ wsL_law0_r14, w ∈ lw_tbl := mem_fm [600, 601, 1157, 1158, 1159, 1160, 1077, 1161, 1162, 1163, 602, 603, 604, 605, 606, 607, 608, 610, 611, 612, 613, 614, 615, 616] (by decide +kernel)
set_option maxRecDepth 20000 in
theorem lwi_15 : ∀ w ∈ wsL_law0_r15, w ∈ lw_tbl := mem_fm [617, 618, 619, 620, 621, 622, 623, 624, 625, 626, 475, 476, 477, 478, 627, 629, 9, 630, 631, 633, 10, 634, 635, 636] (by decide +kernel)
set_option maxRecDepth 20000 in
theorem lwi_16 : ∀ w ∈ wsL_law0_r16, w ∈ lw_tbl := mem_fm [54, 637, 1164, 1165, 1166, 1167, 1168, 1169, 1171, 22, 1172, 1173, 1175, 23, 1176, 1177, 1179, 24, 1180, 1181, 1182, 1183, 1184, 1185] (by decide +kernel)
set_option maxRecDepth 20000 in
theorem lwi_17 : ∀ w ∈ wsL_law0_r17, w ∈ lw_tbl := mem_fm [1186, 1187, 1188, 1189, 638, 639, 640, 641, 642, 643, 644, 645, 650, 55, 646, 647, 648, 649, 667, 668, 669, 670, 671, 672] (by decide +kernel)
set_option maxRecDepth 20000 in
theorem lwi_18 : ∀ w ∈ wsL_law0_r18, w ∈ lw_tbl := mem_fm [673, 674, 675, 1190, 1191, 1192, 1193, 1198, 1194, 1196, 25, 1197, 676, 677, 678, 679, 680, 681, 682, 684, 685, 686, 687, 1199] (by decide +kernel)
set_option maxRecDepth 20000 in
theorem lwi_19 : ∀ w ∈ wsL_law0_r19, w ∈ lw_tbl := mem_fm [1200, 1201, 1202, 1203, 688, 689, 690, 691, 692, 693, 694, 695, 696, 697, 432, 433, 434, 435, 436, 438, 7, 439, 440, 699] (by decide +kernel)
set_option maxRecDepth 20000 in
theorem lwi_20 : ∀ w ∈ wsL_law0_r20, w ∈ lw_tbl := mem_fm [700, 701, 702, 704, 705, 706, 707, 708, 709, 710, 711, 712, 714, 11, 715, 716, 718, 12, 719, 721, 722, 723, 724, 725] (by decide +kernel)
set_option maxRecDepth 20000 in
theorem lwi_21 : ∀ w ∈ wsL_law0_r21, w ∈ lw_tbl := mem_fm [726, 727, 729, 13, 730, 731, 732, 56, 733, 734, 735, 736, 737, 739, 740, 741, 742, 743, 744, 745, 746, 747, 748, 749] (by decide +kernel)
set_option maxRecDepth 20000 in
theorem lwi_22 : ∀ w ∈ wsL_law0_r22, w ∈ lw_tbl := mem_fm [750, 751, 752, 753, 755, 14, 756, 757, 758, 759, 760, 1204, 1205, 1206, 1207, 1208, 1209, 1211, 26, 1212, 1213, 1214, 1215, 1216] (by decide +kernel)
set_option maxRecDepth 20000 in
theorem lwi_23 : ∀ w ∈ wsL_law0_r23, w ∈ lw_tbl := mem_fm [1217, 1218, 1219, 1220, 1221, 1222, 1223, 1224, 1225, 1226, 1227, 1228, 1229, 1230, 1231, 1232, 1233, 1234, 1235, 1236, 1237, 1238, 1239, 761] (by decide +kernel)
set_option maxRecDepth 20000 in
theorem lwi_24 : ∀ w ∈ wsL_law0_r24, w ∈ lw_tbl := mem_fm [762, 763, 764, 765, 766, 767, 768, 769, 770, 772, 773, 774, 775, 777, 778, 779, 780, 781, 782, 783, 784, 1240, 1241, 1242] (by decide +kernel)
set_option maxRecDepth 20000 in
theorem lwi_25 : ∀ w ∈ wsL_law0_r25, w ∈ lw_tbl := mem_fm [1243, 1244, 1245, 1246, 1247, 1248, 1249, 1250, 785, 786, 787, 788, 789, 790, 791, 792, 793, 794, 795, 796, 797, 799, 800, 801] (by decide +kernel)
set_option maxRecDepth 20000 in
theorem lwi_26 : ∀ w ∈ wsL_law0_r26, w ∈ lw_tbl := mem_fm [802, 803, 805, 806, 807, 808, 1251, 1252, 1253, 1254, 1255, 1256, 1257, 1258, 1259, 1260, 1261, 1262, 1263, 809, 810, 811, 812, 813] (by decide +kernel)
set_option maxRecDepth 20000 in
theorem lwi_27 : ∀ w ∈ wsL_law0_r27, w ∈ lw_tbl := mem_fm [814, 815, 816, 817, 818, 820, 821, 822, 823, 825, 1264, 1265, 1266, 1267, 1268, 1269, 1270, 1271, 1272, 826, 827, 828, 829, 830] (by decide +kernel)
set_option maxRecDepth 20000 in
theorem lwi_28 : ∀ w ∈ wsL_law0_r28, w ∈ lw_tbl := mem_fm [831, 832, 833, 1273, 1274, 1275, 1276, 834, 835, 836, 837, 838, 839, 840, 841, 842, 843, 845, 846, 847, 848, 850, 851, 852] (by decide +kernel)
set_option maxRecDepth 20000 in
theorem lwi_29 : ∀ w ∈ wsL_law0_r29, w ∈ lw_tbl := mem_fm [853, 855, 856, 857, 858, 859, 860, 861, 862, 863, 864, 865, 866, 867, 872, 868, 869, 870, 871, 873, 874, 57, 875, 876] (by decide +kernel)
set_option maxRecDepth 20000 in
theorem lwi_30 : ∀ w ∈ wsL_law0_r30, w ∈ lw_tbl := mem_fm [877, 878, 879, 880, 881, 882, 883, 884, 885, 1277, 1278, 1279, 1280, 1281, 1282, 1283, 1284, 1285, 1287, 27, 1288, 1289, 1291, 28] (by decide +kernel)
set_option maxRecDepth 20000 in
theorem lwi_31 : ∀ w ∈ wsL_law0_r31, w ∈ lw_tbl := mem_fm [1292, 1293, 1295, 29, 1296, 1297, 1299, 30, 1300, 1301, 1303, 31, 1304, 1305, 1306, 1307, 886, 887, 888, 889, 890, 891, 892, 894] (by decide +kernel)
set_option maxRecDepth 20000 in
theorem lwi_32 : ∀ w ∈ wsL_law0_r32, w ∈ lw_tbl := mem_fm [895, 896, 897, 898, 899, 900, 901, 1308, 1309, 1310, 1311, 1312, 1313, 1314, 428, 429, 430, 431, 1315, 1316, 1317, 1318, 902, 903] (by decide +kernel)
set_option maxRecDepth 20000 in
theorem lwi_33 : ∀ w ∈ wsL_law0_r33, w ∈ lw_tbl := mem_fm [904, 905, 906, 907, 908, 910, 911, 912, 913, 1319, 1320, 1321, 1322, 470, 471, 472, 473, 474, 1323, 1324, 1325, 1326, 914, 915] (by decide +kernel)
set_option maxRecDepth 20000 in
theorem lwi_34 : ∀ w ∈ wsL_law0_r34, w ∈ lw_tbl := mem_fm [916, 917, 918, 919, 920, 922, 1327, 1328, 1329, 1330, 923, 924, 925, 926, 927, 928, 929, 931, 932, 933, 934, 1331, 1332, 1333] (by decide +kernel)
set_option maxRecDepth 20000 in
theorem lwi_35 : ∀ w ∈ wsL_law0_r35, w ∈ lw_tbl := mem_fm [1334, 935, 936, 937, 938, 939, 940, 941, 942, 943, 944, 946, 948, 15, 949, 951, 950, 952, 953, 954, 955, 956, 1335, 1336] (by decide +kernel)
set_option maxRecDepth 20000 in
theorem lwi_36 : ∀ w ∈ wsL_law0_r36, w ∈ lw_tbl := mem_fm [1337, 1338, 1339, 1341, 32, 1342, 1081, 1082, 1083, 1343, 1345, 33, 1346, 957, 958, 959, 960, 961, 962, 963, 964, 966, 16, 967] (by decide +kernel)
set_option maxRecDepth 20000 in
theorem lwi_37 : ∀ w ∈ wsL_law0_r37, w ∈ lw_tbl := mem_fm [968, 969, 1347, 1348, 1349, 1350, 1351, 1353, 34, 1354, 970, 971, 972, 973, 974, 975, 976, 1355, 1356, 1357, 1358, 977, 978, 979] (by decide +kernel)
set_option maxRecDepth 20000 in
theorem lwi_38 : ∀ w ∈ wsL_law0_r38, w ∈ lw_tbl := mem_fm [980, 981, 982, 983, 1359, 1360, 1361, 1362, 985, 986, 987, 988, 989, 990, 991, 998, 993, 994, 58, 995, 996, 999, 1000, 1001] (by decide +kernel)
set_option maxRecDepth 20000 in
theorem lwi_39 : ∀ w ∈ wsL_law0_r39, w ∈ lw_tbl := mem_fm [1002, 1003, 1004, 1005, 1006, 1007, 1008, 1009, 1010, 1011, 1012, 1013, 1014, 1363, 1364, 1365, 1366, 1367, 1368, 1369, 1370, 1372, 35, 1373] (by decide +kernel)
set_option maxRecDepth 20000 in
theorem lwi_40 : ∀ w ∈ wsL_law0_r40, w ∈ lw_tbl := mem_fm [1015, 1016, 1017, 1018, 1019, 1020, 1021, 1023, 1024, 1025, 1374, 1375, 1376, 1377, 1378, 1379, 1380, 1381, 1026, 1027, 1028, 1029, 1030, 1031] (by decide +kernel)
set_option maxRecDepth 20000 in
theorem lwi_41 : ∀ w ∈ wsL_law0_r41, w ∈ lw_tbl := mem_fm [1032, 1033, 1034, 1035, 1037, 1038, 1039, 1040, 1042, 1382, 1383, 1384, 1385, 1043, 1044, 1045, 1046, 1047, 1048, 1049, 1050, 1051, 1052, 1053] (by decide +kernel)
set_option maxRecDepth 20000 in
theorem lwi_42 : ∀ w ∈ wsL_law0_r42, w ∈ lw_tbl := mem_fm [1055, 1056, 1057, 1058, 1059, 1386, 1387, 1388, 1389] (by decide +kernel)
