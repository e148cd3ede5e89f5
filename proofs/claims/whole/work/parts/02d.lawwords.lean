def wsL_law : List Cond := wsL_law0 ++ (vx_atS RX11 47 "java/lang/IllegalArgumentException" ["java/lang/RuntimeException", "java/lang/Exception"]).filter goodWord ++ (vx_atS RX11 58 "java/lang/IllegalStateException" ["java/lang/RuntimeException", "java/lang/Exception"]).filter goodWord ++ (vx_atS RX11 116 "java/lang/IndexOutOfBoundsException" ["java/lang/RuntimeException", "java/lang/Exception"]).filter goodWord
set_option maxRecDepth 20000 in
theorem wsL_law_in0 : ∀ w ∈ wsL_law0, w ∈ lw_tbl := fun w h => (goodIn_p wsL_law0 [63, 66, 71, 116, 122, 168, 226, 265, 281, 339, 356, 1064, 1068, 487, 559, 579, 1122, 1126, 1130, 1118, 390, 1134, 394, 398, 402, 406, 410, 414, 418, 422, 426, 1138, 1142, 1146, 1150, 1156, 586, 443, 447, 454, 458, 463, 468, 593, 597, 601, 1160, 1163, 608, 613, 617, 621, 625, 477, 630, 634, 637, 1167, 1172, 1176, 1180, 1183, 1186, 1189, 645, 649, 670, 674, 1193, 1197, 682, 687, 1202, 694, 697, 435, 439, 702, 707, 711, 715, 719, 722, 726, 730, 733, 737, 742, 746, 749, 752, 756, 760, 1207, 1212, 1215, 1218, 1221, 1224, 1227, 1230, 1233, 1236, 1239, 767, 770, 775, 780, 784, 1243, 1246, 1250, 791, 794, 797, 803, 808, 1254, 1257, 815, 818, 823, 1267, 1272, 832, 1276, 840, 843, 848, 853, 859, 863, 867, 871, 875, 878, 881, 884, 1280, 1283, 1288, 1292, 1296, 1300, 1304, 1307, 892, 897, 901, 1311, 1314, 431, 1318, 908, 913, 1322, 473, 1326, 920, 1330, 929, 934, 1334, 941, 944, 949, 955, 1338, 1342, 1346, 963, 967, 1350, 1354, 976, 1358, 983, 1362, 991, 995, 1001, 1006, 1009, 1366, 1373, 1021, 1377, 1032, 1035, 1040, 1385, 1049, 1053, 1058, 1389] (by decide +kernel) (by decide +kernel) w h).1
theorem wsL_law_x0 : ∀ w ∈ (vx_atS RX11 47 "java/lang/IllegalArgumentException" ["java/lang/RuntimeException", "java/lang/Exception"]).filter goodWord, w ∈ lw_tbl := by decide +kernel
theorem wsL_law_x1 : ∀ w ∈ (vx_atS RX11 58 "java/lang/IllegalStateException" ["java/lang/RuntimeException", "java/lang/Exception"]).filter goodWord, w ∈ lw_tbl := by decide +kernel
theorem wsL_law_x2 : ∀ w ∈ (vx_atS RX11 116 "java/lang/IndexOutOfBoundsException" ["java/lang/RuntimeException", "java/lang/Exception"]).filter goodWord, w ∈ lw_tbl := by decide +kernel
theorem wsL_law_in : ∀ w ∈ wsL_law, w ∈ lw_tbl := fun w h => (List.mem_append.mp h).elim (fun h => (List.mem_append.mp h).elim (fun h => (List.mem_append.mp h).elim (fun h => wsL_law_in0 w h) (fun h => wsL_law_x0 w h)) (fun h => wsL_law_x1 w h)) (fun h => wsL_law_x2 w h)
theorem inlX0 : ∀ w ∈ wsX00, w ∈ wsL_law := fun _ h => List.mem_append_left _ (List.mem_append_left _ (List.mem_append_left _ (List.mem_append_left _ (List.mem_append_right _ h))))
theorem inX0 : ∀ w ∈ wsX00, w ∈ lw_tbl := fun w h => wsL_law_in w (inlX0 w h)
theorem inlX1 : ∀ w ∈ wsX10, w ∈ wsL_law := fun _ h => List.mem_append_left _ (List.mem_append_left _ (List.mem_append_left _ (List.mem_append_left _ (List.mem_append_left _ (List.mem_append_left _ (List.mem_append_left _ (List.mem_append_right _ h)))))))
theorem inX1 : ∀ w ∈ wsX10, w ∈ lw_tbl := fun w h => wsL_law_in w (inlX1 w h)
theorem inlX2 : ∀ w ∈ wsX20, w ∈ wsL_law := fun _ h => List.mem_append_left _ (List.mem_append_left _ (List.mem_append_left _ (List.mem_append_left _ (List.mem_append_left _ (List.mem_append_left _ (List.mem_append_left _ (List.mem_append_left _ (List.mem_append_left _ (List.mem_append_left _ (List.mem_append_right _ h))))))))))
theorem inX2 : ∀ w ∈ wsX20, w ∈ lw_tbl := fun w h => wsL_law_in w (inlX2 w h)
theorem inlX3 : ∀ w ∈ wsX30, w ∈ wsL_law := fun _ h => List.mem_append_left _ (List.mem_append_left _ (List.mem_append_left _ (List.mem_append_left _ (List.mem_append_left _ (List.mem_append_left _ (List.mem_append_left _ (List.mem_append_left _ (List.mem_append_right _ h))))))))
theorem inX3 : ∀ w ∈ wsX30, w ∈ lw_tbl := fun w h => wsL_law_in w (inlX3 w h)
theorem inX4 : ∀ w ∈ wsX40, w ∈ lw_tbl := by decide +kernel
theorem inX5 : ∀ w ∈ wsX50, w ∈ lw_tbl := by decide +kernel
theorem inlX6 : ∀ w ∈ wsX60, w ∈ wsL_law := fun _ h => List.mem_append_left _ (List.mem_append_left _ (List.mem_append_left _ (List.mem_append_left _ (List.mem_append_left _ (List.mem_append_left _ (List.mem_append_left _ (List.mem_append_left _ (List.mem_append_left _ (List.mem_append_right _ h)))))))))
theorem inX6 : ∀ w ∈ wsX60, w ∈ lw_tbl := fun w h => wsL_law_in w (inlX6 w h)
theorem inlX7 : ∀ w ∈ wsX70, w ∈ wsL_law := fun _ h => List.mem_append_left _ (List.mem_append_left _ (List.mem_append_left _ (List.mem_append_left _ (List.mem_append_left _ (List.mem_append_left _ (List.mem_append_left _ (List.mem_append_left _ (List.mem_append_left _ (List.mem_append_left _ (List.mem_append_left _ (List.mem_append_right _ h)))))))))))
theorem inX7 : ∀ w ∈ wsX70, w ∈ lw_tbl := fun w h => wsL_law_in w (inlX7 w h)
theorem inlX8 : ∀ w ∈ wsX80, w ∈ wsL_law := fun _ h => List.mem_append_left _ (List.mem_append_left _ (List.mem_append_left _ (List.mem_append_left _ (List.mem_append_left _ (List.mem_append_left _ (List.mem_append_right _ h))))))
theorem inX8 : ∀ w ∈ wsX80, w ∈ lw_tbl := fun w h => wsL_law_in w (inlX8 w h)
theorem inlX9 : ∀ w ∈ wsX90, w ∈ wsL_law := fun _ h => List.mem_append_left _ (List.mem_append_left _ (List.mem_append_left _ (List.mem_append_left _ (List.mem_append_left _ (List.mem_append_left _ (List.mem_append_left _ (List.mem_append_left _ (List.mem_append_left _ (List.mem_append_left _ (List.mem_append_left _ (List.mem_append_left _ (List.mem_append_right _ h))))))))))))
theorem inX9 : ∀ w ∈ wsX90, w ∈ lw_tbl := fun w h => wsL_law_in w (inlX9 w h)
theorem inlX10 : ∀ w ∈ wsX100, w ∈ wsL_law := fun _ h => List.mem_append_left _ (List.mem_append_left _ (List.mem_append_left _ (List.mem_append_left _ (List.mem_append_left _ (List.mem_append_right _ h)))))
theorem inX10 : ∀ w ∈ wsX100, w ∈ lw_tbl := fun w h => wsL_law_in w (inlX10 w h)
theorem inlX11 : ∀ w ∈ wsX110, w ∈ wsL_law := fun _ h => List.mem_append_left _ (List.mem_append_left _ (List.mem_append_left _ (List.mem_append_left _ (List.mem_append_left _ (List.mem_append_left _ (List.mem_append_left _ (List.mem_append_left _ (List.mem_append_left _ (List.mem_append_left _ (List.mem_append_left _ (List.mem_append_left _ (List.mem_append_left _ (List.mem_append_left _ (List.mem_append_right _ h))))))))))))))
theorem inX11 : ∀ w ∈ wsX110, w ∈ lw_tbl := fun w h => wsL_law_in w (inlX11 w h)
theorem inlX12 : ∀ w ∈ wsX120, w ∈ wsL_law := fun _ h => List.mem_append_left _ (List.mem_append_left _ (List.mem_append_left _ (List.mem_append_left _ (List.mem_append_left _ (List.mem_append_left _ (List.mem_append_left _ (List.mem_append_left _ (List.mem_append_left _ (List.mem_append_left _ (List.mem_append_left _ (List.mem_append_left _ (List.mem_append_left _ (List.mem_append_right _ h)))))))))))))
theorem inX12 : ∀ w ∈ wsX120, w ∈ lw_tbl := fun w h => wsL_law_in w (inlX12 w h)
theorem inJ6 : ∀ w ∈ wsJ60, w ∈ lw_tbl := by decide +kernel
theorem inJ9 : ∀ w ∈ wsJ90, w ∈ lw_tbl := by decide +kernel
theorem inJ0 : ∀ w ∈ wsJ00, w ∈ lw_tbl := by decide +kernel
theorem inJ10 : ∀ w ∈ wsJ100, w ∈ lw_tbl := by decide +kernel
set_option maxRecDepth 20000 in
theorem ggL_append_X11_append : GoodIn wsL_append wsX11_append := goodIn_ca (goodIn_ca (goodIn_r _ [7, 8, 9, 10, 11, 12, 13, 14, 15, 16, 17, 18, 19, 20, 21, 22, 23, 24, 25, 26, 27, 28, 29, 30, 31, 32, 33, 34, 35, 36, 37, 38, 39, 40, 41] (by decide +kernel) (by decide +kernel)) (goodIn_sub (fun _ h => List.mem_cons_of_mem _ (List.mem_append_left _ (List.mem_append_right _ h))) (by decide +kernel))) (goodIn_sub (fun _ h => List.mem_cons_of_mem _ (List.mem_append_right _ h)) (by decide +kernel))
set_option maxRecDepth 20000 in
theorem gL_append_X11_append : GoodIn wsL_append (wsV RL 7 RX11 yX11_append wsX11_append) := goodIn_app (goodIn_of _ (by decide +kernel)) ggL_append_X11_append
theorem dL_append_0 : decode cL_append 0 = .ok (.aload_n 2, 1) := by decide +kernel
theorem dL_append_1 : decode cL_append 1 = .ok (.iconst 0, 1) := by decide +kernel
theorem dL_append_2 : decode cL_append 2 = .ok (.aload_n 0, 1) := by decide +kernel
theorem dL_append_3 : decode cL_append 3 = .ok (.iload_n 1, 1) := by decide +kernel
theorem dL_append_4 : decode cL_append 4 = .ok (.invokevirtual 7, 3) := by decide +kernel
theorem dL_append_7 : decode cL_append 7 = .ok (.i2l, 1) := by decide +kernel
theorem dL_append_8 : decode cL_append 8 = .ok (.lastore, 1) := by decide +kernel
theorem dL_append_9 : decode cL_append 9 = .ok (.goto 9, 3) := by decide +kernel
theorem dL_append_12 : decode cL_append 12 = .ok (.astore_n 3, 1) := by decide +kernel
theorem dL_append_13 : decode cL_append 13 = .ok (.iconst 1, 1) := by decide +kernel
theorem dL_append_14 : decode cL_append 14 = .ok (.ireturn, 1) := by decide +kernel
theorem dL_append_15 : decode cL_append 15 = .ok (.astore_n 3, 1) := by decide +kernel
theorem dL_append_16 : decode cL_append 16 = .ok (.iconst 2, 1) := by decide +kernel
theorem dL_append_17 : decode cL_append 17 = .ok (.ireturn, 1) := by decide +kernel
theorem dL_append_18 : decode cL_append 18 = .ok (.iconst 0, 1) := by decide +kernel
theorem dL_append_19 : decode cL_append 19 = .ok (.ireturn, 1) := by decide +kernel
set_option maxRecDepth 20000 in
theorem ggL_load_X11_load : GoodIn wsL_load wsX11_load := goodIn_ca (goodIn_r _ [6, 7, 8, 9, 10, 11, 12, 13, 14, 15, 16, 17, 18, 19, 20, 21, 22, 23, 24, 25, 26, 27, 28, 29, 30, 31, 32, 33, 34, 35, 36, 37, 38, 39, 40, 41, 42, 43, 44, 45, 46, 47, 48, 49, 50, 51, 52, 53, 54, 55, 56, 57, 58, 59, 60, 61, 62, 63, 64, 65, 66, 67, 68, 69, 70, 71, 72, 73, 74, 75, 76, 77, 78, 79, 80, 81, 82, 83, 84, 85, 86, 87, 88, 89, 90, 91, 92, 93, 94, 95, 96, 97, 98, 99, 100, 101, 102, 103, 104, 105, 106, 107, 108, 109, 110, 111, 112, 113, 114, 115, 116, 117, 118, 119, 120, 121, 122, 123, 124, 125, 126, 127, 128, 129, 130, 131, 132, 133, 134, 135, 136, 137, 138, 139, 140, 141, 142, 143, 144, 145, 146, 147, 148, 149, 150, 151, 152, 153, 154, 155, 156, 157, 158, 159, 160, 161, 162, 163, 164, 165, 166, 167, 168, 169, 170, 171, 172, 173, 174, 175, 176, 177, 178, 179, 180, 181, 182, 183, 184, 185, 186, 187, 188, 189, 190, 191, 192, 193, 194, 195, 196, 197, 198, 199, 200, 201, 202, 203, 204, 205, 206, 207, 208, 209, 210, 211, 212, 213, 214, 215, 216, 217, 218, 219, 220] (by decide +kernel) (by decide +kernel)) (goodIn_sub (fun _ h => List.mem_cons_of_mem _ (List.mem_append_right _ h)) (by decide +kernel))
set_option maxRecDepth 20000 in
theorem gL_load_X11_load : GoodIn wsL_load (wsV RL 17 RX11 yX11_load wsX11_load) := goodIn_app (goodIn_of _ (by decide +kernel)) ggL_load_X11_load
theorem dL_load_0 : decode cL_load 0 = .ok (.aload_n 1, 1) := by decide +kernel
theorem dL_load_1 : decode cL_load 1 = .ok (.iconst 0, 1) := by decide +kernel
theorem dL_load_2 : decode cL_load 2 = .ok (.aload_n 0, 1) := by decide +kernel
theorem dL_load_3 : decode cL_load 3 = .ok (.invokevirtual 17, 3) := by decide +kernel
theorem dL_load_6 : decode cL_load 6 = .ok (.i2l, 1) := by decide +kernel
theorem dL_load_7 : decode cL_load 7 = .ok (.lastore, 1) := by decide +kernel
theorem dL_load_8 : decode cL_load 8 = .ok (.goto 6, 3) := by decide +kernel
theorem dL_load_11 : decode cL_load 11 = .ok (.astore_n 2, 1) := by decide +kernel
theorem dL_load_12 : decode cL_load 12 = .ok (.iconst 1, 1) := by decide +kernel
theorem dL_load_13 : decode cL_load 13 = .ok (.ireturn, 1) := by decide +kernel
theorem dL_load_14 : decode cL_load 14 = .ok (.iconst 0, 1) := by decide +kernel
theorem dL_load_15 : decode cL_load 15 = .ok (.ireturn, 1) := by decide +kernel
set_option maxRecDepth 20000 in
theorem ggL_about_X11_about : GoodIn wsL_about wsX11_about := goodIn_ca (goodIn_r _ [6, 7, 8, 9, 10, 11, 12, 13, 14, 15, 16, 17, 18, 19, 20, 21, 22, 23, 24, 25, 26, 27, 28, 29, 30, 31, 32, 33, 34, 35, 36, 37, 38, 39, 40, 41, 42, 43, 44, 45, 46, 47, 48, 49, 50, 51, 52, 53, 54, 55, 56, 57, 58, 59, 60, 61, 62, 63, 64, 65, 66, 67, 68, 69, 70, 71, 72, 73, 74, 75, 76, 77, 78, 79, 80, 81, 82, 83, 84, 85, 86, 87, 88, 89, 90, 91, 92, 93, 94, 95, 96, 97, 98, 99, 100, 101, 102, 103, 104, 105, 106, 107, 108, 109, 110, 111] (by decide +kernel) (by decide +kernel)) (goodIn_sub (fun _ h => List.mem_cons_of_mem _ (List.mem_append_right _ h)) (by decide +kernel))
set_option maxRecDepth 20000 in
theorem gL_about_X11_about : GoodIn wsL_about (wsV RL 21 RX11 yX11_about wsX11_about) := goodIn_app (goodIn_of _ (by decide +kernel)) ggL_about_X11_about
theorem dL_about_0 : decode cL_about 0 = .ok (.aload_n 2, 1) := by decide +kernel
theorem dL_about_1 : decode cL_about 1 = .ok (.iconst 0, 1) := by decide +kernel
theorem dL_about_2 : decode cL_about 2 = .ok (.aload_n 0, 1) := by decide +kernel
theorem dL_about_3 : decode cL_about 3 = .ok (.iload_n 1, 1) := by decide +kernel
theorem dL_about_4 : decode cL_about 4 = .ok (.invokevirtual 21, 3) := by decide +kernel
theorem dL_about_7 : decode cL_about 7 = .ok (.i2l, 1) := by decide +kernel
theorem dL_about_8 : decode cL_about 8 = .ok (.lastore, 1) := by decide +kernel
theorem dL_about_9 : decode cL_about 9 = .ok (.goto 6, 3) := by decide +kernel
theorem dL_about_12 : decode cL_about 12 = .ok (.astore_n 3, 1) := by decide +kernel
theorem dL_about_13 : decode cL_about 13 = .ok (.iconst 1, 1) := by decide +kernel
theorem dL_about_14 : decode cL_about 14 = .ok (.ireturn, 1) := by decide +kernel
theorem dL_about_15 : decode cL_about 15 = .ok (.iconst 0, 1) := by decide +kernel
theorem dL_about_16 : decode cL_about 16 = .ok (.ireturn, 1) := by decide +kernel
set_option maxRecDepth 20000 in
theorem ggL_swing_X11_swing : GoodIn wsL_swing wsX11_swing := goodIn_ca (goodIn_ca (goodIn_r _ [7, 8, 9, 10, 11, 12, 13, 14, 15, 16, 17, 18, 19, 20, 21, 22, 23, 24, 25, 26, 27, 28, 29, 30, 31, 32, 33, 34, 35, 36, 37, 38, 39, 40, 41, 42, 43, 44, 45, 46, 47, 48, 49, 50, 51, 52, 53, 54, 55, 56, 57, 58, 59, 60, 61, 62, 63, 64, 65, 66, 67, 68, 69, 70, 71, 72, 73, 74, 75, 76, 77, 78] (by decide +kernel) (by decide +kernel)) (goodIn_sub (fun _ h => List.mem_cons_of_mem _ (List.mem_append_left _ (List.mem_append_right _ h))) (by decide +kernel))) (goodIn_sub (fun _ h => List.mem_cons_of_mem _ (List.mem_append_right _ h)) (by decide +kernel))
set_option maxRecDepth 20000 in
theorem gL_swing_X11_swing : GoodIn wsL_swing (wsV RL 24 RX11 yX11_swing wsX11_swing) := goodIn_app (goodIn_of _ (by decide +kernel)) ggL_swing_X11_swing
theorem dL_swing_0 : decode cL_swing 0 = .ok (.aload_n 3, 1) := by decide +kernel
theorem dL_swing_1 : decode cL_swing 1 = .ok (.iconst 0, 1) := by decide +kernel
theorem dL_swing_2 : decode cL_swing 2 = .ok (.aload_n 0, 1) := by decide +kernel
theorem dL_swing_3 : decode cL_swing 3 = .ok (.iload_n 1, 1) := by decide +kernel
theorem dL_swing_4 : decode cL_swing 4 = .ok (.iload_n 2, 1) := by decide +kernel
theorem dL_swing_5 : decode cL_swing 5 = .ok (.invokevirtual 24, 3) := by decide +kernel
theorem dL_swing_8 : decode cL_swing 8 = .ok (.i2l, 1) := by decide +kernel
theorem dL_swing_9 : decode cL_swing 9 = .ok (.lastore, 1) := by decide +kernel
theorem dL_swing_10 : decode cL_swing 10 = .ok (.goto 11, 3) := by decide +kernel
theorem dL_swing_13 : decode cL_swing 13 = .ok (.astore 4, 2) := by decide +kernel
theorem dL_swing_15 : decode cL_swing 15 = .ok (.iconst 1, 1) := by decide +kernel
theorem dL_swing_16 : decode cL_swing 16 = .ok (.ireturn, 1) := by decide +kernel
theorem dL_swing_17 : decode cL_swing 17 = .ok (.astore 4, 2) := by decide +kernel
theorem dL_swing_19 : decode cL_swing 19 = .ok (.iconst 2, 1) := by decide +kernel
theorem dL_swing_20 : decode cL_swing 20 = .ok (.ireturn, 1) := by decide +kernel
theorem dL_swing_21 : decode cL_swing 21 = .ok (.iconst 0, 1) := by decide +kernel
theorem dL_swing_22 : decode cL_swing 22 = .ok (.ireturn, 1) := by decide +kernel
set_option maxRecDepth 20000 in
theorem ggL_account_X11_account : GoodIn wsL_account wsX11_account := goodIn_ca (goodIn_r _ [6, 7, 8, 9, 10, 11, 12, 13, 14, 15, 16, 17, 18, 19, 20, 21, 22, 23, 24, 25, 26, 27, 28, 29, 30, 31, 32, 33, 34, 35, 36, 37] (by decide +kernel) (by decide +kernel)) (goodIn_sub (fun _ h => List.mem_cons_of_mem _ (List.mem_append_right _ h)) (by decide +kernel))
set_option maxRecDepth 20000 in
theorem gL_account_X11_account : GoodIn wsL_account (wsV RL 30 RX11 yX11_account wsX11_account) := goodIn_app (goodIn_of _ (by decide +kernel)) ggL_account_X11_account
theorem dL_account_0 : decode cL_account 0 = .ok (.aload_n 2, 1) := by decide +kernel
theorem dL_account_1 : decode cL_account 1 = .ok (.iconst 0, 1) := by decide +kernel
theorem dL_account_2 : decode cL_account 2 = .ok (.aload_n 0, 1) := by decide +kernel
theorem dL_account_3 : decode cL_account 3 = .ok (.iload_n 1, 1) := by decide +kernel
theorem dL_account_4 : decode cL_account 4 = .ok (.invokevirtual 30, 3) := by decide +kernel
theorem dL_account_7 : decode cL_account 7 = .ok (.i2l, 1) := by decide +kernel
theorem dL_account_8 : decode cL_account 8 = .ok (.lastore, 1) := by decide +kernel
theorem dL_account_9 : decode cL_account 9 = .ok (.goto 6, 3) := by decide +kernel
theorem dL_account_12 : decode cL_account 12 = .ok (.astore_n 3, 1) := by decide +kernel
theorem dL_account_13 : decode cL_account 13 = .ok (.iconst 1, 1) := by decide +kernel
theorem dL_account_14 : decode cL_account 14 = .ok (.ireturn, 1) := by decide +kernel
theorem dL_account_15 : decode cL_account 15 = .ok (.iconst 0, 1) := by decide +kernel
theorem dL_account_16 : decode cL_account 16 = .ok (.ireturn, 1) := by decide +kernel
set_option maxRecDepth 20000 in
theorem ggL_tick_X11_tick : GoodIn wsL_tick wsX11_tick := goodIn_ca (goodIn_r _ [6, 7, 8, 9, 10, 11, 12, 5, 13, 14, 15, 16, 17, 18, 19, 20, 21, 22, 23, 24, 25, 26, 27, 28, 29, 30, 31, 32, 33, 34, 35, 36, 37, 38, 39, 40, 41, 42, 43, 44, 45, 46, 47, 48, 49, 50, 51, 52, 53, 54, 55, 56, 57, 58, 59, 60, 61, 62, 63, 64, 65, 66, 67, 68, 69, 70, 71, 72, 73, 74, 75, 76, 77, 78, 79, 80, 81, 82, 83, 84, 85, 86, 87, 88, 89, 90, 91, 92, 93, 94, 95, 96, 97, 98, 99, 100, 101, 102, 103, 104, 105, 106, 107, 108, 109, 110, 111, 112, 113, 114, 115, 116, 117, 118, 119, 120, 121, 122, 123, 124, 125, 126, 127, 128, 129, 130, 131, 132, 133, 134, 135, 136, 137, 138, 139, 140, 141, 142, 143, 144, 145, 146, 147, 148, 149, 150, 151, 152, 153, 154, 155, 156, 157, 158, 159, 160, 161, 162, 163, 164, 165, 166, 167, 168, 169, 170, 171, 172, 173, 174, 175, 176, 177, 178, 179, 180, 181, 182, 183, 184, 185, 186, 187, 188, 189, 190, 191, 192, 193, 194, 195, 196, 197, 198, 199, 200, 201, 202, 203, 204, 205, 206, 207, 208, 209, 210, 211, 212, 213, 214, 215] (by decide +kernel) (by decide +kernel)) (goodIn_sub (fun _ h => List.mem_cons_of_mem _ (List.mem_append_right _ h)) (by decide +kernel))
set_option maxRecDepth 20000 in
theorem gL_tick_X11_tick : GoodIn wsL_tick (wsV RL 33 RX11 yX11_tick wsX11_tick) := goodIn_app (goodIn_of _ (by decide +kernel)) ggL_tick_X11_tick
theorem dL_tick_0 : decode cL_tick 0 = .ok (.aload_n 2, 1) := by decide +kernel
theorem dL_tick_1 : decode cL_tick 1 = .ok (.iconst 0, 1) := by decide +kernel
theorem dL_tick_2 : decode cL_tick 2 = .ok (.aload_n 0, 1) := by decide +kernel
theorem dL_tick_3 : decode cL_tick 3 = .ok (.iload_n 1, 1) := by decide +kernel
theorem dL_tick_4 : decode cL_tick 4 = .ok (.invokevirtual 33, 3) := by decide +kernel
theorem dL_tick_7 : decode cL_tick 7 = .ok (.i2l, 1) := by decide +kernel
theorem dL_tick_8 : decode cL_tick 8 = .ok (.lastore, 1) := by decide +kernel
theorem dL_tick_9 : decode cL_tick 9 = .ok (.goto 6, 3) := by decide +kernel
theorem dL_tick_12 : decode cL_tick 12 = .ok (.astore_n 3, 1) := by decide +kernel
theorem dL_tick_13 : decode cL_tick 13 = .ok (.iconst 1, 1) := by decide +kernel
theorem dL_tick_14 : decode cL_tick 14 = .ok (.ireturn, 1) := by decide +kernel
theorem dL_tick_15 : decode cL_tick 15 = .ok (.iconst 0, 1) := by decide +kernel
theorem dL_tick_16 : decode cL_tick 16 = .ok (.ireturn, 1) := by decide +kernel
set_option maxRecDepth 20000 in
theorem ggL_mode_X11_mode : GoodIn wsL_mode wsX11_mode := goodIn_ca (goodIn_r _ [6, 7, 8, 9, 10, 11, 12, 5, 13, 14, 15, 16, 17, 18, 19, 20, 21, 22, 23, 24, 25, 26, 27, 28, 29, 30, 31, 32, 33, 34, 35, 36, 37, 38, 39, 40, 41, 42, 43, 44, 45, 46, 47, 48, 49, 50, 51, 52, 53, 54, 55, 56, 57, 58, 59, 60, 61, 62, 63, 64, 65, 66, 67, 68, 69, 70, 71, 72, 73, 74, 75, 76, 77, 78, 79, 80, 81, 82, 83, 84, 85, 86, 87, 88, 89, 90, 91, 92, 93, 94, 95, 96, 97, 98, 99, 100, 101, 102, 103, 104, 105, 106, 107, 108, 109, 110, 111, 112, 113, 114, 115, 116, 117, 118, 119, 120, 121, 122, 123, 124, 125, 126, 127, 128, 129, 130, 131, 132, 133, 134, 135, 136, 137, 138, 139, 140, 141, 142, 143, 144, 145, 146, 147, 148, 149, 150, 151, 152, 153, 154, 155, 156, 157, 158, 159, 160, 161, 162, 163, 164, 165, 166] (by decide +kernel) (by decide +kernel)) (goodIn_sub (fun _ h => List.mem_cons_of_mem _ (List.mem_append_right _ h)) (by decide +kernel))
set_option maxRecDepth 20000 in
theorem gL_mode_X11_mode : GoodIn wsL_mode (wsV RL 36 RX11 yX11_mode wsX11_mode) := goodIn_app (goodIn_of _ (by decide +kernel)) ggL_mode_X11_mode
theorem dL_mode_0 : decode cL_mode 0 = .ok (.aload_n 2, 1) := by decide +kernel
theorem dL_mode_1 : decode cL_mode 1 = .ok (.iconst 0, 1) := by decide +kernel
theorem dL_mode_2 : decode cL_mode 2 = .ok (.aload_n 0, 1) := by decide +kernel
theorem dL_mode_3 : decode cL_mode 3 = .ok (.iload_n 1, 1) := by decide +kernel
theorem dL_mode_4 : decode cL_mode 4 = .ok (.invokevirtual 36, 3) := by decide +kernel
theorem dL_mode_7 : decode cL_mode 7 = .ok (.i2l, 1) := by decide +kernel
theorem dL_mode_8 : decode cL_mode 8 = .ok (.lastore, 1) := by decide +kernel
theorem dL_mode_9 : decode cL_mode 9 = .ok (.goto 6, 3) := by decide +kernel
theorem dL_mode_12 : decode cL_mode 12 = .ok (.astore_n 3, 1) := by decide +kernel
theorem dL_mode_13 : decode cL_mode 13 = .ok (.iconst 1, 1) := by decide +kernel
theorem dL_mode_14 : decode cL_mode 14 = .ok (.ireturn, 1) := by decide +kernel
theorem dL_mode_15 : decode cL_mode 15 = .ok (.iconst 0, 1) := by decide +kernel
theorem dL_mode_16 : decode cL_mode 16 = .ok (.ireturn, 1) := by decide +kernel
set_option maxRecDepth 20000 in
theorem ggL_set_X11_set : GoodIn wsL_set wsX11_set := goodIn_ca (goodIn_r _ [6, 7, 8, 9, 10, 11, 12, 5, 13, 14, 15, 16, 17, 18, 19, 20, 21, 22, 23, 24, 25, 26, 27, 28, 29, 30, 31, 32, 33, 34, 35, 36, 37, 38, 39, 40, 41, 42, 43, 44, 45, 46, 47, 48, 49, 50, 51, 52, 53, 54, 55, 56, 57, 58, 59, 60, 61, 62, 63, 64, 65, 66, 67, 68, 69, 70, 71, 72, 73, 74, 75, 76, 77, 78, 79, 80, 81, 82, 83, 84, 85, 86, 87, 88, 89, 90, 91, 92, 93, 94, 95, 96, 97, 98, 99, 100, 101, 102, 103, 104, 105, 106, 107, 108, 109, 110, 111, 112, 113, 114, 115, 116, 117, 118, 119, 120, 121, 122, 123, 124, 125, 126, 127, 128, 129, 130, 131, 132, 133, 134, 135, 136, 137, 138, 139, 140, 141, 142, 143, 144, 145, 146, 147, 148, 149, 150, 151, 152, 153, 154, 155, 156, 157, 158, 159, 160, 161, 162, 163, 164, 165, 166, 167, 168, 169] (by decide +kernel) (by decide +kernel)) (goodIn_sub (fun _ h => List.mem_cons_of_mem _ (List.mem_append_right _ h)) (by decide +kernel))
set_option maxRecDepth 20000 in
theorem gL_set_X11_set : GoodIn wsL_set (wsV RL 39 RX11 yX11_set wsX11_set) := goodIn_app (goodIn_of _ (by decide +kernel)) ggL_set_X11_set
theorem dL_set_0 : decode cL_set 0 = .ok (.aload_n 3, 1) := by decide +kernel
theorem dL_set_1 : decode cL_set 1 = .ok (.iconst 0, 1) := by decide +kernel
theorem dL_set_2 : decode cL_set 2 = .ok (.aload_n 0, 1) := by decide +kernel
theorem dL_set_3 : decode cL_set 3 = .ok (.iload_n 1, 1) := by decide +kernel
theorem dL_set_4 : decode cL_set 4 = .ok (.iload_n 2, 1) := by decide +kernel
theorem dL_set_5 : decode cL_set 5 = .ok (.invokevirtual 39, 3) := by decide +kernel
theorem dL_set_8 : decode cL_set 8 = .ok (.i2l, 1) := by decide +kernel
theorem dL_set_9 : decode cL_set 9 = .ok (.lastore, 1) := by decide +kernel
theorem dL_set_10 : decode cL_set 10 = .ok (.goto 7, 3) := by decide +kernel
theorem dL_set_13 : decode cL_set 13 = .ok (.astore 4, 2) := by decide +kernel
theorem dL_set_15 : decode cL_set 15 = .ok (.iconst 1, 1) := by decide +kernel
theorem dL_set_16 : decode cL_set 16 = .ok (.ireturn, 1) := by decide +kernel
theorem dL_set_17 : decode cL_set 17 = .ok (.iconst 0, 1) := by decide +kernel
theorem dL_set_18 : decode cL_set 18 = .ok (.ireturn, 1) := by decide +kernel
set_option maxRecDepth 20000 in
theorem ggL_disturb_X11_disturb : GoodIn wsL_disturb wsX11_disturb := goodIn_ca (goodIn_r _ [6, 7, 8, 9, 10, 11, 12, 5, 13, 14, 15, 16, 17, 18, 19, 20, 21, 22, 23, 24, 25, 26, 27, 28, 29, 30, 31, 32, 33, 34, 35, 36, 37, 38, 39, 40, 41, 42, 43, 44, 45, 46, 47, 48, 49, 50, 51, 52, 53, 54, 55, 56, 57, 58, 59, 60, 61, 62, 63, 64, 65, 66, 67, 68, 69, 70, 71, 72, 73, 74, 75, 76, 77, 78, 79, 80, 81, 82, 83, 84, 85, 86, 87, 88, 89, 90, 91, 92, 93, 94, 95, 96, 97, 98, 99, 100, 101, 102, 103, 104, 105, 106, 107, 108, 109, 110, 111, 112, 113, 114, 115, 116, 117, 118, 119, 120, 121, 122, 123, 124, 125, 126, 127, 128, 129, 130, 131, 132, 133, 134, 135, 136, 137, 138, 139, 140, 141, 142, 143, 144, 145, 146, 147, 148, 149, 150, 151, 152, 153, 154, 155, 156, 157, 158, 159, 160, 161, 162, 163, 164] (by decide +kernel) (by decide +kernel)) (goodIn_sub (fun _ h => List.mem_cons_of_mem _ (List.mem_append_right _ h)) (by decide +kernel))
set_option maxRecDepth 20000 in
theorem gL_disturb_X11_disturb : GoodIn wsL_disturb (wsV RL 42 RX11 yX11_disturb wsX11_disturb) := goodIn_app (goodIn_of _ (by decide +kernel)) ggL_disturb_X11_disturb
theorem dL_disturb_0 : decode cL_disturb 0 = .ok (.aload_n 2, 1) := by decide +kernel
theorem dL_disturb_1 : decode cL_disturb 1 = .ok (.iconst 0, 1) := by decide +kernel
theorem dL_disturb_2 : decode cL_disturb 2 = .ok (.aload_n 0, 1) := by decide +kernel
theorem dL_disturb_3 : decode cL_disturb 3 = .ok (.iload_n 1, 1) := by decide +kernel
theorem dL_disturb_4 : decode cL_disturb 4 = .ok (.invokevirtual 42, 3) := by decide +kernel
theorem dL_disturb_7 : decode cL_disturb 7 = .ok (.i2l, 1) := by decide +kernel
theorem dL_disturb_8 : decode cL_disturb 8 = .ok (.lastore, 1) := by decide +kernel
theorem dL_disturb_9 : decode cL_disturb 9 = .ok (.goto 6, 3) := by decide +kernel
theorem dL_disturb_12 : decode cL_disturb 12 = .ok (.astore_n 3, 1) := by decide +kernel
theorem dL_disturb_13 : decode cL_disturb 13 = .ok (.iconst 1, 1) := by decide +kernel
theorem dL_disturb_14 : decode cL_disturb 14 = .ok (.ireturn, 1) := by decide +kernel
theorem dL_disturb_15 : decode cL_disturb 15 = .ok (.iconst 0, 1) := by decide +kernel
theorem dL_disturb_16 : decode cL_disturb 16 = .ok (.ireturn, 1) := by decide +kernel
set_option maxRecDepth 20000 in
theorem ggL_discard_X11_discard : GoodIn wsL_discard wsX11_discard := goodIn_ca (goodIn_r _ [6, 7, 8, 9, 10, 11, 12, 13, 14, 15, 16, 17, 18, 19, 20, 21, 22, 23, 24, 25, 26, 27, 28, 29, 30, 31, 32, 33, 34, 35, 36, 37, 38, 39, 40, 41, 42, 43, 44, 45, 46, 47, 48, 49, 50, 51, 52, 53, 54, 55, 56, 57, 58, 59, 60, 61, 62, 63, 64, 65, 66, 67, 68, 69, 70, 71, 72, 73, 74, 75, 76, 77, 78, 79, 80, 81, 82, 83, 84, 85, 86, 87, 88, 89, 90, 91, 92, 93, 94, 95, 96, 97, 98, 99, 100, 101, 102, 103, 104, 105, 106, 107, 108, 109, 110, 111, 112, 113, 114, 115, 116, 117, 118, 119, 120, 121, 122, 123, 124, 125, 126, 127, 128, 129, 130, 131, 132, 133, 134, 135, 136, 137, 138, 139, 140, 141, 142, 143, 144, 145, 146, 147, 148, 149, 150, 151, 152, 153, 154, 155, 156, 157, 158, 159, 160, 161, 162, 163, 164, 165] (by decide +kernel) (by decide +kernel)) (goodIn_sub (fun _ h => List.mem_cons_of_mem _ (List.mem_append_right _ h)) (by decide +kernel))
set_option maxRecDepth 20000 in
theorem gL_discard_X11_discard : GoodIn wsL_discard (wsV RL 45 RX11 yX11_discard wsX11_discard) := goodIn_app (goodIn_of _ (by decide +kernel)) ggL_discard_X11_discard
theorem dL_discard_0 : decode cL_discard 0 = .ok (.aload_n 2, 1) := by decide +kernel
theorem dL_discard_1 : decode cL_discard 1 = .ok (.iconst 0, 1) := by decide +kernel
theorem dL_discard_2 : decode cL_discard 2 = .ok (.aload_n 0, 1) := by decide +kernel
theorem dL_discard_3 : decode cL_discard 3 = .ok (.iload_n 1, 1) := by decide +kernel
theorem dL_discard_4 : decode cL_discard 4 = .ok (.invokevirtual 45, 3) := by decide +kernel
theorem dL_discard_7 : decode cL_discard 7 = .ok (.i2l, 1) := by decide +kernel
theorem dL_discard_8 : decode cL_discard 8 = .ok (.lastore, 1) := by decide +kernel
theorem dL_discard_9 : decode cL_discard 9 = .ok (.goto 6, 3) := by decide +kernel
theorem dL_discard_12 : decode cL_discard 12 = .ok (.astore_n 3, 1) := by decide +kernel
theorem dL_discard_13 : decode cL_discard 13 = .ok (.iconst 1, 1) := by decide +kernel
theorem dL_discard_14 : decode cL_discard 14 = .ok (.ireturn, 1) := by decide +kernel
theorem dL_discard_15 : decode cL_discard 15 = .ok (.iconst 0, 1) := by decide +kernel
theorem dL_discard_16 : decode cL_discard 16 = .ok (.ireturn, 1) := by decide +kernel
set_option maxRecDepth 20000 in
theorem ggL_tryRule_X11_tryRule : GoodIn wsL_tryRule wsX11_tryRule := goodIn_ca (goodIn_ca (goodIn_r _ [7, 8, 9, 10, 11, 12, 13, 14, 15, 6, 16, 17, 18, 19, 20, 21, 22, 23, 24, 25, 26, 27, 28, 29, 30, 31, 32, 33, 34, 35, 36, 37, 38, 39, 40, 41, 42, 43, 44, 45, 46, 47, 48, 49, 50, 51, 52, 53, 54, 55, 56, 57, 58, 59, 60, 61, 62, 63, 64, 65, 66, 67, 68, 69, 70, 71, 72, 73, 74, 75, 76, 77, 78, 79, 80, 81, 82, 83, 84, 85, 86, 87, 88, 89, 90, 91, 92, 93, 94, 95, 96, 97, 98, 99, 100, 101, 102, 103, 104, 105, 106, 107, 108, 109, 110, 111, 112, 113, 114, 115, 116, 117, 118, 119, 120, 121, 122, 123, 124, 125, 126, 127, 128, 129, 130, 131, 132, 133, 134, 135, 136, 137, 138, 139, 140, 141, 142, 143, 144, 145, 146, 147, 148, 149, 150, 151, 152, 153, 154, 155, 156, 157, 158, 159, 160, 161, 162, 163, 164, 165, 166, 167, 168, 169, 170, 171, 172, 173, 174, 175, 176, 177, 178, 179, 180, 181, 182, 183, 184, 185, 186, 187, 188, 189, 190, 191, 192, 193, 194, 195, 196, 197, 198, 199, 200, 201, 202, 203, 204, 205, 206, 207, 208, 209, 210, 211, 212, 213, 214, 215, 216, 217, 218, 219, 220, 221, 222, 223, 224, 225, 226, 227, 228, 229, 230, 231, 232, 233, 234, 235] (by decide +kernel) (by decide +kernel)) (goodIn_sub (fun _ h => List.mem_cons_of_mem _ (List.mem_append_left _ (List.mem_append_right _ h))) (by decide +kernel))) (goodIn_sub (fun _ h => List.mem_cons_of_mem _ (List.mem_append_right _ h)) (by decide +kernel))
set_option maxRecDepth 20000 in
theorem gL_tryRule_X11_tryRule : GoodIn wsL_tryRule (wsV RL 48 RX11 yX11_tryRule wsX11_tryRule) := goodIn_app (goodIn_of _ (by decide +kernel)) ggL_tryRule_X11_tryRule
theorem dL_tryRule_0 : decode cL_tryRule 0 = .ok (.aload_n 2, 1) := by decide +kernel
theorem dL_tryRule_1 : decode cL_tryRule 1 = .ok (.iconst 0, 1) := by decide +kernel
theorem dL_tryRule_2 : decode cL_tryRule 2 = .ok (.aload_n 0, 1) := by decide +kernel
theorem dL_tryRule_3 : decode cL_tryRule 3 = .ok (.iload_n 1, 1) := by decide +kernel
theorem dL_tryRule_4 : decode cL_tryRule 4 = .ok (.invokevirtual 48, 3) := by decide +kernel
theorem dL_tryRule_7 : decode cL_tryRule 7 = .ok (.i2l, 1) := by decide +kernel
theorem dL_tryRule_8 : decode cL_tryRule 8 = .ok (.lastore, 1) := by decide +kernel
theorem dL_tryRule_9 : decode cL_tryRule 9 = .ok (.goto 9, 3) := by decide +kernel
theorem dL_tryRule_12 : decode cL_tryRule 12 = .ok (.astore_n 3, 1) := by decide +kernel
theorem dL_tryRule_13 : decode cL_tryRule 13 = .ok (.iconst 1, 1) := by decide +kernel
theorem dL_tryRule_14 : decode cL_tryRule 14 = .ok (.ireturn, 1) := by decide +kernel
theorem dL_tryRule_15 : decode cL_tryRule 15 = .ok (.astore_n 3, 1) := by decide +kernel
theorem dL_tryRule_16 : decode cL_tryRule 16 = .ok (.iconst 2, 1) := by decide +kernel
theorem dL_tryRule_17 : decode cL_tryRule 17 = .ok (.ireturn, 1) := by decide +kernel
theorem dL_tryRule_18 : decode cL_tryRule 18 = .ok (.iconst 0, 1) := by decide +kernel
theorem dL_tryRule_19 : decode cL_tryRule 19 = .ok (.ireturn, 1) := by decide +kernel
set_option maxRecDepth 20000 in
theorem ggL_takeBack_X11_takeBack : GoodIn wsL_takeBack wsX11_takeBack := goodIn_ca (goodIn_r _ [6, 7, 8, 9, 10, 11, 12, 13, 14, 15, 16, 17, 18, 19, 20, 21, 22, 23, 24, 25, 26, 27, 28, 29, 30, 31, 32, 33, 34, 35, 36, 37, 38, 39, 40, 41, 42, 43, 44, 45, 46, 47, 48, 49, 50, 51, 52, 53, 54, 55, 56, 57, 58, 59, 60, 61, 62, 63, 64, 65, 66, 67, 68, 69, 70, 71, 72, 73, 74, 75, 76, 77, 78, 79, 80, 81, 82, 83, 84, 85, 86, 87, 88, 89, 90, 91, 92, 93, 94, 95, 96, 97, 98, 99, 100, 101, 102, 103, 104, 105, 106, 107, 108, 109, 110, 111, 112, 113, 5, 114, 115, 116, 117, 118, 119, 120, 121, 122, 123, 124, 125, 126, 127, 128, 129, 130, 131, 132, 133, 134, 135, 136, 137, 138, 139, 140, 141, 142, 143, 144, 145, 146, 147, 148, 149, 150, 151, 152, 153, 154, 155, 156, 157, 158, 159, 160, 161, 162, 163, 164, 165, 166, 167, 168, 169, 170, 171, 172, 173] (by decide +kernel) (by decide +kernel)) (goodIn_sub (fun _ h => List.mem_cons_of_mem _ (List.mem_append_right _ h)) (by decide +kernel))
set_option maxRecDepth 20000 in
theorem gL_takeBack_X11_takeBack : GoodIn wsL_takeBack (wsV RL 51 RX11 yX11_takeBack wsX11_takeBack) := goodIn_app (goodIn_of _ (by decide +kernel)) ggL_takeBack_X11_takeBack
theorem dL_takeBack_0 : decode cL_takeBack 0 = .ok (.aload_n 1, 1) := by decide +kernel
theorem dL_takeBack_1 : decode cL_takeBack 1 = .ok (.iconst 0, 1) := by decide +kernel
theorem dL_takeBack_2 : decode cL_takeBack 2 = .ok (.aload_n 0, 1) := by decide +kernel
theorem dL_takeBack_3 : decode cL_takeBack 3 = .ok (.invokevirtual 51, 3) := by decide +kernel
theorem dL_takeBack_6 : decode cL_takeBack 6 = .ok (.i2l, 1) := by decide +kernel
theorem dL_takeBack_7 : decode cL_takeBack 7 = .ok (.lastore, 1) := by decide +kernel
theorem dL_takeBack_8 : decode cL_takeBack 8 = .ok (.goto 6, 3) := by decide +kernel
theorem dL_takeBack_11 : decode cL_takeBack 11 = .ok (.astore_n 2, 1) := by decide +kernel
theorem dL_takeBack_12 : decode cL_takeBack 12 = .ok (.iconst 1, 1) := by decide +kernel
theorem dL_takeBack_13 : decode cL_takeBack 13 = .ok (.ireturn, 1) := by decide +kernel
theorem dL_takeBack_14 : decode cL_takeBack 14 = .ok (.iconst 0, 1) := by decide +kernel
theorem dL_takeBack_15 : decode cL_takeBack 15 = .ok (.ireturn, 1) := by decide +kernel
set_option maxRecDepth 20000 in
theorem ggL_undo_X11_undo : GoodIn wsL_undo wsX11_undo := goodIn_ca (goodIn_r _ [6, 7, 8, 9, 10, 11, 12, 13, 14, 15, 16, 17, 18, 19, 20, 21, 22, 23, 24, 25, 26, 27, 28, 29, 30, 31, 32, 33, 34, 35, 36, 37, 38, 39, 40, 41, 42, 43, 44, 45, 46, 47, 48, 49, 50, 51, 52, 53, 54, 55, 56, 57, 58, 59, 60, 61, 62, 63, 64, 65, 66, 67, 68, 69, 70, 71, 72, 73, 74, 75, 76, 77, 78, 79, 80, 81, 82, 83, 84, 85, 86, 87, 88, 89, 90, 91, 92, 93, 94, 95, 96, 97, 98, 99, 100, 101, 102, 103, 104, 105, 106, 107, 108, 109, 110, 111, 112, 113, 114, 115, 116, 117, 118, 119, 120, 121, 122, 123, 124, 125, 126, 127, 128, 129, 130, 131, 132, 133, 134, 135, 136, 137, 138, 139, 140, 141, 142, 143, 144, 145, 146, 147] (by decide +kernel) (by decide +kernel)) (goodIn_sub (fun _ h => List.mem_cons_of_mem _ (List.mem_append_right _ h)) (by decide +kernel))
set_option maxRecDepth 20000 in
theorem gL_undo_X11_undo : GoodIn wsL_undo (wsV RL 54 RX11 yX11_undo wsX11_undo) := goodIn_app (goodIn_of _ (by decide +kernel)) ggL_undo_X11_undo
theorem dL_undo_0 : decode cL_undo 0 = .ok (.aload_n 1, 1) := by decide +kernel
theorem dL_undo_1 : decode cL_undo 1 = .ok (.iconst 0, 1) := by decide +kernel
theorem dL_undo_2 : decode cL_undo 2 = .ok (.aload_n 0, 1) := by decide +kernel
theorem dL_undo_3 : decode cL_undo 3 = .ok (.invokevirtual 54, 3) := by decide +kernel
theorem dL_undo_6 : decode cL_undo 6 = .ok (.i2l, 1) := by decide +kernel
theorem dL_undo_7 : decode cL_undo 7 = .ok (.lastore, 1) := by decide +kernel
theorem dL_undo_8 : decode cL_undo 8 = .ok (.goto 6, 3) := by decide +kernel
theorem dL_undo_11 : decode cL_undo 11 = .ok (.astore_n 2, 1) := by decide +kernel
theorem dL_undo_12 : decode cL_undo 12 = .ok (.iconst 1, 1) := by decide +kernel
theorem dL_undo_13 : decode cL_undo 13 = .ok (.ireturn, 1) := by decide +kernel
theorem dL_undo_14 : decode cL_undo 14 = .ok (.iconst 0, 1) := by decide +kernel
theorem dL_undo_15 : decode cL_undo 15 = .ok (.ireturn, 1) := by decide +kernel
set_option maxRecDepth 20000 in
theorem ggL_proposal_X11_proposal : GoodIn wsL_proposal wsX11_proposal := goodIn_ca (goodIn_ca (goodIn_r _ [7, 8, 9, 10, 11, 12, 13, 14, 6, 15, 16, 17, 18, 19, 20, 21, 22, 23, 24, 25, 26, 27, 28, 29, 30, 31, 32, 33, 34, 35, 36, 37, 38, 39, 40, 41, 42, 43, 44, 45, 46, 47, 48, 49, 50, 51, 52, 53, 54, 55, 56, 57, 58, 59, 60, 61, 62, 63, 64, 65, 66, 67, 68, 69, 70, 71, 72, 73, 74, 75, 76, 77, 78, 79, 80, 81, 82, 83, 84, 85, 86, 87, 88, 89, 90, 91, 92, 93, 94, 95, 96, 97, 98, 99, 100, 101, 102, 103, 104] (by decide +kernel) (by decide +kernel)) (goodIn_sub (fun _ h => List.mem_cons_of_mem _ (List.mem_append_left _ (List.mem_append_right _ h))) (by decide +kernel))) (goodIn_sub (fun _ h => List.mem_cons_of_mem _ (List.mem_append_right _ h)) (by decide +kernel))
set_option maxRecDepth 20000 in
theorem gL_proposal_X11_proposal : GoodIn wsL_proposal (wsV RL 57 RX11 yX11_proposal wsX11_proposal) := goodIn_app (goodIn_of _ (by decide +kernel)) ggL_proposal_X11_proposal
theorem dL_proposal_0 : decode cL_proposal 0 = .ok (.aload_n 3, 1) := by decide +kernel
theorem dL_proposal_1 : decode cL_proposal 1 = .ok (.iconst 0, 1) := by decide +kernel
theorem dL_proposal_2 : decode cL_proposal 2 = .ok (.aload_n 0, 1) := by decide +kernel
theorem dL_proposal_3 : decode cL_proposal 3 = .ok (.iload_n 1, 1) := by decide +kernel
theorem dL_proposal_4 : decode cL_proposal 4 = .ok (.iload_n 2, 1) := by decide +kernel
theorem dL_proposal_5 : decode cL_proposal 5 = .ok (.invokevirtual 57, 3) := by decide +kernel
theorem dL_proposal_8 : decode cL_proposal 8 = .ok (.i2l, 1) := by decide +kernel
theorem dL_proposal_9 : decode cL_proposal 9 = .ok (.lastore, 1) := by decide +kernel
theorem dL_proposal_10 : decode cL_proposal 10 = .ok (.goto 11, 3) := by decide +kernel
theorem dL_proposal_13 : decode cL_proposal 13 = .ok (.astore 4, 2) := by decide +kernel
theorem dL_proposal_15 : decode cL_proposal 15 = .ok (.iconst 1, 1) := by decide +kernel
theorem dL_proposal_16 : decode cL_proposal 16 = .ok (.ireturn, 1) := by decide +kernel
theorem dL_proposal_17 : decode cL_proposal 17 = .ok (.astore 4, 2) := by decide +kernel
theorem dL_proposal_19 : decode cL_proposal 19 = .ok (.iconst 2, 1) := by decide +kernel
theorem dL_proposal_20 : decode cL_proposal 20 = .ok (.ireturn, 1) := by decide +kernel
theorem dL_proposal_21 : decode cL_proposal 21 = .ok (.iconst 0, 1) := by decide +kernel
theorem dL_proposal_22 : decode cL_proposal 22 = .ok (.ireturn, 1) := by decide +kernel
set_option maxRecDepth 20000 in
theorem ggL_toleranceFor_X11_toleranceFor : GoodIn wsL_toleranceFor wsX11_toleranceFor := goodIn_ca (goodIn_r _ [6, 7, 8, 9, 10, 11, 12, 13, 14, 15, 16, 17, 18, 19, 20, 21, 22, 23, 24, 25, 26, 27, 28, 29, 30, 31, 32, 33, 34, 35, 36, 37, 38, 39, 40, 41, 42, 43, 44, 45, 46, 47, 48, 49, 50, 51, 52, 53, 54, 55, 56, 57, 58] (by decide +kernel) (by decide +kernel)) (goodIn_sub (fun _ h => List.mem_cons_of_mem _ (List.mem_append_right _ h)) (by decide +kernel))
set_option maxRecDepth 20000 in
theorem gL_toleranceFor_X11_toleranceFor : GoodIn wsL_toleranceFor (wsV RL 60 RX11 yX11_toleranceFor wsX11_toleranceFor) := goodIn_app (goodIn_of _ (by decide +kernel)) ggL_toleranceFor_X11_toleranceFor
theorem dL_toleranceFor_0 : decode cL_toleranceFor 0 = .ok (.aload_n 2, 1) := by decide +kernel
theorem dL_toleranceFor_1 : decode cL_toleranceFor 1 = .ok (.iconst 0, 1) := by decide +kernel
theorem dL_toleranceFor_2 : decode cL_toleranceFor 2 = .ok (.aload_n 0, 1) := by decide +kernel
theorem dL_toleranceFor_3 : decode cL_toleranceFor 3 = .ok (.iload_n 1, 1) := by decide +kernel
theorem dL_toleranceFor_4 : decode cL_toleranceFor 4 = .ok (.invokevirtual 60, 3) := by decide +kernel
theorem dL_toleranceFor_7 : decode cL_toleranceFor 7 = .ok (.i2l, 1) := by decide +kernel
theorem dL_toleranceFor_8 : decode cL_toleranceFor 8 = .ok (.lastore, 1) := by decide +kernel
theorem dL_toleranceFor_9 : decode cL_toleranceFor 9 = .ok (.goto 6, 3) := by decide +kernel
theorem dL_toleranceFor_12 : decode cL_toleranceFor 12 = .ok (.astore_n 3, 1) := by decide +kernel
theorem dL_toleranceFor_13 : decode cL_toleranceFor 13 = .ok (.iconst 1, 1) := by decide +kernel
theorem dL_toleranceFor_14 : decode cL_toleranceFor 14 = .ok (.ireturn, 1) := by decide +kernel
theorem dL_toleranceFor_15 : decode cL_toleranceFor 15 = .ok (.iconst 0, 1) := by decide +kernel
theorem dL_toleranceFor_16 : decode cL_toleranceFor 16 = .ok (.ireturn, 1) := by decide +kernel
set_option maxRecDepth 20000 in
theorem ggL_ahead_X11_ahead : GoodIn wsL_ahead wsX11_ahead := goodIn_ca (goodIn_r _ [6, 7, 8, 9, 10, 11, 12, 5, 13, 14, 15, 16, 17, 18, 19, 20, 21, 22, 23, 24, 25, 26, 27, 28, 29, 30, 31, 32, 33, 34, 35, 36, 37, 38, 39, 40, 41, 42, 43, 44, 45, 46, 47, 48, 49, 50, 51, 52, 53, 54, 55, 56, 57, 58, 59, 60, 61, 62, 63, 64, 65, 66, 67, 68, 69, 70, 71, 72, 73, 74, 75, 76, 77, 78, 79, 80, 81, 82, 83, 84, 85, 86, 87, 88, 89, 90, 91, 92, 93, 94, 95, 96, 97, 98, 99, 100, 101, 102, 103, 104, 105, 106, 107, 108, 109, 110, 111, 112, 113, 114, 115, 116, 117, 118, 119, 120, 121, 122, 123, 124, 125, 126, 127, 128, 129, 130, 131, 132, 133, 134, 135, 136, 137, 138, 139, 140, 141, 142, 143, 144, 145, 146, 147, 148, 149, 150, 151, 152, 153, 154, 155, 156, 157, 158, 159, 160, 161, 162, 163, 164, 165, 166, 167, 168, 169, 170, 171, 172, 173, 174, 175, 176, 177, 178, 179, 180, 181, 182, 183, 184, 185, 186, 187, 188, 189, 190, 191, 192, 193, 194, 195, 196, 197, 198, 199, 200, 201, 202, 203, 204, 205, 206, 207, 208, 209, 210, 211] (by decide +kernel) (by decide +kernel)) (goodIn_sub (fun _ h => List.mem_cons_of_mem _ (List.mem_append_right _ h)) (by decide +kernel))
set_option maxRecDepth 20000 in
theorem gL_ahead_X11_ahead : GoodIn wsL_ahead (wsV RL 63 RX11 yX11_ahead wsX11_ahead) := goodIn_app (goodIn_of _ (by decide +kernel)) ggL_ahead_X11_ahead
theorem dL_ahead_0 : decode cL_ahead 0 = .ok (.aload_n 3, 1) := by decide +kernel
theorem dL_ahead_1 : decode cL_ahead 1 = .ok (.iconst 0, 1) := by decide +kernel
theorem dL_ahead_2 : decode cL_ahead 2 = .ok (.aload_n 0, 1) := by decide +kernel
theorem dL_ahead_3 : decode cL_ahead 3 = .ok (.iload_n 1, 1) := by decide +kernel
theorem dL_ahead_4 : decode cL_ahead 4 = .ok (.iload_n 2, 1) := by decide +kernel
theorem dL_ahead_5 : decode cL_ahead 5 = .ok (.invokevirtual 63, 3) := by decide +kernel
theorem dL_ahead_8 : decode cL_ahead 8 = .ok (.i2l, 1) := by decide +kernel
theorem dL_ahead_9 : decode cL_ahead 9 = .ok (.lastore, 1) := by decide +kernel
theorem dL_ahead_10 : decode cL_ahead 10 = .ok (.goto 7, 3) := by decide +kernel
theorem dL_ahead_13 : decode cL_ahead 13 = .ok (.astore 4, 2) := by decide +kernel
theorem dL_ahead_15 : decode cL_ahead 15 = .ok (.iconst 1, 1) := by decide +kernel
theorem dL_ahead_16 : decode cL_ahead 16 = .ok (.ireturn, 1) := by decide +kernel
theorem dL_ahead_17 : decode cL_ahead 17 = .ok (.iconst 0, 1) := by decide +kernel
theorem dL_ahead_18 : decode cL_ahead 18 = .ok (.ireturn, 1) := by decide +kernel
set_option maxRecDepth 20000 in
theorem ggL_outcome_X11_outcome : GoodIn wsL_outcome wsX11_outcome := goodIn_ca (goodIn_ca (goodIn_r _ [7, 8, 9, 10, 11, 12, 13, 6, 14, 15, 16, 17, 18, 19, 20, 21, 22, 23, 24, 25, 26, 27, 28, 29, 30, 31, 32, 33, 34, 35, 36, 37, 38, 39, 40, 41, 42, 43, 44, 45, 46, 47, 48, 49, 50, 51, 52, 53, 54, 55, 56, 57, 58, 59, 60, 61, 62, 63, 64, 65, 66, 67, 68, 69, 70, 71, 72, 73, 74, 75, 76, 77, 78, 79, 80, 81, 82, 83, 84, 85, 86, 87, 88, 89, 90, 91, 92, 93, 94, 95, 96, 97, 98, 99, 100, 101, 102, 103, 104, 105, 106, 107, 108, 109, 110, 111, 112, 113, 114, 115, 116, 117, 118, 119, 120, 121, 122, 123, 124, 125, 126, 127, 128, 129, 130, 131, 132, 133, 134, 135, 136, 137, 138, 139, 140, 141, 142, 143, 144, 145, 146, 147, 148, 149, 150, 151, 152, 153, 154, 155, 156, 157, 158, 159, 160, 161, 162, 163, 164, 165, 166, 167, 168, 169, 170, 171, 172, 173, 174, 175, 176, 177, 178, 179, 180, 181, 182, 183, 184, 185, 186, 187, 188, 189, 190, 191, 192, 193, 194, 195, 196, 197, 198, 199, 200, 201, 202, 203, 204, 205, 206, 207, 208, 209, 210, 211, 212, 213, 214, 215, 216, 217, 218, 219, 220, 221, 222, 223, 224, 225, 226, 227, 228, 229, 230, 231, 232, 233, 234, 235, 236, 237, 238, 239, 240, 241, 242, 243, 244, 245, 246, 247, 248, 249, 250, 251, 252, 253, 254, 255, 256, 257, 258, 259, 260, 261, 262, 263, 264, 265, 266, 267, 268, 269, 270, 271, 272, 273, 274, 275, 276, 277, 278, 279, 280, 281, 282, 283, 284, 285, 286, 287] (by decide +kernel) (by decide +kernel)) (goodIn_sub (fun _ h => List.mem_cons_of_mem _ (List.mem_append_left _ (List.mem_append_right _ h))) (by decide +kernel))) (goodIn_sub (fun _ h => List.mem_cons_of_mem _ (List.mem_append_right _ h)) (by decide +kernel))
set_option maxRecDepth 20000 in
theorem gL_outcome_X11_outcome : GoodIn wsL_outcome (wsV RL 66 RX11 yX11_outcome wsX11_outcome) := goodIn_app (goodIn_of _ (by decide +kernel)) ggL_outcome_X11_outcome
theorem dL_outcome_0 : decode cL_outcome 0 = .ok (.aload 4, 2) := by decide +kernel
theorem dL_outcome_2 : decode cL_outcome 2 = .ok (.iconst 0, 1) := by decide +kernel
theorem dL_outcome_3 : decode cL_outcome 3 = .ok (.aload_n 0, 1) := by decide +kernel
theorem dL_outcome_4 : decode cL_outcome 4 = .ok (.iload_n 1, 1) := by decide +kernel
theorem dL_outcome_5 : decode cL_outcome 5 = .ok (.iload_n 2, 1) := by decide +kernel
theorem dL_outcome_6 : decode cL_outcome 6 = .ok (.iload_n 3, 1) := by decide +kernel
theorem dL_outcome_7 : decode cL_outcome 7 = .ok (.invokevirtual 66, 3) := by decide +kernel
theorem dL_outcome_10 : decode cL_outcome 10 = .ok (.i2l, 1) := by decide +kernel
theorem dL_outcome_11 : decode cL_outcome 11 = .ok (.lastore, 1) := by decide +kernel
theorem dL_outcome_12 : decode cL_outcome 12 = .ok (.goto 11, 3) := by decide +kernel
theorem dL_outcome_15 : decode cL_outcome 15 = .ok (.astore 5, 2) := by decide +kernel
theorem dL_outcome_17 : decode cL_outcome 17 = .ok (.iconst 1, 1) := by decide +kernel
theorem dL_outcome_18 : decode cL_outcome 18 = .ok (.ireturn, 1) := by decide +kernel
theorem dL_outcome_19 : decode cL_outcome 19 = .ok (.astore 5, 2) := by decide +kernel
theorem dL_outcome_21 : decode cL_outcome 21 = .ok (.iconst 2, 1) := by decide +kernel
theorem dL_outcome_22 : decode cL_outcome 22 = .ok (.ireturn, 1) := by decide +kernel
theorem dL_outcome_23 : decode cL_outcome 23 = .ok (.iconst 0, 1) := by decide +kernel
theorem dL_outcome_24 : decode cL_outcome 24 = .ok (.ireturn, 1) := by decide +kernel
set_option maxRecDepth 20000 in
theorem ggL_bestRule_X11_bestRule : GoodIn wsL_bestRule wsX11_bestRule := goodIn_ca (goodIn_r _ [6, 7, 8, 9, 10, 11, 12, 5, 13, 14, 15, 16, 17, 18, 19, 20, 21, 22, 23, 24, 25, 26, 27, 28, 29, 30, 31, 32, 33, 34, 35, 36, 37, 38, 39, 40, 41, 42, 43, 44, 45, 46, 47, 48, 49, 50, 51, 52, 53, 54, 55, 56, 57, 58, 59, 60, 61, 62, 63, 64, 65, 66, 67, 68, 69, 70, 71, 72, 73, 74, 75, 76, 77, 78, 79, 80, 81, 82, 83, 84, 85, 86, 87, 88, 89, 90, 91, 92, 93, 94, 95, 96, 97, 98, 99, 100, 101, 102, 103, 104, 105, 106, 107, 108, 109, 110, 111, 112, 113, 114, 115, 116, 117, 118, 119, 120, 121, 122, 123, 124, 125, 126, 127, 128, 129, 130, 131, 132, 133, 134, 135, 136, 137, 138, 139, 140, 141, 142, 143, 144, 145, 146, 147, 148, 149, 150, 151, 152, 153, 154, 155, 156, 157, 158, 159, 160, 161, 162, 163, 164, 165, 166, 167, 168, 169, 170, 171, 172, 173, 174, 175, 176, 177, 178, 179, 180, 181, 182, 183, 184, 185, 186, 187, 188, 189, 190, 191, 192, 193, 194, 195, 196, 197, 198, 199, 200, 201, 202, 203, 204, 205, 206, 207, 208, 209, 210, 211, 212, 213, 214, 215, 216, 217, 218, 219, 220, 221, 222, 223, 224, 225, 226, 227, 228, 229, 230, 231, 232, 233, 234, 235, 236, 237, 238, 239, 240, 241, 242, 243, 244, 245, 246, 247, 248, 249, 250, 251, 252, 253, 254, 255, 256, 257, 258, 259, 260, 261, 262, 263, 264, 265, 266, 267, 268, 269, 270, 271, 272, 273, 274, 275, 276, 277, 278] (by decide +kernel) (by decide +kernel)) (goodIn_sub (fun _ h => List.mem_cons_of_mem _ (List.mem_append_right _ h)) (by decide +kernel))
set_option maxRecDepth 20000 in
theorem gL_bestRule_X11_bestRule : GoodIn wsL_bestRule (wsV RL 70 RX11 yX11_bestRule wsX11_bestRule) := goodIn_app (goodIn_of _ (by decide +kernel)) ggL_bestRule_X11_bestRule
theorem dL_bestRule_0 : decode cL_bestRule 0 = .ok (.aload_n 2, 1) := by decide +kernel
theorem dL_bestRule_1 : decode cL_bestRule 1 = .ok (.iconst 0, 1) := by decide +kernel
theorem dL_bestRule_2 : decode cL_bestRule 2 = .ok (.aload_n 0, 1) := by decide +kernel
theorem dL_bestRule_3 : decode cL_bestRule 3 = .ok (.iload_n 1, 1) := by decide +kernel
theorem dL_bestRule_4 : decode cL_bestRule 4 = .ok (.invokevirtual 70, 3) := by decide +kernel
theorem dL_bestRule_7 : decode cL_bestRule 7 = .ok (.i2l, 1) := by decide +kernel
theorem dL_bestRule_8 : decode cL_bestRule 8 = .ok (.lastore, 1) := by decide +kernel
theorem dL_bestRule_9 : decode cL_bestRule 9 = .ok (.goto 6, 3) := by decide +kernel
theorem dL_bestRule_12 : decode cL_bestRule 12 = .ok (.astore_n 3, 1) := by decide +kernel
theorem dL_bestRule_13 : decode cL_bestRule 13 = .ok (.iconst 1, 1) := by decide +kernel
theorem dL_bestRule_14 : decode cL_bestRule 14 = .ok (.ireturn, 1) := by decide +kernel
theorem dL_bestRule_15 : decode cL_bestRule 15 = .ok (.iconst 0, 1) := by decide +kernel
theorem dL_bestRule_16 : decode cL_bestRule 16 = .ok (.ireturn, 1) := by decide +kernel
set_option maxRecDepth 20000 in
theorem ggL_settlesAfter_X11_settlesAfter : GoodIn wsL_settlesAfter wsX11_settlesAfter := goodIn_ca (goodIn_r _ [6, 7, 8, 9, 10, 11, 12, 13, 14, 15, 16, 17, 18, 19, 20, 21, 22, 23, 24, 25, 26, 27, 28, 29, 30, 31, 32, 33, 34, 35, 36, 37, 38, 39, 40, 41, 42, 43, 44, 45, 46, 47, 48, 49, 50, 51, 52, 53, 54, 55, 56, 57, 58, 59, 60, 61, 62, 63, 64, 65, 66, 67, 68, 69, 70, 71, 72, 73, 74, 75, 76, 77, 78, 79, 80, 81, 82, 83, 84, 85, 86, 87, 88, 89, 90, 91, 92, 93, 94, 95, 96, 97, 98, 99, 100, 101, 102, 103, 104, 105, 106, 107, 108, 109, 110, 111, 112, 113, 114, 115, 5, 116, 117, 118, 119, 120, 121, 122, 123, 124, 125, 126, 127, 128, 129, 130, 131, 132, 133, 134, 135, 136, 137, 138, 139, 140, 141, 142, 143, 144, 145, 146, 147, 148, 149, 150, 151, 152, 153, 154, 155, 156, 157, 158, 159, 160, 161, 162, 163, 164, 165, 166, 167, 168, 169, 170, 171, 172, 173, 174, 175, 176, 177, 178, 179, 180, 181, 182, 183, 184, 185, 186, 187, 188, 189, 190, 191, 192, 193, 194, 195, 196, 197, 198, 199, 200, 201, 202, 203] (by decide +kernel) (by decide +kernel)) (goodIn_sub (fun _ h => List.mem_cons_of_mem _ (List.mem_append_right _ h)) (by decide +kernel))
set_option maxRecDepth 20000 in
theorem gL_settlesAfter_X11_settlesAfter : GoodIn wsL_settlesAfter (wsV RL 73 RX11 yX11_settlesAfter wsX11_settlesAfter) := goodIn_app (goodIn_of _ (by decide +kernel)) ggL_settlesAfter_X11_settlesAfter
theorem dL_settlesAfter_0 : decode cL_settlesAfter 0 = .ok (.aload_n 2, 1) := by decide +kernel
theorem dL_settlesAfter_1 : decode cL_settlesAfter 1 = .ok (.iconst 0, 1) := by decide +kernel
theorem dL_settlesAfter_2 : decode cL_settlesAfter 2 = .ok (.aload_n 0, 1) := by decide +kernel
theorem dL_settlesAfter_3 : decode cL_settlesAfter 3 = .ok (.iload_n 1, 1) := by decide +kernel
theorem dL_settlesAfter_4 : decode cL_settlesAfter 4 = .ok (.invokevirtual 73, 3) := by decide +kernel
theorem dL_settlesAfter_7 : decode cL_settlesAfter 7 = .ok (.i2l, 1) := by decide +kernel
theorem dL_settlesAfter_8 : decode cL_settlesAfter 8 = .ok (.lastore, 1) := by decide +kernel
theorem dL_settlesAfter_9 : decode cL_settlesAfter 9 = .ok (.goto 6, 3) := by decide +kernel
theorem dL_settlesAfter_12 : decode cL_settlesAfter 12 = .ok (.astore_n 3, 1) := by decide +kernel
theorem dL_settlesAfter_13 : decode cL_settlesAfter 13 = .ok (.iconst 1, 1) := by decide +kernel
theorem dL_settlesAfter_14 : decode cL_settlesAfter 14 = .ok (.ireturn, 1) := by decide +kernel
theorem dL_settlesAfter_15 : decode cL_settlesAfter 15 = .ok (.iconst 0, 1) := by decide +kernel
theorem dL_settlesAfter_16 : decode cL_settlesAfter 16 = .ok (.ireturn, 1) := by decide +kernel
set_option maxRecDepth 20000 in
theorem ggL_runScript_X11_runScript : GoodIn wsL_runScript wsX11_runScript := goodIn_ca (goodIn_r _ [6, 7, 8, 9, 10, 11, 12, 13, 14, 15, 16, 17, 18, 19, 20, 21, 22, 23, 24, 25, 26, 27, 28, 29, 30, 31, 32, 33, 34, 35, 36, 37, 38, 39, 40, 41, 42, 43, 44, 45, 46, 47, 48, 49, 50, 51, 52, 53, 54, 55, 56, 57, 58, 59, 60, 61, 62, 63, 64, 65, 66, 67, 68, 69, 70, 71, 72, 73, 74, 75, 76, 77, 78, 79, 80, 81, 82, 83, 84, 85, 86, 87, 88, 89, 90, 91, 92, 93, 94, 95, 96, 97, 98, 99, 100, 101, 102, 103, 104, 5, 105, 106, 107, 108, 109, 110, 111, 112, 113, 114, 115, 116, 117, 118, 119, 120, 121, 122, 123, 124, 125, 126, 127, 128, 129, 130, 131, 132, 133, 134, 135, 136, 137, 138, 139, 140, 141, 142, 143, 144, 145, 146, 147, 148, 149, 150, 151, 152, 153, 154, 155, 156, 157, 158, 159, 160, 161, 162, 163, 164, 165, 166, 167, 168, 169, 170, 171, 172, 173, 174, 175, 176, 177, 178, 179, 180, 181, 182, 183, 184, 185, 186, 187, 188, 189, 190, 191, 192, 193, 194, 195, 196, 197, 198, 199, 200, 201, 202, 203, 204, 205, 206, 207, 208, 209, 210, 211, 212, 213, 214, 215, 216, 217, 218, 219, 220, 221, 222, 223, 224, 225, 226, 227, 228, 229, 230, 231, 232, 233, 234, 235, 236, 237, 238, 239, 240, 241, 242, 243, 244, 245, 246, 247, 248, 249, 250, 251, 252, 253, 254, 255, 256, 257, 258, 259, 260, 261, 262, 263, 264, 265, 266, 267, 268, 269, 270, 271, 272, 273, 274, 275, 276, 277, 278, 279, 280, 281, 282, 283, 284, 285, 286, 287, 288, 289, 290, 291, 292, 293, 294, 295, 296, 297, 298, 299, 300, 301, 302, 303, 304, 305, 306, 307, 308, 309, 310, 311, 312, 313, 314, 315, 316, 317, 318, 319, 320, 321, 322, 323, 324, 325] (by decide +kernel) (by decide +kernel)) (goodIn_sub (fun _ h => List.mem_cons_of_mem _ (List.mem_append_right _ h)) (by decide +kernel))
set_option maxRecDepth 20000 in
theorem gL_runScript_X11_runScript : GoodIn wsL_runScript (wsV RL 76 RX11 yX11_runScript wsX11_runScript) := goodIn_app (goodIn_of _ (by decide +kernel)) ggL_runScript_X11_runScript
theorem dL_runScript_0 : decode cL_runScript 0 = .ok (.aload 4, 2) := by decide +kernel
theorem dL_runScript_2 : decode cL_runScript 2 = .ok (.iconst 0, 1) := by decide +kernel
theorem dL_runScript_3 : decode cL_runScript 3 = .ok (.aload_n 0, 1) := by decide +kernel
theorem dL_runScript_4 : decode cL_runScript 4 = .ok (.iload_n 1, 1) := by decide +kernel
theorem dL_runScript_5 : decode cL_runScript 5 = .ok (.lload_n 2, 1) := by decide +kernel
theorem dL_runScript_6 : decode cL_runScript 6 = .ok (.invokevirtual 76, 3) := by decide +kernel
theorem dL_runScript_9 : decode cL_runScript 9 = .ok (.i2l, 1) := by decide +kernel
theorem dL_runScript_10 : decode cL_runScript 10 = .ok (.lastore, 1) := by decide +kernel
theorem dL_runScript_11 : decode cL_runScript 11 = .ok (.goto 7, 3) := by decide +kernel
theorem dL_runScript_14 : decode cL_runScript 14 = .ok (.astore 5, 2) := by decide +kernel
theorem dL_runScript_16 : decode cL_runScript 16 = .ok (.iconst 1, 1) := by decide +kernel
theorem dL_runScript_17 : decode cL_runScript 17 = .ok (.ireturn, 1) := by decide +kernel
theorem dL_runScript_18 : decode cL_runScript 18 = .ok (.iconst 0, 1) := by decide +kernel
theorem dL_runScript_19 : decode cL_runScript 19 = .ok (.ireturn, 1) := by decide +kernel
set_option maxRecDepth 20000 in
theorem ggL_simulate_X11_simulate : GoodIn wsL_simulate wsX11_simulate := goodIn_ca (goodIn_r _ [6, 7, 8, 9, 10, 11, 12, 13, 14, 15, 16, 17, 18, 19, 20, 21, 22, 23, 24, 25, 26, 27, 28, 29, 30, 31, 32, 33, 34, 35, 36, 37, 38, 39, 40, 41, 42, 43, 44, 45, 46, 47, 48, 49, 50, 51, 52, 53, 54, 55, 56, 57, 58, 59, 60, 61, 62, 63, 64, 65, 66, 67, 68, 69, 70, 71, 72, 73, 74, 75, 76, 77, 78, 79, 80, 81, 82, 83, 84, 85, 86, 87, 88, 89, 90, 91, 92, 93, 94, 95, 96, 97, 5, 98, 99, 100, 101, 102, 103, 104, 105, 106, 107, 108, 109, 110, 111, 112, 113, 114, 115, 116, 117, 118, 119, 120, 121, 122, 123, 124, 125, 126, 127, 128, 129, 130, 131, 132, 133, 134, 135, 136, 137, 138, 139, 140, 141, 142, 143, 144, 145, 146, 147, 148, 149, 150, 151, 152, 153, 154, 155, 156, 157, 158, 159, 160, 161, 162, 163, 164, 165, 166, 167, 168, 169, 170, 171, 172, 173, 174, 175, 176, 177, 178, 179, 180, 181, 182, 183, 184, 185, 186, 187, 188, 189, 190, 191, 192, 193, 194, 195, 196, 197, 198, 199, 200, 201, 202, 203, 204, 205, 206, 207, 208, 209, 210, 211, 212, 213, 214, 215, 216, 217, 218, 219, 220, 221, 222, 223, 224, 225, 226, 227, 228, 229, 230, 231, 232, 233, 234, 235, 236] (by decide +kernel) (by decide +kernel)) (goodIn_sub (fun _ h => List.mem_cons_of_mem _ (List.mem_append_right _ h)) (by decide +kernel))
set_option maxRecDepth 20000 in
theorem gL_simulate_X11_simulate : GoodIn wsL_simulate (wsV RL 80 RX11 yX11_simulate wsX11_simulate) := goodIn_app (goodIn_of _ (by decide +kernel)) ggL_simulate_X11_simulate
theorem dL_simulate_0 : decode cL_simulate 0 = .ok (.aload 4, 2) := by decide +kernel
theorem dL_simulate_2 : decode cL_simulate 2 = .ok (.iconst 0, 1) := by decide +kernel
theorem dL_simulate_3 : decode cL_simulate 3 = .ok (.aload_n 0, 1) := by decide +kernel
theorem dL_simulate_4 : decode cL_simulate 4 = .ok (.lload_n 1, 1) := by decide +kernel
theorem dL_simulate_5 : decode cL_simulate 5 = .ok (.iload_n 3, 1) := by decide +kernel
theorem dL_simulate_6 : decode cL_simulate 6 = .ok (.invokevirtual 80, 3) := by decide +kernel
theorem dL_simulate_9 : decode cL_simulate 9 = .ok (.i2l, 1) := by decide +kernel
theorem dL_simulate_10 : decode cL_simulate 10 = .ok (.lastore, 1) := by decide +kernel
theorem dL_simulate_11 : decode cL_simulate 11 = .ok (.goto 7, 3) := by decide +kernel
theorem dL_simulate_14 : decode cL_simulate 14 = .ok (.astore 5, 2) := by decide +kernel
theorem dL_simulate_16 : decode cL_simulate 16 = .ok (.iconst 1, 1) := by decide +kernel
theorem dL_simulate_17 : decode cL_simulate 17 = .ok (.ireturn, 1) := by decide +kernel
theorem dL_simulate_18 : decode cL_simulate 18 = .ok (.iconst 0, 1) := by decide +kernel
theorem dL_simulate_19 : decode cL_simulate 19 = .ok (.ireturn, 1) := by decide +kernel
set_option maxRecDepth 20000 in
theorem ggL_save_X11_save : GoodIn wsL_save wsX11_save := goodIn_ca (goodIn_r _ [6, 7, 8, 9, 10, 11, 12, 5, 13, 14, 15, 16, 17, 18, 19, 20, 21, 22, 23, 24, 25, 26, 27, 28, 29, 30, 31, 32, 33, 34, 35, 36, 37, 38, 39, 40, 41, 42, 43, 44, 45, 46, 47, 48, 49, 50, 51, 52, 53, 54, 55, 56, 57, 58, 59, 60, 61, 62, 63, 64, 65, 66, 67, 68, 69, 70, 71, 72, 73, 74, 75, 76, 77, 78, 79, 80, 81, 82, 83, 84, 85, 86, 87, 88, 89, 90, 91, 92, 93, 94, 95, 96, 97, 98, 99, 100, 101, 102, 103, 104, 105, 106, 107, 108, 109, 110, 111, 112, 113, 114, 115, 116, 117, 118, 119, 120, 121, 122, 123, 124, 125, 126, 127, 128, 129, 130, 131, 132, 133, 134, 135, 136, 137, 138, 139, 140, 141, 142, 143, 144, 145, 146, 147, 148, 149, 150] (by decide +kernel) (by decide +kernel)) (goodIn_sub (fun _ h => List.mem_cons_of_mem _ (List.mem_append_right _ h)) (by decide +kernel))
set_option maxRecDepth 20000 in
theorem gL_save_X11_save : GoodIn wsL_save (wsV RL 84 RX11 yX11_save wsX11_save) := goodIn_app (goodIn_of _ (by decide +kernel)) ggL_save_X11_save
theorem dL_save_0 : decode cL_save 0 = .ok (.aload_n 2, 1) := by decide +kernel
theorem dL_save_1 : decode cL_save 1 = .ok (.iconst 0, 1) := by decide +kernel
theorem dL_save_2 : decode cL_save 2 = .ok (.aload_n 0, 1) := by decide +kernel
theorem dL_save_3 : decode cL_save 3 = .ok (.iload_n 1, 1) := by decide +kernel
theorem dL_save_4 : decode cL_save 4 = .ok (.invokevirtual 84, 3) := by decide +kernel
theorem dL_save_7 : decode cL_save 7 = .ok (.i2l, 1) := by decide +kernel
theorem dL_save_8 : decode cL_save 8 = .ok (.lastore, 1) := by decide +kernel
theorem dL_save_9 : decode cL_save 9 = .ok (.goto 6, 3) := by decide +kernel
theorem dL_save_12 : decode cL_save 12 = .ok (.astore_n 3, 1) := by decide +kernel
theorem dL_save_13 : decode cL_save 13 = .ok (.iconst 1, 1) := by decide +kernel
theorem dL_save_14 : decode cL_save 14 = .ok (.ireturn, 1) := by decide +kernel
theorem dL_save_15 : decode cL_save 15 = .ok (.iconst 0, 1) := by decide +kernel
theorem dL_save_16 : decode cL_save 16 = .ok (.ireturn, 1) := by decide +kernel
set_option maxRecDepth 20000 in
theorem ggL_restore_X11_restore : GoodIn wsL_restore wsX11_restore := goodIn_ca (goodIn_ca (goodIn_r _ [7, 8, 9, 10, 11, 12, 13, 14, 15, 16, 6, 17, 18, 19, 20, 21, 22, 23, 24, 25, 26, 27, 28, 29, 30, 31, 32, 33, 34, 35, 36, 37, 38, 39, 40, 41, 42, 43, 44, 45, 46, 47, 48, 49, 50, 51, 52, 53, 54, 55, 56, 57, 58, 59, 60, 61, 62, 63, 64, 65, 66, 67, 68, 69, 70, 71, 72, 73, 74, 75, 76, 77, 78, 79, 80, 81, 82, 83, 84, 85, 86, 87, 88, 89, 90, 91, 92, 93, 94, 95, 96, 97, 98, 99, 100, 101, 102, 103, 104, 105, 106, 107, 108, 109, 110, 111, 112, 113, 114, 115, 116, 117, 118, 119, 120, 121, 122, 123, 124, 125, 126, 127, 128, 129, 130, 131, 132, 133, 134, 135, 136, 137, 138, 139, 140, 141, 142, 143, 144, 145, 146, 147, 148, 149, 150, 151, 152, 153, 154, 155, 156, 157, 158, 159, 160, 161, 162, 163, 164, 165, 166, 167] (by decide +kernel) (by decide +kernel)) (goodIn_sub (fun _ h => List.mem_cons_of_mem _ (List.mem_append_left _ (List.mem_append_right _ h))) (by decide +kernel))) (goodIn_sub (fun _ h => List.mem_cons_of_mem _ (List.mem_append_right _ h)) (by decide +kernel))
set_option maxRecDepth 20000 in
theorem gL_restore_X11_restore : GoodIn wsL_restore (wsV RL 87 RX11 yX11_restore wsX11_restore) := goodIn_app (goodIn_of _ (by decide +kernel)) ggL_restore_X11_restore
theorem dL_restore_0 : decode cL_restore 0 = .ok (.aload_n 2, 1) := by decide +kernel
theorem dL_restore_1 : decode cL_restore 1 = .ok (.iconst 0, 1) := by decide +kernel
theorem dL_restore_2 : decode cL_restore 2 = .ok (.aload_n 0, 1) := by decide +kernel
theorem dL_restore_3 : decode cL_restore 3 = .ok (.iload_n 1, 1) := by decide +kernel
theorem dL_restore_4 : decode cL_restore 4 = .ok (.invokevirtual 87, 3) := by decide +kernel
theorem dL_restore_7 : decode cL_restore 7 = .ok (.i2l, 1) := by decide +kernel
theorem dL_restore_8 : decode cL_restore 8 = .ok (.lastore, 1) := by decide +kernel
theorem dL_restore_9 : decode cL_restore 9 = .ok (.goto 9, 3) := by decide +kernel
theorem dL_restore_12 : decode cL_restore 12 = .ok (.astore_n 3, 1) := by decide +kernel
theorem dL_restore_13 : decode cL_restore 13 = .ok (.iconst 1, 1) := by decide +kernel
theorem dL_restore_14 : decode cL_restore 14 = .ok (.ireturn, 1) := by decide +kernel
theorem dL_restore_15 : decode cL_restore 15 = .ok (.astore_n 3, 1) := by decide +kernel
theorem dL_restore_16 : decode cL_restore 16 = .ok (.iconst 2, 1) := by decide +kernel
theorem dL_restore_17 : decode cL_restore 17 = .ok (.ireturn, 1) := by decide +kernel
theorem dL_restore_18 : decode cL_restore 18 = .ok (.iconst 0, 1) := by decide +kernel
theorem dL_restore_19 : decode cL_restore 19 = .ok (.ireturn, 1) := by decide +kernel
set_option maxRecDepth 20000 in
theorem ggL_law_X11_init : GoodIn wsL_law wsX11_init := goodIn_r _ [10, 11, 12, 13, 14, 15, 16, 17, 18, 19, 20, 21, 22, 23, 24, 25, 26, 27, 28, 29, 30, 31, 32, 33, 34, 35, 36, 37, 38, 39, 40, 41, 42, 43, 44, 45, 46, 47, 48, 49, 50, 51, 52, 53, 54, 55, 56, 57, 58, 59, 60, 61, 62, 63, 64, 65, 66, 67, 68, 69, 70, 71, 72, 73, 74, 75, 76, 77, 78, 79, 80, 81, 82, 83, 84, 85, 86, 87, 88, 89, 90, 91, 92, 93, 94, 95, 96, 97, 98, 99, 100, 101, 102, 103, 104, 105, 106, 107, 1014, 1015, 1016, 1017, 1018, 1019, 1020, 1021, 1022, 1023, 1024, 1025, 993, 994, 995, 996, 997, 998, 1026, 1027, 1028, 1029, 1030, 1031, 1032, 1033, 1034, 1035, 1036, 1037, 1038, 1039, 1040, 1041, 1042, 1043, 1044, 1045, 1046, 1047, 1048, 1049, 1050, 1051, 1052, 1053, 1054, 1055, 1056, 1057, 1058, 1059, 1060, 1061, 1062, 1063, 1064, 1065, 1066, 1067, 1068, 1069, 1070, 1071, 1072] (by decide +kernel) (by decide +kernel)
set_option maxRecDepth 20000 in
theorem gL_law_X11_init : GoodIn wsL_law (wsX11_init) := ggL_law_X11_init
set_option maxRecDepth 20000 in
theorem ggL_law_X12_init : GoodIn wsL_law wsX12_init := goodIn_r _ [110, 111, 12, 13, 69, 112, 113, 114, 115, 116, 117, 106, 118, 119, 120, 121, 5, 122, 999, 1000, 1001, 1002, 1003, 1004, 1005, 1006, 1007, 1008, 1009, 1010, 1011, 1012, 1013] (by decide +kernel) (by decide +kernel)
set_option maxRecDepth 20000 in
theorem gL_law_X12_init : GoodIn wsL_law (wsX12_init) := ggL_law_X12_init
set_option maxRecDepth 20000 in
theorem ggL_law_L_append : GoodIn wsL_law wsL_append := goodIn_ca (goodIn_ca (goodIn_r _ [126, 127, 128, 129, 130, 131, 2, 132, 133, 134, 135, 136, 17, 137, 138, 139, 16, 140, 141, 142, 143, 144, 145, 36, 993, 994, 995, 996, 997, 998, 1014, 1015, 1016, 1017, 1018, 1019, 1020, 1021, 1022, 1023, 1024, 1025] (by decide +kernel) (by decide +kernel)) (goodIn_sub (fun _ h => List.mem_append_left _ (List.mem_append_left _ (List.mem_append_right _ h))) (by decide +kernel))) (goodIn_sub (fun _ h => List.mem_append_left _ (List.mem_append_right _ h)) (by decide +kernel))
set_option maxRecDepth 20000 in
theorem gL_law_L_append : GoodIn wsL_law (va_wsS RL 94 yL_append wsL_append) := goodIn_app (goodIn_of _ (by decide +kernel)) ggL_law_L_append
set_option maxRecDepth 20000 in
theorem ggL_law_X12_append : GoodIn wsL_law wsX12_append := goodIn_r _ [149, 150, 151, 112, 152, 153, 5, 154, 155, 156, 157, 158, 159, 999, 1000, 1001, 1002, 1003, 1004, 1005, 1006, 1007, 1008, 1009, 1010, 1011, 1012, 1013] (by decide +kernel) (by decide +kernel)
set_option maxRecDepth 20000 in
theorem gL_law_X12_append : GoodIn wsL_law (wsV RL 99 RX12 yX12_append wsX12_append) := goodIn_app (goodIn_of _ (by decide +kernel)) ggL_law_X12_append
set_option maxRecDepth 20000 in
theorem ggL_law_X12_thrown : GoodIn wsL_law wsX12_thrown := goodIn_r _ [163, 159, 999, 1000, 1001, 1002, 1003, 1004, 1005, 1006, 1007, 1008, 1009, 1010, 1011, 1012, 1013] (by decide +kernel) (by decide +kernel)
set_option maxRecDepth 20000 in
theorem gL_law_X12_thrown : GoodIn wsL_law (wsV RL 100 RX12 yX12_thrown wsX12_thrown) := goodIn_app (goodIn_of _ (by decide +kernel)) ggL_law_X12_thrown
set_option maxRecDepth 20000 in
theorem ggL_law_X11_clearText : GoodIn wsL_law wsX11_clearText := goodIn_r _ [167, 17, 993, 994, 995, 996, 997, 998, 1014, 1015, 1016, 1017, 1018, 1019, 1020, 1021, 1022, 1023, 1024, 1025] (by decide +kernel) (by decide +kernel)
set_option maxRecDepth 20000 in
theorem gL_law_X11_clearText : GoodIn wsL_law (wsV RL 103 RX11 yX11_clearText wsX11_clearText) := goodIn_app (goodIn_of _ (by decide +kernel)) ggL_law_X11_clearText
set_option maxRecDepth 20000 in
theorem ggL_law_X12_clearText : GoodIn wsL_law wsX12_clearText := goodIn_r _ [171, 159, 151, 999, 1000, 1001, 1002, 1003, 1004, 1005, 1006, 1007, 1008, 1009, 1010, 1011, 1012, 1013] (by decide +kernel) (by decide +kernel)
set_option maxRecDepth 20000 in
theorem gL_law_X12_clearText : GoodIn wsL_law (wsV RL 106 RX12 yX12_clearText wsX12_clearText) := goodIn_app (goodIn_of _ (by decide +kernel)) ggL_law_X12_clearText
set_option maxRecDepth 20000 in
theorem ggL_law_X11_errorPosition : GoodIn wsL_law wsX11_errorPosition := goodIn_r _ [175, 17, 176, 177, 178, 16, 179, 180, 181, 182, 183, 184, 141, 185, 186, 187, 188, 189, 190, 191, 192, 193, 194, 195, 196, 197, 198, 199, 200, 201, 36, 202, 203, 204, 205, 206, 207, 208, 209, 210, 211, 212, 213, 214, 215, 216, 217, 218, 993, 994, 995, 996, 997, 998, 1014, 1015, 1016, 1017, 1018, 1019, 1020, 1021, 1022, 1023, 1024, 1025] (by decide +kernel) (by decide +kernel)
set_option maxRecDepth 20000 in
theorem gL_law_X11_errorPosition : GoodIn wsL_law (wsV RL 107 RX11 yX11_errorPosition wsX11_errorPosition) := goodIn_app (goodIn_of _ (by decide +kernel)) ggL_law_X11_errorPosition
set_option maxRecDepth 20000 in
theorem ggL_law_X12_errorPosition : GoodIn wsL_law wsX12_errorPosition := goodIn_r _ [222, 159, 223, 224, 225, 226, 227, 5, 228, 113, 151, 112, 120, 121, 122, 229, 230, 231, 232, 233, 234, 235, 236, 237, 152, 153, 154, 238, 239, 240, 241, 999, 1000, 1001, 1002, 1003, 1004, 1005, 1006, 1007, 1008, 1009, 1010, 1011, 1012, 1013] (by decide +kernel) (by decide +kernel)
set_option maxRecDepth 20000 in
theorem gL_law_X12_errorPosition : GoodIn wsL_law (wsV RL 110 RX12 yX12_errorPosition wsX12_errorPosition) := goodIn_app (goodIn_of _ (by decide +kernel)) ggL_law_X12_errorPosition
set_option maxRecDepth 20000 in
theorem ggL_law_L_load : GoodIn wsL_law wsL_load := goodIn_ca (goodIn_r _ [244, 128, 245, 246, 247, 2, 248, 135, 136, 17, 249, 22, 21, 27, 31, 176, 177, 178, 16, 179, 180, 181, 182, 183, 184, 141, 185, 186, 187, 188, 189, 190, 191, 192, 193, 194, 195, 196, 197, 198, 199, 200, 201, 36, 202, 203, 204, 205, 206, 207, 208, 209, 210, 211, 212, 213, 214, 215, 216, 217, 218, 250, 251, 252, 20, 253, 254, 43, 47, 51, 55, 59, 255, 256, 257, 42, 258, 63, 64, 65, 66, 67, 68, 70, 259, 260, 261, 262, 263, 264, 265, 266, 46, 267, 74, 75, 76, 77, 268, 269, 270, 271, 272, 273, 274, 275, 276, 277, 50, 278, 279, 81, 280, 82, 83, 84, 281, 282, 283, 284, 285, 286, 287, 54, 288, 289, 89, 290, 291, 292, 293, 58, 294, 93, 295, 296, 297, 298, 299, 300, 301, 302, 303, 304, 305, 306, 307, 26, 308, 309, 310, 311, 312, 30, 313, 107, 993, 994, 995, 996, 997, 998, 1026, 1027, 1028, 1029, 1030, 1031, 1036, 1037, 1038, 1039, 1040, 1041, 1042, 1043, 1014, 1015, 1016, 1017, 1018, 1019, 1020, 1021, 1022, 1023, 1024, 1025, 1044, 1045, 1046, 1047, 1048, 1049, 1050, 1051, 1052, 1053, 1054, 1055, 1056, 1057, 1058, 1059, 1060, 1061, 1062, 1063, 1064, 1065, 1066, 1067, 1068, 1069, 1070, 1071, 1072, 1032, 1033, 1034, 1035] (by decide +kernel) (by decide +kernel)) (goodIn_sub (fun _ h => List.mem_append_left _ (List.mem_append_right _ h)) (by decide +kernel))
set_option maxRecDepth 20000 in
theorem gL_law_L_load : GoodIn wsL_law (va_wsS RL 111 yL_load wsL_load) := goodIn_app (goodIn_of _ (by decide +kernel)) ggL_law_L_load
set_option maxRecDepth 20000 in
theorem ggL_law_X12_load : GoodIn wsL_law wsX12_load := goodIn_r _ [317, 113, 114, 318, 118, 225, 226, 227, 5, 228, 224, 151, 112, 120, 121, 122, 229, 230, 231, 232, 233, 234, 235, 236, 223, 237, 152, 153, 154, 238, 239, 240, 241, 155, 156, 157, 158, 159, 319, 320, 321, 999, 1000, 1001, 1002, 1003, 1004, 1005, 1006, 1007, 1008, 1009, 1010, 1011, 1012, 1013] (by decide +kernel) (by decide +kernel)
set_option maxRecDepth 20000 in
theorem gL_law_X12_load : GoodIn wsL_law (wsV RL 114 RX12 yX12_load wsX12_load) := goodIn_app (goodIn_of _ (by decide +kernel)) ggL_law_X12_load
set_option maxRecDepth 20000 in
theorem ggL_law_L_about : GoodIn wsL_law wsL_about := goodIn_ca (goodIn_r _ [324, 127, 325, 326, 327, 2, 328, 133, 134, 22, 329, 330, 331, 20, 332, 43, 47, 254, 51, 55, 59, 333, 334, 335, 46, 336, 74, 75, 76, 77, 268, 269, 337, 338, 339, 340, 341, 342, 343, 50, 344, 345, 346, 347, 348, 279, 82, 83, 81, 85, 349, 350, 351, 352, 353, 354, 355, 356, 357, 358, 359, 360, 361, 993, 994, 995, 996, 997, 998, 1026, 1027, 1028, 1029, 1030, 1031, 1036, 1037, 1038, 1039, 1040, 1041, 1042, 1043, 1044, 1045, 1046, 1047, 1048, 1049, 1050, 1051, 1052, 1053, 1054, 1055, 1056, 1057, 1058, 1059, 1060, 1061, 1062, 1063, 1064, 1065, 1066, 1067, 1068, 1069, 1070, 1071, 1072] (by decide +kernel) (by decide +kernel)) (goodIn_sub (fun _ h => List.mem_append_left _ (List.mem_append_left _ (List.mem_append_right _ h))) (by decide +kernel))
set_option maxRecDepth 20000 in
theorem gL_law_L_about : GoodIn wsL_law (va_wsS RL 115 yL_about wsL_about) := goodIn_app (goodIn_of _ (by decide +kernel)) ggL_law_L_about
set_option maxRecDepth 20000 in
theorem ggL_law_X12_about : GoodIn wsL_law wsX12_about := goodIn_r _ [365, 366, 114, 152, 153, 5, 154, 155, 156, 157, 158, 159, 367, 368, 369, 370, 371, 372, 373, 374, 375, 376, 377, 378, 119, 223, 379, 380, 381, 382, 383, 384, 385, 386, 387, 999, 1000, 1001, 1002, 1003, 1004, 1005, 1006, 1007, 1008, 1009, 1010, 1011, 1012, 1013] (by decide +kernel) (by decide +kernel)
set_option maxRecDepth 20000 in
theorem gL_law_X12_about : GoodIn wsL_law (wsV RL 117 RX12 yX12_about wsX12_about) := goodIn_app (goodIn_of _ (by decide +kernel)) ggL_law_X12_about
set_option maxRecDepth 20000 in
theorem ggL_law_L_swing : GoodIn wsL_law wsL_swing := goodIn_ca (goodIn_ca (goodIn_r _ [390, 391, 127, 392, 393, 394, 2, 395, 396, 397, 133, 134, 22, 398, 399, 400, 50, 401, 279, 402, 403, 404, 405, 345, 346, 347, 348, 82, 83, 81, 85, 349, 354, 355, 356, 357, 358, 359, 360, 361, 406, 407, 408, 409, 84, 410, 993, 994, 995, 996, 997, 998, 1026, 1027, 1028, 1029, 1030, 1031, 1044, 1045, 1046, 1047, 1048, 1049, 1050, 1051, 1052, 1053, 1054, 1055, 1056, 1057, 1058, 1059, 1060, 1061, 1062, 1063, 1064] (by decide +kernel) (by decide +kernel)) (goodIn_sub (fun _ h => List.mem_append_right _ h) (by decide +kernel))) (goodIn_sub (fun _ h => List.mem_append_left _ (List.mem_append_left _ (List.mem_append_right _ h))) (by decide +kernel))
set_option maxRecDepth 20000 in
theorem gL_law_L_swing : GoodIn wsL_law (va_wsS RL 118 yL_swing wsL_swing) := goodIn_app (goodIn_of _ (by decide +kernel)) ggL_law_L_swing
set_option maxRecDepth 20000 in
theorem ggL_law_X12_swing : GoodIn wsL_law wsX12_swing := goodIn_r _ [414, 415, 114, 416, 417, 418, 5, 419, 152, 153, 154, 155, 156, 157, 158, 159, 371, 372, 373, 374, 375, 376, 377, 378, 119, 223, 379, 380, 381, 382, 383, 384, 385, 386, 387, 999, 1000, 1001, 1002, 1003, 1004, 1005, 1006, 1007, 1008, 1009, 1010, 1011, 1012, 1013] (by decide +kernel) (by decide +kernel)
set_option maxRecDepth 20000 in
theorem gL_law_X12_swing : GoodIn wsL_law (wsV RL 121 RX12 yX12_swing wsX12_swing) := goodIn_app (goodIn_of _ (by decide +kernel)) ggL_law_X12_swing
set_option maxRecDepth 20000 in
theorem ggL_law_L_account : GoodIn wsL_law wsL_account := goodIn_ca (goodIn_r _ [422, 127, 423, 424, 425, 2, 426, 133, 134, 22, 427, 428, 429, 58, 430, 93, 297, 298, 299, 300, 993, 994, 995, 996, 997, 998, 1026, 1027, 1028, 1029, 1030, 1031, 1067, 1068, 1069, 1070, 1071, 1072] (by decide +kernel) (by decide +kernel)) (goodIn_sub (fun _ h => List.mem_append_left _ (List.mem_append_left _ (List.mem_append_right _ h))) (by decide +kernel))
set_option maxRecDepth 20000 in
theorem gL_law_L_account : GoodIn wsL_law (va_wsS RL 122 yL_account wsL_account) := goodIn_app (goodIn_of _ (by decide +kernel)) ggL_law_L_account
set_option maxRecDepth 20000 in
theorem ggL_law_X12_account : GoodIn wsL_law wsX12_account := goodIn_r _ [434, 435, 114, 152, 153, 5, 154, 155, 156, 157, 158, 159, 999, 1000, 1001, 1002, 1003, 1004, 1005, 1006, 1007, 1008, 1009, 1010, 1011, 1012, 1013] (by decide +kernel) (by decide +kernel)
set_option maxRecDepth 20000 in
theorem gL_law_X12_account : GoodIn wsL_law (wsV RL 124 RX12 yX12_account wsX12_account) := goodIn_app (goodIn_of _ (by decide +kernel)) ggL_law_X12_account
set_option maxRecDepth 20000 in
theorem ggL_law_L_tick : GoodIn wsL_law wsL_tick := goodIn_ca (goodIn_r _ [438, 127, 439, 440, 441, 2, 442, 133, 134, 27, 22, 443, 444, 445, 446, 447, 448, 26, 449, 309, 99, 450, 451, 452, 453, 454, 251, 252, 20, 253, 254, 43, 47, 51, 55, 59, 255, 256, 257, 42, 258, 63, 64, 65, 66, 67, 68, 70, 259, 260, 261, 262, 263, 264, 265, 266, 46, 267, 74, 75, 76, 77, 268, 269, 270, 271, 272, 273, 274, 275, 276, 277, 50, 278, 279, 81, 280, 82, 83, 84, 281, 282, 283, 284, 285, 286, 287, 54, 288, 289, 89, 290, 291, 292, 293, 58, 294, 93, 295, 296, 297, 298, 299, 300, 455, 456, 457, 458, 459, 460, 461, 462, 463, 464, 465, 466, 467, 468, 469, 470, 471, 472, 473, 474, 475, 476, 477, 478, 479, 480, 481, 482, 483, 484, 485, 486, 487, 488, 489, 490, 491, 492, 493, 494, 495, 496, 497, 498, 499, 500, 501, 502, 360, 503, 504, 505, 506, 507, 508, 509, 510, 511, 512, 513, 514, 993, 994, 995, 996, 997, 998, 1026, 1027, 1028, 1029, 1030, 1031, 1036, 1037, 1038, 1039, 1040, 1041, 1042, 1043, 1032, 1033, 1044, 1045, 1046, 1047, 1048, 1049, 1050, 1051, 1052, 1053, 1054, 1055, 1056, 1057, 1058, 1059, 1060, 1061, 1062, 1063, 1064, 1065, 1066, 1067, 1068, 1069, 1070, 1071, 1072] (by decide +kernel) (by decide +kernel)) (goodIn_sub (fun _ h => List.mem_append_left _ (List.mem_append_left _ (List.mem_append_right _ h))) (by decide +kernel))
set_option maxRecDepth 20000 in
theorem gL_law_L_tick : GoodIn wsL_law (va_wsS RL 125 yL_tick wsL_tick) := goodIn_app (goodIn_of _ (by decide +kernel)) ggL_law_L_tick
set_option maxRecDepth 20000 in
theorem ggL_law_X12_tick : GoodIn wsL_law wsX12_tick := goodIn_r _ [518, 519, 114, 152, 153, 5, 154, 155, 156, 157, 158, 159, 520, 521, 522, 523, 318, 116, 319, 320, 321, 524, 525, 526, 527, 528, 529, 530, 531, 532, 533, 534, 535, 536, 537, 538, 539, 540, 541, 542, 543, 544, 545, 546, 547, 548, 549, 550, 999, 1000, 1001, 1002, 1003, 1004, 1005, 1006, 1007, 1008, 1009, 1010, 1011, 1012, 1013] (by decide +kernel) (by decide +kernel)
set_option maxRecDepth 20000 in
theorem gL_law_X12_tick : GoodIn wsL_law (wsV RL 127 RX12 yX12_tick wsX12_tick) := goodIn_app (goodIn_of _ (by decide +kernel)) ggL_law_X12_tick
set_option maxRecDepth 20000 in
theorem ggL_law_L_mode : GoodIn wsL_law wsL_mode := goodIn_ca (goodIn_r _ [553, 127, 554, 555, 556, 2, 557, 133, 134, 27, 22, 558, 559, 560, 446, 447, 448, 26, 449, 309, 99, 450, 451, 452, 453, 454, 251, 252, 20, 253, 254, 43, 47, 51, 55, 59, 255, 256, 257, 42, 258, 63, 64, 65, 66, 67, 68, 70, 259, 260, 261, 262, 263, 264, 265, 266, 46, 267, 74, 75, 76, 77, 268, 269, 270, 271, 272, 273, 274, 275, 276, 277, 50, 278, 279, 81, 280, 82, 83, 84, 281, 282, 283, 284, 285, 286, 287, 54, 288, 289, 89, 290, 291, 292, 293, 58, 294, 93, 295, 296, 297, 298, 299, 300, 561, 562, 563, 564, 565, 566, 567, 568, 569, 570, 571, 572, 993, 994, 995, 996, 997, 998, 1026, 1027, 1028, 1029, 1030, 1031, 1044, 1045, 1046, 1047, 1048, 1049, 1050, 1051, 1052, 1053, 1054, 1032, 1033, 1036, 1037, 1038, 1039, 1040, 1041, 1042, 1043, 1055, 1056, 1057, 1058, 1059, 1060, 1061, 1062, 1063, 1064, 1065, 1066, 1067, 1068, 1069, 1070, 1071, 1072] (by decide +kernel) (by decide +kernel)) (goodIn_sub (fun _ h => List.mem_append_left _ (List.mem_append_left _ (List.mem_append_right _ h))) (by decide +kernel))
set_option maxRecDepth 20000 in
theorem gL_law_L_mode : GoodIn wsL_law (va_wsS RL 128 yL_mode wsL_mode) := goodIn_app (goodIn_of _ (by decide +kernel)) ggL_law_L_mode
set_option maxRecDepth 20000 in
theorem ggL_law_X12_mode : GoodIn wsL_law wsX12_mode := goodIn_r _ [576, 114, 577, 578, 5, 579, 580, 152, 153, 154, 155, 156, 157, 158, 159, 520, 521, 522, 523, 318, 116, 319, 320, 321, 581, 582, 583, 999, 1000, 1001, 1002, 1003, 1004, 1005, 1006, 1007, 1008, 1009, 1010, 1011, 1012, 1013] (by decide +kernel) (by decide +kernel)
set_option maxRecDepth 20000 in
theorem gL_law_X12_mode : GoodIn wsL_law (wsV RL 130 RX12 yX12_mode wsX12_mode) := goodIn_app (goodIn_of _ (by decide +kernel)) ggL_law_X12_mode
set_option maxRecDepth 20000 in
theorem ggL_law_L_set : GoodIn wsL_law wsL_set := goodIn_ca (goodIn_r _ [586, 127, 587, 588, 589, 2, 590, 133, 134, 27, 22, 591, 592, 593, 594, 595, 46, 596, 446, 447, 448, 26, 449, 309, 99, 450, 451, 452, 453, 454, 251, 252, 20, 253, 254, 43, 47, 51, 55, 59, 255, 256, 257, 42, 258, 63, 64, 65, 66, 67, 68, 70, 259, 260, 261, 262, 263, 264, 265, 266, 267, 74, 75, 76, 77, 268, 269, 270, 271, 272, 273, 274, 275, 276, 277, 50, 278, 279, 81, 280, 82, 83, 84, 281, 282, 283, 284, 285, 286, 287, 54, 288, 289, 89, 290, 291, 292, 293, 58, 294, 93, 295, 296, 297, 298, 299, 300, 597, 334, 335, 336, 598, 599, 600, 601, 602, 603, 604, 605, 993, 994, 995, 996, 997, 998, 1026, 1027, 1028, 1029, 1030, 1031, 1032, 1033, 1036, 1037, 1038, 1039, 1040, 1041, 1042, 1043, 1044, 1045, 1046, 1047, 1048, 1049, 1050, 1051, 1052, 1053, 1054, 1055, 1056, 1057, 1058, 1059, 1060, 1061, 1062, 1063, 1064, 1065, 1066, 1067, 1068, 1069, 1070, 1071, 1072] (by decide +kernel) (by decide +kernel)) (goodIn_sub (fun _ h => List.mem_append_left _ (List.mem_append_left _ (List.mem_append_right _ h))) (by decide +kernel))
set_option maxRecDepth 20000 in
theorem gL_law_L_set : GoodIn wsL_law (va_wsS RL 131 yL_set wsL_set) := goodIn_app (goodIn_of _ (by decide +kernel)) ggL_law_L_set
set_option maxRecDepth 20000 in
theorem ggL_law_X12_set : GoodIn wsL_law wsX12_set := goodIn_r _ [609, 114, 610, 611, 5, 612, 613, 614, 615, 616, 617, 618, 152, 153, 154, 155, 156, 157, 158, 159, 520, 521, 522, 523, 318, 116, 319, 320, 321, 999, 1000, 1001, 1002, 1003, 1004, 1005, 1006, 1007, 1008, 1009, 1010, 1011, 1012, 1013] (by decide +kernel) (by decide +kernel)
set_option maxRecDepth 20000 in
theorem gL_law_X12_set : GoodIn wsL_law (wsV RL 133 RX12 yX12_set wsX12_set) := goodIn_app (goodIn_of _ (by decide +kernel)) ggL_law_X12_set
set_option maxRecDepth 20000 in
theorem ggL_law_L_disturb : GoodIn wsL_law wsL_disturb := goodIn_ca (goodIn_r _ [621, 127, 622, 623, 624, 2, 625, 133, 134, 27, 22, 626, 627, 628, 446, 447, 448, 26, 449, 309, 99, 450, 451, 452, 453, 454, 251, 252, 20, 253, 254, 43, 47, 51, 55, 59, 255, 256, 257, 42, 258, 63, 64, 65, 66, 67, 68, 70, 259, 260, 261, 262, 263, 264, 265, 266, 46, 267, 74, 75, 76, 77, 268, 269, 270, 271, 272, 273, 274, 275, 276, 277, 50, 278, 279, 81, 280, 82, 83, 84, 281, 282, 283, 284, 285, 286, 287, 54, 288, 289, 89, 290, 291, 292, 293, 58, 294, 93, 295, 296, 297, 298, 299, 300, 629, 630, 631, 632, 633, 490, 491, 492, 475, 476, 993, 994, 995, 996, 997, 998, 1026, 1027, 1028, 1029, 1030, 1031, 1036, 1037, 1038, 1039, 1040, 1041, 1042, 1043, 1032, 1033, 1044, 1045, 1046, 1047, 1048, 1049, 1050, 1051, 1052, 1053, 1054, 1055, 1056, 1057, 1058, 1059, 1060, 1061, 1062, 1063, 1064, 1065, 1066, 1067, 1068, 1069, 1070, 1071, 1072] (by decide +kernel) (by decide +kernel)) (goodIn_sub (fun _ h => List.mem_append_left _ (List.mem_append_left _ (List.mem_append_right _ h))) (by decide +kernel))
set_option maxRecDepth 20000 in
theorem gL_law_L_disturb : GoodIn wsL_law (va_wsS RL 134 yL_disturb wsL_disturb) := goodIn_app (goodIn_of _ (by decide +kernel)) ggL_law_L_disturb
set_option maxRecDepth 20000 in
theorem ggL_law_X12_disturb : GoodIn wsL_law wsX12_disturb := goodIn_r _ [637, 638, 639, 114, 152, 153, 5, 154, 155, 156, 157, 158, 159, 520, 521, 522, 523, 318, 116, 319, 320, 321, 640, 641, 642, 536, 537, 538, 999, 1000, 1001, 1002, 1003, 1004, 1005, 1006, 1007, 1008, 1009, 1010, 1011, 1012, 1013] (by decide +kernel) (by decide +kernel)
set_option maxRecDepth 20000 in
theorem gL_law_X12_disturb : GoodIn wsL_law (wsV RL 136 RX12 yX12_disturb wsX12_disturb) := goodIn_app (goodIn_of _ (by decide +kernel)) ggL_law_X12_disturb
set_option maxRecDepth 20000 in
theorem ggL_law_L_discard : GoodIn wsL_law wsL_discard := goodIn_ca (goodIn_r _ [645, 391, 646, 647, 648, 2, 649, 396, 397, 22, 27, 398, 399, 400, 50, 401, 279, 446, 447, 448, 26, 449, 309, 99, 450, 451, 452, 453, 454, 251, 252, 20, 253, 254, 43, 47, 51, 55, 59, 255, 256, 257, 42, 258, 63, 64, 65, 66, 67, 68, 70, 259, 260, 261, 262, 263, 264, 265, 266, 46, 267, 74, 75, 76, 77, 268, 269, 270, 271, 272, 273, 274, 275, 276, 277, 278, 81, 280, 82, 83, 84, 281, 282, 283, 284, 285, 286, 287, 54, 288, 289, 89, 290, 291, 292, 293, 58, 294, 93, 295, 296, 297, 298, 299, 300, 406, 407, 408, 409, 349, 410, 650, 512, 513, 514, 993, 994, 995, 996, 997, 998, 1026, 1027, 1028, 1029, 1030, 1031, 1055, 1056, 1057, 1058, 1059, 1060, 1061, 1062, 1063, 1064, 1032, 1033, 1036, 1037, 1038, 1039, 1040, 1041, 1042, 1043, 1044, 1045, 1046, 1047, 1048, 1049, 1050, 1051, 1052, 1053, 1054, 1065, 1066, 1067, 1068, 1069, 1070, 1071, 1072] (by decide +kernel) (by decide +kernel)) (goodIn_sub (fun _ h => List.mem_append_right _ h) (by decide +kernel))
set_option maxRecDepth 20000 in
theorem gL_law_L_discard : GoodIn wsL_law (va_wsS RL 137 yL_discard wsL_discard) := goodIn_app (goodIn_of _ (by decide +kernel)) ggL_law_L_discard
set_option maxRecDepth 20000 in
theorem ggL_law_X12_discard : GoodIn wsL_law wsX12_discard := goodIn_r _ [654, 114, 416, 417, 418, 5, 419, 152, 153, 154, 155, 156, 157, 158, 159, 520, 521, 522, 523, 318, 116, 319, 320, 321, 548, 549, 550, 999, 1000, 1001, 1002, 1003, 1004, 1005, 1006, 1007, 1008, 1009, 1010, 1011, 1012, 1013] (by decide +kernel) (by decide +kernel)
set_option maxRecDepth 20000 in
theorem gL_law_X12_discard : GoodIn wsL_law (wsV RL 139 RX12 yX12_discard wsX12_discard) := goodIn_app (goodIn_of _ (by decide +kernel)) ggL_law_X12_discard
set_option maxRecDepth 20000 in
theorem ggL_law_L_tryRule : GoodIn wsL_law wsL_tryRule := goodIn_ca (goodIn_ca (goodIn_r _ [657, 391, 128, 658, 659, 660, 2, 661, 396, 397, 135, 136, 22, 27, 662, 663, 664, 665, 666, 667, 20, 668, 55, 51, 47, 341, 342, 343, 50, 344, 345, 346, 347, 348, 279, 82, 83, 81, 85, 349, 350, 351, 352, 353, 354, 355, 356, 357, 358, 359, 360, 361, 446, 447, 448, 26, 449, 309, 99, 450, 451, 452, 453, 454, 251, 252, 253, 254, 43, 59, 255, 256, 257, 42, 258, 63, 64, 65, 66, 67, 68, 70, 259, 260, 261, 262, 263, 264, 265, 266, 46, 267, 74, 75, 76, 77, 268, 269, 270, 271, 272, 273, 274, 275, 276, 277, 278, 280, 84, 281, 282, 283, 284, 285, 286, 287, 54, 288, 289, 89, 290, 291, 292, 293, 58, 294, 93, 295, 296, 297, 298, 299, 300, 669, 670, 671, 672, 673, 674, 675, 676, 677, 678, 679, 680, 681, 682, 683, 684, 685, 686, 687, 688, 689, 690, 501, 502, 503, 691, 692, 693, 694, 695, 696, 697, 698, 699, 700, 701, 702, 703, 704, 562, 563, 564, 559, 560, 565, 566, 567, 568, 569, 570, 571, 572, 993, 994, 995, 996, 997, 998, 1026, 1027, 1028, 1029, 1030, 1031, 1044, 1045, 1046, 1047, 1048, 1049, 1050, 1051, 1052, 1053, 1054, 1065, 1066, 1055, 1056, 1057, 1058, 1059, 1060, 1061, 1062, 1063, 1064, 1032, 1033, 1036, 1037, 1038, 1039, 1040, 1041, 1042, 1043, 1067, 1068, 1069, 1070, 1071, 1072] (by decide +kernel) (by decide +kernel)) (goodIn_sub (fun _ h => List.mem_append_right _ h) (by decide +kernel))) (goodIn_sub (fun _ h => List.mem_append_left _ (List.mem_append_right _ h)) (by decide +kernel))
set_option maxRecDepth 20000 in
theorem gL_law_L_tryRule : GoodIn wsL_law (va_wsS RL 140 yL_tryRule wsL_tryRule) := goodIn_app (goodIn_of _ (by decide +kernel)) ggL_law_L_tryRule
set_option maxRecDepth 20000 in
theorem ggL_law_X12_tryRule : GoodIn wsL_law wsX12_tryRule := goodIn_r _ [708, 114, 709, 710, 5, 711, 712, 152, 153, 154, 713, 714, 715, 716, 367, 368, 369, 370, 371, 372, 373, 374, 375, 376, 377, 378, 119, 223, 379, 380, 381, 382, 383, 384, 385, 386, 387, 155, 156, 157, 158, 159, 520, 521, 522, 523, 318, 116, 319, 320, 321, 717, 718, 719, 720, 721, 722, 723, 724, 725, 726, 727, 728, 729, 730, 731, 732, 733, 734, 735, 581, 582, 583, 999, 1000, 1001, 1002, 1003, 1004, 1005, 1006, 1007, 1008, 1009, 1010, 1011, 1012, 1013] (by decide +kernel) (by decide +kernel)
set_option maxRecDepth 20000 in
theorem gL_law_X12_tryRule : GoodIn wsL_law (wsV RL 142 RX12 yX12_tryRule wsX12_tryRule) := goodIn_app (goodIn_of _ (by decide +kernel)) ggL_law_X12_tryRule
set_option maxRecDepth 20000 in
theorem ggL_law_L_takeBack : GoodIn wsL_law wsL_takeBack := goodIn_ca (goodIn_r _ [738, 128, 739, 740, 741, 2, 742, 135, 136, 22, 27, 446, 447, 448, 26, 449, 309, 99, 450, 451, 452, 453, 454, 251, 252, 20, 253, 254, 43, 47, 51, 55, 59, 255, 256, 257, 42, 258, 63, 64, 65, 66, 67, 68, 70, 259, 260, 261, 262, 263, 264, 265, 266, 46, 267, 74, 75, 76, 77, 268, 269, 270, 271, 272, 273, 274, 275, 276, 277, 50, 278, 279, 81, 280, 82, 83, 84, 281, 282, 283, 284, 285, 286, 287, 54, 288, 289, 89, 290, 291, 292, 293, 58, 294, 93, 295, 296, 297, 298, 299, 300, 743, 744, 745, 746, 747, 748, 749, 750, 704, 562, 563, 564, 559, 560, 565, 566, 567, 568, 569, 570, 571, 572, 993, 994, 995, 996, 997, 998, 1026, 1027, 1028, 1029, 1030, 1031, 1065, 1066, 1032, 1033, 1036, 1037, 1038, 1039, 1040, 1041, 1042, 1043, 1044, 1045, 1046, 1047, 1048, 1049, 1050, 1051, 1052, 1053, 1054, 1055, 1056, 1057, 1058, 1059, 1060, 1061, 1062, 1063, 1064, 1067, 1068, 1069, 1070, 1071, 1072] (by decide +kernel) (by decide +kernel)) (goodIn_sub (fun _ h => List.mem_append_left _ (List.mem_append_right _ h)) (by decide +kernel))
set_option maxRecDepth 20000 in
theorem gL_law_L_takeBack : GoodIn wsL_law (va_wsS RL 143 yL_takeBack wsL_takeBack) := goodIn_app (goodIn_of _ (by decide +kernel)) ggL_law_L_takeBack
set_option maxRecDepth 20000 in
theorem ggL_law_X12_takeBack : GoodIn wsL_law wsX12_takeBack := goodIn_r _ [754, 114, 155, 156, 157, 5, 158, 159, 520, 521, 522, 523, 318, 116, 319, 320, 321, 755, 756, 757, 581, 582, 583, 999, 1000, 1001, 1002, 1003, 1004, 1005, 1006, 1007, 1008, 1009, 1010, 1011, 1012, 1013] (by decide +kernel) (by decide +kernel)
set_option maxRecDepth 20000 in
theorem gL_law_X12_takeBack : GoodIn wsL_law (wsV RL 145 RX12 yX12_takeBack wsX12_takeBack) := goodIn_app (goodIn_of _ (by decide +kernel)) ggL_law_X12_takeBack
set_option maxRecDepth 20000 in
theorem ggL_law_X11_accept : GoodIn wsL_law wsX11_accept := goodIn_r _ [761, 27, 22, 446, 447, 448, 26, 449, 309, 99, 450, 451, 452, 453, 454, 251, 252, 20, 253, 254, 43, 47, 51, 55, 59, 255, 256, 257, 42, 258, 63, 64, 65, 66, 67, 68, 70, 259, 260, 261, 262, 263, 264, 265, 266, 46, 267, 74, 75, 76, 77, 268, 269, 270, 271, 272, 273, 274, 275, 276, 277, 50, 278, 279, 81, 280, 82, 83, 84, 281, 282, 283, 284, 285, 286, 287, 54, 288, 289, 89, 290, 291, 292, 293, 58, 294, 93, 295, 296, 297, 298, 299, 300, 993, 994, 995, 996, 997, 998, 1026, 1027, 1028, 1029, 1030, 1031, 1065, 1066, 1032, 1033, 1036, 1037, 1038, 1039, 1040, 1041, 1042, 1043, 1044, 1045, 1046, 1047, 1048, 1049, 1050, 1051, 1052, 1053, 1054, 1055, 1056, 1057, 1058, 1059, 1060, 1061, 1062, 1063, 1064, 1067, 1068, 1069, 1070, 1071, 1072] (by decide +kernel) (by decide +kernel)
set_option maxRecDepth 20000 in
theorem gL_law_X11_accept : GoodIn wsL_law (wsV RL 146 RX11 yX11_accept wsX11_accept) := goodIn_app (goodIn_of _ (by decide +kernel)) ggL_law_X11_accept
set_option maxRecDepth 20000 in
theorem ggL_law_X12_accept : GoodIn wsL_law wsX12_accept := goodIn_r _ [765, 159, 114, 520, 521, 522, 5, 523, 318, 116, 319, 320, 321, 999, 1000, 1001, 1002, 1003, 1004, 1005, 1006, 1007, 1008, 1009, 1010, 1011, 1012, 1013] (by decide +kernel) (by decide +kernel)
set_option maxRecDepth 20000 in
theorem gL_law_X12_accept : GoodIn wsL_law (wsV RL 149 RX12 yX12_accept wsX12_accept) := goodIn_app (goodIn_of _ (by decide +kernel)) ggL_law_X12_accept
set_option maxRecDepth 20000 in
theorem ggL_law_L_undo : GoodIn wsL_law wsL_undo := goodIn_ca (goodIn_r _ [768, 128, 769, 770, 771, 2, 772, 135, 136, 27, 22, 773, 774, 775, 26, 776, 309, 99, 454, 251, 252, 20, 253, 254, 43, 47, 51, 55, 59, 255, 256, 257, 42, 258, 63, 64, 65, 66, 67, 68, 70, 259, 260, 261, 262, 263, 264, 265, 266, 46, 267, 74, 75, 76, 77, 268, 269, 270, 271, 272, 273, 274, 275, 276, 277, 50, 278, 279, 81, 280, 82, 83, 84, 281, 282, 283, 284, 285, 286, 287, 54, 288, 289, 89, 290, 291, 292, 293, 58, 294, 93, 295, 296, 297, 298, 299, 300, 993, 994, 995, 996, 997, 998, 1032, 1033, 1026, 1027, 1028, 1029, 1030, 1031, 1036, 1037, 1038, 1039, 1040, 1041, 1042, 1043, 1044, 1045, 1046, 1047, 1048, 1049, 1050, 1051, 1052, 1053, 1054, 1055, 1056, 1057, 1058, 1059, 1060, 1061, 1062, 1063, 1064, 1065, 1066, 1067, 1068, 1069, 1070, 1071, 1072] (by decide +kernel) (by decide +kernel)) (goodIn_sub (fun _ h => List.mem_append_left _ (List.mem_append_right _ h)) (by decide +kernel))
set_option maxRecDepth 20000 in
theorem gL_law_L_undo : GoodIn wsL_law (va_wsS RL 150 yL_undo wsL_undo) := goodIn_app (goodIn_of _ (by decide +kernel)) ggL_law_L_undo
set_option maxRecDepth 20000 in
theorem ggL_law_X12_undo : GoodIn wsL_law wsX12_undo := goodIn_r _ [780, 318, 116, 114, 155, 156, 157, 5, 158, 159, 319, 320, 321, 999, 1000, 1001, 1002, 1003, 1004, 1005, 1006, 1007, 1008, 1009, 1010, 1011, 1012, 1013] (by decide +kernel) (by decide +kernel)
set_option maxRecDepth 20000 in
theorem gL_law_X12_undo : GoodIn wsL_law (wsV RL 152 RX12 yX12_undo wsX12_undo) := goodIn_app (goodIn_of _ (by decide +kernel)) ggL_law_X12_undo
set_option maxRecDepth 20000 in
theorem ggL_law_X11_middle : GoodIn wsL_law wsX11_middle := goodIn_r _ [784, 22, 785, 346, 347, 50, 348, 279, 82, 83, 81, 85, 349, 993, 994, 995, 996, 997, 998, 1026, 1027, 1028, 1029, 1030, 1031, 1055, 1056, 1057, 1058, 1059, 1060, 1061, 1062, 1063, 1064] (by decide +kernel) (by decide +kernel)
set_option maxRecDepth 20000 in
theorem gL_law_X11_middle : GoodIn wsL_law (wsV RL 153 RX11 yX11_middle wsX11_middle) := goodIn_app (goodIn_of _ (by decide +kernel)) ggL_law_X11_middle
set_option maxRecDepth 20000 in
theorem ggL_law_X12_middle : GoodIn wsL_law wsX12_middle := goodIn_r _ [789, 159, 114, 375, 376, 377, 5, 378, 119, 223, 379, 380, 381, 999, 1000, 1001, 1002, 1003, 1004, 1005, 1006, 1007, 1008, 1009, 1010, 1011, 1012, 1013] (by decide +kernel) (by decide +kernel)
set_option maxRecDepth 20000 in
theorem gL_law_X12_middle : GoodIn wsL_law (wsV RL 157 RX12 yX12_middle wsX12_middle) := goodIn_app (goodIn_of _ (by decide +kernel)) ggL_law_X12_middle
set_option maxRecDepth 20000 in
theorem ggL_law_L_proposal : GoodIn wsL_law wsL_proposal := goodIn_ca (goodIn_ca (goodIn_r _ [792, 391, 127, 793, 794, 795, 2, 796, 396, 397, 133, 134, 22, 662, 663, 664, 797, 683, 684, 20, 685, 51, 47, 686, 43, 687, 688, 689, 50, 690, 279, 82, 83, 81, 501, 502, 360, 503, 349, 345, 346, 347, 348, 85, 354, 355, 356, 357, 358, 359, 361, 691, 692, 693, 694, 695, 696, 697, 698, 699, 700, 701, 702, 703, 993, 994, 995, 996, 997, 998, 1026, 1027, 1028, 1029, 1030, 1031, 1044, 1045, 1046, 1047, 1048, 1049, 1050, 1051, 1052, 1053, 1054, 1036, 1037, 1038, 1039, 1040, 1041, 1042, 1043, 1055, 1056, 1057, 1058, 1059, 1060, 1061, 1062, 1063, 1064] (by decide +kernel) (by decide +kernel)) (goodIn_sub (fun _ h => List.mem_append_right _ h) (by decide +kernel))) (goodIn_sub (fun _ h => List.mem_append_left _ (List.mem_append_left _ (List.mem_append_right _ h))) (by decide +kernel))
set_option maxRecDepth 20000 in
theorem gL_law_L_proposal : GoodIn wsL_law (va_wsS RL 158 yL_proposal wsL_proposal) := goodIn_app (goodIn_of _ (by decide +kernel)) ggL_law_L_proposal
set_option maxRecDepth 20000 in
theorem ggL_law_X12_proposal : GoodIn wsL_law wsX12_proposal := goodIn_r _ [801, 580, 114, 223, 709, 710, 5, 711, 712, 152, 153, 154, 155, 156, 157, 158, 159, 367, 368, 369, 370, 371, 372, 373, 374, 375, 376, 377, 378, 119, 379, 380, 381, 382, 383, 384, 385, 386, 387, 725, 726, 727, 728, 729, 730, 731, 732, 733, 734, 735, 999, 1000, 1001, 1002, 1003, 1004, 1005, 1006, 1007, 1008, 1009, 1010, 1011, 1012, 1013] (by decide +kernel) (by decide +kernel)
set_option maxRecDepth 20000 in
theorem gL_law_X12_proposal : GoodIn wsL_law (wsV RL 160 RX12 yX12_proposal wsX12_proposal) := goodIn_app (goodIn_of _ (by decide +kernel)) ggL_law_X12_proposal
set_option maxRecDepth 20000 in
theorem ggL_law_L_toleranceFor : GoodIn wsL_law wsL_toleranceFor := goodIn_ca (goodIn_r _ [804, 127, 805, 806, 807, 2, 808, 133, 134, 22, 809, 810, 811, 50, 812, 349, 345, 346, 347, 348, 279, 82, 83, 81, 85, 350, 351, 352, 353, 354, 355, 356, 357, 358, 359, 360, 361, 993, 994, 995, 996, 997, 998, 1026, 1027, 1028, 1029, 1030, 1031, 1055, 1056, 1057, 1058, 1059, 1060, 1061, 1062, 1063, 1064] (by decide +kernel) (by decide +kernel)) (goodIn_sub (fun _ h => List.mem_append_left _ (List.mem_append_left _ (List.mem_append_right _ h))) (by decide +kernel))
set_option maxRecDepth 20000 in
theorem gL_law_L_toleranceFor : GoodIn wsL_law (va_wsS RL 161 yL_toleranceFor wsL_toleranceFor) := goodIn_app (goodIn_of _ (by decide +kernel)) ggL_law_L_toleranceFor
set_option maxRecDepth 20000 in
theorem ggL_law_X12_toleranceFor : GoodIn wsL_law wsX12_toleranceFor := goodIn_r _ [816, 614, 114, 115, 223, 152, 153, 5, 154, 155, 156, 157, 158, 159, 319, 320, 321, 367, 368, 369, 370, 371, 372, 373, 374, 375, 376, 377, 378, 119, 379, 380, 381, 382, 383, 384, 385, 386, 387, 999, 1000, 1001, 1002, 1003, 1004, 1005, 1006, 1007, 1008, 1009, 1010, 1011, 1012, 1013] (by decide +kernel) (by decide +kernel)
set_option maxRecDepth 20000 in
theorem gL_law_X12_toleranceFor : GoodIn wsL_law (wsV RL 163 RX12 yX12_toleranceFor wsX12_toleranceFor) := goodIn_app (goodIn_of _ (by decide +kernel)) ggL_law_X12_toleranceFor
set_option maxRecDepth 20000 in
theorem ggL_law_L_ahead : GoodIn wsL_law wsL_ahead := goodIn_ca (goodIn_r _ [819, 127, 820, 821, 822, 2, 823, 133, 134, 23, 22, 824, 825, 826, 250, 251, 252, 20, 253, 254, 43, 47, 51, 55, 59, 255, 256, 257, 42, 258, 63, 64, 65, 66, 67, 68, 70, 259, 260, 261, 262, 263, 264, 265, 266, 46, 267, 74, 75, 76, 77, 268, 269, 270, 271, 272, 273, 274, 275, 276, 277, 50, 278, 279, 81, 280, 82, 83, 84, 281, 282, 283, 284, 285, 286, 287, 54, 288, 289, 89, 290, 291, 292, 293, 58, 294, 93, 295, 296, 297, 298, 299, 300, 827, 828, 829, 830, 249, 831, 502, 360, 503, 832, 460, 461, 462, 463, 464, 465, 466, 467, 468, 469, 470, 471, 472, 473, 474, 475, 476, 477, 478, 479, 480, 481, 482, 483, 484, 485, 486, 487, 488, 489, 490, 491, 492, 493, 494, 495, 496, 497, 498, 499, 500, 501, 504, 505, 506, 507, 508, 509, 510, 511, 512, 513, 514, 833, 834, 835, 836, 837, 359, 361, 993, 994, 995, 996, 997, 998, 1026, 1027, 1028, 1029, 1030, 1031, 1036, 1037, 1038, 1039, 1040, 1041, 1042, 1043, 1044, 1045, 1046, 1047, 1048, 1049, 1050, 1051, 1052, 1053, 1054, 1055, 1056, 1057, 1058, 1059, 1060, 1061, 1062, 1063, 1064, 1065, 1066, 1067, 1068, 1069, 1070, 1071, 1072] (by decide +kernel) (by decide +kernel)) (goodIn_sub (fun _ h => List.mem_append_left _ (List.mem_append_left _ (List.mem_append_right _ h))) (by decide +kernel))
set_option maxRecDepth 20000 in
theorem gL_law_L_ahead : GoodIn wsL_law (va_wsS RL 164 yL_ahead wsL_ahead) := goodIn_app (goodIn_of _ (by decide +kernel)) ggL_law_L_ahead
set_option maxRecDepth 20000 in
theorem ggL_law_X12_ahead : GoodIn wsL_law wsX12_ahead := goodIn_r _ [841, 519, 415, 114, 115, 152, 153, 5, 154, 155, 156, 157, 158, 159, 319, 320, 321, 842, 843, 844, 845, 846, 223, 847, 848, 527, 528, 529, 530, 531, 532, 533, 534, 535, 536, 537, 538, 539, 540, 541, 542, 543, 544, 545, 546, 547, 548, 549, 550, 385, 386, 387, 849, 850, 851, 852, 999, 1000, 1001, 1002, 1003, 1004, 1005, 1006, 1007, 1008, 1009, 1010, 1011, 1012, 1013] (by decide +kernel) (by decide +kernel)
set_option maxRecDepth 20000 in
theorem gL_law_X12_ahead : GoodIn wsL_law (wsV RL 166 RX12 yX12_ahead wsX12_ahead) := goodIn_app (goodIn_of _ (by decide +kernel)) ggL_law_X12_ahead
set_option maxRecDepth 20000 in
theorem ggL_law_L_outcome : GoodIn wsL_law wsL_outcome := goodIn_ca (goodIn_ca (goodIn_r _ [855, 391, 127, 856, 857, 858, 2, 859, 396, 397, 133, 134, 662, 663, 664, 443, 444, 445, 824, 825, 826, 860, 861, 862, 863, 22, 249, 23, 864, 338, 339, 20, 340, 51, 47, 341, 342, 343, 50, 344, 345, 346, 347, 348, 279, 82, 83, 81, 85, 349, 350, 351, 352, 353, 354, 355, 356, 357, 358, 359, 360, 361, 250, 251, 252, 253, 254, 43, 55, 59, 255, 256, 257, 42, 258, 63, 64, 65, 66, 67, 68, 70, 259, 260, 261, 262, 263, 264, 265, 266, 46, 267, 74, 75, 76, 77, 268, 269, 270, 271, 272, 273, 274, 275, 276, 277, 278, 280, 84, 281, 282, 283, 284, 285, 286, 287, 54, 288, 289, 89, 290, 291, 292, 293, 58, 294, 93, 295, 296, 297, 298, 299, 300, 865, 679, 680, 681, 682, 683, 684, 685, 686, 687, 688, 689, 690, 501, 502, 503, 691, 692, 693, 694, 695, 696, 697, 698, 699, 700, 701, 702, 703, 704, 562, 563, 564, 559, 560, 565, 566, 567, 568, 569, 570, 571, 572, 827, 828, 829, 830, 831, 832, 460, 461, 462, 463, 464, 465, 466, 467, 468, 469, 470, 471, 472, 473, 474, 475, 476, 477, 478, 479, 480, 481, 482, 483, 484, 485, 486, 487, 488, 489, 490, 491, 492, 493, 494, 495, 496, 497, 498, 499, 500, 504, 505, 506, 507, 508, 509, 510, 511, 512, 513, 514, 833, 834, 835, 836, 837, 993, 994, 995, 996, 997, 998, 1026, 1027, 1028, 1029, 1030, 1031, 1044, 1045, 1046, 1047, 1048, 1049, 1050, 1051, 1052, 1053, 1054, 1055, 1056, 1057, 1058, 1059, 1060, 1061, 1062, 1063, 1064, 1036, 1037, 1038, 1039, 1040, 1041, 1042, 1043, 1065, 1066, 1067, 1068, 1069, 1070, 1071, 1072] (by decide +kernel) (by decide +kernel)) (goodIn_sub (fun _ h => List.mem_append_right _ h) (by decide +kernel))) (goodIn_sub (fun _ h => List.mem_append_left _ (List.mem_append_left _ (List.mem_append_right _ h))) (by decide +kernel))
set_option maxRecDepth 20000 in
theorem gL_law_L_outcome : GoodIn wsL_law (va_wsS RL 167 yL_outcome wsL_outcome) := goodIn_app (goodIn_of _ (by decide +kernel)) ggL_law_L_outcome
set_option maxRecDepth 20000 in
theorem ggL_law_X12_outcome : GoodIn wsL_law wsX12_outcome := goodIn_r _ [869, 519, 415, 114, 223, 709, 710, 5, 711, 712, 152, 153, 154, 155, 156, 157, 158, 159, 367, 368, 369, 370, 371, 372, 373, 374, 375, 376, 377, 378, 119, 379, 380, 381, 382, 383, 384, 385, 386, 387, 870, 871, 872, 873, 115, 319, 320, 321, 721, 722, 723, 724, 725, 726, 727, 728, 729, 730, 731, 732, 733, 734, 735, 581, 582, 583, 842, 843, 844, 845, 846, 847, 848, 527, 528, 529, 530, 531, 532, 533, 534, 535, 536, 537, 538, 539, 540, 541, 542, 543, 544, 545, 546, 547, 548, 549, 550, 849, 850, 851, 852, 999, 1000, 1001, 1002, 1003, 1004, 1005, 1006, 1007, 1008, 1009, 1010, 1011, 1012, 1013] (by decide +kernel) (by decide +kernel)
set_option maxRecDepth 20000 in
theorem gL_law_X12_outcome : GoodIn wsL_law (wsV RL 170 RX12 yX12_outcome wsX12_outcome) := goodIn_app (goodIn_of _ (by decide +kernel)) ggL_law_X12_outcome
set_option maxRecDepth 20000 in
theorem ggL_law_L_bestRule : GoodIn wsL_law wsL_bestRule := goodIn_ca (goodIn_r _ [876, 127, 877, 878, 879, 2, 880, 133, 134, 22, 249, 443, 444, 445, 864, 338, 339, 20, 340, 51, 47, 341, 342, 343, 50, 344, 345, 346, 347, 348, 279, 82, 83, 81, 85, 349, 350, 351, 352, 353, 354, 355, 356, 357, 358, 359, 360, 361, 860, 861, 862, 863, 23, 250, 251, 252, 253, 254, 43, 55, 59, 255, 256, 257, 42, 258, 63, 64, 65, 66, 67, 68, 70, 259, 260, 261, 262, 263, 264, 265, 266, 46, 267, 74, 75, 76, 77, 268, 269, 270, 271, 272, 273, 274, 275, 276, 277, 278, 280, 84, 281, 282, 283, 284, 285, 286, 287, 54, 288, 289, 89, 290, 291, 292, 293, 58, 294, 93, 295, 296, 297, 298, 299, 300, 865, 679, 680, 681, 682, 683, 684, 685, 686, 687, 688, 689, 690, 501, 502, 503, 691, 692, 693, 694, 695, 696, 697, 698, 699, 700, 701, 702, 703, 704, 562, 563, 564, 559, 560, 565, 566, 567, 568, 569, 570, 571, 572, 827, 828, 829, 830, 831, 832, 460, 461, 462, 463, 464, 465, 466, 467, 468, 469, 470, 471, 472, 473, 474, 475, 476, 477, 478, 479, 480, 481, 482, 483, 484, 485, 486, 487, 488, 489, 490, 491, 492, 493, 494, 495, 496, 497, 498, 499, 500, 504, 505, 506, 507, 508, 509, 510, 511, 512, 513, 514, 833, 834, 835, 836, 837, 993, 994, 995, 996, 997, 998, 1026, 1027, 1028, 1029, 1030, 1031, 1044, 1045, 1046, 1047, 1048, 1049, 1050, 1051, 1052, 1053, 1054, 1055, 1056, 1057, 1058, 1059, 1060, 1061, 1062, 1063, 1064, 1036, 1037, 1038, 1039, 1040, 1041, 1042, 1043, 1065, 1066, 1067, 1068, 1069, 1070, 1071, 1072] (by decide +kernel) (by decide +kernel)) (goodIn_sub (fun _ h => List.mem_append_left _ (List.mem_append_left _ (List.mem_append_right _ h))) (by decide +kernel))
set_option maxRecDepth 20000 in
theorem gL_law_L_bestRule : GoodIn wsL_law (va_wsS RL 171 yL_bestRule wsL_bestRule) := goodIn_app (goodIn_of _ (by decide +kernel)) ggL_law_L_bestRule
set_option maxRecDepth 20000 in
theorem ggL_law_X12_bestRule : GoodIn wsL_law wsX12_bestRule := goodIn_r _ [884, 519, 223, 114, 152, 153, 5, 154, 155, 156, 157, 158, 159, 367, 368, 369, 370, 371, 372, 373, 374, 375, 376, 377, 378, 119, 379, 380, 381, 382, 383, 384, 385, 386, 387, 870, 871, 872, 873, 115, 319, 320, 321, 721, 722, 723, 724, 725, 726, 727, 728, 729, 730, 731, 732, 733, 734, 735, 581, 582, 583, 842, 843, 844, 845, 846, 847, 848, 527, 528, 529, 530, 531, 532, 533, 534, 535, 536, 537, 538, 539, 540, 541, 542, 543, 544, 545, 546, 547, 548, 549, 550, 849, 850, 851, 852, 999, 1000, 1001, 1002, 1003, 1004, 1005, 1006, 1007, 1008, 1009, 1010, 1011, 1012, 1013] (by decide +kernel) (by decide +kernel)
set_option maxRecDepth 20000 in
theorem gL_law_X12_bestRule : GoodIn wsL_law (wsV RL 173 RX12 yX12_bestRule wsX12_bestRule) := goodIn_app (goodIn_of _ (by decide +kernel)) ggL_law_X12_bestRule
set_option maxRecDepth 20000 in
theorem ggL_law_L_settlesAfter : GoodIn wsL_law wsL_settlesAfter := goodIn_ca (goodIn_r _ [887, 127, 888, 889, 890, 2, 891, 133, 134, 23, 22, 249, 250, 251, 252, 20, 253, 254, 43, 47, 51, 55, 59, 255, 256, 257, 42, 258, 63, 64, 65, 66, 67, 68, 70, 259, 260, 261, 262, 263, 264, 265, 266, 46, 267, 74, 75, 76, 77, 268, 269, 270, 271, 272, 273, 274, 275, 276, 277, 50, 278, 279, 81, 280, 82, 83, 84, 281, 282, 283, 284, 285, 286, 287, 54, 288, 289, 89, 290, 291, 292, 293, 58, 294, 93, 295, 296, 297, 298, 299, 300, 833, 834, 835, 836, 837, 359, 360, 361, 832, 460, 461, 462, 463, 464, 465, 466, 467, 468, 469, 470, 471, 472, 473, 474, 475, 476, 477, 478, 479, 480, 481, 482, 483, 484, 485, 486, 487, 488, 489, 490, 491, 492, 493, 494, 495, 496, 497, 498, 499, 500, 501, 502, 503, 504, 505, 506, 507, 508, 509, 510, 511, 512, 513, 514, 993, 994, 995, 996, 997, 998, 1026, 1027, 1028, 1029, 1030, 1031, 1036, 1037, 1038, 1039, 1040, 1041, 1042, 1043, 1044, 1045, 1046, 1047, 1048, 1049, 1050, 1051, 1052, 1053, 1054, 1055, 1056, 1057, 1058, 1059, 1060, 1061, 1062, 1063, 1064, 1065, 1066, 1067, 1068, 1069, 1070, 1071, 1072] (by decide +kernel) (by decide +kernel)) (goodIn_sub (fun _ h => List.mem_append_left _ (List.mem_append_left _ (List.mem_append_right _ h))) (by decide +kernel))
set_option maxRecDepth 20000 in
theorem gL_law_L_settlesAfter : GoodIn wsL_law (va_wsS RL 174 yL_settlesAfter wsL_settlesAfter) := goodIn_app (goodIn_of _ (by decide +kernel)) ggL_law_L_settlesAfter
set_option maxRecDepth 20000 in
theorem ggL_law_X12_settlesAfter : GoodIn wsL_law wsX12_settlesAfter := goodIn_r _ [895, 615, 114, 115, 223, 152, 153, 5, 154, 155, 156, 157, 158, 159, 319, 320, 321, 385, 386, 387, 527, 528, 529, 530, 531, 532, 533, 534, 535, 536, 537, 538, 539, 540, 541, 542, 543, 544, 545, 546, 547, 548, 549, 550, 999, 1000, 1001, 1002, 1003, 1004, 1005, 1006, 1007, 1008, 1009, 1010, 1011, 1012, 1013] (by decide +kernel) (by decide +kernel)
set_option maxRecDepth 20000 in
theorem gL_law_X12_settlesAfter : GoodIn wsL_law (wsV RL 176 RX12 yX12_settlesAfter wsX12_settlesAfter) := goodIn_app (goodIn_of _ (by decide +kernel)) ggL_law_X12_settlesAfter
set_option maxRecDepth 20000 in
theorem ggL_law_L_runScript : GoodIn wsL_law wsL_runScript := goodIn_ca (goodIn_r _ [898, 127, 899, 900, 901, 2, 902, 133, 134, 23, 22, 903, 249, 904, 905, 906, 907, 908, 250, 251, 252, 20, 253, 254, 43, 47, 51, 55, 59, 255, 256, 257, 42, 258, 63, 64, 65, 66, 67, 68, 70, 259, 260, 261, 262, 263, 264, 265, 266, 46, 267, 74, 75, 76, 77, 268, 269, 270, 271, 272, 273, 274, 275, 276, 277, 50, 278, 279, 81, 280, 82, 83, 84, 281, 282, 283, 284, 285, 286, 287, 54, 288, 289, 89, 290, 291, 292, 293, 58, 294, 93, 295, 296, 297, 298, 299, 300, 909, 910, 911, 912, 456, 457, 458, 444, 445, 459, 460, 461, 462, 463, 464, 465, 466, 467, 468, 469, 470, 471, 472, 473, 474, 475, 476, 477, 478, 479, 480, 481, 482, 483, 484, 485, 486, 487, 488, 489, 490, 491, 492, 493, 494, 495, 496, 497, 498, 499, 500, 501, 502, 360, 503, 504, 505, 506, 507, 508, 509, 510, 511, 512, 513, 514, 913, 562, 563, 564, 559, 560, 565, 566, 567, 568, 569, 570, 571, 572, 914, 915, 916, 917, 918, 919, 920, 630, 631, 632, 627, 628, 633, 921, 599, 600, 601, 592, 593, 594, 595, 596, 602, 603, 604, 605, 922, 670, 671, 672, 663, 664, 673, 666, 667, 668, 341, 342, 343, 344, 345, 346, 347, 348, 85, 349, 350, 351, 352, 353, 354, 355, 356, 357, 358, 359, 361, 674, 675, 676, 677, 678, 679, 680, 681, 682, 683, 684, 685, 686, 687, 688, 689, 690, 691, 692, 693, 694, 695, 696, 697, 698, 699, 700, 701, 702, 703, 704, 923, 744, 745, 746, 747, 748, 749, 750, 924, 338, 339, 340, 993, 994, 995, 996, 997, 998, 1026, 1027, 1028, 1029, 1030, 1031, 1036, 1037, 1038, 1039, 1040, 1041, 1042, 1043, 1044, 1045, 1046, 1047, 1048, 1049, 1050, 1051, 1052, 1053, 1054, 1055, 1056, 1057, 1058, 1059, 1060, 1061, 1062, 1063, 1064, 1065, 1066, 1067, 1068, 1069, 1070, 1071, 1072] (by decide +kernel) (by decide +kernel)) (goodIn_sub (fun _ h => List.mem_append_left _ (List.mem_append_left _ (List.mem_append_right _ h))) (by decide +kernel))
set_option maxRecDepth 20000 in
theorem gL_law_L_runScript : GoodIn wsL_law (va_wsS RL 179 yL_runScript wsL_runScript) := goodIn_app (goodIn_of _ (by decide +kernel)) ggL_law_L_runScript
set_option maxRecDepth 20000 in
theorem ggL_law_X12_runScript : GoodIn wsL_law wsX12_runScript := goodIn_r _ [928, 929, 930, 931, 712, 114, 115, 223, 152, 153, 5, 154, 155, 156, 157, 158, 159, 319, 320, 321, 932, 933, 934, 935, 519, 524, 525, 526, 527, 528, 529, 530, 531, 532, 533, 534, 535, 536, 537, 538, 539, 540, 541, 542, 543, 544, 545, 546, 547, 548, 549, 550, 577, 578, 579, 580, 581, 582, 583, 640, 641, 642, 610, 611, 612, 613, 614, 615, 616, 617, 618, 709, 710, 711, 713, 714, 715, 716, 367, 368, 369, 370, 371, 372, 373, 374, 375, 376, 377, 378, 119, 379, 380, 381, 382, 383, 384, 385, 386, 387, 717, 718, 719, 720, 721, 722, 723, 724, 725, 726, 727, 728, 729, 730, 731, 732, 733, 734, 735, 755, 756, 757, 999, 1000, 1001, 1002, 1003, 1004, 1005, 1006, 1007, 1008, 1009, 1010, 1011, 1012, 1013] (by decide +kernel) (by decide +kernel)
set_option maxRecDepth 20000 in
theorem gL_law_X12_runScript : GoodIn wsL_law (wsV RL 182 RX12 yX12_runScript wsX12_runScript) := goodIn_app (goodIn_of _ (by decide +kernel)) ggL_law_X12_runScript
set_option maxRecDepth 20000 in
theorem ggL_law_L_simulate : GoodIn wsL_law wsL_simulate := goodIn_ca (goodIn_r _ [938, 127, 939, 940, 941, 2, 942, 133, 134, 23, 22, 943, 944, 945, 250, 251, 252, 20, 253, 254, 43, 47, 51, 55, 59, 255, 256, 257, 42, 258, 63, 64, 65, 66, 67, 68, 70, 259, 260, 261, 262, 263, 264, 265, 266, 46, 267, 74, 75, 76, 77, 268, 269, 270, 271, 272, 273, 274, 275, 276, 277, 50, 278, 279, 81, 280, 82, 83, 84, 281, 282, 283, 284, 285, 286, 287, 54, 288, 289, 89, 290, 291, 292, 293, 58, 294, 93, 295, 296, 297, 298, 299, 300, 629, 630, 631, 632, 627, 628, 633, 490, 491, 492, 475, 476, 455, 456, 457, 458, 444, 445, 459, 460, 461, 462, 463, 464, 465, 466, 467, 468, 469, 470, 471, 472, 473, 474, 477, 478, 479, 480, 481, 482, 483, 484, 485, 486, 487, 488, 489, 493, 494, 495, 496, 497, 498, 499, 500, 501, 502, 360, 503, 504, 505, 506, 507, 508, 509, 510, 511, 512, 513, 514, 864, 338, 339, 340, 341, 342, 343, 344, 345, 346, 347, 348, 85, 349, 350, 351, 352, 353, 354, 355, 356, 357, 358, 359, 361, 993, 994, 995, 996, 997, 998, 1026, 1027, 1028, 1029, 1030, 1031, 1036, 1037, 1038, 1039, 1040, 1041, 1042, 1043, 1044, 1045, 1046, 1047, 1048, 1049, 1050, 1051, 1052, 1053, 1054, 1055, 1056, 1057, 1058, 1059, 1060, 1061, 1062, 1063, 1064, 1065, 1066, 1067, 1068, 1069, 1070, 1071, 1072] (by decide +kernel) (by decide +kernel)) (goodIn_sub (fun _ h => List.mem_append_left _ (List.mem_append_left _ (List.mem_append_right _ h))) (by decide +kernel))
set_option maxRecDepth 20000 in
theorem gL_law_L_simulate : GoodIn wsL_law (va_wsS RL 183 yL_simulate wsL_simulate) := goodIn_app (goodIn_of _ (by decide +kernel)) ggL_law_L_simulate
set_option maxRecDepth 20000 in
theorem ggL_law_X12_simulate : GoodIn wsL_law wsX12_simulate := goodIn_r _ [949, 950, 114, 115, 951, 952, 953, 152, 153, 5, 154, 155, 156, 157, 158, 159, 319, 320, 321, 640, 641, 642, 536, 537, 538, 524, 525, 526, 527, 528, 529, 530, 531, 532, 533, 534, 535, 539, 540, 541, 542, 543, 544, 545, 546, 547, 548, 549, 550, 367, 368, 369, 370, 371, 372, 373, 374, 375, 376, 377, 378, 119, 223, 379, 380, 381, 382, 383, 384, 385, 386, 387, 999, 1000, 1001, 1002, 1003, 1004, 1005, 1006, 1007, 1008, 1009, 1010, 1011, 1012, 1013] (by decide +kernel) (by decide +kernel)
set_option maxRecDepth 20000 in
theorem gL_law_X12_simulate : GoodIn wsL_law (wsV RL 186 RX12 yX12_simulate wsX12_simulate) := goodIn_app (goodIn_of _ (by decide +kernel)) ggL_law_X12_simulate
set_option maxRecDepth 20000 in
theorem ggL_law_L_save : GoodIn wsL_law wsL_save := goodIn_ca (goodIn_r _ [956, 391, 957, 958, 959, 2, 960, 396, 397, 31, 22, 961, 962, 963, 964, 965, 966, 30, 967, 105, 107, 968, 251, 252, 20, 253, 254, 43, 47, 51, 55, 59, 255, 256, 257, 42, 258, 63, 64, 65, 66, 67, 68, 70, 259, 260, 261, 262, 263, 264, 265, 266, 46, 267, 74, 75, 76, 77, 268, 269, 270, 271, 272, 273, 274, 275, 276, 277, 50, 278, 279, 81, 280, 82, 83, 84, 281, 282, 283, 284, 285, 286, 287, 54, 288, 289, 89, 290, 291, 292, 293, 58, 294, 93, 295, 296, 297, 298, 299, 300, 993, 994, 995, 996, 997, 998, 1026, 1027, 1028, 1029, 1030, 1031, 1034, 1035, 1036, 1037, 1038, 1039, 1040, 1041, 1042, 1043, 1044, 1045, 1046, 1047, 1048, 1049, 1050, 1051, 1052, 1053, 1054, 1055, 1056, 1057, 1058, 1059, 1060, 1061, 1062, 1063, 1064, 1065, 1066, 1067, 1068, 1069, 1070, 1071, 1072] (by decide +kernel) (by decide +kernel)) (goodIn_sub (fun _ h => List.mem_append_right _ h) (by decide +kernel))
set_option maxRecDepth 20000 in
theorem gL_law_L_save : GoodIn wsL_law (va_wsS RL 187 yL_save wsL_save) := goodIn_app (goodIn_of _ (by decide +kernel)) ggL_law_L_save
set_option maxRecDepth 20000 in
theorem ggL_law_X12_save : GoodIn wsL_law wsX12_save := goodIn_r _ [972, 118, 114, 117, 152, 153, 5, 154, 155, 156, 157, 158, 159, 319, 320, 321, 999, 1000, 1001, 1002, 1003, 1004, 1005, 1006, 1007, 1008, 1009, 1010, 1011, 1012, 1013] (by decide +kernel) (by decide +kernel)
set_option maxRecDepth 20000 in
theorem gL_law_X12_save : GoodIn wsL_law (wsV RL 189 RX12 yX12_save wsX12_save) := goodIn_app (goodIn_of _ (by decide +kernel)) ggL_law_X12_save
set_option maxRecDepth 20000 in
theorem ggL_law_L_restore : GoodIn wsL_law wsL_restore := goodIn_ca (goodIn_ca (goodIn_r _ [975, 391, 128, 976, 977, 978, 2, 979, 396, 397, 135, 136, 31, 22, 27, 961, 962, 963, 980, 981, 982, 30, 983, 107, 984, 985, 986, 987, 105, 988, 968, 251, 252, 20, 253, 254, 43, 47, 51, 55, 59, 255, 256, 257, 42, 258, 63, 64, 65, 66, 67, 68, 70, 259, 260, 261, 262, 263, 264, 265, 266, 46, 267, 74, 75, 76, 77, 268, 269, 270, 271, 272, 273, 274, 275, 276, 277, 50, 278, 279, 81, 280, 82, 83, 84, 281, 282, 283, 284, 285, 286, 287, 54, 288, 289, 89, 290, 291, 292, 293, 58, 294, 93, 295, 296, 297, 298, 299, 300, 305, 306, 307, 26, 308, 309, 993, 994, 995, 996, 997, 998, 1026, 1027, 1028, 1029, 1030, 1031, 1034, 1035, 1036, 1037, 1038, 1039, 1040, 1041, 1042, 1043, 1044, 1045, 1046, 1047, 1048, 1049, 1050, 1051, 1052, 1053, 1054, 1055, 1056, 1057, 1058, 1059, 1060, 1061, 1062, 1063, 1064, 1065, 1066, 1067, 1068, 1069, 1070, 1071, 1072, 1032, 1033] (by decide +kernel) (by decide +kernel)) (goodIn_sub (fun _ h => List.mem_append_right _ h) (by decide +kernel))) (goodIn_sub (fun _ h => List.mem_append_left _ (List.mem_append_right _ h)) (by decide +kernel))
set_option maxRecDepth 20000 in
theorem gL_law_L_restore : GoodIn wsL_law (va_wsS RL 190 yL_restore wsL_restore) := goodIn_app (goodIn_of _ (by decide +kernel)) ggL_law_L_restore
set_option maxRecDepth 20000 in
theorem ggL_law_X12_restore : GoodIn wsL_law wsX12_restore := goodIn_r _ [992, 118, 117, 114, 318, 152, 153, 5, 154, 155, 156, 157, 158, 159, 319, 320, 321, 999, 1000, 1001, 1002, 1003, 1004, 1005, 1006, 1007, 1008, 1009, 1010, 1011, 1012, 1013] (by decide +kernel) (by decide +kernel)
set_option maxRecDepth 20000 in
theorem gL_law_X12_restore : GoodIn wsL_law (wsV RL 192 RX12 yX12_restore wsX12_restore) := goodIn_app (goodIn_of _ (by decide +kernel)) ggL_law_X12_restore
