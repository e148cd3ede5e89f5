set_option maxRecDepth 20000 in
theorem ggL_law_X12_load : GoodIn wsL_law wsX12_load := goodIn_r _ [317, 113, 114, 318, 118, 225, 226, 227, 5, 228, 224, 151, 112, 120, 121, 122, 229, 230, 231, 232, 233, 234, 235, 236, 223, 237, 152, 153, 154, 238, 239, 240, 241, 155, 156, 157, 158, 159, 319, 320, 321, 999, 1000, 1001, 1002, 1003, 1004, 1005, 1006, 1007, 1008, 1009, 1010, 1011, 1012, 1013] (by decide +kernel) (by decide +kernel)
set_option maxRecDepth 20000 in
theorem gL_law_X12_load : GoodIn wsL_law (wsV RL 114 RX12 yX12_load wsX12_load) := goodIn_app (goodIn_of _ (by decide +kernel)) ggL_law_X12_load
set_option maxRecDepth 20000 in
theorem ggL_law_L_about : GoodIn wsL_law wsL_about := goodIn_ca (goodIn_r _ [324, 127, 325, 326, 327, 2, 328, 133, 134, 22, 329, 330, 331, 20, 332, 43, 47, 254, 51, 55, 59, 333, 334, 335, 46, 336, 74, 75, 76, 77, 268, 269, 337, 338, 339, 340, 341, 342, 343, 50, 344, 345, 346, 347, 348, 279, 82, 83, 81, 85, 349, 350, 351, 352, 353, 354, 355, 356, 357, 358, 359, 360, 361, 993, 994, 995, 996, 997, 998, 1026, 1027, 1028, 1029, 1030, 1031, 1036, 1037, 1038, 1039, 1040, 1041, 1042, 1043, 1044, 1045, 1046, 1047, 1048, 1049, 1050, 1051, 1052, 1053, 1054, 1055, 1056, 1057, 1058, 1059, 1060, 1061, 1062, 1063, 1064, 1065, 1066, 1067, 1068, 1069, 1070, 1071, 1072] (by decide +kernel) (by decide +kernel)) (goodIn_sub (fun _ h => List.mem_append_left _ (List.mem_append_left _ (List.mem_append_right _ h))) (by decide +kernel))
set_option maxRecDepth 20000 in
theorem gL_law_L_about : GoodIn wsL_law (va_wsS RL 115 yL_about wsL_about) := goodIn_app (goodIn_of _ (by decide +kernel)) ggL_law_L_about
set_option maxRecDepth 20000 in
theorem ggL_law_X12_about : GoodIn wsL_law wsX12_about := goodIn_r _ [365, 366, 114, 152, 153, 5, 154, 155, 156, 157, 158, 159, 367, 368, 369, 370, 371, 372, 373, 374, 375, 376, 377, 378, 119, 223, 379, 380, 381, 382, 383, 384, 385, 386, 387, 999, 1000, 1001, 1002, 1003, 1004, 1005, 1006, 1007, 1008, 1009, 1010, 1011, 1012, 1013] (by decide +kernel) (by decide +kernel)
set_option maxRecDepth 20000 in
theorem gL_law_X12_about : GoodIn wsL_law (wsV RL 117 RX12 yX12_about wsX12_about) := goodIn_app (goodIn_of _ (by decide +kernel)) ggL_law_X12_about
set_option maxRecDepth 20000 in
theorem ggL_law_L_swing : GoodIn wsL_law wsL_swing := goodIn_ca (goodIn_ca (goodIn_r _ [390, 391, 127, 392, 393, 394, 2, 395, 396, 397, 133, 134, 22, 398, 399, 400, 50, 401, 279, 402, 403, 404, 405, 345, 346, 347, 348, 82, 83, 81, 85, 349, 354, 355, 356, 357, 358, 359, 360, 361, 406, 407, 408, 409, 84, 410, 993, 994, 995, 996, 997, 998, 1026, 1027, 1028, 1029, 1030, 1031, 1044, 1045, 1046, 1047, 1048, 1049, 1050, 1051, 1052, 1053, 1054, 1055, 1056, 1057, 1058, 1059, 1060, 1061, 1062, 1063, 1064] (by decide +kernel) (by decide +kernel)) (goodIn_sub (fun _ h => List.mem_append_right _ h) (by decide +kernel))) (goodIn_sub (fun _ h => List.mem_append_left _ (List.mem_append_left _ (List.mem_append_right _ h))) (by decide +kernel))
set_option maxRecDepth 20000 in
theorem gL_law_L_swing : GoodIn wsL_law (va_wsS RL 118 yL_swing wsL_swing) := goodIn_app (goodIn_of _ (by decide +kernel)) ggL_law_L_swing
set_option maxRecDepth 20000 in
theorem ggL_law_X12_swing : GoodIn wsL_law wsX12_swing := goodIn_r _ [414, 415, 114, 416, 417, 418, 5, 419, 152, 153, 154, 155, 156, 157, 158, 159, 371, 372, 373, 374, 375, 376, 377, 378, 119, 223, 379, 380, 381, 382, 383, 384, 385, 386, 387, 999, 1000, 1001, 1002, 1003, 1004, 1005, 1006, 1007, 1008, 1009, 1010, 1011, 1012, 1013] (by decide +kernel) (by decide +kernel)
set_option maxRecDepth 20000 in
theorem gL_law_X12_swing : GoodIn wsL_law (wsV RL 121 RX12 yX12_swing wsX12_swing) := goodIn_app (goodIn_of _ (by decide +kernel)) ggL_law_X12_swing
set_option maxRecDepth 20000 in
theorem ggL_law_L_account : GoodIn wsL_law wsL_account := goodIn_ca (goodIn_r _ [422, 127, 423, 424, 425, 2, 426, 133, 134, 22, 427, 428, 429, 58, 430, 93, 297, 298, 299, 300, 993, 994, 995, 996, 997, 998, 1026, 1027, 1028, 1029, 1030, 1031, 1067, 1068, 1069, 1070, 1071, 1072] (by decide +kernel) (by decide +kernel)) (goodIn_sub (fun _ h => List.mem_append_left _ (List.mem_append_left _ (List.mem_append_right _ h))) (by decide +kernel))
set_option maxRecDepth 20000 in
theorem gL_law_L_account : GoodIn wsL_law (va_wsS RL 122 yL_account wsL_account) := goodIn_app (goodIn_of _ (by decide +kernel)) ggL_law_L_account
