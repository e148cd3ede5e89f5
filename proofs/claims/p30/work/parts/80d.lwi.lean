set_option maxRecDepth 20000 in
theorem lwi_23 : ∀ w ∈ wsL_law0_r23, w ∈ lw_tbl := mem_fm [963, 964, 965, 966, 967, 969, 970, 971, 972, 973, 974, 975, 976, 977, 978, 979, 980, 981, 982, 681, 984, 986, 15, 987] (by decide +kernel)
set_option maxRecDepth 20000 in
theorem lwi_24 : ∀ w ∈ wsL_law0_r24, w ∈ lw_tbl := mem_fm [679, 989, 988, 990, 991, 992, 993, 994, 995, 996, 997, 998, 999, 1000, 1001, 1002, 1004, 16, 1005, 1006, 1007, 1008, 1009, 1010] (by decide +kernel)
set_option maxRecDepth 20000 in
theorem lwi_25 : ∀ w ∈ wsL_law0_r25, w ∈ lw_tbl := mem_fm [1011, 1012, 1013, 1014, 1015, 1016, 1017, 1018, 1019, 1020, 1021, 1023, 1024, 1025, 1026, 1027, 1028, 1029, 1036, 1031, 1032, 38, 1033, 1034] (by decide +kernel)
set_option maxRecDepth 20000 in
theorem lwi_26 : ∀ w ∈ wsL_law0_r26, w ∈ lw_tbl := mem_fm [1037, 1038, 1039, 1040, 1041, 1042, 1043, 1044, 1045, 1046, 1047, 1048, 1049, 1050, 1051, 1052, 1054, 1055, 1056, 1057, 1058, 1059, 1060, 1062] (by decide +kernel)
set_option maxRecDepth 20000 in
theorem lwi_27 : ∀ w ∈ wsL_law0_r27, w ∈ lw_tbl := mem_fm [1063, 1064, 577, 578, 579, 581, 582, 583, 584, 585, 586, 587, 604, 605, 606, 607, 609, 611, 612, 613, 614, 615, 616, 617] (by decide +kernel)
