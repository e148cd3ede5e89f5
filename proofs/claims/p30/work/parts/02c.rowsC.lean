theorem dX8_average_13 : decode cX8_average 13 = .ok (.iconst 0, 1) := by decide +kernel
theorem dX8_average_14 : decode cX8_average 14 = .ok (.istore 5, 2) := by decide +kernel
theorem dX8_average_16 : decode cX8_average 16 = .ok (.iconst 0, 1) := by decide +kernel
theorem dX8_average_17 : decode cX8_average 17 = .ok (.istore 6, 2) := by decide +kernel
theorem dX8_average_19 : decode cX8_average 19 = .ok (.iconst 0, 1) := by decide +kernel
theorem dX8_average_20 : decode cX8_average 20 = .ok (.istore 7, 2) := by decide +kernel
theorem dX8_average_22 : decode cX8_average 22 = .ok (.iload 7, 2) := by decide +kernel
theorem dX8_average_24 : decode cX8_average 24 = .ok (.aload_n 0, 1) := by decide +kernel
theorem dX8_average_25 : decode cX8_average 25 = .ok (.getfield 27, 3) := by decide +kernel
theorem dX8_average_28 : decode cX8_average 28 = .ok (.if_icmp .ge 66, 3) := by decide +kernel
theorem dX8_average_31 : decode cX8_average 31 = .ok (.iload 7, 2) := by decide +kernel
theorem dX8_average_33 : decode cX8_average 33 = .ok (.bipush 20, 2) := by decide +kernel
theorem dX8_average_35 : decode cX8_average 35 = .ok (.if_icmp .ge 59, 3) := by decide +kernel
theorem dX8_average_38 : decode cX8_average 38 = .ok (.aload_n 0, 1) := by decide +kernel
theorem dX8_average_39 : decode cX8_average 39 = .ok (.iload 7, 2) := by decide +kernel
theorem dX8_average_41 : decode cX8_average 41 = .ok (.iload_n 2, 1) := by decide +kernel
theorem dX8_average_42 : decode cX8_average 42 = .ok (.iload_n 3, 1) := by decide +kernel
theorem dX8_average_43 : decode cX8_average 43 = .ok (.iload 4, 2) := by decide +kernel
theorem dX8_average_45 : decode cX8_average 45 = .ok (.invokevirtual 75, 3) := by decide +kernel
theorem dX8_average_48 : decode cX8_average 48 = .ok (.ifCond .ne 40, 3) := by decide +kernel
theorem dX8_average_51 : decode cX8_average 51 = .ok (.iinc 5 1, 3) := by decide +kernel
theorem dX8_average_54 : decode cX8_average 54 = .ok (.iload 6, 2) := by decide +kernel
theorem dX8_average_56 : decode cX8_average 56 = .ok (.iload_n 1, 1) := by decide +kernel
theorem dX8_average_57 : decode cX8_average 57 = .ok (.ifCond .eq 21, 3) := by decide +kernel
theorem dX8_average_60 : decode cX8_average 60 = .ok (.aload_n 0, 1) := by decide +kernel
theorem dX8_average_61 : decode cX8_average 61 = .ok (.getfield 15, 3) := by decide +kernel
theorem dX8_average_64 : decode cX8_average 64 = .ok (.iload 7, 2) := by decide +kernel
theorem dX8_average_66 : decode cX8_average 66 = .ok (.iaload, 1) := by decide +kernel
theorem dX8_average_67 : decode cX8_average 67 = .ok (.aload_n 0, 1) := by decide +kernel
theorem dX8_average_68 : decode cX8_average 68 = .ok (.getfield 18, 3) := by decide +kernel
theorem dX8_average_71 : decode cX8_average 71 = .ok (.iload 7, 2) := by decide +kernel
theorem dX8_average_73 : decode cX8_average 73 = .ok (.iaload, 1) := by decide +kernel
theorem dX8_average_74 : decode cX8_average 74 = .ok (.isub, 1) := by decide +kernel
theorem dX8_average_75 : decode cX8_average 75 = .ok (.goto 10, 3) := by decide +kernel
theorem dX8_average_78 : decode cX8_average 78 = .ok (.aload_n 0, 1) := by decide +kernel
theorem dX8_average_79 : decode cX8_average 79 = .ok (.getfield 11, 3) := by decide +kernel
theorem dX8_average_82 : decode cX8_average 82 = .ok (.iload 7, 2) := by decide +kernel
theorem dX8_average_84 : decode cX8_average 84 = .ok (.iaload, 1) := by decide +kernel
theorem dX8_average_85 : decode cX8_average 85 = .ok (.iadd, 1) := by decide +kernel
theorem dX8_average_86 : decode cX8_average 86 = .ok (.istore 6, 2) := by decide +kernel
theorem dX8_average_88 : decode cX8_average 88 = .ok (.iinc 7 1, 3) := by decide +kernel
theorem dX8_average_91 : decode cX8_average 91 = .ok (.goto (-69), 3) := by decide +kernel
theorem dX8_average_94 : decode cX8_average 94 = .ok (.iload 5, 2) := by decide +kernel
theorem dX8_average_96 : decode cX8_average 96 = .ok (.ifCond .le 15, 3) := by decide +kernel
theorem dX8_average_99 : decode cX8_average 99 = .ok (.iconst 1, 1) := by decide +kernel
theorem dX8_average_100 : decode cX8_average 100 = .ok (.iload 6, 2) := by decide +kernel
theorem dX8_average_102 : decode cX8_average 102 = .ok (.iload 5, 2) := by decide +kernel
theorem dX8_average_104 : decode cX8_average 104 = .ok (.idiv, 1) := by decide +kernel
theorem dX8_average_105 : decode cX8_average 105 = .ok (.invokestatic 55, 3) := by decide +kernel
theorem dX8_average_108 : decode cX8_average 108 = .ok (.goto 5, 3) := by decide +kernel
theorem dX8_average_111 : decode cX8_average 111 = .ok (.ldc 54, 2) := by decide +kernel
theorem dX8_average_113 : decode cX8_average 113 = .ok (.ireturn, 1) := by decide +kernel
set_option maxRecDepth 20000 in
theorem ggX8_goodBeside_X8_reasonBeside : GoodIn wsX8_goodBeside wsX8_reasonBeside := goodIn_r _ [6, 7, 8, 9, 10, 11, 12, 13, 14, 15, 16, 17, 18, 19, 20, 21, 22, 23] (by decide +kernel) (by decide +kernel)
set_option maxRecDepth 20000 in
theorem gX8_goodBeside_X8_reasonBeside : GoodIn wsX8_goodBeside (wsV RX8 75 RX8 yX8_reasonBeside wsX8_reasonBeside) := goodIn_app (goodIn_of _ (by decide +kernel)) ggX8_goodBeside_X8_reasonBeside
theorem dX8_goodBeside_0 : decode cX8_goodBeside 0 = .ok (.iconst 0, 1) := by decide +kernel
theorem dX8_goodBeside_1 : decode cX8_goodBeside 1 = .ok (.istore 4, 2) := by decide +kernel
theorem dX8_goodBeside_3 : decode cX8_goodBeside 3 = .ok (.iconst 0, 1) := by decide +kernel
theorem dX8_goodBeside_4 : decode cX8_goodBeside 4 = .ok (.istore 5, 2) := by decide +kernel
theorem dX8_goodBeside_6 : decode cX8_goodBeside 6 = .ok (.iload 5, 2) := by decide +kernel
theorem dX8_goodBeside_8 : decode cX8_goodBeside 8 = .ok (.aload_n 0, 1) := by decide +kernel
theorem dX8_goodBeside_9 : decode cX8_goodBeside 9 = .ok (.getfield 27, 3) := by decide +kernel
theorem dX8_goodBeside_12 : decode cX8_goodBeside 12 = .ok (.if_icmp .ge 24, 3) := by decide +kernel
theorem dX8_goodBeside_15 : decode cX8_goodBeside 15 = .ok (.aload_n 0, 1) := by decide +kernel
theorem dX8_goodBeside_16 : decode cX8_goodBeside 16 = .ok (.iload 5, 2) := by decide +kernel
theorem dX8_goodBeside_18 : decode cX8_goodBeside 18 = .ok (.iload_n 1, 1) := by decide +kernel
theorem dX8_goodBeside_19 : decode cX8_goodBeside 19 = .ok (.iload_n 2, 1) := by decide +kernel
theorem dX8_goodBeside_20 : decode cX8_goodBeside 20 = .ok (.iload_n 3, 1) := by decide +kernel
theorem dX8_goodBeside_21 : decode cX8_goodBeside 21 = .ok (.invokevirtual 75, 3) := by decide +kernel
theorem dX8_goodBeside_24 : decode cX8_goodBeside 24 = .ok (.ifCond .ne 6, 3) := by decide +kernel
theorem dX8_goodBeside_27 : decode cX8_goodBeside 27 = .ok (.iinc 4 1, 3) := by decide +kernel
theorem dX8_goodBeside_30 : decode cX8_goodBeside 30 = .ok (.iinc 5 1, 3) := by decide +kernel
theorem dX8_goodBeside_33 : decode cX8_goodBeside 33 = .ok (.goto (-27), 3) := by decide +kernel
theorem dX8_goodBeside_36 : decode cX8_goodBeside 36 = .ok (.iload 4, 2) := by decide +kernel
theorem dX8_goodBeside_38 : decode cX8_goodBeside 38 = .ok (.ireturn, 1) := by decide +kernel
theorem dX8_reasonBeside_0 : decode cX8_reasonBeside 0 = .ok (.iload_n 1, 1) := by decide +kernel
theorem dX8_reasonBeside_1 : decode cX8_reasonBeside 1 = .ok (.iconst 1, 1) := by decide +kernel
theorem dX8_reasonBeside_2 : decode cX8_reasonBeside 2 = .ok (.if_icmp .lt 9, 3) := by decide +kernel
theorem dX8_reasonBeside_5 : decode cX8_reasonBeside 5 = .ok (.iload_n 1, 1) := by decide +kernel
theorem dX8_reasonBeside_6 : decode cX8_reasonBeside 6 = .ok (.bipush 20, 2) := by decide +kernel
theorem dX8_reasonBeside_8 : decode cX8_reasonBeside 8 = .ok (.if_icmp .lt 5, 3) := by decide +kernel
theorem dX8_reasonBeside_11 : decode cX8_reasonBeside 11 = .ok (.iconst 1, 1) := by decide +kernel
theorem dX8_reasonBeside_12 : decode cX8_reasonBeside 12 = .ok (.ireturn, 1) := by decide +kernel
theorem dX8_reasonBeside_13 : decode cX8_reasonBeside 13 = .ok (.aload_n 0, 1) := by decide +kernel
theorem dX8_reasonBeside_14 : decode cX8_reasonBeside 14 = .ok (.getfield 11, 3) := by decide +kernel
theorem dX8_reasonBeside_17 : decode cX8_reasonBeside 17 = .ok (.iload_n 1, 1) := by decide +kernel
theorem dX8_reasonBeside_18 : decode cX8_reasonBeside 18 = .ok (.iaload, 1) := by decide +kernel
theorem dX8_reasonBeside_19 : decode cX8_reasonBeside 19 = .ok (.iload_n 3, 1) := by decide +kernel
theorem dX8_reasonBeside_20 : decode cX8_reasonBeside 20 = .ok (.isub, 1) := by decide +kernel
theorem dX8_reasonBeside_21 : decode cX8_reasonBeside 21 = .ok (.invokestatic 83, 3) := by decide +kernel
theorem dX8_reasonBeside_24 : decode cX8_reasonBeside 24 = .ok (.bipush 100, 2) := by decide +kernel
theorem dX8_reasonBeside_26 : decode cX8_reasonBeside 26 = .ok (.imul, 1) := by decide +kernel
theorem dX8_reasonBeside_27 : decode cX8_reasonBeside 27 = .ok (.iload_n 2, 1) := by decide +kernel
theorem dX8_reasonBeside_28 : decode cX8_reasonBeside 28 = .ok (.iload_n 3, 1) := by decide +kernel
theorem dX8_reasonBeside_29 : decode cX8_reasonBeside 29 = .ok (.imul, 1) := by decide +kernel
theorem dX8_reasonBeside_30 : decode cX8_reasonBeside 30 = .ok (.if_icmp .le 5, 3) := by decide +kernel
theorem dX8_reasonBeside_33 : decode cX8_reasonBeside 33 = .ok (.iconst 2, 1) := by decide +kernel
theorem dX8_reasonBeside_34 : decode cX8_reasonBeside 34 = .ok (.ireturn, 1) := by decide +kernel
theorem dX8_reasonBeside_35 : decode cX8_reasonBeside 35 = .ok (.aload_n 0, 1) := by decide +kernel
theorem dX8_reasonBeside_36 : decode cX8_reasonBeside 36 = .ok (.getfield 15, 3) := by decide +kernel
theorem dX8_reasonBeside_39 : decode cX8_reasonBeside 39 = .ok (.iload_n 1, 1) := by decide +kernel
theorem dX8_reasonBeside_40 : decode cX8_reasonBeside 40 = .ok (.iaload, 1) := by decide +kernel
theorem dX8_reasonBeside_41 : decode cX8_reasonBeside 41 = .ok (.aload_n 0, 1) := by decide +kernel
theorem dX8_reasonBeside_42 : decode cX8_reasonBeside 42 = .ok (.getfield 18, 3) := by decide +kernel
theorem dX8_reasonBeside_45 : decode cX8_reasonBeside 45 = .ok (.iload_n 1, 1) := by decide +kernel
theorem dX8_reasonBeside_46 : decode cX8_reasonBeside 46 = .ok (.iaload, 1) := by decide +kernel
theorem dX8_reasonBeside_47 : decode cX8_reasonBeside 47 = .ok (.isub, 1) := by decide +kernel
theorem dX8_reasonBeside_48 : decode cX8_reasonBeside 48 = .ok (.istore 5, 2) := by decide +kernel
theorem dX8_reasonBeside_50 : decode cX8_reasonBeside 50 = .ok (.iload 5, 2) := by decide +kernel
theorem dX8_reasonBeside_52 : decode cX8_reasonBeside 52 = .ok (.iload 4, 2) := by decide +kernel
theorem dX8_reasonBeside_54 : decode cX8_reasonBeside 54 = .ok (.isub, 1) := by decide +kernel
theorem dX8_reasonBeside_55 : decode cX8_reasonBeside 55 = .ok (.invokestatic 83, 3) := by decide +kernel
theorem dX8_reasonBeside_58 : decode cX8_reasonBeside 58 = .ok (.bipush 100, 2) := by decide +kernel
theorem dX8_reasonBeside_60 : decode cX8_reasonBeside 60 = .ok (.imul, 1) := by decide +kernel
theorem dX8_reasonBeside_61 : decode cX8_reasonBeside 61 = .ok (.iload_n 2, 1) := by decide +kernel
theorem dX8_reasonBeside_62 : decode cX8_reasonBeside 62 = .ok (.iload 4, 2) := by decide +kernel
theorem dX8_reasonBeside_64 : decode cX8_reasonBeside 64 = .ok (.imul, 1) := by decide +kernel
theorem dX8_reasonBeside_65 : decode cX8_reasonBeside 65 = .ok (.if_icmp .le 7, 3) := by decide +kernel
theorem dX8_reasonBeside_68 : decode cX8_reasonBeside 68 = .ok (.iconst 3, 1) := by decide +kernel
theorem dX8_reasonBeside_69 : decode cX8_reasonBeside 69 = .ok (.goto 4, 3) := by decide +kernel
theorem dX8_reasonBeside_72 : decode cX8_reasonBeside 72 = .ok (.iconst 0, 1) := by decide +kernel
theorem dX8_reasonBeside_73 : decode cX8_reasonBeside 73 = .ok (.ireturn, 1) := by decide +kernel
theorem dX9_init_0 : decode cX9_init 0 = .ok (.aload_n 0, 1) := by decide +kernel
theorem dX9_init_1 : decode cX9_init 1 = .ok (.invokespecial 3, 3) := by decide +kernel
theorem dX9_init_4 : decode cX9_init 4 = .ok (.aload_n 0, 1) := by decide +kernel
theorem dX9_init_5 : decode cX9_init 5 = .ok (.bipush 60, 2) := by decide +kernel
theorem dX9_init_7 : decode cX9_init 7 = .ok (.newarray .char, 2) := by decide +kernel
theorem dX9_init_9 : decode cX9_init 9 = .ok (.putfield 11, 3) := by decide +kernel
theorem dX9_init_12 : decode cX9_init 12 = .ok (.return_, 1) := by decide +kernel
theorem dX9_isFull_0 : decode cX9_isFull 0 = .ok (.aload_n 0, 1) := by decide +kernel
theorem dX9_isFull_1 : decode cX9_isFull 1 = .ok (.getfield 15, 3) := by decide +kernel
theorem dX9_isFull_4 : decode cX9_isFull 4 = .ok (.bipush 60, 2) := by decide +kernel
theorem dX9_isFull_6 : decode cX9_isFull 6 = .ok (.if_icmp .lt 7, 3) := by decide +kernel
theorem dX9_isFull_9 : decode cX9_isFull 9 = .ok (.iconst 1, 1) := by decide +kernel
theorem dX9_isFull_10 : decode cX9_isFull 10 = .ok (.goto 4, 3) := by decide +kernel
theorem dX9_isFull_13 : decode cX9_isFull 13 = .ok (.iconst 0, 1) := by decide +kernel
theorem dX9_isFull_14 : decode cX9_isFull 14 = .ok (.ireturn, 1) := by decide +kernel
theorem dX9_add_0 : decode cX9_add 0 = .ok (.aload_n 0, 1) := by decide +kernel
theorem dX9_add_1 : decode cX9_add 1 = .ok (.getfield 15, 3) := by decide +kernel
theorem dX9_add_4 : decode cX9_add 4 = .ok (.ifCond .lt 35, 3) := by decide +kernel
theorem dX9_add_7 : decode cX9_add 7 = .ok (.aload_n 0, 1) := by decide +kernel
theorem dX9_add_8 : decode cX9_add 8 = .ok (.getfield 15, 3) := by decide +kernel
theorem dX9_add_11 : decode cX9_add 11 = .ok (.aload_n 0, 1) := by decide +kernel
theorem dX9_add_12 : decode cX9_add 12 = .ok (.getfield 11, 3) := by decide +kernel
theorem dX9_add_15 : decode cX9_add 15 = .ok (.arraylength, 1) := by decide +kernel
theorem dX9_add_16 : decode cX9_add 16 = .ok (.if_icmp .ge 23, 3) := by decide +kernel
theorem dX9_add_19 : decode cX9_add 19 = .ok (.aload_n 0, 1) := by decide +kernel
theorem dX9_add_20 : decode cX9_add 20 = .ok (.getfield 11, 3) := by decide +kernel
theorem dX9_add_23 : decode cX9_add 23 = .ok (.aload_n 0, 1) := by decide +kernel
theorem dX9_add_24 : decode cX9_add 24 = .ok (.getfield 15, 3) := by decide +kernel
theorem dX9_add_27 : decode cX9_add 27 = .ok (.iload_n 1, 1) := by decide +kernel
theorem dX9_add_28 : decode cX9_add 28 = .ok (.castore, 1) := by decide +kernel
theorem dX9_add_29 : decode cX9_add 29 = .ok (.aload_n 0, 1) := by decide +kernel
theorem dX9_add_30 : decode cX9_add 30 = .ok (.dup, 1) := by decide +kernel
theorem dX9_add_31 : decode cX9_add 31 = .ok (.getfield 15, 3) := by decide +kernel
theorem dX9_add_34 : decode cX9_add 34 = .ok (.iconst 1, 1) := by decide +kernel
theorem dX9_add_35 : decode cX9_add 35 = .ok (.iadd, 1) := by decide +kernel
theorem dX9_add_36 : decode cX9_add 36 = .ok (.putfield 15, 3) := by decide +kernel
theorem dX9_add_39 : decode cX9_add 39 = .ok (.return_, 1) := by decide +kernel
set_option maxRecDepth 20000 in
theorem ggX9_read_X9_readPlant : GoodIn wsX9_read wsX9_readPlant := goodIn_r _ [12, 13, 14, 15, 16, 17, 18, 19, 11, 20, 1, 21, 22, 23, 24, 6, 25, 26, 27, 28, 29, 30, 31, 32, 33, 43, 44, 45, 46, 47, 48, 49, 50, 51, 52, 53, 54] (by decide +kernel) (by decide +kernel)
set_option maxRecDepth 20000 in
theorem gX9_read_X9_readPlant : GoodIn wsX9_read (wsV RX9 35 RX9 yX9_readPlant wsX9_readPlant) := goodIn_app (goodIn_of _ (by decide +kernel)) ggX9_read_X9_readPlant
set_option maxRecDepth 20000 in
theorem ggX9_read_X9_readPart : GoodIn wsX9_read wsX9_readPart := goodIn_r _ [37, 5, 2, 3, 4, 21, 22, 23, 11, 24, 1, 6, 25, 38, 39, 40, 41, 42, 26, 27, 28, 29, 30, 31, 32, 33, 17, 18, 19, 20, 43, 44, 45, 46, 47, 48, 49, 50, 51, 52, 53, 54] (by decide +kernel) (by decide +kernel)
set_option maxRecDepth 20000 in
theorem gX9_read_X9_readPart : GoodIn wsX9_read (wsV RX9 39 RX9 yX9_readPart wsX9_readPart) := goodIn_app (goodIn_of _ (by decide +kernel)) ggX9_read_X9_readPart
theorem dX9_read_0 : decode cX9_read 0 = .ok (.aload_n 0, 1) := by decide +kernel
theorem dX9_read_1 : decode cX9_read 1 = .ok (.iconst 0, 1) := by decide +kernel
theorem dX9_read_2 : decode cX9_read 2 = .ok (.putfield 19, 3) := by decide +kernel
theorem dX9_read_5 : decode cX9_read 5 = .ok (.aload_n 0, 1) := by decide +kernel
theorem dX9_read_6 : decode cX9_read 6 = .ok (.iconst (-1), 1) := by decide +kernel
theorem dX9_read_7 : decode cX9_read 7 = .ok (.putfield 22, 3) := by decide +kernel
theorem dX9_read_10 : decode cX9_read 10 = .ok (.aload_n 0, 1) := by decide +kernel
theorem dX9_read_11 : decode cX9_read 11 = .ok (.iconst (-1), 1) := by decide +kernel
theorem dX9_read_12 : decode cX9_read 12 = .ok (.putfield 25, 3) := by decide +kernel
theorem dX9_read_15 : decode cX9_read 15 = .ok (.aload_n 0, 1) := by decide +kernel
theorem dX9_read_16 : decode cX9_read 16 = .ok (.iconst (-1), 1) := by decide +kernel
theorem dX9_read_17 : decode cX9_read 17 = .ok (.putfield 28, 3) := by decide +kernel
theorem dX9_read_20 : decode cX9_read 20 = .ok (.aload_n 0, 1) := by decide +kernel
theorem dX9_read_21 : decode cX9_read 21 = .ok (.iconst 0, 1) := by decide +kernel
theorem dX9_read_22 : decode cX9_read 22 = .ok (.putfield 31, 3) := by decide +kernel
theorem dX9_read_25 : decode cX9_read 25 = .ok (.aload_n 0, 1) := by decide +kernel
theorem dX9_read_26 : decode cX9_read 26 = .ok (.invokevirtual 35, 3) := by decide +kernel
theorem dX9_read_29 : decode cX9_read 29 = .ok (.ifCond .ne 8, 3) := by decide +kernel
theorem dX9_read_32 : decode cX9_read 32 = .ok (.aload_n 0, 1) := by decide +kernel
theorem dX9_read_33 : decode cX9_read 33 = .ok (.getfield 19, 3) := by decide +kernel
theorem dX9_read_36 : decode cX9_read 36 = .ok (.ireturn, 1) := by decide +kernel
theorem dX9_read_37 : decode cX9_read 37 = .ok (.iconst 0, 1) := by decide +kernel
theorem dX9_read_38 : decode cX9_read 38 = .ok (.istore_n 1, 1) := by decide +kernel
theorem dX9_read_39 : decode cX9_read 39 = .ok (.iload_n 1, 1) := by decide +kernel
theorem dX9_read_40 : decode cX9_read 40 = .ok (.iconst 4, 1) := by decide +kernel
theorem dX9_read_41 : decode cX9_read 41 = .ok (.if_icmp .ge 32, 3) := by decide +kernel
theorem dX9_read_44 : decode cX9_read 44 = .ok (.aload_n 0, 1) := by decide +kernel
theorem dX9_read_45 : decode cX9_read 45 = .ok (.getfield 19, 3) := by decide +kernel
theorem dX9_read_48 : decode cX9_read 48 = .ok (.aload_n 0, 1) := by decide +kernel
theorem dX9_read_49 : decode cX9_read 49 = .ok (.getfield 15, 3) := by decide +kernel
theorem dX9_read_52 : decode cX9_read 52 = .ok (.if_icmp .ge 21, 3) := by decide +kernel
theorem dX9_read_55 : decode cX9_read 55 = .ok (.aload_n 0, 1) := by decide +kernel
theorem dX9_read_56 : decode cX9_read 56 = .ok (.invokevirtual 39, 3) := by decide +kernel
theorem dX9_read_59 : decode cX9_read 59 = .ok (.ifCond .ne 8, 3) := by decide +kernel
theorem dX9_read_62 : decode cX9_read 62 = .ok (.aload_n 0, 1) := by decide +kernel
theorem dX9_read_63 : decode cX9_read 63 = .ok (.getfield 19, 3) := by decide +kernel
theorem dX9_read_66 : decode cX9_read 66 = .ok (.ireturn, 1) := by decide +kernel
theorem dX9_read_67 : decode cX9_read 67 = .ok (.iinc 1 1, 3) := by decide +kernel
theorem dX9_read_70 : decode cX9_read 70 = .ok (.goto (-31), 3) := by decide +kernel
theorem dX9_read_73 : decode cX9_read 73 = .ok (.aload_n 0, 1) := by decide +kernel
theorem dX9_read_74 : decode cX9_read 74 = .ok (.getfield 19, 3) := by decide +kernel
theorem dX9_read_77 : decode cX9_read 77 = .ok (.aload_n 0, 1) := by decide +kernel
theorem dX9_read_78 : decode cX9_read 78 = .ok (.getfield 15, 3) := by decide +kernel
theorem dX9_read_81 : decode cX9_read 81 = .ok (.if_icmp .ge 10, 3) := by decide +kernel
theorem dX9_read_84 : decode cX9_read 84 = .ok (.aload_n 0, 1) := by decide +kernel
theorem dX9_read_85 : decode cX9_read 85 = .ok (.getfield 19, 3) := by decide +kernel
theorem dX9_read_88 : decode cX9_read 88 = .ok (.goto 5, 3) := by decide +kernel
theorem dX9_read_91 : decode cX9_read 91 = .ok (.ldc 42, 2) := by decide +kernel
theorem dX9_read_93 : decode cX9_read 93 = .ok (.ireturn, 1) := by decide +kernel
theorem dX9_putInto_0 : decode cX9_putInto 0 = .ok (.aload_n 1, 1) := by decide +kernel
theorem dX9_putInto_1 : decode cX9_putInto 1 = .ok (.getfield 43, 3) := by decide +kernel
theorem dX9_putInto_4 : decode cX9_putInto 4 = .ok (.aload_n 0, 1) := by decide +kernel
theorem dX9_putInto_5 : decode cX9_putInto 5 = .ok (.getfield 49, 3) := by decide +kernel
theorem dX9_putInto_8 : decode cX9_putInto 8 = .ok (.putfield 52, 3) := by decide +kernel
theorem dX9_putInto_11 : decode cX9_putInto 11 = .ok (.aload_n 1, 1) := by decide +kernel
theorem dX9_putInto_12 : decode cX9_putInto 12 = .ok (.getfield 43, 3) := by decide +kernel
theorem dX9_putInto_15 : decode cX9_putInto 15 = .ok (.aload_n 0, 1) := by decide +kernel
theorem dX9_putInto_16 : decode cX9_putInto 16 = .ok (.getfield 55, 3) := by decide +kernel
theorem dX9_putInto_19 : decode cX9_putInto 19 = .ok (.putfield 58, 3) := by decide +kernel
theorem dX9_putInto_22 : decode cX9_putInto 22 = .ok (.aload_n 1, 1) := by decide +kernel
theorem dX9_putInto_23 : decode cX9_putInto 23 = .ok (.getfield 43, 3) := by decide +kernel
theorem dX9_putInto_26 : decode cX9_putInto 26 = .ok (.aload_n 0, 1) := by decide +kernel
theorem dX9_putInto_27 : decode cX9_putInto 27 = .ok (.getfield 59, 3) := by decide +kernel
theorem dX9_putInto_30 : decode cX9_putInto 30 = .ok (.putfield 62, 3) := by decide +kernel
theorem dX9_putInto_33 : decode cX9_putInto 33 = .ok (.aload_n 1, 1) := by decide +kernel
theorem dX9_putInto_34 : decode cX9_putInto 34 = .ok (.getfield 43, 3) := by decide +kernel
theorem dX9_putInto_37 : decode cX9_putInto 37 = .ok (.aload_n 0, 1) := by decide +kernel
theorem dX9_putInto_38 : decode cX9_putInto 38 = .ok (.getfield 63, 3) := by decide +kernel
theorem dX9_putInto_41 : decode cX9_putInto 41 = .ok (.putfield 66, 3) := by decide +kernel
theorem dX9_putInto_44 : decode cX9_putInto 44 = .ok (.aload_n 0, 1) := by decide +kernel
theorem dX9_putInto_45 : decode cX9_putInto 45 = .ok (.getfield 31, 3) := by decide +kernel
theorem dX9_putInto_48 : decode cX9_putInto 48 = .ok (.ifCond .eq 14, 3) := by decide +kernel
theorem dX9_putInto_51 : decode cX9_putInto 51 = .ok (.aload_n 1, 1) := by decide +kernel
theorem dX9_putInto_52 : decode cX9_putInto 52 = .ok (.getfield 43, 3) := by decide +kernel
theorem dX9_putInto_55 : decode cX9_putInto 55 = .ok (.aload_n 0, 1) := by decide +kernel
theorem dX9_putInto_56 : decode cX9_putInto 56 = .ok (.getfield 67, 3) := by decide +kernel
theorem dX9_putInto_59 : decode cX9_putInto 59 = .ok (.putfield 70, 3) := by decide +kernel
theorem dX9_putInto_62 : decode cX9_putInto 62 = .ok (.aload_n 1, 1) := by decide +kernel
theorem dX9_putInto_63 : decode cX9_putInto 63 = .ok (.getfield 43, 3) := by decide +kernel
theorem dX9_putInto_66 : decode cX9_putInto 66 = .ok (.aload_n 1, 1) := by decide +kernel
theorem dX9_putInto_67 : decode cX9_putInto 67 = .ok (.getfield 43, 3) := by decide +kernel
theorem dX9_putInto_70 : decode cX9_putInto 70 = .ok (.getfield 70, 3) := by decide +kernel
theorem dX9_putInto_73 : decode cX9_putInto 73 = .ok (.putfield 71, 3) := by decide +kernel
theorem dX9_putInto_76 : decode cX9_putInto 76 = .ok (.aload_n 0, 1) := by decide +kernel
theorem dX9_putInto_77 : decode cX9_putInto 77 = .ok (.getfield 22, 3) := by decide +kernel
theorem dX9_putInto_80 : decode cX9_putInto 80 = .ok (.iconst (-1), 1) := by decide +kernel
theorem dX9_putInto_81 : decode cX9_putInto 81 = .ok (.if_icmp .eq 14, 3) := by decide +kernel
theorem dX9_putInto_84 : decode cX9_putInto 84 = .ok (.aload_n 1, 1) := by decide +kernel
theorem dX9_putInto_85 : decode cX9_putInto 85 = .ok (.getfield 74, 3) := by decide +kernel
theorem dX9_putInto_88 : decode cX9_putInto 88 = .ok (.aload_n 0, 1) := by decide +kernel
theorem dX9_putInto_89 : decode cX9_putInto 89 = .ok (.getfield 22, 3) := by decide +kernel
theorem dX9_putInto_92 : decode cX9_putInto 92 = .ok (.putfield 78, 3) := by decide +kernel
theorem dX9_putInto_95 : decode cX9_putInto 95 = .ok (.aload_n 0, 1) := by decide +kernel
theorem dX9_putInto_96 : decode cX9_putInto 96 = .ok (.getfield 25, 3) := by decide +kernel
theorem dX9_putInto_99 : decode cX9_putInto 99 = .ok (.iconst (-1), 1) := by decide +kernel
theorem dX9_putInto_100 : decode cX9_putInto 100 = .ok (.if_icmp .eq 14, 3) := by decide +kernel
theorem dX9_putInto_103 : decode cX9_putInto 103 = .ok (.aload_n 1, 1) := by decide +kernel
theorem dX9_putInto_104 : decode cX9_putInto 104 = .ok (.getfield 74, 3) := by decide +kernel
theorem dX9_putInto_107 : decode cX9_putInto 107 = .ok (.aload_n 0, 1) := by decide +kernel
theorem dX9_putInto_108 : decode cX9_putInto 108 = .ok (.getfield 25, 3) := by decide +kernel
theorem dX9_putInto_111 : decode cX9_putInto 111 = .ok (.putfield 81, 3) := by decide +kernel
theorem dX9_putInto_114 : decode cX9_putInto 114 = .ok (.aload_n 0, 1) := by decide +kernel
theorem dX9_putInto_115 : decode cX9_putInto 115 = .ok (.getfield 28, 3) := by decide +kernel
theorem dX9_putInto_118 : decode cX9_putInto 118 = .ok (.iconst (-1), 1) := by decide +kernel
theorem dX9_putInto_119 : decode cX9_putInto 119 = .ok (.if_icmp .eq 14, 3) := by decide +kernel
theorem dX9_putInto_122 : decode cX9_putInto 122 = .ok (.aload_n 1, 1) := by decide +kernel
theorem dX9_putInto_123 : decode cX9_putInto 123 = .ok (.getfield 74, 3) := by decide +kernel
theorem dX9_putInto_126 : decode cX9_putInto 126 = .ok (.aload_n 0, 1) := by decide +kernel
theorem dX9_putInto_127 : decode cX9_putInto 127 = .ok (.getfield 28, 3) := by decide +kernel
theorem dX9_putInto_130 : decode cX9_putInto 130 = .ok (.putfield 82, 3) := by decide +kernel
theorem dX9_putInto_133 : decode cX9_putInto 133 = .ok (.return_, 1) := by decide +kernel
set_option maxRecDepth 20000 in
theorem ggX9_readPlant_X9_labelled : GoodIn wsX9_readPlant wsX9_labelled := goodIn_r _ [9, 10, 11, 12, 13, 8, 14, 15, 16, 17, 18, 19, 20, 21, 22, 23, 24, 25, 26, 27, 28, 29, 30, 31, 32, 33, 34, 35, 36] (by decide +kernel) (by decide +kernel)
set_option maxRecDepth 20000 in
theorem gX9_readPlant_X9_labelled : GoodIn wsX9_readPlant (wsV RX9 83 RX9 yX9_labelled wsX9_labelled) := goodIn_app (goodIn_of _ (by decide +kernel)) ggX9_readPlant_X9_labelled
theorem dX9_readPlant_0 : decode cX9_readPlant 0 = .ok (.aload_n 0, 1) := by decide +kernel
theorem dX9_readPlant_1 : decode cX9_readPlant 1 = .ok (.aload_n 0, 1) := by decide +kernel
theorem dX9_readPlant_2 : decode cX9_readPlant 2 = .ok (.bipush 71, 2) := by decide +kernel
theorem dX9_readPlant_4 : decode cX9_readPlant 4 = .ok (.iconst 2, 1) := by decide +kernel
theorem dX9_readPlant_5 : decode cX9_readPlant 5 = .ok (.iconst 1, 1) := by decide +kernel
theorem dX9_readPlant_6 : decode cX9_readPlant 6 = .ok (.bipush 20, 2) := by decide +kernel
theorem dX9_readPlant_8 : decode cX9_readPlant 8 = .ok (.invokevirtual 83, 3) := by decide +kernel
theorem dX9_readPlant_11 : decode cX9_readPlant 11 = .ok (.putfield 49, 3) := by decide +kernel
theorem dX9_readPlant_14 : decode cX9_readPlant 14 = .ok (.aload_n 0, 1) := by decide +kernel
theorem dX9_readPlant_15 : decode cX9_readPlant 15 = .ok (.getfield 49, 3) := by decide +kernel
theorem dX9_readPlant_18 : decode cX9_readPlant 18 = .ok (.iconst (-1), 1) := by decide +kernel
theorem dX9_readPlant_19 : decode cX9_readPlant 19 = .ok (.if_icmp .ne 5, 3) := by decide +kernel
theorem dX9_readPlant_22 : decode cX9_readPlant 22 = .ok (.iconst 0, 1) := by decide +kernel
theorem dX9_readPlant_23 : decode cX9_readPlant 23 = .ok (.ireturn, 1) := by decide +kernel
theorem dX9_readPlant_24 : decode cX9_readPlant 24 = .ok (.aload_n 0, 1) := by decide +kernel
theorem dX9_readPlant_25 : decode cX9_readPlant 25 = .ok (.aload_n 0, 1) := by decide +kernel
theorem dX9_readPlant_26 : decode cX9_readPlant 26 = .ok (.bipush 78, 2) := by decide +kernel
theorem dX9_readPlant_28 : decode cX9_readPlant 28 = .ok (.iconst 2, 1) := by decide +kernel
theorem dX9_readPlant_29 : decode cX9_readPlant 29 = .ok (.iconst 1, 1) := by decide +kernel
theorem dX9_readPlant_30 : decode cX9_readPlant 30 = .ok (.bipush 50, 2) := by decide +kernel
theorem dX9_readPlant_32 : decode cX9_readPlant 32 = .ok (.invokevirtual 83, 3) := by decide +kernel
theorem dX9_readPlant_35 : decode cX9_readPlant 35 = .ok (.putfield 55, 3) := by decide +kernel
theorem dX9_readPlant_38 : decode cX9_readPlant 38 = .ok (.aload_n 0, 1) := by decide +kernel
theorem dX9_readPlant_39 : decode cX9_readPlant 39 = .ok (.getfield 55, 3) := by decide +kernel
theorem dX9_readPlant_42 : decode cX9_readPlant 42 = .ok (.iconst (-1), 1) := by decide +kernel
theorem dX9_readPlant_43 : decode cX9_readPlant 43 = .ok (.if_icmp .ne 5, 3) := by decide +kernel
theorem dX9_readPlant_46 : decode cX9_readPlant 46 = .ok (.iconst 0, 1) := by decide +kernel
theorem dX9_readPlant_47 : decode cX9_readPlant 47 = .ok (.ireturn, 1) := by decide +kernel
theorem dX9_readPlant_48 : decode cX9_readPlant 48 = .ok (.aload_n 0, 1) := by decide +kernel
theorem dX9_readPlant_49 : decode cX9_readPlant 49 = .ok (.aload_n 0, 1) := by decide +kernel
theorem dX9_readPlant_50 : decode cX9_readPlant 50 = .ok (.bipush 76, 2) := by decide +kernel
theorem dX9_readPlant_52 : decode cX9_readPlant 52 = .ok (.iconst 1, 1) := by decide +kernel
theorem dX9_readPlant_53 : decode cX9_readPlant 53 = .ok (.iconst 0, 1) := by decide +kernel
theorem dX9_readPlant_54 : decode cX9_readPlant 54 = .ok (.bipush 9, 2) := by decide +kernel
theorem dX9_readPlant_56 : decode cX9_readPlant 56 = .ok (.invokevirtual 83, 3) := by decide +kernel
theorem dX9_readPlant_59 : decode cX9_readPlant 59 = .ok (.putfield 59, 3) := by decide +kernel
theorem dX9_readPlant_62 : decode cX9_readPlant 62 = .ok (.aload_n 0, 1) := by decide +kernel
theorem dX9_readPlant_63 : decode cX9_readPlant 63 = .ok (.getfield 59, 3) := by decide +kernel
theorem dX9_readPlant_66 : decode cX9_readPlant 66 = .ok (.iconst (-1), 1) := by decide +kernel
theorem dX9_readPlant_67 : decode cX9_readPlant 67 = .ok (.if_icmp .ne 5, 3) := by decide +kernel
theorem dX9_readPlant_70 : decode cX9_readPlant 70 = .ok (.iconst 0, 1) := by decide +kernel
theorem dX9_readPlant_71 : decode cX9_readPlant 71 = .ok (.ireturn, 1) := by decide +kernel
theorem dX9_readPlant_72 : decode cX9_readPlant 72 = .ok (.aload_n 0, 1) := by decide +kernel
theorem dX9_readPlant_73 : decode cX9_readPlant 73 = .ok (.aload_n 0, 1) := by decide +kernel
theorem dX9_readPlant_74 : decode cX9_readPlant 74 = .ok (.bipush 72, 2) := by decide +kernel
theorem dX9_readPlant_76 : decode cX9_readPlant 76 = .ok (.iconst 2, 1) := by decide +kernel
theorem dX9_readPlant_77 : decode cX9_readPlant 77 = .ok (.iconst 1, 1) := by decide +kernel
theorem dX9_readPlant_78 : decode cX9_readPlant 78 = .ok (.bipush 99, 2) := by decide +kernel
theorem dX9_readPlant_80 : decode cX9_readPlant 80 = .ok (.invokevirtual 83, 3) := by decide +kernel
theorem dX9_readPlant_83 : decode cX9_readPlant 83 = .ok (.putfield 63, 3) := by decide +kernel
theorem dX9_readPlant_86 : decode cX9_readPlant 86 = .ok (.aload_n 0, 1) := by decide +kernel
theorem dX9_readPlant_87 : decode cX9_readPlant 87 = .ok (.getfield 63, 3) := by decide +kernel
theorem dX9_readPlant_90 : decode cX9_readPlant 90 = .ok (.iconst (-1), 1) := by decide +kernel
theorem dX9_readPlant_91 : decode cX9_readPlant 91 = .ok (.if_icmp .eq 7, 3) := by decide +kernel
theorem dX9_readPlant_94 : decode cX9_readPlant 94 = .ok (.iconst 1, 1) := by decide +kernel
theorem dX9_readPlant_95 : decode cX9_readPlant 95 = .ok (.goto 4, 3) := by decide +kernel
theorem dX9_readPlant_98 : decode cX9_readPlant 98 = .ok (.iconst 0, 1) := by decide +kernel
theorem dX9_readPlant_99 : decode cX9_readPlant 99 = .ok (.ireturn, 1) := by decide +kernel
set_option maxRecDepth 20000 in
theorem ggX9_readPart_X9_isHere : GoodIn wsX9_readPart wsX9_isHere := goodIn_r _ [9, 10, 11, 12, 30, 31, 32, 33, 34, 35, 36, 37, 38, 39, 40, 41] (by decide +kernel) (by decide +kernel)
set_option maxRecDepth 20000 in
theorem gX9_readPart_X9_isHere : GoodIn wsX9_readPart (wsV RX9 87 RX9 yX9_isHere wsX9_isHere) := goodIn_app (goodIn_of _ (by decide +kernel)) ggX9_readPart_X9_isHere
set_option maxRecDepth 20000 in
theorem ggX9_readPart_X9_readAmbient : GoodIn wsX9_readPart wsX9_readAmbient := goodIn_r _ [16, 10, 17, 1, 5, 6, 7, 8, 9, 11, 12, 18, 19, 20, 21, 22, 23, 24, 25, 30, 31, 32, 33, 34, 35, 36, 37, 38, 39, 40, 41] (by decide +kernel) (by decide +kernel)
set_option maxRecDepth 20000 in
theorem gX9_readPart_X9_readAmbient : GoodIn wsX9_readPart (wsV RX9 91 RX9 yX9_readAmbient wsX9_readAmbient) := goodIn_app (goodIn_of _ (by decide +kernel)) ggX9_readPart_X9_readAmbient
set_option maxRecDepth 20000 in
theorem ggX9_readPart_X9_labelled : GoodIn wsX9_readPart wsX9_labelled := goodIn_r _ [29, 10, 5, 6, 7, 8, 9, 11, 12, 18, 19, 20, 21, 22, 23, 24, 25, 30, 31, 32, 33, 34, 35, 36, 37, 38, 39, 40, 41] (by decide +kernel) (by decide +kernel)
set_option maxRecDepth 20000 in
theorem gX9_readPart_X9_labelled : GoodIn wsX9_readPart (wsV RX9 83 RX9 yX9_labelled wsX9_labelled) := goodIn_app (goodIn_of _ (by decide +kernel)) ggX9_readPart_X9_labelled
theorem dX9_readPart_0 : decode cX9_readPart 0 = .ok (.aload_n 0, 1) := by decide +kernel
theorem dX9_readPart_1 : decode cX9_readPart 1 = .ok (.bipush 65, 2) := by decide +kernel
theorem dX9_readPart_3 : decode cX9_readPart 3 = .ok (.invokevirtual 87, 3) := by decide +kernel
theorem dX9_readPart_6 : decode cX9_readPart 6 = .ok (.ifCond .eq 15, 3) := by decide +kernel
theorem dX9_readPart_9 : decode cX9_readPart 9 = .ok (.aload_n 0, 1) := by decide +kernel
theorem dX9_readPart_10 : decode cX9_readPart 10 = .ok (.getfield 31, 3) := by decide +kernel
theorem dX9_readPart_13 : decode cX9_readPart 13 = .ok (.ifCond .ne 8, 3) := by decide +kernel
theorem dX9_readPart_16 : decode cX9_readPart 16 = .ok (.aload_n 0, 1) := by decide +kernel
theorem dX9_readPart_17 : decode cX9_readPart 17 = .ok (.invokevirtual 91, 3) := by decide +kernel
theorem dX9_readPart_20 : decode cX9_readPart 20 = .ok (.ireturn, 1) := by decide +kernel
theorem dX9_readPart_21 : decode cX9_readPart 21 = .ok (.aload_n 0, 1) := by decide +kernel
theorem dX9_readPart_22 : decode cX9_readPart 22 = .ok (.bipush 83, 2) := by decide +kernel
theorem dX9_readPart_24 : decode cX9_readPart 24 = .ok (.invokevirtual 87, 3) := by decide +kernel
theorem dX9_readPart_27 : decode cX9_readPart 27 = .ok (.ifCond .eq 40, 3) := by decide +kernel
theorem dX9_readPart_30 : decode cX9_readPart 30 = .ok (.aload_n 0, 1) := by decide +kernel
theorem dX9_readPart_31 : decode cX9_readPart 31 = .ok (.getfield 22, 3) := by decide +kernel
theorem dX9_readPart_34 : decode cX9_readPart 34 = .ok (.iconst (-1), 1) := by decide +kernel
theorem dX9_readPart_35 : decode cX9_readPart 35 = .ok (.if_icmp .ne 32, 3) := by decide +kernel
theorem dX9_readPart_38 : decode cX9_readPart 38 = .ok (.aload_n 0, 1) := by decide +kernel
theorem dX9_readPart_39 : decode cX9_readPart 39 = .ok (.aload_n 0, 1) := by decide +kernel
theorem dX9_readPart_40 : decode cX9_readPart 40 = .ok (.bipush 83, 2) := by decide +kernel
theorem dX9_readPart_42 : decode cX9_readPart 42 = .ok (.iconst 3, 1) := by decide +kernel
theorem dX9_readPart_43 : decode cX9_readPart 43 = .ok (.iconst 0, 1) := by decide +kernel
theorem dX9_readPart_44 : decode cX9_readPart 44 = .ok (.sipush 999, 3) := by decide +kernel
theorem dX9_readPart_47 : decode cX9_readPart 47 = .ok (.invokevirtual 83, 3) := by decide +kernel
theorem dX9_readPart_50 : decode cX9_readPart 50 = .ok (.putfield 22, 3) := by decide +kernel
theorem dX9_readPart_53 : decode cX9_readPart 53 = .ok (.aload_n 0, 1) := by decide +kernel
theorem dX9_readPart_54 : decode cX9_readPart 54 = .ok (.getfield 22, 3) := by decide +kernel
theorem dX9_readPart_57 : decode cX9_readPart 57 = .ok (.iconst (-1), 1) := by decide +kernel
theorem dX9_readPart_58 : decode cX9_readPart 58 = .ok (.if_icmp .eq 7, 3) := by decide +kernel
theorem dX9_readPart_61 : decode cX9_readPart 61 = .ok (.iconst 1, 1) := by decide +kernel
theorem dX9_readPart_62 : decode cX9_readPart 62 = .ok (.goto 4, 3) := by decide +kernel
theorem dX9_readPart_65 : decode cX9_readPart 65 = .ok (.iconst 0, 1) := by decide +kernel
theorem dX9_readPart_66 : decode cX9_readPart 66 = .ok (.ireturn, 1) := by decide +kernel
theorem dX9_readPart_67 : decode cX9_readPart 67 = .ok (.aload_n 0, 1) := by decide +kernel
theorem dX9_readPart_68 : decode cX9_readPart 68 = .ok (.bipush 66, 2) := by decide +kernel
theorem dX9_readPart_70 : decode cX9_readPart 70 = .ok (.invokevirtual 87, 3) := by decide +kernel
theorem dX9_readPart_73 : decode cX9_readPart 73 = .ok (.ifCond .eq 39, 3) := by decide +kernel
theorem dX9_readPart_76 : decode cX9_readPart 76 = .ok (.aload_n 0, 1) := by decide +kernel
theorem dX9_readPart_77 : decode cX9_readPart 77 = .ok (.getfield 25, 3) := by decide +kernel
theorem dX9_readPart_80 : decode cX9_readPart 80 = .ok (.iconst (-1), 1) := by decide +kernel
theorem dX9_readPart_81 : decode cX9_readPart 81 = .ok (.if_icmp .ne 31, 3) := by decide +kernel
theorem dX9_readPart_84 : decode cX9_readPart 84 = .ok (.aload_n 0, 1) := by decide +kernel
theorem dX9_readPart_85 : decode cX9_readPart 85 = .ok (.aload_n 0, 1) := by decide +kernel
theorem dX9_readPart_86 : decode cX9_readPart 86 = .ok (.bipush 66, 2) := by decide +kernel
theorem dX9_readPart_88 : decode cX9_readPart 88 = .ok (.iconst 2, 1) := by decide +kernel
theorem dX9_readPart_89 : decode cX9_readPart 89 = .ok (.iconst 0, 1) := by decide +kernel
theorem dX9_readPart_90 : decode cX9_readPart 90 = .ok (.bipush 20, 2) := by decide +kernel
theorem dX9_readPart_92 : decode cX9_readPart 92 = .ok (.invokevirtual 83, 3) := by decide +kernel
theorem dX9_readPart_95 : decode cX9_readPart 95 = .ok (.putfield 25, 3) := by decide +kernel
theorem dX9_readPart_98 : decode cX9_readPart 98 = .ok (.aload_n 0, 1) := by decide +kernel
theorem dX9_readPart_99 : decode cX9_readPart 99 = .ok (.getfield 25, 3) := by decide +kernel
theorem dX9_readPart_102 : decode cX9_readPart 102 = .ok (.iconst (-1), 1) := by decide +kernel
theorem dX9_readPart_103 : decode cX9_readPart 103 = .ok (.if_icmp .eq 7, 3) := by decide +kernel
theorem dX9_readPart_106 : decode cX9_readPart 106 = .ok (.iconst 1, 1) := by decide +kernel
theorem dX9_readPart_107 : decode cX9_readPart 107 = .ok (.goto 4, 3) := by decide +kernel
theorem dX9_readPart_110 : decode cX9_readPart 110 = .ok (.iconst 0, 1) := by decide +kernel
theorem dX9_readPart_111 : decode cX9_readPart 111 = .ok (.ireturn, 1) := by decide +kernel
theorem dX9_readPart_112 : decode cX9_readPart 112 = .ok (.aload_n 0, 1) := by decide +kernel
theorem dX9_readPart_113 : decode cX9_readPart 113 = .ok (.bipush 84, 2) := by decide +kernel
theorem dX9_readPart_115 : decode cX9_readPart 115 = .ok (.invokevirtual 87, 3) := by decide +kernel
theorem dX9_readPart_118 : decode cX9_readPart 118 = .ok (.ifCond .eq 39, 3) := by decide +kernel
theorem dX9_readPart_121 : decode cX9_readPart 121 = .ok (.aload_n 0, 1) := by decide +kernel
theorem dX9_readPart_122 : decode cX9_readPart 122 = .ok (.getfield 28, 3) := by decide +kernel
theorem dX9_readPart_125 : decode cX9_readPart 125 = .ok (.iconst (-1), 1) := by decide +kernel
theorem dX9_readPart_126 : decode cX9_readPart 126 = .ok (.if_icmp .ne 31, 3) := by decide +kernel
theorem dX9_readPart_129 : decode cX9_readPart 129 = .ok (.aload_n 0, 1) := by decide +kernel
theorem dX9_readPart_130 : decode cX9_readPart 130 = .ok (.aload_n 0, 1) := by decide +kernel
theorem dX9_readPart_131 : decode cX9_readPart 131 = .ok (.bipush 84, 2) := by decide +kernel
theorem dX9_readPart_133 : decode cX9_readPart 133 = .ok (.iconst 2, 1) := by decide +kernel
theorem dX9_readPart_134 : decode cX9_readPart 134 = .ok (.iconst 0, 1) := by decide +kernel
theorem dX9_readPart_135 : decode cX9_readPart 135 = .ok (.bipush 99, 2) := by decide +kernel
theorem dX9_readPart_137 : decode cX9_readPart 137 = .ok (.invokevirtual 83, 3) := by decide +kernel
theorem dX9_readPart_140 : decode cX9_readPart 140 = .ok (.putfield 28, 3) := by decide +kernel
theorem dX9_readPart_143 : decode cX9_readPart 143 = .ok (.aload_n 0, 1) := by decide +kernel
theorem dX9_readPart_144 : decode cX9_readPart 144 = .ok (.getfield 28, 3) := by decide +kernel
theorem dX9_readPart_147 : decode cX9_readPart 147 = .ok (.iconst (-1), 1) := by decide +kernel
theorem dX9_readPart_148 : decode cX9_readPart 148 = .ok (.if_icmp .eq 7, 3) := by decide +kernel
theorem dX9_readPart_151 : decode cX9_readPart 151 = .ok (.iconst 1, 1) := by decide +kernel
theorem dX9_readPart_152 : decode cX9_readPart 152 = .ok (.goto 4, 3) := by decide +kernel
theorem dX9_readPart_155 : decode cX9_readPart 155 = .ok (.iconst 0, 1) := by decide +kernel
theorem dX9_readPart_156 : decode cX9_readPart 156 = .ok (.ireturn, 1) := by decide +kernel
theorem dX9_readPart_157 : decode cX9_readPart 157 = .ok (.iconst 0, 1) := by decide +kernel
theorem dX9_readPart_158 : decode cX9_readPart 158 = .ok (.ireturn, 1) := by decide +kernel
set_option maxRecDepth 20000 in
theorem ggX9_readAmbient_X9_isHere : GoodIn wsX9_readAmbient wsX9_isHere := goodIn_r _ [8, 1, 9, 10, 19, 20, 21, 22, 23, 24, 25, 26, 27, 28, 29, 30] (by decide +kernel) (by decide +kernel)
set_option maxRecDepth 20000 in
theorem gX9_readAmbient_X9_isHere : GoodIn wsX9_readAmbient (wsV RX9 87 RX9 yX9_isHere wsX9_isHere) := goodIn_app (goodIn_of _ (by decide +kernel)) ggX9_readAmbient_X9_isHere
set_option maxRecDepth 20000 in
theorem ggX9_readAmbient_X9_number : GoodIn wsX9_readAmbient wsX9_number := goodIn_r _ [14, 1, 15, 16, 17, 7, 18, 9, 10, 19, 20, 21, 22, 23, 24, 25, 26, 27, 28, 29, 30] (by decide +kernel) (by decide +kernel)
set_option maxRecDepth 20000 in
theorem gX9_readAmbient_X9_number : GoodIn wsX9_readAmbient (wsV RX9 94 RX9 yX9_number wsX9_number) := goodIn_app (goodIn_of _ (by decide +kernel)) ggX9_readAmbient_X9_number
theorem dX9_readAmbient_0 : decode cX9_readAmbient 0 = .ok (.aload_n 0, 1) := by decide +kernel
theorem dX9_readAmbient_1 : decode cX9_readAmbient 1 = .ok (.dup, 1) := by decide +kernel
theorem dX9_readAmbient_2 : decode cX9_readAmbient 2 = .ok (.getfield 19, 3) := by decide +kernel
theorem dX9_readAmbient_5 : decode cX9_readAmbient 5 = .ok (.iconst 1, 1) := by decide +kernel
theorem dX9_readAmbient_6 : decode cX9_readAmbient 6 = .ok (.iadd, 1) := by decide +kernel
theorem dX9_readAmbient_7 : decode cX9_readAmbient 7 = .ok (.putfield 19, 3) := by decide +kernel
theorem dX9_readAmbient_10 : decode cX9_readAmbient 10 = .ok (.aload_n 0, 1) := by decide +kernel
theorem dX9_readAmbient_11 : decode cX9_readAmbient 11 = .ok (.bipush 45, 2) := by decide +kernel
theorem dX9_readAmbient_13 : decode cX9_readAmbient 13 = .ok (.invokevirtual 87, 3) := by decide +kernel
theorem dX9_readAmbient_16 : decode cX9_readAmbient 16 = .ok (.istore_n 1, 1) := by decide +kernel
theorem dX9_readAmbient_17 : decode cX9_readAmbient 17 = .ok (.iload_n 1, 1) := by decide +kernel
theorem dX9_readAmbient_18 : decode cX9_readAmbient 18 = .ok (.ifCond .ne 14, 3) := by decide +kernel
theorem dX9_readAmbient_21 : decode cX9_readAmbient 21 = .ok (.aload_n 0, 1) := by decide +kernel
theorem dX9_readAmbient_22 : decode cX9_readAmbient 22 = .ok (.bipush 43, 2) := by decide +kernel
theorem dX9_readAmbient_24 : decode cX9_readAmbient 24 = .ok (.invokevirtual 87, 3) := by decide +kernel
theorem dX9_readAmbient_27 : decode cX9_readAmbient 27 = .ok (.ifCond .ne 5, 3) := by decide +kernel
theorem dX9_readAmbient_30 : decode cX9_readAmbient 30 = .ok (.iconst 0, 1) := by decide +kernel
theorem dX9_readAmbient_31 : decode cX9_readAmbient 31 = .ok (.ireturn, 1) := by decide +kernel
theorem dX9_readAmbient_32 : decode cX9_readAmbient 32 = .ok (.aload_n 0, 1) := by decide +kernel
theorem dX9_readAmbient_33 : decode cX9_readAmbient 33 = .ok (.dup, 1) := by decide +kernel
theorem dX9_readAmbient_34 : decode cX9_readAmbient 34 = .ok (.getfield 19, 3) := by decide +kernel
theorem dX9_readAmbient_37 : decode cX9_readAmbient 37 = .ok (.iconst 1, 1) := by decide +kernel
theorem dX9_readAmbient_38 : decode cX9_readAmbient 38 = .ok (.iadd, 1) := by decide +kernel
theorem dX9_readAmbient_39 : decode cX9_readAmbient 39 = .ok (.putfield 19, 3) := by decide +kernel
theorem dX9_readAmbient_42 : decode cX9_readAmbient 42 = .ok (.aload_n 0, 1) := by decide +kernel
theorem dX9_readAmbient_43 : decode cX9_readAmbient 43 = .ok (.iconst 2, 1) := by decide +kernel
theorem dX9_readAmbient_44 : decode cX9_readAmbient 44 = .ok (.iconst 0, 1) := by decide +kernel
theorem dX9_readAmbient_45 : decode cX9_readAmbient 45 = .ok (.bipush 99, 2) := by decide +kernel
theorem dX9_readAmbient_47 : decode cX9_readAmbient 47 = .ok (.invokevirtual 94, 3) := by decide +kernel
theorem dX9_readAmbient_50 : decode cX9_readAmbient 50 = .ok (.istore_n 2, 1) := by decide +kernel
theorem dX9_readAmbient_51 : decode cX9_readAmbient 51 = .ok (.aload_n 0, 1) := by decide +kernel
theorem dX9_readAmbient_52 : decode cX9_readAmbient 52 = .ok (.iload_n 1, 1) := by decide +kernel
theorem dX9_readAmbient_53 : decode cX9_readAmbient 53 = .ok (.ifCond .eq 8, 3) := by decide +kernel
theorem dX9_readAmbient_56 : decode cX9_readAmbient 56 = .ok (.iload_n 2, 1) := by decide +kernel
theorem dX9_readAmbient_57 : decode cX9_readAmbient 57 = .ok (.ineg, 1) := by decide +kernel
theorem dX9_readAmbient_58 : decode cX9_readAmbient 58 = .ok (.goto 4, 3) := by decide +kernel
theorem dX9_readAmbient_61 : decode cX9_readAmbient 61 = .ok (.iload_n 2, 1) := by decide +kernel
theorem dX9_readAmbient_62 : decode cX9_readAmbient 62 = .ok (.putfield 67, 3) := by decide +kernel
theorem dX9_readAmbient_65 : decode cX9_readAmbient 65 = .ok (.aload_n 0, 1) := by decide +kernel
theorem dX9_readAmbient_66 : decode cX9_readAmbient 66 = .ok (.iload_n 2, 1) := by decide +kernel
theorem dX9_readAmbient_67 : decode cX9_readAmbient 67 = .ok (.iconst (-1), 1) := by decide +kernel
theorem dX9_readAmbient_68 : decode cX9_readAmbient 68 = .ok (.if_icmp .eq 7, 3) := by decide +kernel
theorem dX9_readAmbient_71 : decode cX9_readAmbient 71 = .ok (.iconst 1, 1) := by decide +kernel
theorem dX9_readAmbient_72 : decode cX9_readAmbient 72 = .ok (.goto 4, 3) := by decide +kernel
theorem dX9_readAmbient_75 : decode cX9_readAmbient 75 = .ok (.iconst 0, 1) := by decide +kernel
theorem dX9_readAmbient_76 : decode cX9_readAmbient 76 = .ok (.putfield 31, 3) := by decide +kernel
theorem dX9_readAmbient_79 : decode cX9_readAmbient 79 = .ok (.aload_n 0, 1) := by decide +kernel
theorem dX9_readAmbient_80 : decode cX9_readAmbient 80 = .ok (.getfield 31, 3) := by decide +kernel
theorem dX9_readAmbient_83 : decode cX9_readAmbient 83 = .ok (.ireturn, 1) := by decide +kernel
set_option maxRecDepth 20000 in
theorem ggX9_labelled_X9_isHere : GoodIn wsX9_labelled wsX9_isHere := goodIn_r _ [6, 1, 7, 8, 17, 18, 19, 20, 21, 22, 23, 24, 25, 26, 27, 28] (by decide +kernel) (by decide +kernel)
set_option maxRecDepth 20000 in
theorem gX9_labelled_X9_isHere : GoodIn wsX9_labelled (wsV RX9 87 RX9 yX9_isHere wsX9_isHere) := goodIn_app (goodIn_of _ (by decide +kernel)) ggX9_labelled_X9_isHere
set_option maxRecDepth 20000 in
theorem ggX9_labelled_X9_number : GoodIn wsX9_labelled wsX9_number := goodIn_r _ [12, 1, 13, 14, 15, 5, 16, 7, 8, 17, 18, 19, 20, 21, 22, 23, 24, 25, 26, 27, 28] (by decide +kernel) (by decide +kernel)
set_option maxRecDepth 20000 in
theorem gX9_labelled_X9_number : GoodIn wsX9_labelled (wsV RX9 94 RX9 yX9_number wsX9_number) := goodIn_app (goodIn_of _ (by decide +kernel)) ggX9_labelled_X9_number
theorem dX9_labelled_0 : decode cX9_labelled 0 = .ok (.aload_n 0, 1) := by decide +kernel
theorem dX9_labelled_1 : decode cX9_labelled 1 = .ok (.iload_n 1, 1) := by decide +kernel
theorem dX9_labelled_2 : decode cX9_labelled 2 = .ok (.invokevirtual 87, 3) := by decide +kernel
theorem dX9_labelled_5 : decode cX9_labelled 5 = .ok (.ifCond .ne 5, 3) := by decide +kernel
theorem dX9_labelled_8 : decode cX9_labelled 8 = .ok (.iconst (-1), 1) := by decide +kernel
theorem dX9_labelled_9 : decode cX9_labelled 9 = .ok (.ireturn, 1) := by decide +kernel
theorem dX9_labelled_10 : decode cX9_labelled 10 = .ok (.aload_n 0, 1) := by decide +kernel
theorem dX9_labelled_11 : decode cX9_labelled 11 = .ok (.dup, 1) := by decide +kernel
theorem dX9_labelled_12 : decode cX9_labelled 12 = .ok (.getfield 19, 3) := by decide +kernel
theorem dX9_labelled_15 : decode cX9_labelled 15 = .ok (.iconst 1, 1) := by decide +kernel
theorem dX9_labelled_16 : decode cX9_labelled 16 = .ok (.iadd, 1) := by decide +kernel
theorem dX9_labelled_17 : decode cX9_labelled 17 = .ok (.putfield 19, 3) := by decide +kernel
theorem dX9_labelled_20 : decode cX9_labelled 20 = .ok (.aload_n 0, 1) := by decide +kernel
theorem dX9_labelled_21 : decode cX9_labelled 21 = .ok (.iload_n 2, 1) := by decide +kernel
theorem dX9_labelled_22 : decode cX9_labelled 22 = .ok (.iload_n 3, 1) := by decide +kernel
theorem dX9_labelled_23 : decode cX9_labelled 23 = .ok (.iload 4, 2) := by decide +kernel
theorem dX9_labelled_25 : decode cX9_labelled 25 = .ok (.invokevirtual 94, 3) := by decide +kernel
theorem dX9_labelled_28 : decode cX9_labelled 28 = .ok (.ireturn, 1) := by decide +kernel
set_option maxRecDepth 20000 in
theorem ggX9_number_X9_digitHere : GoodIn wsX9_number wsX9_digitHere := goodIn_r _ [6, 1, 7, 8, 9, 10, 11, 12, 13, 14, 15, 16, 17, 18, 19, 20] (by decide +kernel) (by decide +kernel)
set_option maxRecDepth 20000 in
theorem gX9_number_X9_digitHere : GoodIn wsX9_number (wsV RX9 98 RX9 yX9_digitHere wsX9_digitHere) := goodIn_app (goodIn_of _ (by decide +kernel)) ggX9_number_X9_digitHere
theorem dX9_number_0 : decode cX9_number 0 = .ok (.iconst 1, 1) := by decide +kernel
theorem dX9_number_1 : decode cX9_number 1 = .ok (.istore 4, 2) := by decide +kernel
theorem dX9_number_3 : decode cX9_number 3 = .ok (.iconst 1, 1) := by decide +kernel
theorem dX9_number_4 : decode cX9_number 4 = .ok (.istore 5, 2) := by decide +kernel
theorem dX9_number_6 : decode cX9_number 6 = .ok (.iload 5, 2) := by decide +kernel
theorem dX9_number_8 : decode cX9_number 8 = .ok (.iload_n 1, 1) := by decide +kernel
theorem dX9_number_9 : decode cX9_number 9 = .ok (.if_icmp .ge 16, 3) := by decide +kernel
theorem dX9_number_12 : decode cX9_number 12 = .ok (.iload 4, 2) := by decide +kernel
theorem dX9_number_14 : decode cX9_number 14 = .ok (.bipush 10, 2) := by decide +kernel
theorem dX9_number_16 : decode cX9_number 16 = .ok (.imul, 1) := by decide +kernel
theorem dX9_number_17 : decode cX9_number 17 = .ok (.istore 4, 2) := by decide +kernel
theorem dX9_number_19 : decode cX9_number 19 = .ok (.iinc 5 1, 3) := by decide +kernel
theorem dX9_number_22 : decode cX9_number 22 = .ok (.goto (-16), 3) := by decide +kernel
theorem dX9_number_25 : decode cX9_number 25 = .ok (.iconst 0, 1) := by decide +kernel
theorem dX9_number_26 : decode cX9_number 26 = .ok (.istore 5, 2) := by decide +kernel
theorem dX9_number_28 : decode cX9_number 28 = .ok (.iconst 0, 1) := by decide +kernel
theorem dX9_number_29 : decode cX9_number 29 = .ok (.istore 6, 2) := by decide +kernel
theorem dX9_number_31 : decode cX9_number 31 = .ok (.iload 6, 2) := by decide +kernel
theorem dX9_number_33 : decode cX9_number 33 = .ok (.iload_n 1, 1) := by decide +kernel
theorem dX9_number_34 : decode cX9_number 34 = .ok (.if_icmp .ge 71, 3) := by decide +kernel
theorem dX9_number_37 : decode cX9_number 37 = .ok (.aload_n 0, 1) := by decide +kernel
theorem dX9_number_38 : decode cX9_number 38 = .ok (.invokevirtual 98, 3) := by decide +kernel
theorem dX9_number_41 : decode cX9_number 41 = .ok (.istore 7, 2) := by decide +kernel
theorem dX9_number_43 : decode cX9_number 43 = .ok (.iload 5, 2) := by decide +kernel
theorem dX9_number_45 : decode cX9_number 45 = .ok (.iload 7, 2) := by decide +kernel
theorem dX9_number_47 : decode cX9_number 47 = .ok (.iload 4, 2) := by decide +kernel
theorem dX9_number_49 : decode cX9_number 49 = .ok (.imul, 1) := by decide +kernel
theorem dX9_number_50 : decode cX9_number 50 = .ok (.iadd, 1) := by decide +kernel
theorem dX9_number_51 : decode cX9_number 51 = .ok (.istore 8, 2) := by decide +kernel
theorem dX9_number_53 : decode cX9_number 53 = .ok (.iload 7, 2) := by decide +kernel
theorem dX9_number_55 : decode cX9_number 55 = .ok (.iconst (-1), 1) := by decide +kernel
theorem dX9_number_56 : decode cX9_number 56 = .ok (.if_icmp .eq 20, 3) := by decide +kernel
theorem dX9_number_59 : decode cX9_number 59 = .ok (.iload 8, 2) := by decide +kernel
theorem dX9_number_61 : decode cX9_number 61 = .ok (.iload_n 3, 1) := by decide +kernel
theorem dX9_number_62 : decode cX9_number 62 = .ok (.if_icmp .gt 14, 3) := by decide +kernel
theorem dX9_number_65 : decode cX9_number 65 = .ok (.iload 8, 2) := by decide +kernel
theorem dX9_number_67 : decode cX9_number 67 = .ok (.iload 4, 2) := by decide +kernel
theorem dX9_number_69 : decode cX9_number 69 = .ok (.iadd, 1) := by decide +kernel
theorem dX9_number_70 : decode cX9_number 70 = .ok (.iconst 1, 1) := by decide +kernel
theorem dX9_number_71 : decode cX9_number 71 = .ok (.isub, 1) := by decide +kernel
theorem dX9_number_72 : decode cX9_number 72 = .ok (.iload_n 2, 1) := by decide +kernel
theorem dX9_number_73 : decode cX9_number 73 = .ok (.if_icmp .ge 5, 3) := by decide +kernel
theorem dX9_number_76 : decode cX9_number 76 = .ok (.iconst (-1), 1) := by decide +kernel
theorem dX9_number_77 : decode cX9_number 77 = .ok (.ireturn, 1) := by decide +kernel
theorem dX9_number_78 : decode cX9_number 78 = .ok (.iload 8, 2) := by decide +kernel
theorem dX9_number_80 : decode cX9_number 80 = .ok (.istore 5, 2) := by decide +kernel
theorem dX9_number_82 : decode cX9_number 82 = .ok (.iload 4, 2) := by decide +kernel
theorem dX9_number_84 : decode cX9_number 84 = .ok (.bipush 10, 2) := by decide +kernel
theorem dX9_number_86 : decode cX9_number 86 = .ok (.idiv, 1) := by decide +kernel
theorem dX9_number_87 : decode cX9_number 87 = .ok (.istore 4, 2) := by decide +kernel
theorem dX9_number_89 : decode cX9_number 89 = .ok (.aload_n 0, 1) := by decide +kernel
theorem dX9_number_90 : decode cX9_number 90 = .ok (.dup, 1) := by decide +kernel
theorem dX9_number_91 : decode cX9_number 91 = .ok (.getfield 19, 3) := by decide +kernel
theorem dX9_number_94 : decode cX9_number 94 = .ok (.iconst 1, 1) := by decide +kernel
theorem dX9_number_95 : decode cX9_number 95 = .ok (.iadd, 1) := by decide +kernel
theorem dX9_number_96 : decode cX9_number 96 = .ok (.putfield 19, 3) := by decide +kernel
theorem dX9_number_99 : decode cX9_number 99 = .ok (.iinc 6 1, 3) := by decide +kernel
theorem dX9_number_102 : decode cX9_number 102 = .ok (.goto (-71), 3) := by decide +kernel
theorem dX9_number_105 : decode cX9_number 105 = .ok (.iload 5, 2) := by decide +kernel
theorem dX9_number_107 : decode cX9_number 107 = .ok (.ireturn, 1) := by decide +kernel
theorem dX9_isHere_0 : decode cX9_isHere 0 = .ok (.aload_n 0, 1) := by decide +kernel
theorem dX9_isHere_1 : decode cX9_isHere 1 = .ok (.getfield 19, 3) := by decide +kernel
theorem dX9_isHere_4 : decode cX9_isHere 4 = .ok (.ifCond .lt 43, 3) := by decide +kernel
theorem dX9_isHere_7 : decode cX9_isHere 7 = .ok (.aload_n 0, 1) := by decide +kernel
theorem dX9_isHere_8 : decode cX9_isHere 8 = .ok (.getfield 19, 3) := by decide +kernel
theorem dX9_isHere_11 : decode cX9_isHere 11 = .ok (.aload_n 0, 1) := by decide +kernel
theorem dX9_isHere_12 : decode cX9_isHere 12 = .ok (.getfield 15, 3) := by decide +kernel
theorem dX9_isHere_15 : decode cX9_isHere 15 = .ok (.if_icmp .ge 32, 3) := by decide +kernel
theorem dX9_isHere_18 : decode cX9_isHere 18 = .ok (.aload_n 0, 1) := by decide +kernel
theorem dX9_isHere_19 : decode cX9_isHere 19 = .ok (.getfield 19, 3) := by decide +kernel
theorem dX9_isHere_22 : decode cX9_isHere 22 = .ok (.aload_n 0, 1) := by decide +kernel
theorem dX9_isHere_23 : decode cX9_isHere 23 = .ok (.getfield 11, 3) := by decide +kernel
theorem dX9_isHere_26 : decode cX9_isHere 26 = .ok (.arraylength, 1) := by decide +kernel
theorem dX9_isHere_27 : decode cX9_isHere 27 = .ok (.if_icmp .ge 20, 3) := by decide +kernel
theorem dX9_isHere_30 : decode cX9_isHere 30 = .ok (.aload_n 0, 1) := by decide +kernel
theorem dX9_isHere_31 : decode cX9_isHere 31 = .ok (.getfield 11, 3) := by decide +kernel
theorem dX9_isHere_34 : decode cX9_isHere 34 = .ok (.aload_n 0, 1) := by decide +kernel
theorem dX9_isHere_35 : decode cX9_isHere 35 = .ok (.getfield 19, 3) := by decide +kernel
theorem dX9_isHere_38 : decode cX9_isHere 38 = .ok (.caload, 1) := by decide +kernel
theorem dX9_isHere_39 : decode cX9_isHere 39 = .ok (.iload_n 1, 1) := by decide +kernel
theorem dX9_isHere_40 : decode cX9_isHere 40 = .ok (.if_icmp .ne 7, 3) := by decide +kernel
theorem dX9_isHere_43 : decode cX9_isHere 43 = .ok (.iconst 1, 1) := by decide +kernel
theorem dX9_isHere_44 : decode cX9_isHere 44 = .ok (.goto 4, 3) := by decide +kernel
theorem dX9_isHere_47 : decode cX9_isHere 47 = .ok (.iconst 0, 1) := by decide +kernel
theorem dX9_isHere_48 : decode cX9_isHere 48 = .ok (.ireturn, 1) := by decide +kernel
theorem dX9_digitHere_0 : decode cX9_digitHere 0 = .ok (.aload_n 0, 1) := by decide +kernel
theorem dX9_digitHere_1 : decode cX9_digitHere 1 = .ok (.getfield 19, 3) := by decide +kernel
theorem dX9_digitHere_4 : decode cX9_digitHere 4 = .ok (.ifCond .lt 26, 3) := by decide +kernel
theorem dX9_digitHere_7 : decode cX9_digitHere 7 = .ok (.aload_n 0, 1) := by decide +kernel
theorem dX9_digitHere_8 : decode cX9_digitHere 8 = .ok (.getfield 19, 3) := by decide +kernel
theorem dX9_digitHere_11 : decode cX9_digitHere 11 = .ok (.aload_n 0, 1) := by decide +kernel
theorem dX9_digitHere_12 : decode cX9_digitHere 12 = .ok (.getfield 15, 3) := by decide +kernel
theorem dX9_digitHere_15 : decode cX9_digitHere 15 = .ok (.if_icmp .ge 15, 3) := by decide +kernel
theorem dX9_digitHere_18 : decode cX9_digitHere 18 = .ok (.aload_n 0, 1) := by decide +kernel
theorem dX9_digitHere_19 : decode cX9_digitHere 19 = .ok (.getfield 19, 3) := by decide +kernel
theorem dX9_digitHere_22 : decode cX9_digitHere 22 = .ok (.aload_n 0, 1) := by decide +kernel
theorem dX9_digitHere_23 : decode cX9_digitHere 23 = .ok (.getfield 11, 3) := by decide +kernel
theorem dX9_digitHere_26 : decode cX9_digitHere 26 = .ok (.arraylength, 1) := by decide +kernel
theorem dX9_digitHere_27 : decode cX9_digitHere 27 = .ok (.if_icmp .lt 5, 3) := by decide +kernel
theorem dX9_digitHere_30 : decode cX9_digitHere 30 = .ok (.iconst (-1), 1) := by decide +kernel
theorem dX9_digitHere_31 : decode cX9_digitHere 31 = .ok (.ireturn, 1) := by decide +kernel
theorem dX9_digitHere_32 : decode cX9_digitHere 32 = .ok (.aload_n 0, 1) := by decide +kernel
theorem dX9_digitHere_33 : decode cX9_digitHere 33 = .ok (.getfield 11, 3) := by decide +kernel
theorem dX9_digitHere_36 : decode cX9_digitHere 36 = .ok (.aload_n 0, 1) := by decide +kernel
theorem dX9_digitHere_37 : decode cX9_digitHere 37 = .ok (.getfield 19, 3) := by decide +kernel
theorem dX9_digitHere_40 : decode cX9_digitHere 40 = .ok (.caload, 1) := by decide +kernel
theorem dX9_digitHere_41 : decode cX9_digitHere 41 = .ok (.istore_n 1, 1) := by decide +kernel
theorem dX9_digitHere_42 : decode cX9_digitHere 42 = .ok (.iload_n 1, 1) := by decide +kernel
theorem dX9_digitHere_43 : decode cX9_digitHere 43 = .ok (.bipush 48, 2) := by decide +kernel
theorem dX9_digitHere_45 : decode cX9_digitHere 45 = .ok (.if_icmp .lt 16, 3) := by decide +kernel
theorem dX9_digitHere_48 : decode cX9_digitHere 48 = .ok (.iload_n 1, 1) := by decide +kernel
theorem dX9_digitHere_49 : decode cX9_digitHere 49 = .ok (.bipush 57, 2) := by decide +kernel
theorem dX9_digitHere_51 : decode cX9_digitHere 51 = .ok (.if_icmp .gt 10, 3) := by decide +kernel
theorem dX9_digitHere_54 : decode cX9_digitHere 54 = .ok (.iload_n 1, 1) := by decide +kernel
theorem dX9_digitHere_55 : decode cX9_digitHere 55 = .ok (.bipush 48, 2) := by decide +kernel
theorem dX9_digitHere_57 : decode cX9_digitHere 57 = .ok (.isub, 1) := by decide +kernel
theorem dX9_digitHere_58 : decode cX9_digitHere 58 = .ok (.goto 4, 3) := by decide +kernel
theorem dX9_digitHere_61 : decode cX9_digitHere 61 = .ok (.iconst (-1), 1) := by decide +kernel
theorem dX9_digitHere_62 : decode cX9_digitHere 62 = .ok (.ireturn, 1) := by decide +kernel
theorem dX10_init_0 : decode cX10_init 0 = .ok (.aload_n 0, 1) := by decide +kernel
theorem dX10_init_1 : decode cX10_init 1 = .ok (.invokespecial 1, 3) := by decide +kernel
theorem dX10_init_4 : decode cX10_init 4 = .ok (.aload_n 0, 1) := by decide +kernel
theorem dX10_init_5 : decode cX10_init 5 = .ok (.bipush 32, 2) := by decide +kernel
theorem dX10_init_7 : decode cX10_init 7 = .ok (.newarray .int, 2) := by decide +kernel
theorem dX10_init_9 : decode cX10_init 9 = .ok (.putfield 9, 3) := by decide +kernel
theorem dX10_init_12 : decode cX10_init 12 = .ok (.return_, 1) := by decide +kernel
theorem dX10_become_0 : decode cX10_become 0 = .ok (.aload_n 0, 1) := by decide +kernel
theorem dX10_become_1 : decode cX10_become 1 = .ok (.aload_n 1, 1) := by decide +kernel
theorem dX10_become_2 : decode cX10_become 2 = .ok (.getfield 13, 3) := by decide +kernel
theorem dX10_become_5 : decode cX10_become 5 = .ok (.putfield 13, 3) := by decide +kernel
theorem dX10_become_8 : decode cX10_become 8 = .ok (.aload_n 1, 1) := by decide +kernel
theorem dX10_become_9 : decode cX10_become 9 = .ok (.getfield 9, 3) := by decide +kernel
theorem dX10_become_12 : decode cX10_become 12 = .ok (.iconst 0, 1) := by decide +kernel
theorem dX10_become_13 : decode cX10_become 13 = .ok (.aload_n 0, 1) := by decide +kernel
theorem dX10_become_14 : decode cX10_become 14 = .ok (.getfield 9, 3) := by decide +kernel
theorem dX10_become_17 : decode cX10_become 17 = .ok (.iconst 0, 1) := by decide +kernel
theorem dX10_become_18 : decode cX10_become 18 = .ok (.bipush 32, 2) := by decide +kernel
theorem dX10_become_20 : decode cX10_become 20 = .ok (.invokestatic 17, 3) := by decide +kernel
theorem dX10_become_23 : decode cX10_become 23 = .ok (.return_, 1) := by decide +kernel
theorem dX10_open_0 : decode cX10_open 0 = .ok (.aload_n 0, 1) := by decide +kernel
theorem dX10_open_1 : decode cX10_open 1 = .ok (.getfield 13, 3) := by decide +kernel
theorem dX10_open_4 : decode cX10_open 4 = .ok (.ifCond .lt 75, 3) := by decide +kernel
theorem dX10_open_7 : decode cX10_open 7 = .ok (.aload_n 0, 1) := by decide +kernel
theorem dX10_open_8 : decode cX10_open 8 = .ok (.getfield 13, 3) := by decide +kernel
theorem dX10_open_11 : decode cX10_open 11 = .ok (.bipush 8, 2) := by decide +kernel
theorem dX10_open_13 : decode cX10_open 13 = .ok (.if_icmp .ge 66, 3) := by decide +kernel
theorem dX10_open_16 : decode cX10_open 16 = .ok (.aload_n 0, 1) := by decide +kernel
theorem dX10_open_17 : decode cX10_open 17 = .ok (.getfield 13, 3) := by decide +kernel
theorem dX10_open_20 : decode cX10_open 20 = .ok (.iconst 4, 1) := by decide +kernel
theorem dX10_open_21 : decode cX10_open 21 = .ok (.imul, 1) := by decide +kernel
theorem dX10_open_22 : decode cX10_open 22 = .ok (.istore_n 2, 1) := by decide +kernel
theorem dX10_open_23 : decode cX10_open 23 = .ok (.aload_n 0, 1) := by decide +kernel
theorem dX10_open_24 : decode cX10_open 24 = .ok (.getfield 9, 3) := by decide +kernel
theorem dX10_open_27 : decode cX10_open 27 = .ok (.iload_n 2, 1) := by decide +kernel
theorem dX10_open_28 : decode cX10_open 28 = .ok (.aload_n 1, 1) := by decide +kernel
theorem dX10_open_29 : decode cX10_open 29 = .ok (.getfield 23, 3) := by decide +kernel
theorem dX10_open_32 : decode cX10_open 32 = .ok (.iastore, 1) := by decide +kernel
theorem dX10_open_33 : decode cX10_open 33 = .ok (.aload_n 0, 1) := by decide +kernel
theorem dX10_open_34 : decode cX10_open 34 = .ok (.getfield 9, 3) := by decide +kernel
theorem dX10_open_37 : decode cX10_open 37 = .ok (.iload_n 2, 1) := by decide +kernel
theorem dX10_open_38 : decode cX10_open 38 = .ok (.iconst 1, 1) := by decide +kernel
theorem dX10_open_39 : decode cX10_open 39 = .ok (.iadd, 1) := by decide +kernel
theorem dX10_open_40 : decode cX10_open 40 = .ok (.aload_n 1, 1) := by decide +kernel
theorem dX10_open_41 : decode cX10_open 41 = .ok (.getfield 28, 3) := by decide +kernel
theorem dX10_open_44 : decode cX10_open 44 = .ok (.iastore, 1) := by decide +kernel
theorem dX10_open_45 : decode cX10_open 45 = .ok (.aload_n 0, 1) := by decide +kernel
theorem dX10_open_46 : decode cX10_open 46 = .ok (.getfield 9, 3) := by decide +kernel
theorem dX10_open_49 : decode cX10_open 49 = .ok (.iload_n 2, 1) := by decide +kernel
theorem dX10_open_50 : decode cX10_open 50 = .ok (.iconst 2, 1) := by decide +kernel
theorem dX10_open_51 : decode cX10_open 51 = .ok (.iadd, 1) := by decide +kernel
theorem dX10_open_52 : decode cX10_open 52 = .ok (.aload_n 1, 1) := by decide +kernel
theorem dX10_open_53 : decode cX10_open 53 = .ok (.getfield 31, 3) := by decide +kernel
theorem dX10_open_56 : decode cX10_open 56 = .ok (.iastore, 1) := by decide +kernel
theorem dX10_open_57 : decode cX10_open 57 = .ok (.aload_n 0, 1) := by decide +kernel
theorem dX10_open_58 : decode cX10_open 58 = .ok (.getfield 9, 3) := by decide +kernel
theorem dX10_open_61 : decode cX10_open 61 = .ok (.iload_n 2, 1) := by decide +kernel
theorem dX10_open_62 : decode cX10_open 62 = .ok (.iconst 3, 1) := by decide +kernel
theorem dX10_open_63 : decode cX10_open 63 = .ok (.iadd, 1) := by decide +kernel
theorem dX10_open_64 : decode cX10_open 64 = .ok (.aload_n 1, 1) := by decide +kernel
theorem dX10_open_65 : decode cX10_open 65 = .ok (.getfield 34, 3) := by decide +kernel
theorem dX10_open_68 : decode cX10_open 68 = .ok (.iastore, 1) := by decide +kernel
theorem dX10_open_69 : decode cX10_open 69 = .ok (.aload_n 0, 1) := by decide +kernel
theorem dX10_open_70 : decode cX10_open 70 = .ok (.dup, 1) := by decide +kernel
theorem dX10_open_71 : decode cX10_open 71 = .ok (.getfield 13, 3) := by decide +kernel
theorem dX10_open_74 : decode cX10_open 74 = .ok (.iconst 1, 1) := by decide +kernel
theorem dX10_open_75 : decode cX10_open 75 = .ok (.iadd, 1) := by decide +kernel
theorem dX10_open_76 : decode cX10_open 76 = .ok (.putfield 13, 3) := by decide +kernel
theorem dX10_open_79 : decode cX10_open 79 = .ok (.return_, 1) := by decide +kernel
theorem dX10_close_0 : decode cX10_close 0 = .ok (.aload_n 0, 1) := by decide +kernel
theorem dX10_close_1 : decode cX10_close 1 = .ok (.getfield 13, 3) := by decide +kernel
theorem dX10_close_4 : decode cX10_close 4 = .ok (.iconst 1, 1) := by decide +kernel
theorem dX10_close_5 : decode cX10_close 5 = .ok (.if_icmp .lt 12, 3) := by decide +kernel
theorem dX10_close_8 : decode cX10_close 8 = .ok (.aload_n 0, 1) := by decide +kernel
theorem dX10_close_9 : decode cX10_close 9 = .ok (.getfield 13, 3) := by decide +kernel
theorem dX10_close_12 : decode cX10_close 12 = .ok (.bipush 8, 2) := by decide +kernel
theorem dX10_close_14 : decode cX10_close 14 = .ok (.if_icmp .le 8, 3) := by decide +kernel
theorem dX10_close_17 : decode cX10_close 17 = .ok (.aload_n 1, 1) := by decide +kernel
theorem dX10_close_18 : decode cX10_close 18 = .ok (.getfield 34, 3) := by decide +kernel
theorem dX10_close_21 : decode cX10_close 21 = .ok (.ireturn, 1) := by decide +kernel
theorem dX10_close_22 : decode cX10_close 22 = .ok (.aload_n 0, 1) := by decide +kernel
theorem dX10_close_23 : decode cX10_close 23 = .ok (.dup, 1) := by decide +kernel
theorem dX10_close_24 : decode cX10_close 24 = .ok (.getfield 13, 3) := by decide +kernel
theorem dX10_close_27 : decode cX10_close 27 = .ok (.iconst 1, 1) := by decide +kernel
theorem dX10_close_28 : decode cX10_close 28 = .ok (.isub, 1) := by decide +kernel
theorem dX10_close_29 : decode cX10_close 29 = .ok (.putfield 13, 3) := by decide +kernel
theorem dX10_close_32 : decode cX10_close 32 = .ok (.aload_n 0, 1) := by decide +kernel
theorem dX10_close_33 : decode cX10_close 33 = .ok (.getfield 13, 3) := by decide +kernel
theorem dX10_close_36 : decode cX10_close 36 = .ok (.iconst 4, 1) := by decide +kernel
theorem dX10_close_37 : decode cX10_close 37 = .ok (.imul, 1) := by decide +kernel
theorem dX10_close_38 : decode cX10_close 38 = .ok (.istore_n 2, 1) := by decide +kernel
theorem dX10_close_39 : decode cX10_close 39 = .ok (.aload_n 1, 1) := by decide +kernel
theorem dX10_close_40 : decode cX10_close 40 = .ok (.aload_n 0, 1) := by decide +kernel
theorem dX10_close_41 : decode cX10_close 41 = .ok (.getfield 9, 3) := by decide +kernel
theorem dX10_close_44 : decode cX10_close 44 = .ok (.iload_n 2, 1) := by decide +kernel
theorem dX10_close_45 : decode cX10_close 45 = .ok (.iaload, 1) := by decide +kernel
theorem dX10_close_46 : decode cX10_close 46 = .ok (.putfield 23, 3) := by decide +kernel
theorem dX10_close_49 : decode cX10_close 49 = .ok (.aload_n 1, 1) := by decide +kernel
theorem dX10_close_50 : decode cX10_close 50 = .ok (.aload_n 0, 1) := by decide +kernel
theorem dX10_close_51 : decode cX10_close 51 = .ok (.getfield 9, 3) := by decide +kernel
theorem dX10_close_54 : decode cX10_close 54 = .ok (.iload_n 2, 1) := by decide +kernel
theorem dX10_close_55 : decode cX10_close 55 = .ok (.iconst 1, 1) := by decide +kernel
theorem dX10_close_56 : decode cX10_close 56 = .ok (.iadd, 1) := by decide +kernel
theorem dX10_close_57 : decode cX10_close 57 = .ok (.iaload, 1) := by decide +kernel
theorem dX10_close_58 : decode cX10_close 58 = .ok (.putfield 28, 3) := by decide +kernel
theorem dX10_close_61 : decode cX10_close 61 = .ok (.aload_n 1, 1) := by decide +kernel
theorem dX10_close_62 : decode cX10_close 62 = .ok (.aload_n 0, 1) := by decide +kernel
theorem dX10_close_63 : decode cX10_close 63 = .ok (.getfield 9, 3) := by decide +kernel
theorem dX10_close_66 : decode cX10_close 66 = .ok (.iload_n 2, 1) := by decide +kernel
theorem dX10_close_67 : decode cX10_close 67 = .ok (.iconst 2, 1) := by decide +kernel
theorem dX10_close_68 : decode cX10_close 68 = .ok (.iadd, 1) := by decide +kernel
theorem dX10_close_69 : decode cX10_close 69 = .ok (.iaload, 1) := by decide +kernel
theorem dX10_close_70 : decode cX10_close 70 = .ok (.putfield 31, 3) := by decide +kernel
theorem dX10_close_73 : decode cX10_close 73 = .ok (.aload_n 0, 1) := by decide +kernel
theorem dX10_close_74 : decode cX10_close 74 = .ok (.getfield 9, 3) := by decide +kernel
theorem dX10_close_77 : decode cX10_close 77 = .ok (.iload_n 2, 1) := by decide +kernel
theorem dX10_close_78 : decode cX10_close 78 = .ok (.iconst 3, 1) := by decide +kernel
theorem dX10_close_79 : decode cX10_close 79 = .ok (.iadd, 1) := by decide +kernel
theorem dX10_close_80 : decode cX10_close 80 = .ok (.iaload, 1) := by decide +kernel
theorem dX10_close_81 : decode cX10_close 81 = .ok (.ireturn, 1) := by decide +kernel
set_option maxRecDepth 20000 in
theorem ggX11_init_X9_init : GoodIn wsX11_init wsX9_init := goodIn_r _ [23, 24, 2, 3, 25, 26, 98, 99, 100, 101, 102, 103, 104, 105, 106, 107, 108, 109] (by decide +kernel) (by decide +kernel)
set_option maxRecDepth 20000 in
theorem gX11_init_X9_init_n9 : GoodIn wsX11_init (wsX9_init) := ggX11_init_X9_init
set_option maxRecDepth 20000 in
theorem ggX11_init_X7_init : GoodIn wsX11_init wsX7_init := goodIn_r _ [28, 29, 2, 3, 30, 31, 32, 33, 34, 35, 36, 37, 38, 39, 40, 41, 42, 43, 44, 45, 46, 47, 48, 49, 50, 51, 52, 53, 54, 55, 56, 57, 58, 59, 60, 61, 62, 63, 64, 65, 66, 67, 68, 69, 70, 71, 72, 73, 74, 75, 76, 77, 78, 79, 80, 81, 82, 83, 126, 127, 128, 129, 130, 131, 132, 133, 116, 117, 118, 119, 120, 121, 134, 135, 136, 137, 138, 139, 140, 141, 142, 143, 144, 145, 146, 147, 148, 149, 150, 151, 152, 153, 154, 155, 156, 157, 158, 159, 160, 161, 162] (by decide +kernel) (by decide +kernel)
set_option maxRecDepth 20000 in
theorem gX11_init_X7_init_n18 : GoodIn wsX11_init (wsX7_init) := ggX11_init_X7_init
set_option maxRecDepth 20000 in
theorem ggX11_init_X2_init : GoodIn wsX11_init wsX2_init := goodIn_r _ [86, 87, 2, 3, 88, 89, 9, 10, 27, 28, 29, 30, 31, 32, 33, 34, 35, 36, 37, 38, 39, 40, 41, 42, 43, 44, 45, 46, 47, 48, 49, 50, 51, 52, 53, 54, 55, 56, 57, 58, 59, 60, 61, 62, 63, 64, 65, 66, 67, 68, 69, 70, 71, 72, 73, 74, 75, 76, 77, 78, 79, 80, 81, 82, 83, 122, 123, 116, 117, 118, 119, 120, 121, 126, 127, 128, 129, 130, 131, 132, 133, 134, 135, 136, 137, 138, 139, 140, 141, 142, 143, 144, 145, 146, 147, 148, 149, 150, 151, 152, 153, 154, 155, 156, 157, 158, 159, 160, 161, 162] (by decide +kernel) (by decide +kernel)
set_option maxRecDepth 20000 in
theorem gX11_init_X2_init : GoodIn wsX11_init (wsX2_init) := ggX11_init_X2_init
set_option maxRecDepth 20000 in
theorem ggX11_init_X6_init : GoodIn wsX11_init wsX6_init := goodIn_r _ [92, 93, 2, 3, 94, 95, 96, 97, 9, 10, 27, 28, 29, 30, 31, 32, 33, 34, 35, 36, 37, 38, 39, 40, 41, 42, 43, 44, 45, 46, 47, 48, 49, 50, 51, 52, 53, 54, 55, 56, 57, 58, 59, 60, 61, 62, 63, 64, 65, 66, 67, 68, 69, 70, 71, 72, 73, 74, 75, 76, 77, 78, 79, 80, 81, 82, 83, 124, 125, 116, 117, 118, 119, 120, 121, 126, 127, 128, 129, 130, 131, 132, 133, 134, 135, 136, 137, 138, 139, 140, 141, 142, 143, 144, 145, 146, 147, 148, 149, 150, 151, 152, 153, 154, 155, 156, 157, 158, 159, 160, 161, 162] (by decide +kernel) (by decide +kernel)
set_option maxRecDepth 20000 in
theorem gX11_init_X6_init : GoodIn wsX11_init (wsX6_init) := ggX11_init_X6_init
theorem dX11_init_0 : decode cX11_init 0 = .ok (.aload_n 0, 1) := by decide +kernel
theorem dX11_init_1 : decode cX11_init 1 = .ok (.invokespecial 1, 3) := by decide +kernel
theorem dX11_init_4 : decode cX11_init 4 = .ok (.aload_n 0, 1) := by decide +kernel
theorem dX11_init_5 : decode cX11_init 5 = .ok (.new 7, 3) := by decide +kernel
theorem dX11_init_8 : decode cX11_init 8 = .ok (.dup, 1) := by decide +kernel
theorem dX11_init_9 : decode cX11_init 9 = .ok (.invokespecial 9, 3) := by decide +kernel
theorem dX11_init_12 : decode cX11_init 12 = .ok (.putfield 10, 3) := by decide +kernel
theorem dX11_init_15 : decode cX11_init 15 = .ok (.aload_n 0, 1) := by decide +kernel
theorem dX11_init_16 : decode cX11_init 16 = .ok (.new 16, 3) := by decide +kernel
theorem dX11_init_19 : decode cX11_init 19 = .ok (.dup, 1) := by decide +kernel
theorem dX11_init_20 : decode cX11_init 20 = .ok (.invokespecial 18, 3) := by decide +kernel
theorem dX11_init_23 : decode cX11_init 23 = .ok (.putfield 19, 3) := by decide +kernel
theorem dX11_init_26 : decode cX11_init 26 = .ok (.aload_n 0, 1) := by decide +kernel
theorem dX11_init_27 : decode cX11_init 27 = .ok (.new 16, 3) := by decide +kernel
theorem dX11_init_30 : decode cX11_init 30 = .ok (.dup, 1) := by decide +kernel
theorem dX11_init_31 : decode cX11_init 31 = .ok (.invokespecial 18, 3) := by decide +kernel
theorem dX11_init_34 : decode cX11_init 34 = .ok (.putfield 23, 3) := by decide +kernel
theorem dX11_init_37 : decode cX11_init 37 = .ok (.aload_n 0, 1) := by decide +kernel
theorem dX11_init_38 : decode cX11_init 38 = .ok (.new 16, 3) := by decide +kernel
theorem dX11_init_41 : decode cX11_init 41 = .ok (.dup, 1) := by decide +kernel
theorem dX11_init_42 : decode cX11_init 42 = .ok (.invokespecial 18, 3) := by decide +kernel
theorem dX11_init_45 : decode cX11_init 45 = .ok (.putfield 26, 3) := by decide +kernel
theorem dX11_init_48 : decode cX11_init 48 = .ok (.aload_n 0, 1) := by decide +kernel
theorem dX11_init_49 : decode cX11_init 49 = .ok (.new 29, 3) := by decide +kernel
theorem dX11_init_52 : decode cX11_init 52 = .ok (.dup, 1) := by decide +kernel
theorem dX11_init_53 : decode cX11_init 53 = .ok (.invokespecial 31, 3) := by decide +kernel
theorem dX11_init_56 : decode cX11_init 56 = .ok (.putfield 32, 3) := by decide +kernel
theorem dX11_init_59 : decode cX11_init 59 = .ok (.aload_n 0, 1) := by decide +kernel
theorem dX11_init_60 : decode cX11_init 60 = .ok (.new 36, 3) := by decide +kernel
theorem dX11_init_63 : decode cX11_init 63 = .ok (.dup, 1) := by decide +kernel
theorem dX11_init_64 : decode cX11_init 64 = .ok (.invokespecial 38, 3) := by decide +kernel
theorem dX11_init_67 : decode cX11_init 67 = .ok (.putfield 39, 3) := by decide +kernel
theorem dX11_init_70 : decode cX11_init 70 = .ok (.return_, 1) := by decide +kernel
set_option maxRecDepth 20000 in
theorem ggX11_append_X9_isFull : GoodIn wsX11_append wsX9_isFull := goodIn_r _ [10, 11, 23, 24, 25, 26, 27, 28, 29, 30, 31, 32, 33, 34] (by decide +kernel) (by decide +kernel)
set_option maxRecDepth 20000 in
theorem gX11_append_X9_isFull : GoodIn wsX11_append (wsV RX11 50 RX9 yX9_isFull wsX9_isFull) := goodIn_app (goodIn_of _ (by decide +kernel)) ggX11_append_X9_isFull
set_option maxRecDepth 20000 in
theorem ggX11_append_X9_add : GoodIn wsX11_append wsX9_add := goodIn_r _ [15, 11, 16, 23, 24, 25, 26, 27, 28, 29, 30, 31, 32, 33, 34] (by decide +kernel) (by decide +kernel)
set_option maxRecDepth 20000 in
theorem gX11_append_X9_add : GoodIn wsX11_append (wsV RX11 59 RX9 yX9_add wsX9_add) := goodIn_app (goodIn_of _ (by decide +kernel)) ggX11_append_X9_add
theorem dX11_append_0 : decode cX11_append 0 = .ok (.iload_n 1, 1) := by decide +kernel
theorem dX11_append_1 : decode cX11_append 1 = .ok (.ifCond .lt 10, 3) := by decide +kernel
theorem dX11_append_4 : decode cX11_append 4 = .ok (.iload_n 1, 1) := by decide +kernel
theorem dX11_append_5 : decode cX11_append 5 = .ok (.sipush 255, 3) := by decide +kernel
theorem dX11_append_8 : decode cX11_append 8 = .ok (.if_icmp .le 13, 3) := by decide +kernel
theorem dX11_append_11 : decode cX11_append 11 = .ok (.new 43, 3) := by decide +kernel
theorem dX11_append_14 : decode cX11_append 14 = .ok (.dup, 1) := by decide +kernel
theorem dX11_append_15 : decode cX11_append 15 = .ok (.ldc 45, 2) := by decide +kernel
theorem dX11_append_17 : decode cX11_append 17 = .ok (.invokespecial 47, 3) := by decide +kernel
theorem dX11_append_20 : decode cX11_append 20 = .ok (.athrow, 1) := by decide +kernel
theorem dX11_append_21 : decode cX11_append 21 = .ok (.aload_n 0, 1) := by decide +kernel
theorem dX11_append_22 : decode cX11_append 22 = .ok (.getfield 10, 3) := by decide +kernel
theorem dX11_append_25 : decode cX11_append 25 = .ok (.invokevirtual 50, 3) := by decide +kernel
theorem dX11_append_28 : decode cX11_append 28 = .ok (.ifCond .eq 13, 3) := by decide +kernel
theorem dX11_append_31 : decode cX11_append 31 = .ok (.new 54, 3) := by decide +kernel
theorem dX11_append_34 : decode cX11_append 34 = .ok (.dup, 1) := by decide +kernel
theorem dX11_append_35 : decode cX11_append 35 = .ok (.ldc 56, 2) := by decide +kernel
theorem dX11_append_37 : decode cX11_append 37 = .ok (.invokespecial 58, 3) := by decide +kernel
theorem dX11_append_40 : decode cX11_append 40 = .ok (.athrow, 1) := by decide +kernel
theorem dX11_append_41 : decode cX11_append 41 = .ok (.aload_n 0, 1) := by decide +kernel
theorem dX11_append_42 : decode cX11_append 42 = .ok (.getfield 10, 3) := by decide +kernel
theorem dX11_append_45 : decode cX11_append 45 = .ok (.iload_n 1, 1) := by decide +kernel
theorem dX11_append_46 : decode cX11_append 46 = .ok (.i2c, 1) := by decide +kernel
theorem dX11_append_47 : decode cX11_append 47 = .ok (.invokevirtual 59, 3) := by decide +kernel
theorem dX11_append_50 : decode cX11_append 50 = .ok (.aload_n 0, 1) := by decide +kernel
theorem dX11_append_51 : decode cX11_append 51 = .ok (.getfield 10, 3) := by decide +kernel
theorem dX11_append_54 : decode cX11_append 54 = .ok (.getfield 63, 3) := by decide +kernel
theorem dX11_append_57 : decode cX11_append 57 = .ok (.ireturn, 1) := by decide +kernel
theorem dX11_clearText_0 : decode cX11_clearText 0 = .ok (.aload_n 0, 1) := by decide +kernel
theorem dX11_clearText_1 : decode cX11_clearText 1 = .ok (.getfield 10, 3) := by decide +kernel
theorem dX11_clearText_4 : decode cX11_clearText 4 = .ok (.getfield 63, 3) := by decide +kernel
theorem dX11_clearText_7 : decode cX11_clearText 7 = .ok (.istore_n 1, 1) := by decide +kernel
theorem dX11_clearText_8 : decode cX11_clearText 8 = .ok (.aload_n 0, 1) := by decide +kernel
theorem dX11_clearText_9 : decode cX11_clearText 9 = .ok (.getfield 10, 3) := by decide +kernel
theorem dX11_clearText_12 : decode cX11_clearText 12 = .ok (.iconst 0, 1) := by decide +kernel
theorem dX11_clearText_13 : decode cX11_clearText 13 = .ok (.putfield 63, 3) := by decide +kernel
theorem dX11_clearText_16 : decode cX11_clearText 16 = .ok (.iload_n 1, 1) := by decide +kernel
theorem dX11_clearText_17 : decode cX11_clearText 17 = .ok (.ireturn, 1) := by decide +kernel
set_option maxRecDepth 20000 in
theorem ggX11_errorPosition_X9_read : GoodIn wsX11_errorPosition wsX9_read := goodIn_r _ [6, 7, 8, 9, 10, 11, 12, 13, 14, 15, 16, 5, 17, 18, 19, 20, 21, 22, 23, 24, 25, 26, 27, 28, 29, 30, 31, 32, 33, 34, 35, 36, 37, 38, 39, 40, 41, 42, 43, 44, 45, 46, 47, 54, 55, 56, 57, 58, 59, 60, 61, 62, 63, 64, 65] (by decide +kernel) (by decide +kernel)
set_option maxRecDepth 20000 in
theorem gX11_errorPosition_X9_read : GoodIn wsX11_errorPosition (wsV RX11 67 RX9 yX9_read wsX9_read) := goodIn_app (goodIn_of _ (by decide +kernel)) ggX11_errorPosition_X9_read
theorem dX11_errorPosition_0 : decode cX11_errorPosition 0 = .ok (.aload_n 0, 1) := by decide +kernel
theorem dX11_errorPosition_1 : decode cX11_errorPosition 1 = .ok (.getfield 10, 3) := by decide +kernel
theorem dX11_errorPosition_4 : decode cX11_errorPosition 4 = .ok (.invokevirtual 67, 3) := by decide +kernel
theorem dX11_errorPosition_7 : decode cX11_errorPosition 7 = .ok (.ireturn, 1) := by decide +kernel
set_option maxRecDepth 20000 in
theorem ggX11_load_X9_read : GoodIn wsX11_load wsX9_read := goodIn_r _ [13, 14, 15, 16, 17, 18, 19, 20, 21, 22, 23, 12, 24, 25, 26, 27, 28, 29, 30, 31, 32, 33, 34, 35, 36, 37, 38, 39, 40, 41, 42, 43, 44, 45, 46, 47, 48, 49, 50, 51, 52, 53, 54, 170, 171, 172, 173, 174, 175, 176, 177, 178, 179, 180, 181] (by decide +kernel) (by decide +kernel)
set_option maxRecDepth 20000 in
theorem gX11_load_X9_read : GoodIn wsX11_load (wsV RX11 67 RX9 yX9_read wsX9_read) := goodIn_app (goodIn_of _ (by decide +kernel)) ggX11_load_X9_read
set_option maxRecDepth 20000 in
theorem ggX11_load_X7_become : GoodIn wsX11_load wsX7_become := goodIn_r _ [59, 60, 61, 62, 63, 64, 65, 66, 67, 68, 69, 70, 71, 72, 73, 74, 75, 76, 77, 78, 79, 80, 81, 82, 83, 84, 85, 86, 87, 88, 89, 90, 91, 92, 93, 94, 95, 96, 97, 98, 99, 100, 101, 102, 103, 104, 105, 106, 107, 108, 109, 110, 111, 112, 113, 114, 115, 116, 117, 118, 119, 120, 121, 122, 123, 124, 125, 126, 127, 128, 129, 130, 131, 132, 133, 156, 157, 158, 159, 160, 161, 162, 163, 164, 165, 166, 167, 168, 169, 182, 183, 184, 185, 186, 187, 188, 189, 190, 191, 192, 193, 194, 195, 196, 197, 198, 199, 200, 201, 202, 203, 204, 205, 206, 207, 208, 209, 210] (by decide +kernel) (by decide +kernel)
set_option maxRecDepth 20000 in
theorem gX11_load_X7_become : GoodIn wsX11_load (wsV RX11 74 RX7 yX7_become wsX7_become) := goodIn_app (goodIn_of _ (by decide +kernel)) ggX11_load_X7_become
set_option maxRecDepth 20000 in
theorem ggX11_load_X9_putInto : GoodIn wsX11_load wsX9_putInto := goodIn_r _ [137, 25, 26, 27, 28, 18, 54, 15, 16, 17, 156, 157, 158, 159, 160, 161, 170, 171, 172, 173, 174, 175, 176, 177, 178, 179, 180, 181, 162, 163, 164, 165, 166, 167, 168, 169, 182, 183, 184, 185, 186, 187, 188, 189, 190, 191, 192] (by decide +kernel) (by decide +kernel)
set_option maxRecDepth 20000 in
theorem gX11_load_X9_putInto : GoodIn wsX11_load (wsV RX11 78 RX9 yX9_putInto wsX9_putInto) := goodIn_app (goodIn_of _ (by decide +kernel)) ggX11_load_X9_putInto
set_option maxRecDepth 20000 in
theorem ggX11_load_X2_forget : GoodIn wsX11_load wsX2_forget := goodIn_r _ [142, 143, 211, 212] (by decide +kernel) (by decide +kernel)
set_option maxRecDepth 20000 in
theorem gX11_load_X2_forget : GoodIn wsX11_load (wsV RX11 81 RX2 yX2_forget wsX2_forget) := goodIn_app (goodIn_of _ (by decide +kernel)) ggX11_load_X2_forget
set_option maxRecDepth 20000 in
theorem ggX11_load_X6_empty : GoodIn wsX11_load wsX6_empty := goodIn_r _ [148, 149, 213, 214] (by decide +kernel) (by decide +kernel)
set_option maxRecDepth 20000 in
theorem gX11_load_X6_empty : GoodIn wsX11_load (wsV RX11 84 RX6 yX6_empty wsX6_empty) := goodIn_app (goodIn_of _ (by decide +kernel)) ggX11_load_X6_empty
theorem dX11_load_0 : decode cX11_load 0 = .ok (.aload_n 0, 1) := by decide +kernel
theorem dX11_load_1 : decode cX11_load 1 = .ok (.getfield 10, 3) := by decide +kernel
theorem dX11_load_4 : decode cX11_load 4 = .ok (.invokevirtual 67, 3) := by decide +kernel
theorem dX11_load_7 : decode cX11_load 7 = .ok (.ldc 71, 2) := by decide +kernel
theorem dX11_load_9 : decode cX11_load 9 = .ok (.if_icmp .eq 13, 3) := by decide +kernel
theorem dX11_load_12 : decode cX11_load 12 = .ok (.new 54, 3) := by decide +kernel
theorem dX11_load_15 : decode cX11_load 15 = .ok (.dup, 1) := by decide +kernel
theorem dX11_load_16 : decode cX11_load 16 = .ok (.ldc 72, 2) := by decide +kernel
theorem dX11_load_18 : decode cX11_load 18 = .ok (.invokespecial 58, 3) := by decide +kernel
theorem dX11_load_21 : decode cX11_load 21 = .ok (.athrow, 1) := by decide +kernel
theorem dX11_load_22 : decode cX11_load 22 = .ok (.aload_n 0, 1) := by decide +kernel
theorem dX11_load_23 : decode cX11_load 23 = .ok (.getfield 23, 3) := by decide +kernel
theorem dX11_load_26 : decode cX11_load 26 = .ok (.aload_n 0, 1) := by decide +kernel
theorem dX11_load_27 : decode cX11_load 27 = .ok (.getfield 19, 3) := by decide +kernel
theorem dX11_load_30 : decode cX11_load 30 = .ok (.invokevirtual 74, 3) := by decide +kernel
theorem dX11_load_33 : decode cX11_load 33 = .ok (.aload_n 0, 1) := by decide +kernel
theorem dX11_load_34 : decode cX11_load 34 = .ok (.getfield 10, 3) := by decide +kernel
theorem dX11_load_37 : decode cX11_load 37 = .ok (.aload_n 0, 1) := by decide +kernel
theorem dX11_load_38 : decode cX11_load 38 = .ok (.getfield 23, 3) := by decide +kernel
theorem dX11_load_41 : decode cX11_load 41 = .ok (.invokevirtual 78, 3) := by decide +kernel
theorem dX11_load_44 : decode cX11_load 44 = .ok (.aload_n 0, 1) := by decide +kernel
theorem dX11_load_45 : decode cX11_load 45 = .ok (.getfield 32, 3) := by decide +kernel
theorem dX11_load_48 : decode cX11_load 48 = .ok (.invokevirtual 81, 3) := by decide +kernel
theorem dX11_load_51 : decode cX11_load 51 = .ok (.aload_n 0, 1) := by decide +kernel
theorem dX11_load_52 : decode cX11_load 52 = .ok (.getfield 39, 3) := by decide +kernel
theorem dX11_load_55 : decode cX11_load 55 = .ok (.invokevirtual 84, 3) := by decide +kernel
theorem dX11_load_58 : decode cX11_load 58 = .ok (.aload_n 0, 1) := by decide +kernel
theorem dX11_load_59 : decode cX11_load 59 = .ok (.getfield 23, 3) := by decide +kernel
theorem dX11_load_62 : decode cX11_load 62 = .ok (.getfield 87, 3) := by decide +kernel
theorem dX11_load_65 : decode cX11_load 65 = .ok (.getfield 91, 3) := by decide +kernel
theorem dX11_load_68 : decode cX11_load 68 = .ok (.ireturn, 1) := by decide +kernel
set_option maxRecDepth 20000 in
theorem ggX11_about_X7_number : GoodIn wsX11_about wsX7_number := goodIn_r _ [8, 9, 10, 11, 12, 13, 14, 15, 16, 17, 18, 19, 20, 21, 22, 23, 24, 25, 26, 27, 28, 7, 29, 30, 31, 32, 33, 34, 35, 36, 37, 38, 39, 40, 41, 42, 43, 44, 45, 46, 47, 48, 49, 50, 51, 52, 53, 54, 55, 56, 63, 64, 65, 66, 67, 68, 69, 70, 71, 72, 73, 74, 75, 76, 77, 78, 79, 80, 81, 82, 83, 84, 85, 86, 87, 88, 89, 90, 91, 92, 93, 94, 95, 96, 97, 98, 99, 100, 101, 102, 103, 104, 105] (by decide +kernel) (by decide +kernel)
set_option maxRecDepth 20000 in
theorem gX11_about_X7_number : GoodIn wsX11_about (wsV RX11 98 RX7 yX7_number wsX7_number) := goodIn_app (goodIn_of _ (by decide +kernel)) ggX11_about_X7_number
theorem dX11_about_0 : decode cX11_about 0 = .ok (.iload_n 1, 1) := by decide +kernel
theorem dX11_about_1 : decode cX11_about 1 = .ok (.ifCond .lt 9, 3) := by decide +kernel
theorem dX11_about_4 : decode cX11_about 4 = .ok (.iload_n 1, 1) := by decide +kernel
theorem dX11_about_5 : decode cX11_about 5 = .ok (.bipush 19, 2) := by decide +kernel
theorem dX11_about_7 : decode cX11_about 7 = .ok (.if_icmp .le 13, 3) := by decide +kernel
theorem dX11_about_10 : decode cX11_about 10 = .ok (.new 43, 3) := by decide +kernel
theorem dX11_about_13 : decode cX11_about 13 = .ok (.dup, 1) := by decide +kernel
theorem dX11_about_14 : decode cX11_about 14 = .ok (.ldc 96, 2) := by decide +kernel
theorem dX11_about_16 : decode cX11_about 16 = .ok (.invokespecial 47, 3) := by decide +kernel
theorem dX11_about_19 : decode cX11_about 19 = .ok (.athrow, 1) := by decide +kernel
theorem dX11_about_20 : decode cX11_about 20 = .ok (.aload_n 0, 1) := by decide +kernel
theorem dX11_about_21 : decode cX11_about 21 = .ok (.getfield 23, 3) := by decide +kernel
theorem dX11_about_24 : decode cX11_about 24 = .ok (.iload_n 1, 1) := by decide +kernel
theorem dX11_about_25 : decode cX11_about 25 = .ok (.invokevirtual 98, 3) := by decide +kernel
theorem dX11_about_28 : decode cX11_about 28 = .ok (.ireturn, 1) := by decide +kernel
set_option maxRecDepth 20000 in
theorem ggX11_swing_X8_has : GoodIn wsX11_swing wsX8_has := goodIn_r _ [10, 11, 62, 63, 64, 65, 66, 67, 68, 69, 70, 71] (by decide +kernel) (by decide +kernel)
set_option maxRecDepth 20000 in
theorem gX11_swing_X8_has : GoodIn wsX11_swing (wsV RX11 106 RX8 yX8_has wsX8_has) := goodIn_app (goodIn_of _ (by decide +kernel)) ggX11_swing_X8_has
set_option maxRecDepth 20000 in
theorem ggX11_swing_X8_reason : GoodIn wsX11_swing wsX8_reason := goodIn_r _ [15, 16, 17, 18, 9, 19, 11, 20, 21, 22, 23, 24, 25, 26, 27, 28, 29, 30, 31, 32, 62, 63, 64, 65, 66, 67, 68, 69, 70, 71] (by decide +kernel) (by decide +kernel)
set_option maxRecDepth 20000 in
theorem gX11_swing_X8_reason : GoodIn wsX11_swing (wsV RX11 128 RX8 yX8_reason wsX8_reason) := goodIn_app (goodIn_of _ (by decide +kernel)) ggX11_swing_X8_reason
set_option maxRecDepth 20000 in
theorem ggX11_swing_X8_number : GoodIn wsX11_swing wsX8_number := goodIn_r _ [36, 24, 22, 20, 21, 37, 38, 7, 8, 9, 10, 11, 62, 63, 64, 65, 66, 67, 68, 69, 70, 71] (by decide +kernel) (by decide +kernel)
set_option maxRecDepth 20000 in
theorem gX11_swing_X8_number : GoodIn wsX11_swing (wsV RX11 132 RX8 yX8_number wsX8_number) := goodIn_app (goodIn_of _ (by decide +kernel)) ggX11_swing_X8_number
theorem dX11_swing_0 : decode cX11_swing 0 = .ok (.aload_n 0, 1) := by decide +kernel
theorem dX11_swing_1 : decode cX11_swing 1 = .ok (.getfield 23, 3) := by decide +kernel
theorem dX11_swing_4 : decode cX11_swing 4 = .ok (.getfield 102, 3) := by decide +kernel
theorem dX11_swing_7 : decode cX11_swing 7 = .ok (.iload_n 1, 1) := by decide +kernel
theorem dX11_swing_8 : decode cX11_swing 8 = .ok (.invokevirtual 106, 3) := by decide +kernel
theorem dX11_swing_11 : decode cX11_swing 11 = .ok (.ifCond .ne 13, 3) := by decide +kernel
theorem dX11_swing_14 : decode cX11_swing 14 = .ok (.new 112, 3) := by decide +kernel
theorem dX11_swing_17 : decode cX11_swing 17 = .ok (.dup, 1) := by decide +kernel
theorem dX11_swing_18 : decode cX11_swing 18 = .ok (.ldc 114, 2) := by decide +kernel
theorem dX11_swing_20 : decode cX11_swing 20 = .ok (.invokespecial 116, 3) := by decide +kernel
theorem dX11_swing_23 : decode cX11_swing 23 = .ok (.athrow, 1) := by decide +kernel
theorem dX11_swing_24 : decode cX11_swing 24 = .ok (.iload_n 2, 1) := by decide +kernel
theorem dX11_swing_25 : decode cX11_swing 25 = .ok (.ifCond .lt 8, 3) := by decide +kernel
theorem dX11_swing_28 : decode cX11_swing 28 = .ok (.iload_n 2, 1) := by decide +kernel
theorem dX11_swing_29 : decode cX11_swing 29 = .ok (.iconst 4, 1) := by decide +kernel
theorem dX11_swing_30 : decode cX11_swing 30 = .ok (.if_icmp .le 13, 3) := by decide +kernel
theorem dX11_swing_33 : decode cX11_swing 33 = .ok (.new 43, 3) := by decide +kernel
theorem dX11_swing_36 : decode cX11_swing 36 = .ok (.dup, 1) := by decide +kernel
theorem dX11_swing_37 : decode cX11_swing 37 = .ok (.ldc 117, 2) := by decide +kernel
theorem dX11_swing_39 : decode cX11_swing 39 = .ok (.invokespecial 47, 3) := by decide +kernel
theorem dX11_swing_42 : decode cX11_swing 42 = .ok (.athrow, 1) := by decide +kernel
theorem dX11_swing_43 : decode cX11_swing 43 = .ok (.iload_n 2, 1) := by decide +kernel
theorem dX11_swing_44 : decode cX11_swing 44 = .ok (.iconst 3, 1) := by decide +kernel
theorem dX11_swing_45 : decode cX11_swing 45 = .ok (.if_icmp .ne 25, 3) := by decide +kernel
theorem dX11_swing_48 : decode cX11_swing 48 = .ok (.aload_n 0, 1) := by decide +kernel
theorem dX11_swing_49 : decode cX11_swing 49 = .ok (.getfield 23, 3) := by decide +kernel
theorem dX11_swing_52 : decode cX11_swing 52 = .ok (.getfield 102, 3) := by decide +kernel
theorem dX11_swing_55 : decode cX11_swing 55 = .ok (.iload_n 1, 1) := by decide +kernel
theorem dX11_swing_56 : decode cX11_swing 56 = .ok (.aload_n 0, 1) := by decide +kernel
theorem dX11_swing_57 : decode cX11_swing 57 = .ok (.getfield 23, 3) := by decide +kernel
theorem dX11_swing_60 : decode cX11_swing 60 = .ok (.getfield 119, 3) := by decide +kernel
theorem dX11_swing_63 : decode cX11_swing 63 = .ok (.getfield 123, 3) := by decide +kernel
theorem dX11_swing_66 : decode cX11_swing 66 = .ok (.invokevirtual 128, 3) := by decide +kernel
theorem dX11_swing_69 : decode cX11_swing 69 = .ok (.ireturn, 1) := by decide +kernel
theorem dX11_swing_70 : decode cX11_swing 70 = .ok (.aload_n 0, 1) := by decide +kernel
theorem dX11_swing_71 : decode cX11_swing 71 = .ok (.getfield 23, 3) := by decide +kernel
theorem dX11_swing_74 : decode cX11_swing 74 = .ok (.getfield 102, 3) := by decide +kernel
theorem dX11_swing_77 : decode cX11_swing 77 = .ok (.iload_n 1, 1) := by decide +kernel
theorem dX11_swing_78 : decode cX11_swing 78 = .ok (.iload_n 2, 1) := by decide +kernel
theorem dX11_swing_79 : decode cX11_swing 79 = .ok (.invokevirtual 132, 3) := by decide +kernel
theorem dX11_swing_82 : decode cX11_swing 82 = .ok (.ireturn, 1) := by decide +kernel
set_option maxRecDepth 20000 in
theorem ggX11_account_X0_number : GoodIn wsX11_account wsX0_number := goodIn_r _ [8, 9, 10, 11, 12, 13, 26, 27, 28, 29, 30, 31] (by decide +kernel) (by decide +kernel)
set_option maxRecDepth 20000 in
theorem gX11_account_X0_number : GoodIn wsX11_account (wsV RX11 140 RX0 yX0_number wsX0_number) := goodIn_app (goodIn_of _ (by decide +kernel)) ggX11_account_X0_number
theorem dX11_account_0 : decode cX11_account 0 = .ok (.iload_n 1, 1) := by decide +kernel
theorem dX11_account_1 : decode cX11_account 1 = .ok (.ifCond .lt 9, 3) := by decide +kernel
theorem dX11_account_4 : decode cX11_account 4 = .ok (.iload_n 1, 1) := by decide +kernel
theorem dX11_account_5 : decode cX11_account 5 = .ok (.bipush 6, 2) := by decide +kernel
theorem dX11_account_7 : decode cX11_account 7 = .ok (.if_icmp .le 13, 3) := by decide +kernel
theorem dX11_account_10 : decode cX11_account 10 = .ok (.new 43, 3) := by decide +kernel
theorem dX11_account_13 : decode cX11_account 13 = .ok (.dup, 1) := by decide +kernel
theorem dX11_account_14 : decode cX11_account 14 = .ok (.ldc 134, 2) := by decide +kernel
theorem dX11_account_16 : decode cX11_account 16 = .ok (.invokespecial 47, 3) := by decide +kernel
theorem dX11_account_19 : decode cX11_account 19 = .ok (.athrow, 1) := by decide +kernel
theorem dX11_account_20 : decode cX11_account 20 = .ok (.aload_n 0, 1) := by decide +kernel
theorem dX11_account_21 : decode cX11_account 21 = .ok (.getfield 23, 3) := by decide +kernel
theorem dX11_account_24 : decode cX11_account 24 = .ok (.getfield 136, 3) := by decide +kernel
theorem dX11_account_27 : decode cX11_account 27 = .ok (.iload_n 1, 1) := by decide +kernel
theorem dX11_account_28 : decode cX11_account 28 = .ok (.invokevirtual 140, 3) := by decide +kernel
theorem dX11_account_31 : decode cX11_account 31 = .ok (.ireturn, 1) := by decide +kernel
set_option maxRecDepth 20000 in
theorem ggX11_tick_X11_isTicks : GoodIn wsX11_tick wsX11_isTicks := goodIn_r _ [8] (by decide +kernel) (by decide +kernel)
set_option maxRecDepth 20000 in
theorem gX11_tick_X11_isTicks : GoodIn wsX11_tick (va_wsS RX11 143 yX11_isTicks wsX11_isTicks) := goodIn_app (goodIn_of _ (by decide +kernel)) ggX11_tick_X11_isTicks
set_option maxRecDepth 20000 in
theorem ggX11_tick_X2_remember : GoodIn wsX11_tick wsX2_remember := goodIn_r _ [13, 14, 15, 16, 17, 18, 12, 19, 20, 21, 22, 23, 24, 25, 26, 27, 28, 29, 30, 31, 32, 33, 34, 35, 36, 37, 38, 39, 40, 41, 42, 43, 44, 45, 46, 47, 48, 49, 50, 51, 52, 53, 54, 55, 56, 57, 58, 59, 60, 61, 62, 63, 64, 65, 66, 67, 68, 69, 70, 71, 72, 73, 74, 75, 76, 77, 78, 79, 80, 81, 82, 83, 84, 85, 86, 87, 88, 89, 90, 91, 92, 93, 94, 95, 96, 97, 98, 180, 181, 166, 167, 168, 169, 170, 171, 172, 173, 174, 175, 176, 177, 178, 179, 182, 183, 184, 185, 186, 187, 188, 189, 190, 191, 192, 193, 194, 195, 196, 197, 198, 199, 200, 201, 202, 203, 204, 205, 206, 207, 208, 209, 210] (by decide +kernel) (by decide +kernel)
set_option maxRecDepth 20000 in
theorem gX11_tick_X2_remember : GoodIn wsX11_tick (wsV RX11 148 RX2 yX2_remember wsX2_remember) := goodIn_app (goodIn_of _ (by decide +kernel)) ggX11_tick_X2_remember
set_option maxRecDepth 20000 in
theorem ggX11_tick_X7_pass : GoodIn wsX11_tick wsX7_pass := goodIn_r _ [102, 6, 7, 8, 103, 104, 105, 23, 106, 26, 27, 25, 30, 28, 107, 108, 109, 51, 110, 59, 111, 112, 113, 114, 53, 54, 60, 115, 116, 117, 118, 63, 62, 56, 57, 61, 58, 119, 120, 121, 122, 123, 34, 124, 47, 42, 39, 36, 37, 41, 125, 126, 127, 128, 38, 129, 130, 131, 132, 133, 134, 135, 136, 137, 138, 139, 90, 140, 92, 95, 94, 96, 141, 142, 143, 67, 144, 77, 145, 146, 147, 148, 78, 149, 150, 151, 75, 76, 152, 153, 154, 155, 69, 70, 72, 73, 74, 156, 157, 158, 159, 166, 167, 168, 169, 170, 171, 172, 173, 174, 175, 176, 177, 178, 179, 182, 183, 184, 185, 186, 187, 188, 189, 190, 191, 192, 205, 206, 207, 208, 209, 210, 193, 194, 195, 196, 197, 198, 199, 200, 201, 202] (by decide +kernel) (by decide +kernel)
set_option maxRecDepth 20000 in
theorem gX11_tick_X7_pass : GoodIn wsX11_tick (wsV RX11 151 RX7 yX7_pass wsX7_pass) := goodIn_app (goodIn_of _ (by decide +kernel)) ggX11_tick_X7_pass
theorem dX11_tick_0 : decode cX11_tick 0 = .ok (.iload_n 1, 1) := by decide +kernel
theorem dX11_tick_1 : decode cX11_tick 1 = .ok (.invokestatic 143, 3) := by decide +kernel
theorem dX11_tick_4 : decode cX11_tick 4 = .ok (.ifCond .ne 13, 3) := by decide +kernel
theorem dX11_tick_7 : decode cX11_tick 7 = .ok (.new 43, 3) := by decide +kernel
theorem dX11_tick_10 : decode cX11_tick 10 = .ok (.dup, 1) := by decide +kernel
theorem dX11_tick_11 : decode cX11_tick 11 = .ok (.ldc 146, 2) := by decide +kernel
theorem dX11_tick_13 : decode cX11_tick 13 = .ok (.invokespecial 47, 3) := by decide +kernel
theorem dX11_tick_16 : decode cX11_tick 16 = .ok (.athrow, 1) := by decide +kernel
theorem dX11_tick_17 : decode cX11_tick 17 = .ok (.aload_n 0, 1) := by decide +kernel
theorem dX11_tick_18 : decode cX11_tick 18 = .ok (.getfield 32, 3) := by decide +kernel
theorem dX11_tick_21 : decode cX11_tick 21 = .ok (.aload_n 0, 1) := by decide +kernel
theorem dX11_tick_22 : decode cX11_tick 22 = .ok (.getfield 23, 3) := by decide +kernel
theorem dX11_tick_25 : decode cX11_tick 25 = .ok (.invokevirtual 148, 3) := by decide +kernel
theorem dX11_tick_28 : decode cX11_tick 28 = .ok (.aload_n 0, 1) := by decide +kernel
theorem dX11_tick_29 : decode cX11_tick 29 = .ok (.getfield 23, 3) := by decide +kernel
theorem dX11_tick_32 : decode cX11_tick 32 = .ok (.iload_n 1, 1) := by decide +kernel
theorem dX11_tick_33 : decode cX11_tick 33 = .ok (.invokevirtual 151, 3) := by decide +kernel
theorem dX11_tick_36 : decode cX11_tick 36 = .ok (.pop, 1) := by decide +kernel
theorem dX11_tick_37 : decode cX11_tick 37 = .ok (.aload_n 0, 1) := by decide +kernel
theorem dX11_tick_38 : decode cX11_tick 38 = .ok (.getfield 23, 3) := by decide +kernel
theorem dX11_tick_41 : decode cX11_tick 41 = .ok (.getfield 87, 3) := by decide +kernel
theorem dX11_tick_44 : decode cX11_tick 44 = .ok (.getfield 91, 3) := by decide +kernel
theorem dX11_tick_47 : decode cX11_tick 47 = .ok (.ireturn, 1) := by decide +kernel
set_option maxRecDepth 20000 in
theorem ggX11_mode_X11_isMode : GoodIn wsX11_mode wsX11_isMode := goodIn_r _ [8] (by decide +kernel) (by decide +kernel)
set_option maxRecDepth 20000 in
theorem gX11_mode_X11_isMode : GoodIn wsX11_mode (va_wsS RX11 154 yX11_isMode wsX11_isMode) := goodIn_app (goodIn_of _ (by decide +kernel)) ggX11_mode_X11_isMode
set_option maxRecDepth 20000 in
theorem ggX11_mode_X2_remember : GoodIn wsX11_mode wsX2_remember := goodIn_r _ [13, 14, 15, 16, 17, 18, 12, 19, 20, 21, 22, 23, 24, 25, 26, 27, 28, 29, 30, 31, 32, 33, 34, 35, 36, 37, 38, 39, 40, 41, 42, 43, 44, 45, 46, 47, 48, 49, 50, 51, 52, 53, 54, 55, 56, 57, 58, 59, 60, 61, 62, 63, 64, 65, 66, 67, 68, 69, 70, 71, 72, 73, 74, 75, 76, 77, 78, 79, 80, 81, 82, 83, 84, 85, 86, 87, 88, 89, 90, 91, 92, 93, 94, 95, 96, 97, 98, 134, 135, 117, 118, 119, 120, 121, 122, 136, 137, 138, 139, 140, 141, 142, 143, 123, 124, 125, 126, 127, 128, 129, 130, 131, 132, 133, 144, 145, 146, 147, 148, 149, 150, 151, 152, 153, 154, 155, 156, 157, 158, 159, 160, 161] (by decide +kernel) (by decide +kernel)
set_option maxRecDepth 20000 in
theorem gX11_mode_X2_remember : GoodIn wsX11_mode (wsV RX11 148 RX2 yX2_remember wsX2_remember) := goodIn_app (goodIn_of _ (by decide +kernel)) ggX11_mode_X2_remember
set_option maxRecDepth 20000 in
theorem ggX11_mode_X7_changeMode : GoodIn wsX11_mode wsX7_changeMode := goodIn_r _ [102, 27, 28, 6, 7, 8, 103, 104, 105, 51, 106, 59, 60, 61, 63, 107, 108, 109, 67, 110, 75, 117, 118, 119, 120, 121, 122, 123, 124, 125, 126, 127, 128, 129, 130, 131, 132, 133, 144, 145, 146, 147, 148, 149, 150, 151, 152, 153] (by decide +kernel) (by decide +kernel)
set_option maxRecDepth 20000 in
theorem gX11_mode_X7_changeMode : GoodIn wsX11_mode (wsV RX11 162 RX7 yX7_changeMode wsX7_changeMode) := goodIn_app (goodIn_of _ (by decide +kernel)) ggX11_mode_X7_changeMode
theorem dX11_mode_0 : decode cX11_mode 0 = .ok (.iload_n 1, 1) := by decide +kernel
theorem dX11_mode_1 : decode cX11_mode 1 = .ok (.invokestatic 154, 3) := by decide +kernel
theorem dX11_mode_4 : decode cX11_mode 4 = .ok (.ifCond .ne 13, 3) := by decide +kernel
theorem dX11_mode_7 : decode cX11_mode 7 = .ok (.new 43, 3) := by decide +kernel
theorem dX11_mode_10 : decode cX11_mode 10 = .ok (.dup, 1) := by decide +kernel
theorem dX11_mode_11 : decode cX11_mode 11 = .ok (.ldc 157, 2) := by decide +kernel
theorem dX11_mode_13 : decode cX11_mode 13 = .ok (.invokespecial 47, 3) := by decide +kernel
theorem dX11_mode_16 : decode cX11_mode 16 = .ok (.athrow, 1) := by decide +kernel
theorem dX11_mode_17 : decode cX11_mode 17 = .ok (.aload_n 0, 1) := by decide +kernel
theorem dX11_mode_18 : decode cX11_mode 18 = .ok (.getfield 32, 3) := by decide +kernel
theorem dX11_mode_21 : decode cX11_mode 21 = .ok (.aload_n 0, 1) := by decide +kernel
theorem dX11_mode_22 : decode cX11_mode 22 = .ok (.getfield 23, 3) := by decide +kernel
theorem dX11_mode_25 : decode cX11_mode 25 = .ok (.invokevirtual 148, 3) := by decide +kernel
theorem dX11_mode_28 : decode cX11_mode 28 = .ok (.aload_n 0, 1) := by decide +kernel
theorem dX11_mode_29 : decode cX11_mode 29 = .ok (.getfield 23, 3) := by decide +kernel
theorem dX11_mode_32 : decode cX11_mode 32 = .ok (.getfield 119, 3) := by decide +kernel
theorem dX11_mode_35 : decode cX11_mode 35 = .ok (.getfield 159, 3) := by decide +kernel
theorem dX11_mode_38 : decode cX11_mode 38 = .ok (.istore_n 2, 1) := by decide +kernel
theorem dX11_mode_39 : decode cX11_mode 39 = .ok (.aload_n 0, 1) := by decide +kernel
theorem dX11_mode_40 : decode cX11_mode 40 = .ok (.getfield 23, 3) := by decide +kernel
theorem dX11_mode_43 : decode cX11_mode 43 = .ok (.iload_n 1, 1) := by decide +kernel
theorem dX11_mode_44 : decode cX11_mode 44 = .ok (.invokevirtual 162, 3) := by decide +kernel
theorem dX11_mode_47 : decode cX11_mode 47 = .ok (.pop, 1) := by decide +kernel
theorem dX11_mode_48 : decode cX11_mode 48 = .ok (.iload_n 2, 1) := by decide +kernel
theorem dX11_mode_49 : decode cX11_mode 49 = .ok (.ireturn, 1) := by decide +kernel
set_option maxRecDepth 20000 in
theorem ggX11_set_X11_isSetting : GoodIn wsX11_set wsX11_isSetting := goodIn_r _ [8, 9, 10, 11, 12] (by decide +kernel) (by decide +kernel)
set_option maxRecDepth 20000 in
theorem gX11_set_X11_isSetting : GoodIn wsX11_set (va_wsS RX11 165 yX11_isSetting wsX11_isSetting) := goodIn_app (goodIn_of _ (by decide +kernel)) ggX11_set_X11_isSetting
set_option maxRecDepth 20000 in
theorem ggX11_set_X2_remember : GoodIn wsX11_set wsX2_remember := goodIn_r _ [17, 18, 19, 20, 21, 22, 16, 23, 24, 25, 26, 27, 28, 29, 30, 31, 32, 33, 34, 35, 36, 37, 38, 39, 40, 41, 42, 43, 44, 45, 46, 47, 48, 49, 50, 51, 52, 53, 54, 11, 55, 56, 57, 58, 59, 60, 61, 62, 63, 64, 65, 66, 67, 68, 69, 70, 71, 72, 73, 74, 75, 76, 77, 78, 79, 80, 81, 82, 83, 84, 85, 86, 87, 88, 89, 90, 91, 92, 93, 94, 95, 96, 97, 98, 99, 100, 101, 126, 127, 120, 121, 122, 123, 124, 125, 128, 129, 130, 131, 132, 133, 134, 135, 136, 137, 138, 139, 140, 141, 142, 143, 144, 145, 146, 147, 148, 149, 150, 151, 152, 153, 154, 155, 156, 157, 158, 159, 160, 161, 162, 163, 164] (by decide +kernel) (by decide +kernel)
set_option maxRecDepth 20000 in
theorem gX11_set_X2_remember : GoodIn wsX11_set (wsV RX11 148 RX2 yX2_remember wsX2_remember) := goodIn_app (goodIn_of _ (by decide +kernel)) ggX11_set_X2_remember
set_option maxRecDepth 20000 in
theorem ggX11_set_X1_number : GoodIn wsX11_set wsX1_number := goodIn_r _ [105, 56, 57, 58, 59, 60, 61, 136, 137, 138, 139, 140, 141, 142, 143, 144, 145, 146] (by decide +kernel) (by decide +kernel)
set_option maxRecDepth 20000 in
theorem gX11_set_X1_number : GoodIn wsX11_set (wsV RX11 171 RX1 yX1_number wsX1_number) := goodIn_app (goodIn_of _ (by decide +kernel)) ggX11_set_X1_number
set_option maxRecDepth 20000 in
theorem ggX11_set_X7_put : GoodIn wsX11_set wsX7_put := goodIn_r _ [109, 31, 6, 7, 8, 9, 10, 11, 12, 110, 111, 112, 113, 56, 57, 58, 59, 60, 61, 120, 121, 122, 123, 124, 125, 136, 137, 138, 139, 140, 141, 142, 143, 144, 145, 146] (by decide +kernel) (by decide +kernel)
set_option maxRecDepth 20000 in
theorem gX11_set_X7_put : GoodIn wsX11_set (wsV RX11 172 RX7 yX7_put wsX7_put) := goodIn_app (goodIn_of _ (by decide +kernel)) ggX11_set_X7_put
theorem dX11_set_0 : decode cX11_set 0 = .ok (.iload_n 1, 1) := by decide +kernel
theorem dX11_set_1 : decode cX11_set 1 = .ok (.iload_n 2, 1) := by decide +kernel
theorem dX11_set_2 : decode cX11_set 2 = .ok (.invokestatic 165, 3) := by decide +kernel
theorem dX11_set_5 : decode cX11_set 5 = .ok (.ifCond .ne 13, 3) := by decide +kernel
theorem dX11_set_8 : decode cX11_set 8 = .ok (.new 43, 3) := by decide +kernel
theorem dX11_set_11 : decode cX11_set 11 = .ok (.dup, 1) := by decide +kernel
theorem dX11_set_12 : decode cX11_set 12 = .ok (.ldc 169, 2) := by decide +kernel
theorem dX11_set_14 : decode cX11_set 14 = .ok (.invokespecial 47, 3) := by decide +kernel
theorem dX11_set_17 : decode cX11_set 17 = .ok (.athrow, 1) := by decide +kernel
theorem dX11_set_18 : decode cX11_set 18 = .ok (.aload_n 0, 1) := by decide +kernel
theorem dX11_set_19 : decode cX11_set 19 = .ok (.getfield 32, 3) := by decide +kernel
theorem dX11_set_22 : decode cX11_set 22 = .ok (.aload_n 0, 1) := by decide +kernel
theorem dX11_set_23 : decode cX11_set 23 = .ok (.getfield 23, 3) := by decide +kernel
theorem dX11_set_26 : decode cX11_set 26 = .ok (.invokevirtual 148, 3) := by decide +kernel
theorem dX11_set_29 : decode cX11_set 29 = .ok (.aload_n 0, 1) := by decide +kernel
theorem dX11_set_30 : decode cX11_set 30 = .ok (.getfield 23, 3) := by decide +kernel
theorem dX11_set_33 : decode cX11_set 33 = .ok (.getfield 119, 3) := by decide +kernel
theorem dX11_set_36 : decode cX11_set 36 = .ok (.iload_n 1, 1) := by decide +kernel
theorem dX11_set_37 : decode cX11_set 37 = .ok (.invokevirtual 171, 3) := by decide +kernel
theorem dX11_set_40 : decode cX11_set 40 = .ok (.istore_n 3, 1) := by decide +kernel
theorem dX11_set_41 : decode cX11_set 41 = .ok (.aload_n 0, 1) := by decide +kernel
theorem dX11_set_42 : decode cX11_set 42 = .ok (.getfield 23, 3) := by decide +kernel
theorem dX11_set_45 : decode cX11_set 45 = .ok (.iload_n 1, 1) := by decide +kernel
theorem dX11_set_46 : decode cX11_set 46 = .ok (.iload_n 2, 1) := by decide +kernel
theorem dX11_set_47 : decode cX11_set 47 = .ok (.invokevirtual 172, 3) := by decide +kernel
theorem dX11_set_50 : decode cX11_set 50 = .ok (.pop, 1) := by decide +kernel
theorem dX11_set_51 : decode cX11_set 51 = .ok (.iload_n 3, 1) := by decide +kernel
theorem dX11_set_52 : decode cX11_set 52 = .ok (.ireturn, 1) := by decide +kernel
set_option maxRecDepth 20000 in
theorem ggX11_disturb_X11_isDisturbance : GoodIn wsX11_disturb wsX11_isDisturbance := goodIn_r _ [8] (by decide +kernel) (by decide +kernel)
set_option maxRecDepth 20000 in
theorem gX11_disturb_X11_isDisturbance : GoodIn wsX11_disturb (va_wsS RX11 175 yX11_isDisturbance wsX11_isDisturbance) := goodIn_app (goodIn_of _ (by decide +kernel)) ggX11_disturb_X11_isDisturbance
set_option maxRecDepth 20000 in
theorem ggX11_disturb_X2_remember : GoodIn wsX11_disturb wsX2_remember := goodIn_r _ [13, 14, 15, 16, 17, 18, 12, 19, 20, 21, 22, 23, 24, 25, 26, 27, 28, 29, 30, 31, 32, 33, 34, 35, 36, 37, 38, 39, 40, 41, 42, 43, 44, 45, 46, 47, 48, 49, 50, 51, 52, 53, 54, 55, 56, 57, 58, 59, 60, 61, 62, 63, 64, 65, 66, 67, 68, 69, 70, 71, 72, 73, 74, 75, 76, 77, 78, 79, 80, 81, 82, 83, 84, 85, 86, 87, 88, 89, 90, 91, 92, 93, 94, 95, 96, 97, 98, 129, 130, 115, 116, 117, 118, 119, 120, 121, 122, 123, 124, 125, 126, 127, 128, 131, 132, 133, 134, 135, 136, 137, 138, 139, 140, 141, 142, 143, 144, 145, 146, 147, 148, 149, 150, 151, 152, 153, 154, 155, 156, 157, 158, 159] (by decide +kernel) (by decide +kernel)
set_option maxRecDepth 20000 in
theorem gX11_disturb_X2_remember : GoodIn wsX11_disturb (wsV RX11 148 RX2 yX2_remember wsX2_remember) := goodIn_app (goodIn_of _ (by decide +kernel)) ggX11_disturb_X2_remember
set_option maxRecDepth 20000 in
theorem ggX11_disturb_X7_push : GoodIn wsX11_disturb wsX7_push := goodIn_r _ [102, 26, 30, 6, 7, 8, 103, 104, 105, 34, 106, 41, 107, 108, 115, 116, 117, 118, 119, 120, 154, 155, 156, 157, 158, 159, 121, 122, 123, 124, 125, 126, 127, 128] (by decide +kernel) (by decide +kernel)
set_option maxRecDepth 20000 in
theorem gX11_disturb_X7_push : GoodIn wsX11_disturb (wsV RX11 180 RX7 yX7_push wsX7_push) := goodIn_app (goodIn_of _ (by decide +kernel)) ggX11_disturb_X7_push
theorem dX11_disturb_0 : decode cX11_disturb 0 = .ok (.iload_n 1, 1) := by decide +kernel
theorem dX11_disturb_1 : decode cX11_disturb 1 = .ok (.invokestatic 175, 3) := by decide +kernel
theorem dX11_disturb_4 : decode cX11_disturb 4 = .ok (.ifCond .ne 13, 3) := by decide +kernel
theorem dX11_disturb_7 : decode cX11_disturb 7 = .ok (.new 43, 3) := by decide +kernel
theorem dX11_disturb_10 : decode cX11_disturb 10 = .ok (.dup, 1) := by decide +kernel
theorem dX11_disturb_11 : decode cX11_disturb 11 = .ok (.ldc 178, 2) := by decide +kernel
theorem dX11_disturb_13 : decode cX11_disturb 13 = .ok (.invokespecial 47, 3) := by decide +kernel
theorem dX11_disturb_16 : decode cX11_disturb 16 = .ok (.athrow, 1) := by decide +kernel
theorem dX11_disturb_17 : decode cX11_disturb 17 = .ok (.aload_n 0, 1) := by decide +kernel
theorem dX11_disturb_18 : decode cX11_disturb 18 = .ok (.getfield 32, 3) := by decide +kernel
theorem dX11_disturb_21 : decode cX11_disturb 21 = .ok (.aload_n 0, 1) := by decide +kernel
theorem dX11_disturb_22 : decode cX11_disturb 22 = .ok (.getfield 23, 3) := by decide +kernel
theorem dX11_disturb_25 : decode cX11_disturb 25 = .ok (.invokevirtual 148, 3) := by decide +kernel
theorem dX11_disturb_28 : decode cX11_disturb 28 = .ok (.aload_n 0, 1) := by decide +kernel
theorem dX11_disturb_29 : decode cX11_disturb 29 = .ok (.getfield 23, 3) := by decide +kernel
theorem dX11_disturb_32 : decode cX11_disturb 32 = .ok (.iload_n 1, 1) := by decide +kernel
theorem dX11_disturb_33 : decode cX11_disturb 33 = .ok (.invokevirtual 180, 3) := by decide +kernel
theorem dX11_disturb_36 : decode cX11_disturb 36 = .ok (.pop, 1) := by decide +kernel
theorem dX11_disturb_37 : decode cX11_disturb 37 = .ok (.aload_n 0, 1) := by decide +kernel
theorem dX11_disturb_38 : decode cX11_disturb 38 = .ok (.getfield 23, 3) := by decide +kernel
theorem dX11_disturb_41 : decode cX11_disturb 41 = .ok (.getfield 87, 3) := by decide +kernel
theorem dX11_disturb_44 : decode cX11_disturb 44 = .ok (.getfield 91, 3) := by decide +kernel
theorem dX11_disturb_47 : decode cX11_disturb 47 = .ok (.ireturn, 1) := by decide +kernel
set_option maxRecDepth 20000 in
theorem ggX11_discard_X8_has : GoodIn wsX11_discard wsX8_has := goodIn_r _ [9, 10, 121, 122, 123, 124, 125, 126, 127, 128, 129, 130] (by decide +kernel) (by decide +kernel)
set_option maxRecDepth 20000 in
theorem gX11_discard_X8_has : GoodIn wsX11_discard (wsV RX11 106 RX8 yX8_has wsX8_has) := goodIn_app (goodIn_of _ (by decide +kernel)) ggX11_discard_X8_has
set_option maxRecDepth 20000 in
theorem ggX11_discard_X2_remember : GoodIn wsX11_discard wsX2_remember := goodIn_r _ [15, 16, 17, 18, 19, 20, 14, 21, 22, 23, 24, 25, 26, 27, 28, 29, 30, 31, 32, 33, 34, 35, 36, 37, 38, 39, 40, 41, 42, 43, 44, 45, 46, 47, 48, 49, 50, 51, 52, 53, 54, 55, 56, 57, 58, 59, 60, 61, 62, 63, 64, 65, 66, 67, 68, 8, 69, 10, 70, 71, 72, 73, 74, 75, 76, 77, 78, 79, 80, 81, 82, 83, 84, 85, 86, 87, 88, 89, 90, 91, 92, 93, 94, 95, 96, 97, 98, 131, 132, 115, 116, 117, 118, 119, 120, 133, 134, 135, 136, 137, 138, 139, 140, 141, 142, 143, 144, 145, 146, 147, 148, 149, 150, 151, 121, 122, 123, 124, 125, 126, 127, 128, 129, 130, 152, 153, 154, 155, 156, 157, 158, 159] (by decide +kernel) (by decide +kernel)
set_option maxRecDepth 20000 in
theorem gX11_discard_X2_remember : GoodIn wsX11_discard (wsV RX11 148 RX2 yX2_remember wsX2_remember) := goodIn_app (goodIn_of _ (by decide +kernel)) ggX11_discard_X2_remember
set_option maxRecDepth 20000 in
theorem ggX11_discard_X8_number : GoodIn wsX11_discard wsX8_number := goodIn_r _ [102, 103, 70, 72, 73, 74, 104, 6, 7, 8, 9, 10, 121, 122, 123, 124, 125, 126, 127, 128, 129, 130] (by decide +kernel) (by decide +kernel)
set_option maxRecDepth 20000 in
theorem gX11_discard_X8_number : GoodIn wsX11_discard (wsV RX11 132 RX8 yX8_number wsX8_number) := goodIn_app (goodIn_of _ (by decide +kernel)) ggX11_discard_X8_number
set_option maxRecDepth 20000 in
theorem ggX11_discard_X8_drop : GoodIn wsX11_discard wsX8_drop := goodIn_r _ [108, 10, 70, 72, 73, 74, 121, 122, 123, 124, 125, 126, 127, 128, 129, 130] (by decide +kernel) (by decide +kernel)
set_option maxRecDepth 20000 in
theorem gX11_discard_X8_drop : GoodIn wsX11_discard (wsV RX11 183 RX8 yX8_drop wsX8_drop) := goodIn_app (goodIn_of _ (by decide +kernel)) ggX11_discard_X8_drop
theorem dX11_discard_0 : decode cX11_discard 0 = .ok (.aload_n 0, 1) := by decide +kernel
theorem dX11_discard_1 : decode cX11_discard 1 = .ok (.getfield 23, 3) := by decide +kernel
theorem dX11_discard_4 : decode cX11_discard 4 = .ok (.getfield 102, 3) := by decide +kernel
theorem dX11_discard_7 : decode cX11_discard 7 = .ok (.iload_n 1, 1) := by decide +kernel
theorem dX11_discard_8 : decode cX11_discard 8 = .ok (.invokevirtual 106, 3) := by decide +kernel
theorem dX11_discard_11 : decode cX11_discard 11 = .ok (.ifCond .ne 13, 3) := by decide +kernel
theorem dX11_discard_14 : decode cX11_discard 14 = .ok (.new 112, 3) := by decide +kernel
theorem dX11_discard_17 : decode cX11_discard 17 = .ok (.dup, 1) := by decide +kernel
theorem dX11_discard_18 : decode cX11_discard 18 = .ok (.ldc 114, 2) := by decide +kernel
theorem dX11_discard_20 : decode cX11_discard 20 = .ok (.invokespecial 116, 3) := by decide +kernel
theorem dX11_discard_23 : decode cX11_discard 23 = .ok (.athrow, 1) := by decide +kernel
theorem dX11_discard_24 : decode cX11_discard 24 = .ok (.aload_n 0, 1) := by decide +kernel
theorem dX11_discard_25 : decode cX11_discard 25 = .ok (.getfield 32, 3) := by decide +kernel
theorem dX11_discard_28 : decode cX11_discard 28 = .ok (.aload_n 0, 1) := by decide +kernel
theorem dX11_discard_29 : decode cX11_discard 29 = .ok (.getfield 23, 3) := by decide +kernel
theorem dX11_discard_32 : decode cX11_discard 32 = .ok (.invokevirtual 148, 3) := by decide +kernel
theorem dX11_discard_35 : decode cX11_discard 35 = .ok (.aload_n 0, 1) := by decide +kernel
theorem dX11_discard_36 : decode cX11_discard 36 = .ok (.getfield 23, 3) := by decide +kernel
theorem dX11_discard_39 : decode cX11_discard 39 = .ok (.getfield 102, 3) := by decide +kernel
theorem dX11_discard_42 : decode cX11_discard 42 = .ok (.iload_n 1, 1) := by decide +kernel
theorem dX11_discard_43 : decode cX11_discard 43 = .ok (.iconst 0, 1) := by decide +kernel
theorem dX11_discard_44 : decode cX11_discard 44 = .ok (.invokevirtual 132, 3) := by decide +kernel
theorem dX11_discard_47 : decode cX11_discard 47 = .ok (.istore_n 2, 1) := by decide +kernel
theorem dX11_discard_48 : decode cX11_discard 48 = .ok (.aload_n 0, 1) := by decide +kernel
theorem dX11_discard_49 : decode cX11_discard 49 = .ok (.getfield 23, 3) := by decide +kernel
theorem dX11_discard_52 : decode cX11_discard 52 = .ok (.getfield 102, 3) := by decide +kernel
theorem dX11_discard_55 : decode cX11_discard 55 = .ok (.iload_n 1, 1) := by decide +kernel
theorem dX11_discard_56 : decode cX11_discard 56 = .ok (.invokevirtual 183, 3) := by decide +kernel
theorem dX11_discard_59 : decode cX11_discard 59 = .ok (.iload_n 2, 1) := by decide +kernel
theorem dX11_discard_60 : decode cX11_discard 60 = .ok (.ireturn, 1) := by decide +kernel
set_option maxRecDepth 20000 in
theorem ggX11_tryRule_X11_isRule : GoodIn wsX11_tryRule wsX11_isRule := goodIn_r _ [10] (by decide +kernel) (by decide +kernel)
set_option maxRecDepth 20000 in
theorem gX11_tryRule_X11_isRule : GoodIn wsX11_tryRule (va_wsS RX11 187 yX11_isRule wsX11_isRule) := goodIn_app (goodIn_of _ (by decide +kernel)) ggX11_tryRule_X11_isRule
set_option maxRecDepth 20000 in
theorem ggX11_tryRule_X7_canBeginTrial : GoodIn wsX11_tryRule wsX7_canBeginTrial := goodIn_r _ [15, 16, 17, 18, 19, 20, 21, 22, 23, 24, 25, 26, 27, 28, 29, 30, 31, 32, 33, 34, 35, 36, 37, 38, 39, 40, 41, 42, 43, 44, 45, 185, 186, 187, 188, 189, 190, 202, 203, 191, 192, 193, 194, 195, 196, 197, 198, 199, 200, 201, 204, 205, 206, 207, 208, 209, 210, 211, 212, 213] (by decide +kernel) (by decide +kernel)
set_option maxRecDepth 20000 in
theorem gX11_tryRule_X7_canBeginTrial : GoodIn wsX11_tryRule (wsV RX11 192 RX7 yX7_canBeginTrial wsX7_canBeginTrial) := goodIn_app (goodIn_of _ (by decide +kernel)) ggX11_tryRule_X7_canBeginTrial
set_option maxRecDepth 20000 in
theorem ggX11_tryRule_X2_remember : GoodIn wsX11_tryRule wsX2_remember := goodIn_r _ [50, 51, 52, 53, 54, 55, 49, 56, 57, 58, 59, 14, 60, 61, 62, 18, 17, 16, 63, 64, 65, 66, 67, 68, 69, 70, 71, 72, 73, 74, 75, 76, 77, 78, 79, 80, 81, 82, 83, 84, 85, 86, 87, 88, 89, 90, 91, 92, 93, 94, 95, 96, 97, 98, 99, 22, 100, 28, 31, 101, 29, 30, 102, 103, 104, 105, 106, 107, 108, 109, 110, 111, 112, 113, 114, 115, 116, 117, 118, 119, 120, 121, 122, 123, 124, 125, 126, 214, 215, 185, 186, 187, 188, 189, 190, 216, 217, 218, 219, 220, 221, 222, 223, 191, 192, 193, 194, 195, 196, 197, 198, 199, 200, 201, 204, 205, 206, 207, 208, 209, 210, 211, 212, 213, 202, 203, 224, 225, 226, 227, 228, 229] (by decide +kernel) (by decide +kernel)
set_option maxRecDepth 20000 in
theorem gX11_tryRule_X2_remember : GoodIn wsX11_tryRule (wsV RX11 148 RX2 yX2_remember wsX2_remember) := goodIn_app (goodIn_of _ (by decide +kernel)) ggX11_tryRule_X2_remember
set_option maxRecDepth 20000 in
theorem ggX11_tryRule_X7_beginTrial : GoodIn wsX11_tryRule wsX7_beginTrial := goodIn_r _ [130, 16, 18, 8, 9, 10, 131, 12, 13, 14, 15, 17, 19, 20, 21, 22, 23, 24, 25, 26, 27, 28, 29, 30, 31, 32, 33, 34, 35, 36, 37, 38, 39, 40, 41, 42, 43, 44, 45, 132, 133, 134, 110, 135, 112, 113, 136, 137, 138, 139, 140, 141, 142, 143, 144, 62, 145, 146, 147, 148, 149, 150, 151, 152, 153, 154, 155, 156, 157, 158, 159, 160, 161, 162, 163, 164, 165, 166, 167, 168, 169, 170, 171, 172, 173, 84, 174, 92, 93, 94, 96, 175, 176, 177, 178, 103, 185, 186, 187, 188, 189, 190, 202, 203, 191, 192, 193, 194, 195, 196, 197, 198, 199, 200, 201, 204, 205, 206, 207, 208, 209, 210, 211, 212, 213, 216, 217, 218, 219, 220, 221, 222, 223] (by decide +kernel) (by decide +kernel)
set_option maxRecDepth 20000 in
theorem gX11_tryRule_X7_beginTrial : GoodIn wsX11_tryRule (wsV RX11 197 RX7 yX7_beginTrial wsX7_beginTrial) := goodIn_app (goodIn_of _ (by decide +kernel)) ggX11_tryRule_X7_beginTrial
theorem dX11_tryRule_0 : decode cX11_tryRule 0 = .ok (.iload_n 1, 1) := by decide +kernel
theorem dX11_tryRule_1 : decode cX11_tryRule 1 = .ok (.invokestatic 187, 3) := by decide +kernel
theorem dX11_tryRule_4 : decode cX11_tryRule 4 = .ok (.ifCond .ne 13, 3) := by decide +kernel
theorem dX11_tryRule_7 : decode cX11_tryRule 7 = .ok (.new 112, 3) := by decide +kernel
theorem dX11_tryRule_10 : decode cX11_tryRule 10 = .ok (.dup, 1) := by decide +kernel
theorem dX11_tryRule_11 : decode cX11_tryRule 11 = .ok (.ldc 190, 2) := by decide +kernel
theorem dX11_tryRule_13 : decode cX11_tryRule 13 = .ok (.invokespecial 116, 3) := by decide +kernel
theorem dX11_tryRule_16 : decode cX11_tryRule 16 = .ok (.athrow, 1) := by decide +kernel
theorem dX11_tryRule_17 : decode cX11_tryRule 17 = .ok (.aload_n 0, 1) := by decide +kernel
theorem dX11_tryRule_18 : decode cX11_tryRule 18 = .ok (.getfield 23, 3) := by decide +kernel
theorem dX11_tryRule_21 : decode cX11_tryRule 21 = .ok (.invokevirtual 192, 3) := by decide +kernel
theorem dX11_tryRule_24 : decode cX11_tryRule 24 = .ok (.ifCond .ne 13, 3) := by decide +kernel
theorem dX11_tryRule_27 : decode cX11_tryRule 27 = .ok (.new 54, 3) := by decide +kernel
theorem dX11_tryRule_30 : decode cX11_tryRule 30 = .ok (.dup, 1) := by decide +kernel
theorem dX11_tryRule_31 : decode cX11_tryRule 31 = .ok (.ldc 195, 2) := by decide +kernel
theorem dX11_tryRule_33 : decode cX11_tryRule 33 = .ok (.invokespecial 58, 3) := by decide +kernel
theorem dX11_tryRule_36 : decode cX11_tryRule 36 = .ok (.athrow, 1) := by decide +kernel
theorem dX11_tryRule_37 : decode cX11_tryRule 37 = .ok (.aload_n 0, 1) := by decide +kernel
theorem dX11_tryRule_38 : decode cX11_tryRule 38 = .ok (.getfield 32, 3) := by decide +kernel
theorem dX11_tryRule_41 : decode cX11_tryRule 41 = .ok (.aload_n 0, 1) := by decide +kernel
theorem dX11_tryRule_42 : decode cX11_tryRule 42 = .ok (.getfield 23, 3) := by decide +kernel
theorem dX11_tryRule_45 : decode cX11_tryRule 45 = .ok (.invokevirtual 148, 3) := by decide +kernel
theorem dX11_tryRule_48 : decode cX11_tryRule 48 = .ok (.aload_n 0, 1) := by decide +kernel
theorem dX11_tryRule_49 : decode cX11_tryRule 49 = .ok (.getfield 23, 3) := by decide +kernel
theorem dX11_tryRule_52 : decode cX11_tryRule 52 = .ok (.iload_n 1, 1) := by decide +kernel
theorem dX11_tryRule_53 : decode cX11_tryRule 53 = .ok (.invokevirtual 197, 3) := by decide +kernel
theorem dX11_tryRule_56 : decode cX11_tryRule 56 = .ok (.pop, 1) := by decide +kernel
theorem dX11_tryRule_57 : decode cX11_tryRule 57 = .ok (.aload_n 0, 1) := by decide +kernel
theorem dX11_tryRule_58 : decode cX11_tryRule 58 = .ok (.getfield 23, 3) := by decide +kernel
theorem dX11_tryRule_61 : decode cX11_tryRule 61 = .ok (.getfield 119, 3) := by decide +kernel
theorem dX11_tryRule_64 : decode cX11_tryRule 64 = .ok (.getfield 200, 3) := by decide +kernel
theorem dX11_tryRule_67 : decode cX11_tryRule 67 = .ok (.ireturn, 1) := by decide +kernel
set_option maxRecDepth 20000 in
theorem ggX11_takeBack_X2_remember : GoodIn wsX11_takeBack wsX2_remember := goodIn_r _ [9, 10, 11, 12, 13, 14, 8, 15, 16, 17, 18, 19, 20, 21, 22, 23, 24, 25, 26, 27, 28, 29, 30, 31, 32, 33, 34, 35, 36, 37, 38, 39, 40, 41, 42, 43, 44, 45, 46, 47, 48, 49, 50, 51, 52, 53, 54, 55, 56, 57, 58, 59, 60, 61, 62, 63, 64, 65, 66, 67, 68, 69, 70, 71, 72, 73, 74, 75, 76, 77, 78, 79, 80, 81, 82, 83, 84, 85, 86, 87, 88, 89, 90, 91, 92, 93, 94, 132, 133, 124, 125, 126, 127, 128, 129, 134, 135, 136, 137, 138, 139, 140, 141, 142, 143, 144, 145, 146, 147, 148, 149, 150, 151, 152, 153, 154, 155, 156, 157, 158, 159, 160, 161, 162, 130, 131, 163, 164, 165, 166, 167, 168] (by decide +kernel) (by decide +kernel)
set_option maxRecDepth 20000 in
theorem gX11_takeBack_X2_remember : GoodIn wsX11_takeBack (wsV RX11 148 RX2 yX2_remember wsX2_remember) := goodIn_app (goodIn_of _ (by decide +kernel)) ggX11_takeBack_X2_remember
set_option maxRecDepth 20000 in
theorem ggX11_takeBack_X7_endTrial : GoodIn wsX11_takeBack wsX7_endTrial := goodIn_r _ [98, 25, 23, 99, 100, 101, 78, 102, 80, 81, 103, 104, 105, 19, 106, 24, 107, 108, 109, 110, 111, 112, 47, 113, 55, 56, 57, 59, 114, 115, 116, 63, 117, 71, 124, 125, 126, 127, 128, 129, 130, 131, 142, 143, 144, 145, 146, 147, 148, 149, 150, 151, 152, 153, 154, 155, 156, 157, 158, 159, 160, 161, 162] (by decide +kernel) (by decide +kernel)
set_option maxRecDepth 20000 in
theorem gX11_takeBack_X7_endTrial : GoodIn wsX11_takeBack (wsV RX11 214 RX7 yX7_endTrial wsX7_endTrial) := goodIn_app (goodIn_of _ (by decide +kernel)) ggX11_takeBack_X7_endTrial
theorem dX11_takeBack_0 : decode cX11_takeBack 0 = .ok (.aload_n 0, 1) := by decide +kernel
theorem dX11_takeBack_1 : decode cX11_takeBack 1 = .ok (.getfield 23, 3) := by decide +kernel
theorem dX11_takeBack_4 : decode cX11_takeBack 4 = .ok (.getfield 203, 3) := by decide +kernel
theorem dX11_takeBack_7 : decode cX11_takeBack 7 = .ok (.getfield 207, 3) := by decide +kernel
theorem dX11_takeBack_10 : decode cX11_takeBack 10 = .ok (.ifCond .ne 13, 3) := by decide +kernel
theorem dX11_takeBack_13 : decode cX11_takeBack 13 = .ok (.new 54, 3) := by decide +kernel
theorem dX11_takeBack_16 : decode cX11_takeBack 16 = .ok (.dup, 1) := by decide +kernel
theorem dX11_takeBack_17 : decode cX11_takeBack 17 = .ok (.ldc 212, 2) := by decide +kernel
theorem dX11_takeBack_19 : decode cX11_takeBack 19 = .ok (.invokespecial 58, 3) := by decide +kernel
theorem dX11_takeBack_22 : decode cX11_takeBack 22 = .ok (.athrow, 1) := by decide +kernel
theorem dX11_takeBack_23 : decode cX11_takeBack 23 = .ok (.aload_n 0, 1) := by decide +kernel
theorem dX11_takeBack_24 : decode cX11_takeBack 24 = .ok (.getfield 32, 3) := by decide +kernel
theorem dX11_takeBack_27 : decode cX11_takeBack 27 = .ok (.aload_n 0, 1) := by decide +kernel
theorem dX11_takeBack_28 : decode cX11_takeBack 28 = .ok (.getfield 23, 3) := by decide +kernel
theorem dX11_takeBack_31 : decode cX11_takeBack 31 = .ok (.invokevirtual 148, 3) := by decide +kernel
theorem dX11_takeBack_34 : decode cX11_takeBack 34 = .ok (.aload_n 0, 1) := by decide +kernel
theorem dX11_takeBack_35 : decode cX11_takeBack 35 = .ok (.getfield 23, 3) := by decide +kernel
theorem dX11_takeBack_38 : decode cX11_takeBack 38 = .ok (.invokevirtual 214, 3) := by decide +kernel
theorem dX11_takeBack_41 : decode cX11_takeBack 41 = .ok (.pop, 1) := by decide +kernel
theorem dX11_takeBack_42 : decode cX11_takeBack 42 = .ok (.aload_n 0, 1) := by decide +kernel
theorem dX11_takeBack_43 : decode cX11_takeBack 43 = .ok (.getfield 23, 3) := by decide +kernel
theorem dX11_takeBack_46 : decode cX11_takeBack 46 = .ok (.getfield 203, 3) := by decide +kernel
theorem dX11_takeBack_49 : decode cX11_takeBack 49 = .ok (.getfield 207, 3) := by decide +kernel
theorem dX11_takeBack_52 : decode cX11_takeBack 52 = .ok (.ireturn, 1) := by decide +kernel
set_option maxRecDepth 20000 in
theorem ggX11_accept_X2_remember : GoodIn wsX11_accept wsX2_remember := goodIn_r _ [7, 8, 9, 10, 11, 12, 6, 13, 14, 15, 16, 17, 18, 19, 20, 21, 22, 23, 24, 25, 26, 27, 28, 29, 30, 31, 32, 33, 34, 35, 36, 37, 38, 39, 40, 41, 42, 43, 44, 45, 46, 47, 48, 49, 50, 51, 52, 53, 54, 55, 56, 57, 58, 59, 60, 61, 62, 63, 64, 65, 66, 67, 68, 69, 70, 71, 72, 73, 74, 75, 76, 77, 78, 79, 80, 81, 82, 83, 84, 85, 86, 87, 88, 89, 90, 91, 92, 107, 108, 99, 100, 101, 102, 103, 104, 109, 110, 111, 112, 113, 114, 115, 116, 117, 118, 119, 120, 121, 122, 123, 124, 125, 126, 127, 128, 129, 130, 131, 132, 133, 134, 135, 136, 137, 105, 106, 138, 139, 140, 141, 142, 143] (by decide +kernel) (by decide +kernel)
set_option maxRecDepth 20000 in
theorem gX11_accept_X2_remember : GoodIn wsX11_accept (wsV RX11 148 RX2 yX2_remember wsX2_remember) := goodIn_app (goodIn_of _ (by decide +kernel)) ggX11_accept_X2_remember
theorem dX11_accept_0 : decode cX11_accept 0 = .ok (.aload_n 0, 1) := by decide +kernel
theorem dX11_accept_1 : decode cX11_accept 1 = .ok (.getfield 32, 3) := by decide +kernel
theorem dX11_accept_4 : decode cX11_accept 4 = .ok (.aload_n 0, 1) := by decide +kernel
theorem dX11_accept_5 : decode cX11_accept 5 = .ok (.getfield 23, 3) := by decide +kernel
theorem dX11_accept_8 : decode cX11_accept 8 = .ok (.invokevirtual 148, 3) := by decide +kernel
theorem dX11_accept_11 : decode cX11_accept 11 = .ok (.aload_n 0, 1) := by decide +kernel
theorem dX11_accept_12 : decode cX11_accept 12 = .ok (.getfield 23, 3) := by decide +kernel
theorem dX11_accept_15 : decode cX11_accept 15 = .ok (.getfield 203, 3) := by decide +kernel
theorem dX11_accept_18 : decode cX11_accept 18 = .ok (.getfield 207, 3) := by decide +kernel
theorem dX11_accept_21 : decode cX11_accept 21 = .ok (.istore_n 1, 1) := by decide +kernel
theorem dX11_accept_22 : decode cX11_accept 22 = .ok (.aload_n 0, 1) := by decide +kernel
theorem dX11_accept_23 : decode cX11_accept 23 = .ok (.getfield 23, 3) := by decide +kernel
theorem dX11_accept_26 : decode cX11_accept 26 = .ok (.getfield 203, 3) := by decide +kernel
theorem dX11_accept_29 : decode cX11_accept 29 = .ok (.iconst 0, 1) := by decide +kernel
theorem dX11_accept_30 : decode cX11_accept 30 = .ok (.putfield 207, 3) := by decide +kernel
theorem dX11_accept_33 : decode cX11_accept 33 = .ok (.iload_n 1, 1) := by decide +kernel
theorem dX11_accept_34 : decode cX11_accept 34 = .ok (.ireturn, 1) := by decide +kernel
set_option maxRecDepth 20000 in
theorem ggX11_undo_X2_bringBack : GoodIn wsX11_undo wsX2_bringBack := goodIn_r _ [9, 10, 11, 12, 13, 14, 15, 16, 17, 18, 19, 20, 21, 22, 23, 24, 25, 26, 27, 28, 29, 30, 31, 32, 33, 34, 35, 36, 37, 38, 39, 40, 41, 42, 43, 44, 45, 46, 47, 48, 49, 50, 51, 52, 53, 54, 55, 56, 57, 58, 59, 60, 61, 62, 63, 64, 65, 66, 67, 68, 69, 70, 71, 72, 73, 74, 75, 76, 77, 78, 79, 80, 81, 82, 83, 84, 85, 86, 87, 88, 89, 90, 97, 98, 99, 100, 101, 102, 103, 104, 105, 106, 107, 108, 109, 110, 111, 112, 113, 114, 115, 116, 117, 118, 119, 120, 121, 122, 123, 124, 125, 126, 127, 128, 129, 130, 131, 132, 133, 134, 135, 136, 137, 138, 139, 140, 141] (by decide +kernel) (by decide +kernel)
set_option maxRecDepth 20000 in
theorem gX11_undo_X2_bringBack : GoodIn wsX11_undo (wsV RX11 220 RX2 yX2_bringBack wsX2_bringBack) := goodIn_app (goodIn_of _ (by decide +kernel)) ggX11_undo_X2_bringBack
theorem dX11_undo_0 : decode cX11_undo 0 = .ok (.aload_n 0, 1) := by decide +kernel
theorem dX11_undo_1 : decode cX11_undo 1 = .ok (.getfield 32, 3) := by decide +kernel
theorem dX11_undo_4 : decode cX11_undo 4 = .ok (.getfield 217, 3) := by decide +kernel
theorem dX11_undo_7 : decode cX11_undo 7 = .ok (.ifCond .ne 13, 3) := by decide +kernel
theorem dX11_undo_10 : decode cX11_undo 10 = .ok (.new 54, 3) := by decide +kernel
theorem dX11_undo_13 : decode cX11_undo 13 = .ok (.dup, 1) := by decide +kernel
theorem dX11_undo_14 : decode cX11_undo 14 = .ok (.ldc 218, 2) := by decide +kernel
theorem dX11_undo_16 : decode cX11_undo 16 = .ok (.invokespecial 58, 3) := by decide +kernel
theorem dX11_undo_19 : decode cX11_undo 19 = .ok (.athrow, 1) := by decide +kernel
theorem dX11_undo_20 : decode cX11_undo 20 = .ok (.aload_n 0, 1) := by decide +kernel
theorem dX11_undo_21 : decode cX11_undo 21 = .ok (.getfield 32, 3) := by decide +kernel
theorem dX11_undo_24 : decode cX11_undo 24 = .ok (.aload_n 0, 1) := by decide +kernel
theorem dX11_undo_25 : decode cX11_undo 25 = .ok (.getfield 23, 3) := by decide +kernel
theorem dX11_undo_28 : decode cX11_undo 28 = .ok (.invokevirtual 220, 3) := by decide +kernel
theorem dX11_undo_31 : decode cX11_undo 31 = .ok (.aload_n 0, 1) := by decide +kernel
theorem dX11_undo_32 : decode cX11_undo 32 = .ok (.getfield 32, 3) := by decide +kernel
theorem dX11_undo_35 : decode cX11_undo 35 = .ok (.getfield 217, 3) := by decide +kernel
theorem dX11_undo_38 : decode cX11_undo 38 = .ok (.ireturn, 1) := by decide +kernel
set_option maxRecDepth 20000 in
theorem ggX11_middle_X8_middleOf : GoodIn wsX11_middle wsX8_middleOf := goodIn_r _ [6, 7, 8, 9, 10, 11, 12, 25, 26, 27, 28, 29, 30, 31, 32, 33, 34] (by decide +kernel) (by decide +kernel)
set_option maxRecDepth 20000 in
theorem gX11_middle_X8_middleOf : GoodIn wsX11_middle (wsV RX11 223 RX8 yX8_middleOf wsX8_middleOf) := goodIn_app (goodIn_of _ (by decide +kernel)) ggX11_middle_X8_middleOf
theorem dX11_middle_0 : decode cX11_middle 0 = .ok (.aload_n 0, 1) := by decide +kernel
theorem dX11_middle_1 : decode cX11_middle 1 = .ok (.getfield 23, 3) := by decide +kernel
theorem dX11_middle_4 : decode cX11_middle 4 = .ok (.getfield 102, 3) := by decide +kernel
theorem dX11_middle_7 : decode cX11_middle 7 = .ok (.iload_n 1, 1) := by decide +kernel
theorem dX11_middle_8 : decode cX11_middle 8 = .ok (.invokevirtual 223, 3) := by decide +kernel
theorem dX11_middle_11 : decode cX11_middle 11 = .ok (.ireturn, 1) := by decide +kernel
set_option maxRecDepth 20000 in
theorem ggX11_proposal_X11_isRule : GoodIn wsX11_proposal wsX11_isRule := goodIn_r _ [9] (by decide +kernel) (by decide +kernel)
set_option maxRecDepth 20000 in
theorem gX11_proposal_X11_isRule : GoodIn wsX11_proposal (va_wsS RX11 187 yX11_isRule wsX11_isRule) := goodIn_app (goodIn_of _ (by decide +kernel)) ggX11_proposal_X11_isRule
set_option maxRecDepth 20000 in
theorem ggX11_proposal_X7_proposed : GoodIn wsX11_proposal wsX7_proposed := goodIn_r _ [14, 15, 16, 17, 18, 19, 20, 21, 22, 23, 24, 25, 26, 27, 28, 29, 30, 31, 32, 33, 34, 35, 36, 37, 38, 39, 40, 41, 42, 43, 44, 45, 46, 47, 48, 49, 50, 51, 52, 53, 54, 55, 56, 57, 64, 65, 66, 67, 68, 69, 70, 71, 72, 73, 74, 75, 76, 77, 78, 79, 80, 81, 82, 83, 84, 85, 86, 87, 88, 89, 90, 91, 92, 93, 94, 95, 96, 97, 98] (by decide +kernel) (by decide +kernel)
set_option maxRecDepth 20000 in
theorem gX11_proposal_X7_proposed : GoodIn wsX11_proposal (wsV RX11 229 RX7 yX7_proposed wsX7_proposed) := goodIn_app (goodIn_of _ (by decide +kernel)) ggX11_proposal_X7_proposed
theorem dX11_proposal_0 : decode cX11_proposal 0 = .ok (.iload_n 1, 1) := by decide +kernel
theorem dX11_proposal_1 : decode cX11_proposal 1 = .ok (.invokestatic 187, 3) := by decide +kernel
theorem dX11_proposal_4 : decode cX11_proposal 4 = .ok (.ifCond .ne 13, 3) := by decide +kernel
theorem dX11_proposal_7 : decode cX11_proposal 7 = .ok (.new 112, 3) := by decide +kernel
theorem dX11_proposal_10 : decode cX11_proposal 10 = .ok (.dup, 1) := by decide +kernel
theorem dX11_proposal_11 : decode cX11_proposal 11 = .ok (.ldc 190, 2) := by decide +kernel
theorem dX11_proposal_13 : decode cX11_proposal 13 = .ok (.invokespecial 116, 3) := by decide +kernel
theorem dX11_proposal_16 : decode cX11_proposal 16 = .ok (.athrow, 1) := by decide +kernel
theorem dX11_proposal_17 : decode cX11_proposal 17 = .ok (.iload_n 2, 1) := by decide +kernel
theorem dX11_proposal_18 : decode cX11_proposal 18 = .ok (.ifCond .lt 8, 3) := by decide +kernel
theorem dX11_proposal_21 : decode cX11_proposal 21 = .ok (.iload_n 2, 1) := by decide +kernel
theorem dX11_proposal_22 : decode cX11_proposal 22 = .ok (.iconst 2, 1) := by decide +kernel
theorem dX11_proposal_23 : decode cX11_proposal 23 = .ok (.if_icmp .le 13, 3) := by decide +kernel
theorem dX11_proposal_26 : decode cX11_proposal 26 = .ok (.new 43, 3) := by decide +kernel
theorem dX11_proposal_29 : decode cX11_proposal 29 = .ok (.dup, 1) := by decide +kernel
theorem dX11_proposal_30 : decode cX11_proposal 30 = .ok (.ldc 227, 2) := by decide +kernel
theorem dX11_proposal_32 : decode cX11_proposal 32 = .ok (.invokespecial 47, 3) := by decide +kernel
theorem dX11_proposal_35 : decode cX11_proposal 35 = .ok (.athrow, 1) := by decide +kernel
theorem dX11_proposal_36 : decode cX11_proposal 36 = .ok (.aload_n 0, 1) := by decide +kernel
theorem dX11_proposal_37 : decode cX11_proposal 37 = .ok (.getfield 23, 3) := by decide +kernel
theorem dX11_proposal_40 : decode cX11_proposal 40 = .ok (.iload_n 1, 1) := by decide +kernel
theorem dX11_proposal_41 : decode cX11_proposal 41 = .ok (.iload_n 2, 1) := by decide +kernel
theorem dX11_proposal_42 : decode cX11_proposal 42 = .ok (.invokevirtual 229, 3) := by decide +kernel
theorem dX11_proposal_45 : decode cX11_proposal 45 = .ok (.ireturn, 1) := by decide +kernel
set_option maxRecDepth 20000 in
theorem ggX11_toleranceFor_X8_leastTolerance : GoodIn wsX11_toleranceFor wsX8_leastTolerance := goodIn_r _ [8, 9, 10, 11, 12, 7, 13, 14, 15, 16, 17, 18, 19, 20, 21, 22, 23, 24, 25, 26, 27, 28, 29, 30, 43, 44, 45, 46, 47, 48, 49, 50, 51, 52] (by decide +kernel) (by decide +kernel)
set_option maxRecDepth 20000 in
theorem gX11_toleranceFor_X8_leastTolerance : GoodIn wsX11_toleranceFor (wsV RX11 234 RX8 yX8_leastTolerance wsX8_leastTolerance) := goodIn_app (goodIn_of _ (by decide +kernel)) ggX11_toleranceFor_X8_leastTolerance
theorem dX11_toleranceFor_0 : decode cX11_toleranceFor 0 = .ok (.iload_n 1, 1) := by decide +kernel
theorem dX11_toleranceFor_1 : decode cX11_toleranceFor 1 = .ok (.iconst 1, 1) := by decide +kernel
theorem dX11_toleranceFor_2 : decode cX11_toleranceFor 2 = .ok (.if_icmp .lt 9, 3) := by decide +kernel
theorem dX11_toleranceFor_5 : decode cX11_toleranceFor 5 = .ok (.iload_n 1, 1) := by decide +kernel
theorem dX11_toleranceFor_6 : decode cX11_toleranceFor 6 = .ok (.bipush 20, 2) := by decide +kernel
theorem dX11_toleranceFor_8 : decode cX11_toleranceFor 8 = .ok (.if_icmp .le 13, 3) := by decide +kernel
theorem dX11_toleranceFor_11 : decode cX11_toleranceFor 11 = .ok (.new 43, 3) := by decide +kernel
theorem dX11_toleranceFor_14 : decode cX11_toleranceFor 14 = .ok (.dup, 1) := by decide +kernel
theorem dX11_toleranceFor_15 : decode cX11_toleranceFor 15 = .ok (.ldc 232, 2) := by decide +kernel
theorem dX11_toleranceFor_17 : decode cX11_toleranceFor 17 = .ok (.invokespecial 47, 3) := by decide +kernel
theorem dX11_toleranceFor_20 : decode cX11_toleranceFor 20 = .ok (.athrow, 1) := by decide +kernel
theorem dX11_toleranceFor_21 : decode cX11_toleranceFor 21 = .ok (.aload_n 0, 1) := by decide +kernel
theorem dX11_toleranceFor_22 : decode cX11_toleranceFor 22 = .ok (.getfield 23, 3) := by decide +kernel
theorem dX11_toleranceFor_25 : decode cX11_toleranceFor 25 = .ok (.getfield 102, 3) := by decide +kernel
theorem dX11_toleranceFor_28 : decode cX11_toleranceFor 28 = .ok (.iload_n 1, 1) := by decide +kernel
theorem dX11_toleranceFor_29 : decode cX11_toleranceFor 29 = .ok (.invokevirtual 234, 3) := by decide +kernel
theorem dX11_toleranceFor_32 : decode cX11_toleranceFor 32 = .ok (.ireturn, 1) := by decide +kernel
set_option maxRecDepth 20000 in
theorem ggX11_ahead_X11_isForecast : GoodIn wsX11_ahead wsX11_isForecast := goodIn_r _ [8] (by decide +kernel) (by decide +kernel)
set_option maxRecDepth 20000 in
theorem gX11_ahead_X11_isForecast : GoodIn wsX11_ahead (va_wsS RX11 237 yX11_isForecast wsX11_isForecast) := goodIn_app (goodIn_of _ (by decide +kernel)) ggX11_ahead_X11_isForecast
set_option maxRecDepth 20000 in
theorem ggX11_ahead_X7_become : GoodIn wsX11_ahead wsX7_become := goodIn_r _ [13, 14, 15, 16, 17, 18, 19, 20, 21, 22, 23, 24, 25, 26, 27, 28, 29, 30, 31, 32, 33, 34, 35, 36, 37, 38, 39, 40, 41, 42, 43, 44, 45, 46, 47, 48, 49, 50, 51, 52, 53, 54, 55, 56, 57, 58, 59, 60, 61, 62, 63, 64, 65, 66, 67, 68, 69, 70, 71, 72, 73, 74, 75, 76, 77, 78, 79, 80, 81, 82, 83, 84, 85, 86, 87, 164, 165, 166, 167, 168, 169, 170, 171, 172, 173, 174, 175, 176, 177, 178, 179, 180, 181, 182, 183, 184, 185, 186, 187, 188, 189, 190, 191, 192, 193, 194, 195, 196, 197, 198, 199, 200, 201, 202, 203, 204, 205, 206] (by decide +kernel) (by decide +kernel)
set_option maxRecDepth 20000 in
theorem gX11_ahead_X7_become : GoodIn wsX11_ahead (wsV RX11 74 RX7 yX7_become wsX7_become) := goodIn_app (goodIn_of _ (by decide +kernel)) ggX11_ahead_X7_become
set_option maxRecDepth 20000 in
theorem ggX11_ahead_X11_forecast : GoodIn wsX11_ahead wsX11_forecast := goodIn_r _ [91, 92, 3, 93, 94, 95, 96, 97, 98, 99, 12, 100, 15, 16, 14, 19, 17, 101, 102, 103, 40, 104, 48, 105, 106, 107, 108, 42, 43, 49, 109, 110, 111, 112, 52, 51, 45, 46, 50, 47, 113, 7, 114, 115, 116, 117, 23, 118, 36, 31, 28, 25, 26, 30, 119, 120, 121, 122, 27, 123, 124, 125, 126, 127, 128, 129, 130, 131, 132, 133, 79, 134, 81, 84, 83, 85, 135, 136, 137, 56, 138, 66, 139, 67, 140, 141, 142, 64, 65, 143, 144, 145, 146, 58, 59, 61, 62, 63, 147, 148, 149, 150, 151, 152, 153, 154, 155, 156, 157, 158, 159, 160, 161, 162, 163, 164, 165, 166, 167, 168, 169, 201, 202, 203, 204, 205, 206, 170, 171, 172, 173, 174, 175, 176, 177, 189, 190, 191, 192, 193, 194, 195, 196, 197, 198, 178, 179, 180, 181, 182, 183, 184, 185, 186, 187, 188] (by decide +kernel) (by decide +kernel)
set_option maxRecDepth 20000 in
theorem gX11_ahead_X11_forecast : GoodIn wsX11_ahead (wsV RX11 242 RX11 yX11_forecast wsX11_forecast) := goodIn_app (goodIn_of _ (by decide +kernel)) ggX11_ahead_X11_forecast
theorem dX11_ahead_0 : decode cX11_ahead 0 = .ok (.iload_n 1, 1) := by decide +kernel
theorem dX11_ahead_1 : decode cX11_ahead 1 = .ok (.ifCond .lt 17, 3) := by decide +kernel
theorem dX11_ahead_4 : decode cX11_ahead 4 = .ok (.iload_n 1, 1) := by decide +kernel
theorem dX11_ahead_5 : decode cX11_ahead 5 = .ok (.sipush 200, 3) := by decide +kernel
theorem dX11_ahead_8 : decode cX11_ahead 8 = .ok (.if_icmp .gt 10, 3) := by decide +kernel
theorem dX11_ahead_11 : decode cX11_ahead 11 = .ok (.iload_n 2, 1) := by decide +kernel
theorem dX11_ahead_12 : decode cX11_ahead 12 = .ok (.invokestatic 237, 3) := by decide +kernel
theorem dX11_ahead_15 : decode cX11_ahead 15 = .ok (.ifCond .ne 13, 3) := by decide +kernel
theorem dX11_ahead_18 : decode cX11_ahead 18 = .ok (.new 43, 3) := by decide +kernel
theorem dX11_ahead_21 : decode cX11_ahead 21 = .ok (.dup, 1) := by decide +kernel
theorem dX11_ahead_22 : decode cX11_ahead 22 = .ok (.ldc 240, 2) := by decide +kernel
theorem dX11_ahead_24 : decode cX11_ahead 24 = .ok (.invokespecial 47, 3) := by decide +kernel
theorem dX11_ahead_27 : decode cX11_ahead 27 = .ok (.athrow, 1) := by decide +kernel
theorem dX11_ahead_28 : decode cX11_ahead 28 = .ok (.aload_n 0, 1) := by decide +kernel
theorem dX11_ahead_29 : decode cX11_ahead 29 = .ok (.getfield 26, 3) := by decide +kernel
theorem dX11_ahead_32 : decode cX11_ahead 32 = .ok (.aload_n 0, 1) := by decide +kernel
theorem dX11_ahead_33 : decode cX11_ahead 33 = .ok (.getfield 23, 3) := by decide +kernel
theorem dX11_ahead_36 : decode cX11_ahead 36 = .ok (.invokevirtual 74, 3) := by decide +kernel
theorem dX11_ahead_39 : decode cX11_ahead 39 = .ok (.aload_n 0, 1) := by decide +kernel
theorem dX11_ahead_40 : decode cX11_ahead 40 = .ok (.iload_n 1, 1) := by decide +kernel
theorem dX11_ahead_41 : decode cX11_ahead 41 = .ok (.iload_n 2, 1) := by decide +kernel
theorem dX11_ahead_42 : decode cX11_ahead 42 = .ok (.invokevirtual 242, 3) := by decide +kernel
theorem dX11_ahead_45 : decode cX11_ahead 45 = .ok (.ireturn, 1) := by decide +kernel
set_option maxRecDepth 20000 in
theorem ggX11_outcome_X11_isRule : GoodIn wsX11_outcome wsX11_isRule := goodIn_r _ [8] (by decide +kernel) (by decide +kernel)
set_option maxRecDepth 20000 in
theorem gX11_outcome_X11_isRule : GoodIn wsX11_outcome (va_wsS RX11 187 yX11_isRule wsX11_isRule) := goodIn_app (goodIn_of _ (by decide +kernel)) ggX11_outcome_X11_isRule
set_option maxRecDepth 20000 in
theorem ggX11_outcome_X11_isTicks : GoodIn wsX11_outcome wsX11_isTicks := goodIn_r _ [11] (by decide +kernel) (by decide +kernel)
set_option maxRecDepth 20000 in
theorem gX11_outcome_X11_isTicks : GoodIn wsX11_outcome (va_wsS RX11 143 yX11_isTicks wsX11_isTicks) := goodIn_app (goodIn_of _ (by decide +kernel)) ggX11_outcome_X11_isTicks
set_option maxRecDepth 20000 in
theorem ggX11_outcome_X11_isForecast : GoodIn wsX11_outcome wsX11_isForecast := goodIn_r _ [14] (by decide +kernel) (by decide +kernel)
set_option maxRecDepth 20000 in
theorem gX11_outcome_X11_isForecast : GoodIn wsX11_outcome (va_wsS RX11 237 yX11_isForecast wsX11_isForecast) := goodIn_app (goodIn_of _ (by decide +kernel)) ggX11_outcome_X11_isForecast
set_option maxRecDepth 20000 in
theorem ggX11_outcome_X11_outcomeOf : GoodIn wsX11_outcome wsX11_outcomeOf := goodIn_r _ [18, 19, 20, 21, 22, 23, 24, 25, 26, 27, 28, 29, 30, 31, 32, 33, 34, 35, 36, 37, 38, 39, 40, 41, 42, 43, 44, 45, 46, 47, 48, 49, 50, 51, 52, 53, 54, 55, 56, 57, 58, 59, 60, 61, 62, 63, 64, 65, 66, 67, 68, 69, 70, 71, 72, 73, 74, 75, 76, 77, 78, 79, 80, 81, 82, 83, 84, 85, 86, 87, 88, 89, 90, 91, 92, 93, 94, 95, 96, 97, 98, 99, 100, 101, 102, 103, 104, 105, 106, 107, 108, 109, 110, 111, 112, 113, 114, 115, 116, 117, 118, 119, 120, 121, 122, 123, 124, 125, 126, 127, 128, 129, 130, 131, 132, 133, 134, 135, 136, 137, 138, 139, 140, 141, 142, 143, 144, 145, 146, 147, 148, 149, 150, 151, 152, 153, 154, 155, 156, 157, 158, 159, 160, 7, 161, 162, 163, 164, 165, 166, 167, 168, 169, 170, 171, 172, 173, 174, 175, 176, 177, 178, 179, 180, 181, 182, 183, 184, 185, 186, 187, 188, 189, 190, 191, 192, 193, 194, 195, 196, 197, 198, 199, 200, 201, 202, 203, 204, 205, 206, 207, 208, 209, 210, 211, 212, 213, 214, 215, 216, 217, 218, 219, 220, 221, 222, 223, 224, 225, 226, 227, 228, 229, 230, 231, 232, 233, 234, 235, 236, 237, 238, 239, 240, 241, 242, 243, 244, 245, 246, 247, 248, 249, 250, 251, 252, 253, 254, 255, 256, 257, 258, 259, 260, 261, 262, 263, 264, 265, 266, 267, 268, 269, 270, 271, 272, 273, 274, 275, 276, 277, 278, 279, 280, 281] (by decide +kernel) (by decide +kernel)
set_option maxRecDepth 20000 in
theorem gX11_outcome_X11_outcomeOf : GoodIn wsX11_outcome (wsV RX11 245 RX11 yX11_outcomeOf wsX11_outcomeOf) := goodIn_app (goodIn_of _ (by decide +kernel)) ggX11_outcome_X11_outcomeOf
theorem dX11_outcome_0 : decode cX11_outcome 0 = .ok (.iload_n 1, 1) := by decide +kernel
theorem dX11_outcome_1 : decode cX11_outcome 1 = .ok (.invokestatic 187, 3) := by decide +kernel
theorem dX11_outcome_4 : decode cX11_outcome 4 = .ok (.ifCond .ne 13, 3) := by decide +kernel
theorem dX11_outcome_7 : decode cX11_outcome 7 = .ok (.new 112, 3) := by decide +kernel
theorem dX11_outcome_10 : decode cX11_outcome 10 = .ok (.dup, 1) := by decide +kernel
theorem dX11_outcome_11 : decode cX11_outcome 11 = .ok (.ldc 190, 2) := by decide +kernel
theorem dX11_outcome_13 : decode cX11_outcome 13 = .ok (.invokespecial 116, 3) := by decide +kernel
theorem dX11_outcome_16 : decode cX11_outcome 16 = .ok (.athrow, 1) := by decide +kernel
theorem dX11_outcome_17 : decode cX11_outcome 17 = .ok (.iload_n 2, 1) := by decide +kernel
theorem dX11_outcome_18 : decode cX11_outcome 18 = .ok (.invokestatic 143, 3) := by decide +kernel
theorem dX11_outcome_21 : decode cX11_outcome 21 = .ok (.ifCond .eq 10, 3) := by decide +kernel
theorem dX11_outcome_24 : decode cX11_outcome 24 = .ok (.iload_n 3, 1) := by decide +kernel
theorem dX11_outcome_25 : decode cX11_outcome 25 = .ok (.invokestatic 237, 3) := by decide +kernel
theorem dX11_outcome_28 : decode cX11_outcome 28 = .ok (.ifCond .ne 13, 3) := by decide +kernel
theorem dX11_outcome_31 : decode cX11_outcome 31 = .ok (.new 43, 3) := by decide +kernel
theorem dX11_outcome_34 : decode cX11_outcome 34 = .ok (.dup, 1) := by decide +kernel
theorem dX11_outcome_35 : decode cX11_outcome 35 = .ok (.ldc 240, 2) := by decide +kernel
theorem dX11_outcome_37 : decode cX11_outcome 37 = .ok (.invokespecial 47, 3) := by decide +kernel
theorem dX11_outcome_40 : decode cX11_outcome 40 = .ok (.athrow, 1) := by decide +kernel
theorem dX11_outcome_41 : decode cX11_outcome 41 = .ok (.aload_n 0, 1) := by decide +kernel
theorem dX11_outcome_42 : decode cX11_outcome 42 = .ok (.iload_n 1, 1) := by decide +kernel
theorem dX11_outcome_43 : decode cX11_outcome 43 = .ok (.iload_n 2, 1) := by decide +kernel
theorem dX11_outcome_44 : decode cX11_outcome 44 = .ok (.iload_n 3, 1) := by decide +kernel
theorem dX11_outcome_45 : decode cX11_outcome 45 = .ok (.invokevirtual 245, 3) := by decide +kernel
theorem dX11_outcome_48 : decode cX11_outcome 48 = .ok (.ireturn, 1) := by decide +kernel
set_option maxRecDepth 20000 in
theorem ggX11_bestRule_X11_isTicks : GoodIn wsX11_bestRule wsX11_isTicks := goodIn_r _ [8] (by decide +kernel) (by decide +kernel)
set_option maxRecDepth 20000 in
theorem gX11_bestRule_X11_isTicks : GoodIn wsX11_bestRule (va_wsS RX11 143 yX11_isTicks wsX11_isTicks) := goodIn_app (goodIn_of _ (by decide +kernel)) ggX11_bestRule_X11_isTicks
set_option maxRecDepth 20000 in
theorem ggX11_bestRule_X7_goodCount : GoodIn wsX11_bestRule wsX7_goodCount := goodIn_r _ [13, 14, 15, 16, 17, 18, 19, 20, 21, 22, 23, 24, 25, 26, 27, 28, 29, 30, 31, 32, 33, 34, 35, 36, 37, 38, 39, 40, 41, 42, 231, 232, 233, 234, 235, 236, 237, 238, 239, 240, 241, 242, 243, 244, 245, 246, 247, 248, 249, 250, 251, 252, 253, 254, 255, 256, 257] (by decide +kernel) (by decide +kernel)
set_option maxRecDepth 20000 in
theorem gX11_bestRule_X7_goodCount : GoodIn wsX11_bestRule (wsV RX11 249 RX7 yX7_goodCount wsX7_goodCount) := goodIn_app (goodIn_of _ (by decide +kernel)) ggX11_bestRule_X7_goodCount
set_option maxRecDepth 20000 in
theorem ggX11_bestRule_X11_outcomeOf : GoodIn wsX11_bestRule wsX11_outcomeOf := goodIn_r _ [46, 3, 4, 47, 9, 10, 11, 12, 13, 14, 15, 16, 17, 18, 19, 20, 21, 22, 23, 24, 25, 26, 27, 28, 29, 30, 31, 32, 33, 34, 35, 36, 37, 38, 39, 40, 41, 42, 48, 49, 50, 51, 52, 53, 54, 55, 56, 57, 58, 59, 60, 61, 62, 63, 64, 65, 66, 67, 68, 69, 70, 71, 72, 73, 74, 75, 76, 77, 78, 79, 80, 81, 82, 83, 84, 85, 86, 87, 88, 89, 90, 91, 92, 93, 94, 95, 96, 97, 98, 99, 100, 101, 102, 103, 104, 105, 106, 107, 108, 109, 110, 111, 112, 113, 114, 115, 116, 117, 118, 119, 120, 121, 122, 123, 124, 125, 126, 127, 128, 129, 130, 131, 132, 133, 134, 135, 136, 137, 138, 139, 140, 141, 142, 143, 144, 145, 146, 147, 148, 149, 150, 151, 152, 7, 153, 154, 155, 156, 157, 158, 159, 160, 161, 162, 163, 164, 165, 166, 167, 168, 169, 170, 171, 172, 173, 174, 175, 176, 177, 178, 179, 180, 181, 182, 183, 184, 185, 186, 187, 188, 189, 190, 191, 192, 193, 194, 195, 196, 197, 198, 199, 200, 201, 202, 203, 204, 205, 206, 207, 208, 209, 210, 211, 212, 213, 214, 215, 216, 217, 218, 219, 220, 221, 222, 223, 224, 225, 226, 227, 228, 229, 230, 231, 232, 233, 234, 235, 236, 237, 238, 239, 240, 241, 242, 243, 244, 245, 246, 247, 248, 249, 250, 251, 252, 253, 254, 255, 256, 257, 258, 259, 260, 261, 262, 263, 264, 265, 266, 267, 268, 269, 270, 271, 272, 273] (by decide +kernel) (by decide +kernel)
set_option maxRecDepth 20000 in
theorem gX11_bestRule_X11_outcomeOf : GoodIn wsX11_bestRule (wsV RX11 245 RX11 yX11_outcomeOf wsX11_outcomeOf) := goodIn_app (goodIn_of _ (by decide +kernel)) ggX11_bestRule_X11_outcomeOf
theorem dX11_bestRule_0 : decode cX11_bestRule 0 = .ok (.iload_n 1, 1) := by decide +kernel
theorem dX11_bestRule_1 : decode cX11_bestRule 1 = .ok (.invokestatic 143, 3) := by decide +kernel
theorem dX11_bestRule_4 : decode cX11_bestRule 4 = .ok (.ifCond .ne 13, 3) := by decide +kernel
theorem dX11_bestRule_7 : decode cX11_bestRule 7 = .ok (.new 43, 3) := by decide +kernel
theorem dX11_bestRule_10 : decode cX11_bestRule 10 = .ok (.dup, 1) := by decide +kernel
theorem dX11_bestRule_11 : decode cX11_bestRule 11 = .ok (.ldc 146, 2) := by decide +kernel
theorem dX11_bestRule_13 : decode cX11_bestRule 13 = .ok (.invokespecial 47, 3) := by decide +kernel
theorem dX11_bestRule_16 : decode cX11_bestRule 16 = .ok (.athrow, 1) := by decide +kernel
theorem dX11_bestRule_17 : decode cX11_bestRule 17 = .ok (.aload_n 0, 1) := by decide +kernel
theorem dX11_bestRule_18 : decode cX11_bestRule 18 = .ok (.getfield 23, 3) := by decide +kernel
theorem dX11_bestRule_21 : decode cX11_bestRule 21 = .ok (.invokevirtual 249, 3) := by decide +kernel
theorem dX11_bestRule_24 : decode cX11_bestRule 24 = .ok (.ifCond .ne 6, 3) := by decide +kernel
theorem dX11_bestRule_27 : decode cX11_bestRule 27 = .ok (.ldc 71, 2) := by decide +kernel
theorem dX11_bestRule_29 : decode cX11_bestRule 29 = .ok (.ireturn, 1) := by decide +kernel
theorem dX11_bestRule_30 : decode cX11_bestRule 30 = .ok (.iconst 0, 1) := by decide +kernel
theorem dX11_bestRule_31 : decode cX11_bestRule 31 = .ok (.istore_n 2, 1) := by decide +kernel
theorem dX11_bestRule_32 : decode cX11_bestRule 32 = .ok (.aload_n 0, 1) := by decide +kernel
theorem dX11_bestRule_33 : decode cX11_bestRule 33 = .ok (.iconst 0, 1) := by decide +kernel
theorem dX11_bestRule_34 : decode cX11_bestRule 34 = .ok (.iload_n 1, 1) := by decide +kernel
theorem dX11_bestRule_35 : decode cX11_bestRule 35 = .ok (.iconst 4, 1) := by decide +kernel
theorem dX11_bestRule_36 : decode cX11_bestRule 36 = .ok (.invokevirtual 245, 3) := by decide +kernel
theorem dX11_bestRule_39 : decode cX11_bestRule 39 = .ok (.istore_n 3, 1) := by decide +kernel
theorem dX11_bestRule_40 : decode cX11_bestRule 40 = .ok (.iconst 1, 1) := by decide +kernel
theorem dX11_bestRule_41 : decode cX11_bestRule 41 = .ok (.istore 4, 2) := by decide +kernel
theorem dX11_bestRule_43 : decode cX11_bestRule 43 = .ok (.iload 4, 2) := by decide +kernel
theorem dX11_bestRule_45 : decode cX11_bestRule 45 = .ok (.iconst 4, 1) := by decide +kernel
theorem dX11_bestRule_46 : decode cX11_bestRule 46 = .ok (.if_icmp .ge 31, 3) := by decide +kernel
theorem dX11_bestRule_49 : decode cX11_bestRule 49 = .ok (.aload_n 0, 1) := by decide +kernel
theorem dX11_bestRule_50 : decode cX11_bestRule 50 = .ok (.iload 4, 2) := by decide +kernel
theorem dX11_bestRule_52 : decode cX11_bestRule 52 = .ok (.iload_n 1, 1) := by decide +kernel
theorem dX11_bestRule_53 : decode cX11_bestRule 53 = .ok (.iconst 4, 1) := by decide +kernel
theorem dX11_bestRule_54 : decode cX11_bestRule 54 = .ok (.invokevirtual 245, 3) := by decide +kernel
theorem dX11_bestRule_57 : decode cX11_bestRule 57 = .ok (.istore 5, 2) := by decide +kernel
theorem dX11_bestRule_59 : decode cX11_bestRule 59 = .ok (.iload 5, 2) := by decide +kernel
theorem dX11_bestRule_61 : decode cX11_bestRule 61 = .ok (.iload_n 3, 1) := by decide +kernel
theorem dX11_bestRule_62 : decode cX11_bestRule 62 = .ok (.if_icmp .ge 9, 3) := by decide +kernel
theorem dX11_bestRule_65 : decode cX11_bestRule 65 = .ok (.iload 4, 2) := by decide +kernel
theorem dX11_bestRule_67 : decode cX11_bestRule 67 = .ok (.istore_n 2, 1) := by decide +kernel
theorem dX11_bestRule_68 : decode cX11_bestRule 68 = .ok (.iload 5, 2) := by decide +kernel
theorem dX11_bestRule_70 : decode cX11_bestRule 70 = .ok (.istore_n 3, 1) := by decide +kernel
theorem dX11_bestRule_71 : decode cX11_bestRule 71 = .ok (.iinc 4 1, 3) := by decide +kernel
theorem dX11_bestRule_74 : decode cX11_bestRule 74 = .ok (.goto (-31), 3) := by decide +kernel
theorem dX11_bestRule_77 : decode cX11_bestRule 77 = .ok (.iload_n 2, 1) := by decide +kernel
theorem dX11_bestRule_78 : decode cX11_bestRule 78 = .ok (.ireturn, 1) := by decide +kernel
set_option maxRecDepth 20000 in
theorem ggX11_settlesAfter_X7_become : GoodIn wsX11_settlesAfter wsX7_become := goodIn_r _ [10, 11, 12, 13, 14, 15, 16, 17, 18, 19, 20, 21, 22, 23, 24, 25, 26, 27, 28, 29, 30, 31, 32, 33, 34, 35, 36, 37, 38, 39, 40, 41, 42, 43, 44, 45, 46, 47, 48, 49, 50, 51, 52, 53, 54, 55, 56, 57, 58, 59, 60, 61, 62, 63, 64, 65, 66, 67, 68, 69, 70, 71, 72, 73, 74, 75, 76, 77, 78, 79, 80, 81, 82, 83, 84, 156, 157, 158, 159, 160, 161, 162, 163, 164, 165, 166, 167, 168, 169, 170, 171, 172, 173, 174, 175, 176, 177, 178, 179, 180, 181, 182, 183, 184, 185, 186, 187, 188, 189, 190, 191, 192, 193, 194, 195, 196, 197, 198] (by decide +kernel) (by decide +kernel)
set_option maxRecDepth 20000 in
theorem gX11_settlesAfter_X7_become : GoodIn wsX11_settlesAfter (wsV RX11 74 RX7 yX7_become wsX7_become) := goodIn_app (goodIn_of _ (by decide +kernel)) ggX11_settlesAfter_X7_become
set_option maxRecDepth 20000 in
theorem ggX11_settlesAfter_X7_distance : GoodIn wsX11_settlesAfter wsX7_distance := goodIn_r _ [88, 13, 12, 89, 90, 91, 92, 156, 157, 158, 159, 160, 161, 170, 171, 172, 173, 174, 175, 176, 177, 178, 179, 180, 162, 163, 164, 165, 166, 167, 168, 169] (by decide +kernel) (by decide +kernel)
set_option maxRecDepth 20000 in
theorem gX11_settlesAfter_X7_distance : GoodIn wsX11_settlesAfter (wsV RX11 254 RX7 yX7_distance wsX7_distance) := goodIn_app (goodIn_of _ (by decide +kernel)) ggX11_settlesAfter_X7_distance
set_option maxRecDepth 20000 in
theorem ggX11_settlesAfter_X7_passOne : GoodIn wsX11_settlesAfter wsX7_passOne := goodIn_r _ [96, 12, 13, 11, 16, 14, 97, 98, 99, 37, 100, 45, 101, 102, 103, 104, 39, 40, 46, 105, 106, 107, 108, 49, 48, 42, 43, 47, 44, 109, 110, 111, 112, 113, 114, 20, 115, 33, 28, 25, 22, 23, 27, 116, 117, 118, 119, 24, 120, 121, 122, 123, 124, 125, 126, 127, 128, 129, 130, 76, 131, 78, 81, 80, 82, 132, 133, 134, 53, 135, 63, 136, 137, 91, 138, 64, 139, 140, 141, 61, 62, 142, 143, 144, 145, 55, 56, 58, 59, 60, 146, 147, 148, 149, 156, 157, 158, 159, 160, 161, 162, 163, 164, 165, 166, 167, 168, 169, 170, 171, 172, 173, 174, 175, 176, 177, 178, 179, 180, 193, 194, 195, 196, 197, 198, 181, 182, 183, 184, 185, 186, 187, 188, 189, 190] (by decide +kernel) (by decide +kernel)
set_option maxRecDepth 20000 in
theorem gX11_settlesAfter_X7_passOne : GoodIn wsX11_settlesAfter (wsV RX11 257 RX7 yX7_passOne wsX7_passOne) := goodIn_app (goodIn_of _ (by decide +kernel)) ggX11_settlesAfter_X7_passOne
theorem dX11_settlesAfter_0 : decode cX11_settlesAfter 0 = .ok (.iload_n 1, 1) := by decide +kernel
theorem dX11_settlesAfter_1 : decode cX11_settlesAfter 1 = .ok (.ifCond .lt 9, 3) := by decide +kernel
theorem dX11_settlesAfter_4 : decode cX11_settlesAfter 4 = .ok (.iload_n 1, 1) := by decide +kernel
theorem dX11_settlesAfter_5 : decode cX11_settlesAfter 5 = .ok (.bipush 99, 2) := by decide +kernel
theorem dX11_settlesAfter_7 : decode cX11_settlesAfter 7 = .ok (.if_icmp .le 13, 3) := by decide +kernel
theorem dX11_settlesAfter_10 : decode cX11_settlesAfter 10 = .ok (.new 43, 3) := by decide +kernel
theorem dX11_settlesAfter_13 : decode cX11_settlesAfter 13 = .ok (.dup, 1) := by decide +kernel
theorem dX11_settlesAfter_14 : decode cX11_settlesAfter 14 = .ok (.ldc 252, 2) := by decide +kernel
theorem dX11_settlesAfter_16 : decode cX11_settlesAfter 16 = .ok (.invokespecial 47, 3) := by decide +kernel
theorem dX11_settlesAfter_19 : decode cX11_settlesAfter 19 = .ok (.athrow, 1) := by decide +kernel
theorem dX11_settlesAfter_20 : decode cX11_settlesAfter 20 = .ok (.aload_n 0, 1) := by decide +kernel
theorem dX11_settlesAfter_21 : decode cX11_settlesAfter 21 = .ok (.getfield 26, 3) := by decide +kernel
theorem dX11_settlesAfter_24 : decode cX11_settlesAfter 24 = .ok (.aload_n 0, 1) := by decide +kernel
theorem dX11_settlesAfter_25 : decode cX11_settlesAfter 25 = .ok (.getfield 23, 3) := by decide +kernel
theorem dX11_settlesAfter_28 : decode cX11_settlesAfter 28 = .ok (.invokevirtual 74, 3) := by decide +kernel
theorem dX11_settlesAfter_31 : decode cX11_settlesAfter 31 = .ok (.aload_n 0, 1) := by decide +kernel
theorem dX11_settlesAfter_32 : decode cX11_settlesAfter 32 = .ok (.getfield 26, 3) := by decide +kernel
theorem dX11_settlesAfter_35 : decode cX11_settlesAfter 35 = .ok (.invokevirtual 254, 3) := by decide +kernel
theorem dX11_settlesAfter_38 : decode cX11_settlesAfter 38 = .ok (.iload_n 1, 1) := by decide +kernel
theorem dX11_settlesAfter_39 : decode cX11_settlesAfter 39 = .ok (.if_icmp .gt 7, 3) := by decide +kernel
theorem dX11_settlesAfter_42 : decode cX11_settlesAfter 42 = .ok (.iconst 0, 1) := by decide +kernel
theorem dX11_settlesAfter_43 : decode cX11_settlesAfter 43 = .ok (.goto 5, 3) := by decide +kernel
theorem dX11_settlesAfter_46 : decode cX11_settlesAfter 46 = .ok (.ldc 71, 2) := by decide +kernel
theorem dX11_settlesAfter_48 : decode cX11_settlesAfter 48 = .ok (.istore_n 2, 1) := by decide +kernel
theorem dX11_settlesAfter_49 : decode cX11_settlesAfter 49 = .ok (.iconst 1, 1) := by decide +kernel
theorem dX11_settlesAfter_50 : decode cX11_settlesAfter 50 = .ok (.istore_n 3, 1) := by decide +kernel
theorem dX11_settlesAfter_51 : decode cX11_settlesAfter 51 = .ok (.iload_n 3, 1) := by decide +kernel
theorem dX11_settlesAfter_52 : decode cX11_settlesAfter 52 = .ok (.sipush 200, 3) := by decide +kernel
theorem dX11_settlesAfter_55 : decode cX11_settlesAfter 55 = .ok (.if_icmp .gt 41, 3) := by decide +kernel
theorem dX11_settlesAfter_58 : decode cX11_settlesAfter 58 = .ok (.aload_n 0, 1) := by decide +kernel
theorem dX11_settlesAfter_59 : decode cX11_settlesAfter 59 = .ok (.getfield 26, 3) := by decide +kernel
theorem dX11_settlesAfter_62 : decode cX11_settlesAfter 62 = .ok (.invokevirtual 257, 3) := by decide +kernel
theorem dX11_settlesAfter_65 : decode cX11_settlesAfter 65 = .ok (.aload_n 0, 1) := by decide +kernel
theorem dX11_settlesAfter_66 : decode cX11_settlesAfter 66 = .ok (.getfield 26, 3) := by decide +kernel
theorem dX11_settlesAfter_69 : decode cX11_settlesAfter 69 = .ok (.invokevirtual 254, 3) := by decide +kernel
theorem dX11_settlesAfter_72 : decode cX11_settlesAfter 72 = .ok (.iload_n 1, 1) := by decide +kernel
theorem dX11_settlesAfter_73 : decode cX11_settlesAfter 73 = .ok (.if_icmp .le 9, 3) := by decide +kernel
theorem dX11_settlesAfter_76 : decode cX11_settlesAfter 76 = .ok (.ldc 71, 2) := by decide +kernel
theorem dX11_settlesAfter_78 : decode cX11_settlesAfter 78 = .ok (.istore_n 2, 1) := by decide +kernel
theorem dX11_settlesAfter_79 : decode cX11_settlesAfter 79 = .ok (.goto 11, 3) := by decide +kernel
theorem dX11_settlesAfter_82 : decode cX11_settlesAfter 82 = .ok (.iload_n 2, 1) := by decide +kernel
theorem dX11_settlesAfter_83 : decode cX11_settlesAfter 83 = .ok (.ldc 71, 2) := by decide +kernel
theorem dX11_settlesAfter_85 : decode cX11_settlesAfter 85 = .ok (.if_icmp .ne 5, 3) := by decide +kernel
theorem dX11_settlesAfter_88 : decode cX11_settlesAfter 88 = .ok (.iload_n 3, 1) := by decide +kernel
theorem dX11_settlesAfter_89 : decode cX11_settlesAfter 89 = .ok (.istore_n 2, 1) := by decide +kernel
theorem dX11_settlesAfter_90 : decode cX11_settlesAfter 90 = .ok (.iinc 3 1, 3) := by decide +kernel
theorem dX11_settlesAfter_93 : decode cX11_settlesAfter 93 = .ok (.goto (-42), 3) := by decide +kernel
theorem dX11_settlesAfter_96 : decode cX11_settlesAfter 96 = .ok (.iload_n 2, 1) := by decide +kernel
theorem dX11_settlesAfter_97 : decode cX11_settlesAfter 97 = .ok (.ireturn, 1) := by decide +kernel
set_option maxRecDepth 20000 in
theorem ggX11_runScript_X5_behind : GoodIn wsX11_runScript wsX5_behind := goodIn_r _ [10, 11] (by decide +kernel) (by decide +kernel)
set_option maxRecDepth 20000 in
theorem gX11_runScript_X5_behind : GoodIn wsX11_runScript (va_wsS RX11 262 yX5_behind wsX5_behind) := goodIn_app (goodIn_of _ (by decide +kernel)) ggX11_runScript_X5_behind
set_option maxRecDepth 20000 in
theorem ggX11_runScript_X7_become : GoodIn wsX11_runScript wsX7_become := goodIn_r _ [16, 17, 18, 19, 20, 21, 22, 23, 24, 25, 26, 27, 28, 29, 30, 31, 32, 33, 34, 35, 36, 37, 38, 39, 40, 41, 42, 43, 44, 45, 46, 47, 48, 49, 50, 51, 52, 53, 54, 55, 56, 57, 58, 59, 60, 61, 62, 63, 64, 65, 66, 67, 68, 69, 70, 71, 72, 73, 74, 75, 76, 77, 78, 79, 80, 81, 82, 83, 84, 85, 86, 87, 88, 89, 90, 278, 279, 280, 281, 282, 283, 284, 285, 286, 287, 288, 289, 290, 291, 292, 293, 294, 295, 296, 297, 298, 299, 300, 301, 302, 303, 304, 305, 306, 307, 308, 309, 310, 311, 312, 313, 314, 315, 316, 317, 318, 319, 320] (by decide +kernel) (by decide +kernel)
set_option maxRecDepth 20000 in
theorem gX11_runScript_X7_become : GoodIn wsX11_runScript (wsV RX11 74 RX7 yX7_become wsX7_become) := goodIn_app (goodIn_of _ (by decide +kernel)) ggX11_runScript_X7_become
set_option maxRecDepth 20000 in
theorem ggX11_runScript_X5_succeeds : GoodIn wsX11_runScript wsX5_succeeds := goodIn_r _ [93, 94, 95, 96, 15, 97, 98, 99, 100, 101, 102, 103, 104, 18, 19, 17, 22, 20, 105, 106, 107, 43, 108, 51, 109, 110, 111, 112, 45, 46, 52, 113, 114, 115, 116, 55, 54, 48, 49, 53, 50, 117, 118, 119, 120, 121, 26, 122, 39, 34, 31, 28, 29, 33, 123, 124, 125, 126, 30, 127, 128, 129, 130, 131, 132, 133, 134, 135, 136, 137, 82, 138, 84, 87, 86, 88, 139, 140, 141, 59, 142, 69, 143, 144, 145, 146, 70, 147, 148, 149, 67, 68, 150, 151, 152, 153, 61, 62, 64, 65, 66, 154, 155, 156, 157, 158, 159, 160, 161, 162, 163, 164, 165, 166, 167, 168, 169, 170, 171, 172, 173, 9, 174, 175, 176, 177, 178, 179, 180, 181, 182, 183, 184, 185, 186, 187, 188, 189, 190, 191, 192, 193, 194, 195, 196, 197, 47, 198, 199, 200, 201, 21, 202, 203, 204, 205, 206, 207, 208, 209, 210, 211, 212, 213, 214, 215, 216, 217, 218, 219, 220, 221, 222, 223, 224, 225, 226, 227, 228, 229, 230, 231, 74, 232, 76, 77, 233, 234, 235, 236, 237, 238, 239, 240, 241, 242, 243, 244, 245, 246, 247, 248, 249, 250, 251, 252, 253, 254, 255, 256, 257, 258, 259, 260, 261, 262, 263, 264, 265, 266, 267, 268, 269, 270, 271, 278, 279, 280, 281, 282, 283, 284, 285, 286, 287, 288, 289, 290, 291, 313, 314, 292, 293, 294, 295, 296, 297, 298, 299, 300, 301, 302, 315, 316, 317, 318, 319, 320, 303, 304, 305, 306, 307, 308, 309, 310, 311, 312] (by decide +kernel) (by decide +kernel)
set_option maxRecDepth 20000 in
theorem gX11_runScript_X5_succeeds : GoodIn wsX11_runScript (va_wsS RX11 272 yX5_succeeds wsX5_succeeds) := goodIn_app (goodIn_of _ (by decide +kernel)) ggX11_runScript_X5_succeeds
theorem dX11_runScript_0 : decode cX11_runScript 0 = .ok (.iload_n 1, 1) := by decide +kernel
theorem dX11_runScript_1 : decode cX11_runScript 1 = .ok (.iconst 1, 1) := by decide +kernel
theorem dX11_runScript_2 : decode cX11_runScript 2 = .ok (.if_icmp .lt 8, 3) := by decide +kernel
theorem dX11_runScript_5 : decode cX11_runScript 5 = .ok (.iload_n 1, 1) := by decide +kernel
theorem dX11_runScript_6 : decode cX11_runScript 6 = .ok (.iconst 3, 1) := by decide +kernel
theorem dX11_runScript_7 : decode cX11_runScript 7 = .ok (.if_icmp .le 14, 3) := by decide +kernel
theorem dX11_runScript_10 : decode cX11_runScript 10 = .ok (.new 43, 3) := by decide +kernel
theorem dX11_runScript_13 : decode cX11_runScript 13 = .ok (.dup, 1) := by decide +kernel
theorem dX11_runScript_14 : decode cX11_runScript 14 = .ok (.ldc_w 260, 3) := by decide +kernel
theorem dX11_runScript_17 : decode cX11_runScript 17 = .ok (.invokespecial 47, 3) := by decide +kernel
theorem dX11_runScript_20 : decode cX11_runScript 20 = .ok (.athrow, 1) := by decide +kernel
theorem dX11_runScript_21 : decode cX11_runScript 21 = .ok (.lload_n 2, 1) := by decide +kernel
theorem dX11_runScript_22 : decode cX11_runScript 22 = .ok (.lconst 0, 1) := by decide +kernel
theorem dX11_runScript_23 : decode cX11_runScript 23 = .ok (.lcmp, 1) := by decide +kernel
theorem dX11_runScript_24 : decode cX11_runScript 24 = .ok (.ifCond .lt 13, 3) := by decide +kernel
theorem dX11_runScript_27 : decode cX11_runScript 27 = .ok (.lload_n 2, 1) := by decide +kernel
theorem dX11_runScript_28 : decode cX11_runScript 28 = .ok (.iload_n 1, 1) := by decide +kernel
theorem dX11_runScript_29 : decode cX11_runScript 29 = .ok (.invokestatic 262, 3) := by decide +kernel
theorem dX11_runScript_32 : decode cX11_runScript 32 = .ok (.lconst 0, 1) := by decide +kernel
theorem dX11_runScript_33 : decode cX11_runScript 33 = .ok (.lcmp, 1) := by decide +kernel
theorem dX11_runScript_34 : decode cX11_runScript 34 = .ok (.ifCond .le 14, 3) := by decide +kernel
theorem dX11_runScript_37 : decode cX11_runScript 37 = .ok (.new 43, 3) := by decide +kernel
theorem dX11_runScript_40 : decode cX11_runScript 40 = .ok (.dup, 1) := by decide +kernel
theorem dX11_runScript_41 : decode cX11_runScript 41 = .ok (.ldc_w 268, 3) := by decide +kernel
theorem dX11_runScript_44 : decode cX11_runScript 44 = .ok (.invokespecial 47, 3) := by decide +kernel
theorem dX11_runScript_47 : decode cX11_runScript 47 = .ok (.athrow, 1) := by decide +kernel
theorem dX11_runScript_48 : decode cX11_runScript 48 = .ok (.aload_n 0, 1) := by decide +kernel
theorem dX11_runScript_49 : decode cX11_runScript 49 = .ok (.getfield 26, 3) := by decide +kernel
theorem dX11_runScript_52 : decode cX11_runScript 52 = .ok (.aload_n 0, 1) := by decide +kernel
theorem dX11_runScript_53 : decode cX11_runScript 53 = .ok (.getfield 23, 3) := by decide +kernel
theorem dX11_runScript_56 : decode cX11_runScript 56 = .ok (.invokevirtual 74, 3) := by decide +kernel
theorem dX11_runScript_59 : decode cX11_runScript 59 = .ok (.iconst 0, 1) := by decide +kernel
theorem dX11_runScript_60 : decode cX11_runScript 60 = .ok (.istore 4, 2) := by decide +kernel
theorem dX11_runScript_62 : decode cX11_runScript 62 = .ok (.iload 4, 2) := by decide +kernel
theorem dX11_runScript_64 : decode cX11_runScript 64 = .ok (.iload_n 1, 1) := by decide +kernel
theorem dX11_runScript_65 : decode cX11_runScript 65 = .ok (.if_icmp .ge 41, 3) := by decide +kernel
theorem dX11_runScript_68 : decode cX11_runScript 68 = .ok (.lload_n 2, 1) := by decide +kernel
theorem dX11_runScript_69 : decode cX11_runScript 69 = .ok (.iload_n 1, 1) := by decide +kernel
theorem dX11_runScript_70 : decode cX11_runScript 70 = .ok (.iconst 1, 1) := by decide +kernel
theorem dX11_runScript_71 : decode cX11_runScript 71 = .ok (.isub, 1) := by decide +kernel
theorem dX11_runScript_72 : decode cX11_runScript 72 = .ok (.iload 4, 2) := by decide +kernel
theorem dX11_runScript_74 : decode cX11_runScript 74 = .ok (.isub, 1) := by decide +kernel
theorem dX11_runScript_75 : decode cX11_runScript 75 = .ok (.invokestatic 262, 3) := by decide +kernel
theorem dX11_runScript_78 : decode cX11_runScript 78 = .ok (.ldc2_w 270, 3) := by decide +kernel
theorem dX11_runScript_81 : decode cX11_runScript 81 = .ok (.lrem, 1) := by decide +kernel
theorem dX11_runScript_82 : decode cX11_runScript 82 = .ok (.l2i, 1) := by decide +kernel
theorem dX11_runScript_83 : decode cX11_runScript 83 = .ok (.istore 5, 2) := by decide +kernel
theorem dX11_runScript_85 : decode cX11_runScript 85 = .ok (.aload_n 0, 1) := by decide +kernel
theorem dX11_runScript_86 : decode cX11_runScript 86 = .ok (.getfield 26, 3) := by decide +kernel
theorem dX11_runScript_89 : decode cX11_runScript 89 = .ok (.iload 5, 2) := by decide +kernel
theorem dX11_runScript_91 : decode cX11_runScript 91 = .ok (.invokestatic 272, 3) := by decide +kernel
theorem dX11_runScript_94 : decode cX11_runScript 94 = .ok (.ifCond .ne 6, 3) := by decide +kernel
theorem dX11_runScript_97 : decode cX11_runScript 97 = .ok (.iload 4, 2) := by decide +kernel
theorem dX11_runScript_99 : decode cX11_runScript 99 = .ok (.ireturn, 1) := by decide +kernel
theorem dX11_runScript_100 : decode cX11_runScript 100 = .ok (.iinc 4 1, 3) := by decide +kernel
theorem dX11_runScript_103 : decode cX11_runScript 103 = .ok (.goto (-41), 3) := by decide +kernel
theorem dX11_runScript_106 : decode cX11_runScript 106 = .ok (.ldc 71, 2) := by decide +kernel
theorem dX11_runScript_108 : decode cX11_runScript 108 = .ok (.ireturn, 1) := by decide +kernel
set_option maxRecDepth 20000 in
theorem ggX11_simulate_X7_become : GoodIn wsX11_simulate wsX7_become := goodIn_r _ [12, 13, 14, 15, 16, 17, 18, 19, 20, 21, 22, 23, 24, 25, 26, 27, 28, 29, 30, 31, 32, 33, 34, 35, 36, 37, 38, 39, 40, 41, 42, 43, 44, 45, 46, 47, 48, 49, 50, 51, 52, 53, 54, 55, 56, 57, 58, 59, 60, 61, 62, 63, 64, 65, 66, 67, 68, 69, 70, 71, 72, 73, 74, 75, 76, 77, 78, 79, 80, 81, 82, 83, 84, 85, 86, 189, 190, 191, 192, 193, 194, 195, 196, 197, 198, 199, 200, 201, 202, 203, 204, 205, 206, 207, 208, 209, 210, 211, 212, 213, 214, 215, 216, 217, 218, 219, 220, 221, 222, 223, 224, 225, 226, 227, 228, 229, 230, 231] (by decide +kernel) (by decide +kernel)
set_option maxRecDepth 20000 in
theorem gX11_simulate_X7_become : GoodIn wsX11_simulate (wsV RX11 74 RX7 yX7_become wsX7_become) := goodIn_app (goodIn_of _ (by decide +kernel)) ggX11_simulate_X7_become
set_option maxRecDepth 20000 in
theorem ggX11_simulate_X7_push : GoodIn wsX11_simulate wsX7_push := goodIn_r _ [90, 14, 18, 91, 92, 93, 94, 95, 96, 22, 97, 29, 98, 99, 189, 190, 191, 192, 193, 194, 226, 227, 228, 229, 230, 231, 195, 196, 197, 198, 199, 200, 201, 202] (by decide +kernel) (by decide +kernel)
set_option maxRecDepth 20000 in
theorem gX11_simulate_X7_push : GoodIn wsX11_simulate (wsV RX11 180 RX7 yX7_push wsX7_push) := goodIn_app (goodIn_of _ (by decide +kernel)) ggX11_simulate_X7_push
set_option maxRecDepth 20000 in
theorem ggX11_simulate_X7_pass : GoodIn wsX11_simulate wsX7_pass := goodIn_r _ [103, 104, 92, 105, 106, 107, 108, 11, 109, 14, 15, 13, 18, 16, 110, 111, 112, 39, 113, 47, 114, 115, 116, 117, 41, 42, 48, 118, 119, 120, 121, 51, 50, 44, 45, 49, 46, 98, 99, 122, 123, 124, 22, 125, 35, 30, 27, 24, 25, 29, 126, 127, 128, 129, 26, 130, 131, 132, 133, 134, 95, 96, 97, 135, 136, 137, 78, 138, 80, 83, 82, 84, 139, 140, 141, 55, 142, 65, 143, 144, 145, 146, 66, 147, 148, 149, 63, 64, 150, 151, 152, 153, 57, 58, 60, 61, 62, 154, 155, 156, 157, 189, 190, 191, 192, 193, 194, 195, 196, 197, 198, 199, 200, 201, 202, 203, 204, 205, 206, 207, 208, 209, 210, 211, 212, 213, 226, 227, 228, 229, 230, 231, 214, 215, 216, 217, 218, 219, 220, 221, 222, 223] (by decide +kernel) (by decide +kernel)
set_option maxRecDepth 20000 in
theorem gX11_simulate_X7_pass : GoodIn wsX11_simulate (wsV RX11 151 RX7 yX7_pass wsX7_pass) := goodIn_app (goodIn_of _ (by decide +kernel)) ggX11_simulate_X7_pass
set_option maxRecDepth 20000 in
theorem ggX11_simulate_X7_goodCount : GoodIn wsX11_simulate wsX7_goodCount := goodIn_r _ [161, 16, 15, 162, 163, 164, 55, 165, 166, 167, 168, 169, 57, 60, 61, 58, 170, 171, 172, 173, 174, 175, 176, 177, 178, 179, 180, 181, 145, 182, 189, 190, 191, 192, 193, 194, 203, 204, 205, 206, 207, 208, 209, 210, 211, 212, 213, 214, 215, 216, 217, 218, 219, 220, 221, 222, 223] (by decide +kernel) (by decide +kernel)
set_option maxRecDepth 20000 in
theorem gX11_simulate_X7_goodCount : GoodIn wsX11_simulate (wsV RX11 249 RX7 yX7_goodCount wsX7_goodCount) := goodIn_app (goodIn_of _ (by decide +kernel)) ggX11_simulate_X7_goodCount
theorem dX11_simulate_0 : decode cX11_simulate 0 = .ok (.iload_n 3, 1) := by decide +kernel
theorem dX11_simulate_1 : decode cX11_simulate 1 = .ok (.iconst 1, 1) := by decide +kernel
theorem dX11_simulate_2 : decode cX11_simulate 2 = .ok (.if_icmp .lt 9, 3) := by decide +kernel
theorem dX11_simulate_5 : decode cX11_simulate 5 = .ok (.iload_n 3, 1) := by decide +kernel
theorem dX11_simulate_6 : decode cX11_simulate 6 = .ok (.bipush 60, 2) := by decide +kernel
theorem dX11_simulate_8 : decode cX11_simulate 8 = .ok (.if_icmp .le 14, 3) := by decide +kernel
theorem dX11_simulate_11 : decode cX11_simulate 11 = .ok (.new 43, 3) := by decide +kernel
theorem dX11_simulate_14 : decode cX11_simulate 14 = .ok (.dup, 1) := by decide +kernel
theorem dX11_simulate_15 : decode cX11_simulate 15 = .ok (.ldc_w 276, 3) := by decide +kernel
theorem dX11_simulate_18 : decode cX11_simulate 18 = .ok (.invokespecial 47, 3) := by decide +kernel
theorem dX11_simulate_21 : decode cX11_simulate 21 = .ok (.athrow, 1) := by decide +kernel
theorem dX11_simulate_22 : decode cX11_simulate 22 = .ok (.aload_n 0, 1) := by decide +kernel
theorem dX11_simulate_23 : decode cX11_simulate 23 = .ok (.getfield 26, 3) := by decide +kernel
theorem dX11_simulate_26 : decode cX11_simulate 26 = .ok (.aload_n 0, 1) := by decide +kernel
theorem dX11_simulate_27 : decode cX11_simulate 27 = .ok (.getfield 23, 3) := by decide +kernel
theorem dX11_simulate_30 : decode cX11_simulate 30 = .ok (.invokevirtual 74, 3) := by decide +kernel
theorem dX11_simulate_33 : decode cX11_simulate 33 = .ok (.lload_n 1, 1) := by decide +kernel
theorem dX11_simulate_34 : decode cX11_simulate 34 = .ok (.lstore 4, 2) := by decide +kernel
theorem dX11_simulate_36 : decode cX11_simulate 36 = .ok (.iconst 0, 1) := by decide +kernel
theorem dX11_simulate_37 : decode cX11_simulate 37 = .ok (.istore 6, 2) := by decide +kernel
theorem dX11_simulate_39 : decode cX11_simulate 39 = .ok (.iload 6, 2) := by decide +kernel
theorem dX11_simulate_41 : decode cX11_simulate 41 = .ok (.iload_n 3, 1) := by decide +kernel
theorem dX11_simulate_42 : decode cX11_simulate 42 = .ok (.if_icmp .ge 65, 3) := by decide +kernel
theorem dX11_simulate_45 : decode cX11_simulate 45 = .ok (.lload 4, 2) := by decide +kernel
theorem dX11_simulate_47 : decode cX11_simulate 47 = .ok (.ldc2_w 278, 3) := by decide +kernel
theorem dX11_simulate_50 : decode cX11_simulate 50 = .ok (.lmul, 1) := by decide +kernel
theorem dX11_simulate_51 : decode cX11_simulate 51 = .ok (.ldc2_w 280, 3) := by decide +kernel
theorem dX11_simulate_54 : decode cX11_simulate 54 = .ok (.ladd, 1) := by decide +kernel
theorem dX11_simulate_55 : decode cX11_simulate 55 = .ok (.lstore 4, 2) := by decide +kernel
theorem dX11_simulate_57 : decode cX11_simulate 57 = .ok (.lload 4, 2) := by decide +kernel
theorem dX11_simulate_59 : decode cX11_simulate 59 = .ok (.bipush 33, 2) := by decide +kernel
theorem dX11_simulate_61 : decode cX11_simulate 61 = .ok (.lushr, 1) := by decide +kernel
theorem dX11_simulate_62 : decode cX11_simulate 62 = .ok (.l2i, 1) := by decide +kernel
theorem dX11_simulate_63 : decode cX11_simulate 63 = .ok (.istore 7, 2) := by decide +kernel
theorem dX11_simulate_65 : decode cX11_simulate 65 = .ok (.iload 7, 2) := by decide +kernel
theorem dX11_simulate_67 : decode cX11_simulate 67 = .ok (.bipush 8, 2) := by decide +kernel
theorem dX11_simulate_69 : decode cX11_simulate 69 = .ok (.irem, 1) := by decide +kernel
theorem dX11_simulate_70 : decode cX11_simulate 70 = .ok (.ifCond .ne 22, 3) := by decide +kernel
theorem dX11_simulate_73 : decode cX11_simulate 73 = .ok (.aload_n 0, 1) := by decide +kernel
theorem dX11_simulate_74 : decode cX11_simulate 74 = .ok (.getfield 26, 3) := by decide +kernel
theorem dX11_simulate_77 : decode cX11_simulate 77 = .ok (.iload 7, 2) := by decide +kernel
theorem dX11_simulate_79 : decode cX11_simulate 79 = .ok (.bipush 8, 2) := by decide +kernel
theorem dX11_simulate_81 : decode cX11_simulate 81 = .ok (.idiv, 1) := by decide +kernel
theorem dX11_simulate_82 : decode cX11_simulate 82 = .ok (.bipush 81, 2) := by decide +kernel
theorem dX11_simulate_84 : decode cX11_simulate 84 = .ok (.irem, 1) := by decide +kernel
theorem dX11_simulate_85 : decode cX11_simulate 85 = .ok (.bipush 40, 2) := by decide +kernel
theorem dX11_simulate_87 : decode cX11_simulate 87 = .ok (.isub, 1) := by decide +kernel
theorem dX11_simulate_88 : decode cX11_simulate 88 = .ok (.invokevirtual 180, 3) := by decide +kernel
theorem dX11_simulate_91 : decode cX11_simulate 91 = .ok (.pop, 1) := by decide +kernel
theorem dX11_simulate_92 : decode cX11_simulate 92 = .ok (.aload_n 0, 1) := by decide +kernel
theorem dX11_simulate_93 : decode cX11_simulate 93 = .ok (.getfield 26, 3) := by decide +kernel
theorem dX11_simulate_96 : decode cX11_simulate 96 = .ok (.iconst 3, 1) := by decide +kernel
theorem dX11_simulate_97 : decode cX11_simulate 97 = .ok (.invokevirtual 151, 3) := by decide +kernel
theorem dX11_simulate_100 : decode cX11_simulate 100 = .ok (.pop, 1) := by decide +kernel
theorem dX11_simulate_101 : decode cX11_simulate 101 = .ok (.iinc 6 1, 3) := by decide +kernel
theorem dX11_simulate_104 : decode cX11_simulate 104 = .ok (.goto (-65), 3) := by decide +kernel
theorem dX11_simulate_107 : decode cX11_simulate 107 = .ok (.ldc_w 282, 3) := by decide +kernel
theorem dX11_simulate_110 : decode cX11_simulate 110 = .ok (.aload_n 0, 1) := by decide +kernel
theorem dX11_simulate_111 : decode cX11_simulate 111 = .ok (.getfield 26, 3) := by decide +kernel
theorem dX11_simulate_114 : decode cX11_simulate 114 = .ok (.invokevirtual 249, 3) := by decide +kernel
theorem dX11_simulate_117 : decode cX11_simulate 117 = .ok (.imul, 1) := by decide +kernel
theorem dX11_simulate_118 : decode cX11_simulate 118 = .ok (.aload_n 0, 1) := by decide +kernel
theorem dX11_simulate_119 : decode cX11_simulate 119 = .ok (.getfield 26, 3) := by decide +kernel
theorem dX11_simulate_122 : decode cX11_simulate 122 = .ok (.getfield 87, 3) := by decide +kernel
theorem dX11_simulate_125 : decode cX11_simulate 125 = .ok (.getfield 91, 3) := by decide +kernel
theorem dX11_simulate_128 : decode cX11_simulate 128 = .ok (.iadd, 1) := by decide +kernel
theorem dX11_simulate_129 : decode cX11_simulate 129 = .ok (.ireturn, 1) := by decide +kernel
set_option maxRecDepth 20000 in
theorem ggX11_save_X11_isSlot : GoodIn wsX11_save wsX11_isSlot := goodIn_r _ [8] (by decide +kernel) (by decide +kernel)
set_option maxRecDepth 20000 in
theorem gX11_save_X11_isSlot : GoodIn wsX11_save (va_wsS RX11 283 yX11_isSlot wsX11_isSlot) := goodIn_app (goodIn_of _ (by decide +kernel)) ggX11_save_X11_isSlot
set_option maxRecDepth 20000 in
theorem ggX11_save_X6_keep : GoodIn wsX11_save wsX6_keep := goodIn_r _ [13, 14, 15, 6, 7, 8, 16, 17, 18, 19, 20, 21, 22, 23, 24, 25, 26, 27, 28, 29, 30, 31, 32, 33, 34, 35, 36, 37, 38, 39, 40, 41, 42, 43, 44, 45, 46, 47, 48, 49, 50, 51, 52, 53, 54, 55, 56, 57, 58, 59, 60, 61, 62, 63, 64, 65, 66, 67, 68, 69, 70, 71, 72, 73, 74, 75, 76, 77, 78, 79, 80, 81, 82, 83, 84, 85, 86, 87, 88, 89, 90, 91, 92, 93, 94, 107, 108, 101, 102, 103, 104, 105, 106, 109, 110, 111, 112, 113, 114, 115, 116, 117, 118, 119, 120, 121, 122, 123, 124, 125, 126, 127, 128, 129, 130, 131, 132, 133, 134, 135, 136, 137, 138, 139, 140, 141, 142, 143, 144, 145] (by decide +kernel) (by decide +kernel)
set_option maxRecDepth 20000 in
theorem gX11_save_X6_keep : GoodIn wsX11_save (wsV RX11 288 RX6 yX6_keep wsX6_keep) := goodIn_app (goodIn_of _ (by decide +kernel)) ggX11_save_X6_keep
theorem dX11_save_0 : decode cX11_save 0 = .ok (.iload_n 1, 1) := by decide +kernel
theorem dX11_save_1 : decode cX11_save 1 = .ok (.invokestatic 283, 3) := by decide +kernel
theorem dX11_save_4 : decode cX11_save 4 = .ok (.ifCond .ne 14, 3) := by decide +kernel
theorem dX11_save_7 : decode cX11_save 7 = .ok (.new 112, 3) := by decide +kernel
theorem dX11_save_10 : decode cX11_save 10 = .ok (.dup, 1) := by decide +kernel
theorem dX11_save_11 : decode cX11_save 11 = .ok (.ldc_w 286, 3) := by decide +kernel
theorem dX11_save_14 : decode cX11_save 14 = .ok (.invokespecial 116, 3) := by decide +kernel
theorem dX11_save_17 : decode cX11_save 17 = .ok (.athrow, 1) := by decide +kernel
theorem dX11_save_18 : decode cX11_save 18 = .ok (.aload_n 0, 1) := by decide +kernel
theorem dX11_save_19 : decode cX11_save 19 = .ok (.getfield 39, 3) := by decide +kernel
theorem dX11_save_22 : decode cX11_save 22 = .ok (.iload_n 1, 1) := by decide +kernel
theorem dX11_save_23 : decode cX11_save 23 = .ok (.aload_n 0, 1) := by decide +kernel
theorem dX11_save_24 : decode cX11_save 24 = .ok (.getfield 23, 3) := by decide +kernel
theorem dX11_save_27 : decode cX11_save 27 = .ok (.invokevirtual 288, 3) := by decide +kernel
theorem dX11_save_30 : decode cX11_save 30 = .ok (.aload_n 0, 1) := by decide +kernel
theorem dX11_save_31 : decode cX11_save 31 = .ok (.getfield 23, 3) := by decide +kernel
theorem dX11_save_34 : decode cX11_save 34 = .ok (.getfield 292, 3) := by decide +kernel
theorem dX11_save_37 : decode cX11_save 37 = .ok (.ireturn, 1) := by decide +kernel
set_option maxRecDepth 20000 in
theorem ggX11_restore_X11_isSlot : GoodIn wsX11_restore wsX11_isSlot := goodIn_r _ [11] (by decide +kernel) (by decide +kernel)
set_option maxRecDepth 20000 in
theorem gX11_restore_X11_isSlot : GoodIn wsX11_restore (va_wsS RX11 283 yX11_isSlot wsX11_isSlot) := goodIn_app (goodIn_of _ (by decide +kernel)) ggX11_restore_X11_isSlot
set_option maxRecDepth 20000 in
theorem ggX11_restore_X6_isFilled : GoodIn wsX11_restore wsX6_isFilled := goodIn_r _ [16, 17, 9, 10, 11, 121, 122] (by decide +kernel) (by decide +kernel)
set_option maxRecDepth 20000 in
theorem gX11_restore_X6_isFilled : GoodIn wsX11_restore (wsV RX11 295 RX6 yX6_isFilled wsX6_isFilled) := goodIn_app (goodIn_of _ (by decide +kernel)) ggX11_restore_X6_isFilled
set_option maxRecDepth 20000 in
theorem ggX11_restore_X6_giveTo : GoodIn wsX11_restore wsX6_giveTo := goodIn_r _ [21, 22, 23, 13, 14, 15, 16, 17, 9, 10, 11, 24, 25, 26, 27, 28, 29, 30, 31, 32, 33, 34, 35, 36, 37, 38, 39, 40, 41, 42, 43, 44, 45, 46, 47, 48, 49, 50, 51, 52, 53, 54, 55, 56, 57, 58, 59, 60, 61, 62, 63, 64, 65, 66, 67, 68, 69, 70, 71, 72, 73, 74, 75, 76, 77, 78, 79, 80, 81, 82, 83, 84, 85, 86, 87, 88, 89, 90, 91, 92, 93, 94, 95, 96, 97, 98, 99, 100, 101, 102, 121, 122, 115, 116, 117, 118, 119, 120, 123, 124, 125, 126, 127, 128, 129, 130, 131, 132, 133, 134, 135, 136, 137, 138, 139, 140, 141, 142, 143, 144, 145, 146, 147, 148, 149, 150, 151, 152, 153, 154, 155, 156, 157, 158, 159] (by decide +kernel) (by decide +kernel)
set_option maxRecDepth 20000 in
theorem gX11_restore_X6_giveTo : GoodIn wsX11_restore (wsV RX11 300 RX6 yX6_giveTo wsX6_giveTo) := goodIn_app (goodIn_of _ (by decide +kernel)) ggX11_restore_X6_giveTo
set_option maxRecDepth 20000 in
theorem ggX11_restore_X2_forget : GoodIn wsX11_restore wsX2_forget := goodIn_r _ [107, 108, 160, 161] (by decide +kernel) (by decide +kernel)
set_option maxRecDepth 20000 in
theorem gX11_restore_X2_forget : GoodIn wsX11_restore (wsV RX11 81 RX2 yX2_forget wsX2_forget) := goodIn_app (goodIn_of _ (by decide +kernel)) ggX11_restore_X2_forget
theorem dX11_restore_0 : decode cX11_restore 0 = .ok (.iload_n 1, 1) := by decide +kernel
theorem dX11_restore_1 : decode cX11_restore 1 = .ok (.invokestatic 283, 3) := by decide +kernel
theorem dX11_restore_4 : decode cX11_restore 4 = .ok (.ifCond .ne 14, 3) := by decide +kernel
theorem dX11_restore_7 : decode cX11_restore 7 = .ok (.new 112, 3) := by decide +kernel
theorem dX11_restore_10 : decode cX11_restore 10 = .ok (.dup, 1) := by decide +kernel
theorem dX11_restore_11 : decode cX11_restore 11 = .ok (.ldc_w 286, 3) := by decide +kernel
theorem dX11_restore_14 : decode cX11_restore 14 = .ok (.invokespecial 116, 3) := by decide +kernel
theorem dX11_restore_17 : decode cX11_restore 17 = .ok (.athrow, 1) := by decide +kernel
theorem dX11_restore_18 : decode cX11_restore 18 = .ok (.aload_n 0, 1) := by decide +kernel
theorem dX11_restore_19 : decode cX11_restore 19 = .ok (.getfield 39, 3) := by decide +kernel
theorem dX11_restore_22 : decode cX11_restore 22 = .ok (.iload_n 1, 1) := by decide +kernel
theorem dX11_restore_23 : decode cX11_restore 23 = .ok (.invokevirtual 295, 3) := by decide +kernel
theorem dX11_restore_26 : decode cX11_restore 26 = .ok (.ifCond .ne 14, 3) := by decide +kernel
theorem dX11_restore_29 : decode cX11_restore 29 = .ok (.new 54, 3) := by decide +kernel
theorem dX11_restore_32 : decode cX11_restore 32 = .ok (.dup, 1) := by decide +kernel
theorem dX11_restore_33 : decode cX11_restore 33 = .ok (.ldc_w 298, 3) := by decide +kernel
theorem dX11_restore_36 : decode cX11_restore 36 = .ok (.invokespecial 58, 3) := by decide +kernel
theorem dX11_restore_39 : decode cX11_restore 39 = .ok (.athrow, 1) := by decide +kernel
theorem dX11_restore_40 : decode cX11_restore 40 = .ok (.aload_n 0, 1) := by decide +kernel
theorem dX11_restore_41 : decode cX11_restore 41 = .ok (.getfield 39, 3) := by decide +kernel
theorem dX11_restore_44 : decode cX11_restore 44 = .ok (.iload_n 1, 1) := by decide +kernel
theorem dX11_restore_45 : decode cX11_restore 45 = .ok (.aload_n 0, 1) := by decide +kernel
theorem dX11_restore_46 : decode cX11_restore 46 = .ok (.getfield 23, 3) := by decide +kernel
theorem dX11_restore_49 : decode cX11_restore 49 = .ok (.invokevirtual 300, 3) := by decide +kernel
theorem dX11_restore_52 : decode cX11_restore 52 = .ok (.aload_n 0, 1) := by decide +kernel
theorem dX11_restore_53 : decode cX11_restore 53 = .ok (.getfield 32, 3) := by decide +kernel
theorem dX11_restore_56 : decode cX11_restore 56 = .ok (.invokevirtual 81, 3) := by decide +kernel
theorem dX11_restore_59 : decode cX11_restore 59 = .ok (.aload_n 0, 1) := by decide +kernel
theorem dX11_restore_60 : decode cX11_restore 60 = .ok (.getfield 23, 3) := by decide +kernel
theorem dX11_restore_63 : decode cX11_restore 63 = .ok (.getfield 292, 3) := by decide +kernel
theorem dX11_restore_66 : decode cX11_restore 66 = .ok (.ireturn, 1) := by decide +kernel
theorem dX11_isTicks_0 : decode cX11_isTicks 0 = .ok (.iload_n 0, 1) := by decide +kernel
theorem dX11_isTicks_1 : decode cX11_isTicks 1 = .ok (.iconst 1, 1) := by decide +kernel
theorem dX11_isTicks_2 : decode cX11_isTicks 2 = .ok (.if_icmp .lt 14, 3) := by decide +kernel
theorem dX11_isTicks_5 : decode cX11_isTicks 5 = .ok (.iload_n 0, 1) := by decide +kernel
theorem dX11_isTicks_6 : decode cX11_isTicks 6 = .ok (.sipush 200, 3) := by decide +kernel
theorem dX11_isTicks_9 : decode cX11_isTicks 9 = .ok (.if_icmp .gt 7, 3) := by decide +kernel
theorem dX11_isTicks_12 : decode cX11_isTicks 12 = .ok (.iconst 1, 1) := by decide +kernel
theorem dX11_isTicks_13 : decode cX11_isTicks 13 = .ok (.goto 4, 3) := by decide +kernel
theorem dX11_isTicks_16 : decode cX11_isTicks 16 = .ok (.iconst 0, 1) := by decide +kernel
theorem dX11_isTicks_17 : decode cX11_isTicks 17 = .ok (.ireturn, 1) := by decide +kernel
theorem dX11_isMode_0 : decode cX11_isMode 0 = .ok (.iload_n 0, 1) := by decide +kernel
theorem dX11_isMode_1 : decode cX11_isMode 1 = .ok (.ifCond .lt 12, 3) := by decide +kernel
theorem dX11_isMode_4 : decode cX11_isMode 4 = .ok (.iload_n 0, 1) := by decide +kernel
theorem dX11_isMode_5 : decode cX11_isMode 5 = .ok (.iconst 2, 1) := by decide +kernel
theorem dX11_isMode_6 : decode cX11_isMode 6 = .ok (.if_icmp .gt 7, 3) := by decide +kernel
theorem dX11_isMode_9 : decode cX11_isMode 9 = .ok (.iconst 1, 1) := by decide +kernel
theorem dX11_isMode_10 : decode cX11_isMode 10 = .ok (.goto 4, 3) := by decide +kernel
theorem dX11_isMode_13 : decode cX11_isMode 13 = .ok (.iconst 0, 1) := by decide +kernel
theorem dX11_isMode_14 : decode cX11_isMode 14 = .ok (.ireturn, 1) := by decide +kernel
set_option maxRecDepth 20000 in
theorem ggX11_isSetting_X1_most : GoodIn wsX11_isSetting wsX1_most := goodIn_r _ [4] (by decide +kernel) (by decide +kernel)
set_option maxRecDepth 20000 in
theorem gX11_isSetting_X1_most : GoodIn wsX11_isSetting (va_wsS RX11 303 yX1_most wsX1_most) := goodIn_app (goodIn_of _ (by decide +kernel)) ggX11_isSetting_X1_most
theorem dX11_isSetting_0 : decode cX11_isSetting 0 = .ok (.iload_n 0, 1) := by decide +kernel
theorem dX11_isSetting_1 : decode cX11_isSetting 1 = .ok (.iconst 5, 1) := by decide +kernel
theorem dX11_isSetting_2 : decode cX11_isSetting 2 = .ok (.if_icmp .lt 25, 3) := by decide +kernel
theorem dX11_isSetting_5 : decode cX11_isSetting 5 = .ok (.iload_n 0, 1) := by decide +kernel
theorem dX11_isSetting_6 : decode cX11_isSetting 6 = .ok (.bipush 10, 2) := by decide +kernel
theorem dX11_isSetting_8 : decode cX11_isSetting 8 = .ok (.if_icmp .gt 19, 3) := by decide +kernel
theorem dX11_isSetting_11 : decode cX11_isSetting 11 = .ok (.iload_n 1, 1) := by decide +kernel
theorem dX11_isSetting_12 : decode cX11_isSetting 12 = .ok (.ifCond .lt 15, 3) := by decide +kernel
theorem dX11_isSetting_15 : decode cX11_isSetting 15 = .ok (.iload_n 1, 1) := by decide +kernel
theorem dX11_isSetting_16 : decode cX11_isSetting 16 = .ok (.iload_n 0, 1) := by decide +kernel
theorem dX11_isSetting_17 : decode cX11_isSetting 17 = .ok (.invokestatic 303, 3) := by decide +kernel
theorem dX11_isSetting_20 : decode cX11_isSetting 20 = .ok (.if_icmp .gt 7, 3) := by decide +kernel
theorem dX11_isSetting_23 : decode cX11_isSetting 23 = .ok (.iconst 1, 1) := by decide +kernel
theorem dX11_isSetting_24 : decode cX11_isSetting 24 = .ok (.goto 4, 3) := by decide +kernel
theorem dX11_isSetting_27 : decode cX11_isSetting 27 = .ok (.iconst 0, 1) := by decide +kernel
theorem dX11_isSetting_28 : decode cX11_isSetting 28 = .ok (.ireturn, 1) := by decide +kernel
theorem dX11_isDisturbance_0 : decode cX11_isDisturbance 0 = .ok (.iload_n 0, 1) := by decide +kernel
theorem dX11_isDisturbance_1 : decode cX11_isDisturbance 1 = .ok (.sipush (-500), 3) := by decide +kernel
theorem dX11_isDisturbance_4 : decode cX11_isDisturbance 4 = .ok (.if_icmp .lt 14, 3) := by decide +kernel
theorem dX11_isDisturbance_7 : decode cX11_isDisturbance 7 = .ok (.iload_n 0, 1) := by decide +kernel
theorem dX11_isDisturbance_8 : decode cX11_isDisturbance 8 = .ok (.sipush 500, 3) := by decide +kernel
theorem dX11_isDisturbance_11 : decode cX11_isDisturbance 11 = .ok (.if_icmp .gt 7, 3) := by decide +kernel
theorem dX11_isDisturbance_14 : decode cX11_isDisturbance 14 = .ok (.iconst 1, 1) := by decide +kernel
theorem dX11_isDisturbance_15 : decode cX11_isDisturbance 15 = .ok (.goto 4, 3) := by decide +kernel
theorem dX11_isDisturbance_18 : decode cX11_isDisturbance 18 = .ok (.iconst 0, 1) := by decide +kernel
theorem dX11_isDisturbance_19 : decode cX11_isDisturbance 19 = .ok (.ireturn, 1) := by decide +kernel
theorem dX11_isRule_0 : decode cX11_isRule 0 = .ok (.iload_n 0, 1) := by decide +kernel
theorem dX11_isRule_1 : decode cX11_isRule 1 = .ok (.ifCond .lt 12, 3) := by decide +kernel
theorem dX11_isRule_4 : decode cX11_isRule 4 = .ok (.iload_n 0, 1) := by decide +kernel
theorem dX11_isRule_5 : decode cX11_isRule 5 = .ok (.iconst 4, 1) := by decide +kernel
theorem dX11_isRule_6 : decode cX11_isRule 6 = .ok (.if_icmp .ge 7, 3) := by decide +kernel
theorem dX11_isRule_9 : decode cX11_isRule 9 = .ok (.iconst 1, 1) := by decide +kernel
theorem dX11_isRule_10 : decode cX11_isRule 10 = .ok (.goto 4, 3) := by decide +kernel
theorem dX11_isRule_13 : decode cX11_isRule 13 = .ok (.iconst 0, 1) := by decide +kernel
theorem dX11_isRule_14 : decode cX11_isRule 14 = .ok (.ireturn, 1) := by decide +kernel
theorem dX11_isForecast_0 : decode cX11_isForecast 0 = .ok (.iload_n 0, 1) := by decide +kernel
theorem dX11_isForecast_1 : decode cX11_isForecast 1 = .ok (.ifCond .lt 12, 3) := by decide +kernel
theorem dX11_isForecast_4 : decode cX11_isForecast 4 = .ok (.iload_n 0, 1) := by decide +kernel
theorem dX11_isForecast_5 : decode cX11_isForecast 5 = .ok (.iconst 4, 1) := by decide +kernel
theorem dX11_isForecast_6 : decode cX11_isForecast 6 = .ok (.if_icmp .gt 7, 3) := by decide +kernel
theorem dX11_isForecast_9 : decode cX11_isForecast 9 = .ok (.iconst 1, 1) := by decide +kernel
theorem dX11_isForecast_10 : decode cX11_isForecast 10 = .ok (.goto 4, 3) := by decide +kernel
theorem dX11_isForecast_13 : decode cX11_isForecast 13 = .ok (.iconst 0, 1) := by decide +kernel
theorem dX11_isForecast_14 : decode cX11_isForecast 14 = .ok (.ireturn, 1) := by decide +kernel
theorem dX11_isSlot_0 : decode cX11_isSlot 0 = .ok (.iload_n 0, 1) := by decide +kernel
theorem dX11_isSlot_1 : decode cX11_isSlot 1 = .ok (.ifCond .lt 12, 3) := by decide +kernel
theorem dX11_isSlot_4 : decode cX11_isSlot 4 = .ok (.iload_n 0, 1) := by decide +kernel
theorem dX11_isSlot_5 : decode cX11_isSlot 5 = .ok (.iconst 2, 1) := by decide +kernel
theorem dX11_isSlot_6 : decode cX11_isSlot 6 = .ok (.if_icmp .ge 7, 3) := by decide +kernel
theorem dX11_isSlot_9 : decode cX11_isSlot 9 = .ok (.iconst 1, 1) := by decide +kernel
theorem dX11_isSlot_10 : decode cX11_isSlot 10 = .ok (.goto 4, 3) := by decide +kernel
theorem dX11_isSlot_13 : decode cX11_isSlot 13 = .ok (.iconst 0, 1) := by decide +kernel
theorem dX11_isSlot_14 : decode cX11_isSlot 14 = .ok (.ireturn, 1) := by decide +kernel
set_option maxRecDepth 20000 in
theorem ggX11_outcomeOf_X7_goodCount : GoodIn wsX11_outcomeOf wsX7_goodCount := goodIn_r _ [8, 9, 10, 11, 12, 13, 14, 15, 16, 17, 18, 19, 20, 21, 22, 23, 24, 25, 26, 27, 28, 29, 30, 31, 32, 33, 34, 35, 36, 37, 222, 223, 224, 225, 226, 227, 228, 229, 230, 231, 232, 233, 234, 235, 236, 237, 238, 239, 240, 241, 242, 243, 244, 245, 246, 247, 248] (by decide +kernel) (by decide +kernel)
set_option maxRecDepth 20000 in
theorem gX11_outcomeOf_X7_goodCount : GoodIn wsX11_outcomeOf (wsV RX11 249 RX7 yX7_goodCount wsX7_goodCount) := goodIn_app (goodIn_of _ (by decide +kernel)) ggX11_outcomeOf_X7_goodCount
set_option maxRecDepth 20000 in
theorem ggX11_outcomeOf_X7_become : GoodIn wsX11_outcomeOf wsX7_become := goodIn_r _ [41, 42, 43, 10, 9, 44, 45, 46, 47, 48, 49, 50, 51, 52, 53, 54, 55, 56, 57, 58, 59, 60, 61, 62, 63, 64, 65, 66, 67, 68, 69, 70, 71, 72, 73, 74, 75, 76, 77, 78, 79, 80, 81, 14, 82, 20, 23, 83, 21, 22, 84, 85, 86, 87, 88, 89, 90, 91, 92, 93, 94, 95, 96, 97, 98, 99, 100, 101, 102, 103, 104, 105, 106, 107, 108, 222, 223, 224, 225, 226, 227, 249, 250, 251, 252, 253, 254, 255, 256, 228, 229, 230, 231, 232, 233, 234, 235, 236, 237, 238, 239, 240, 241, 242, 243, 244, 245, 246, 247, 248, 257, 258, 259, 260, 261, 262, 263, 264] (by decide +kernel) (by decide +kernel)
set_option maxRecDepth 20000 in
theorem gX11_outcomeOf_X7_become : GoodIn wsX11_outcomeOf (wsV RX11 74 RX7 yX7_become wsX7_become) := goodIn_app (goodIn_of _ (by decide +kernel)) ggX11_outcomeOf_X7_become
set_option maxRecDepth 20000 in
theorem ggX11_outcomeOf_X7_follow : GoodIn wsX11_outcomeOf wsX7_follow := goodIn_r _ [112, 10, 113, 114, 115, 7, 116, 9, 117, 43, 118, 119, 120, 14, 121, 20, 21, 22, 23, 122, 123, 36, 124, 25, 16, 17, 18, 19, 24, 30, 31, 32, 33, 34, 35, 37, 125, 126, 127, 128, 129, 130, 131, 132, 133, 134, 135, 136, 137, 138, 139, 140, 141, 142, 143, 144, 145, 146, 147, 66, 148, 74, 75, 76, 78, 149, 150, 151, 152, 85, 222, 223, 224, 225, 226, 227, 228, 229, 230, 231, 232, 233, 234, 235, 236, 237, 238, 249, 250, 251, 252, 253, 254, 255, 256, 239, 240, 241, 242, 243, 244, 245, 246, 247, 248] (by decide +kernel) (by decide +kernel)
set_option maxRecDepth 20000 in
theorem gX11_outcomeOf_X7_follow : GoodIn wsX11_outcomeOf (wsV RX11 306 RX7 yX7_follow wsX7_follow) := goodIn_app (goodIn_of _ (by decide +kernel)) ggX11_outcomeOf_X7_follow
set_option maxRecDepth 20000 in
theorem ggX11_outcomeOf_X11_forecast : GoodIn wsX11_outcomeOf wsX11_forecast := goodIn_r _ [156, 2, 3, 157, 123, 36, 124, 158, 159, 160, 7, 161, 43, 10, 42, 45, 9, 162, 163, 164, 66, 165, 74, 166, 167, 168, 169, 68, 69, 75, 170, 171, 172, 173, 78, 77, 71, 72, 76, 73, 174, 143, 175, 176, 177, 178, 49, 179, 62, 57, 54, 51, 52, 56, 180, 181, 182, 183, 53, 184, 185, 186, 187, 188, 189, 190, 191, 192, 193, 194, 100, 195, 102, 105, 104, 106, 196, 197, 198, 14, 199, 87, 122, 88, 200, 201, 202, 85, 86, 203, 204, 205, 206, 20, 23, 21, 22, 84, 207, 208, 209, 210, 211, 212, 213, 214, 215, 35, 37, 216, 217, 218, 219, 220, 221, 222, 223, 224, 225, 226, 227, 259, 260, 261, 262, 263, 264, 249, 250, 251, 252, 253, 254, 255, 256, 239, 240, 241, 242, 243, 244, 245, 246, 247, 248, 228, 229, 230, 231, 232, 233, 234, 235, 236, 237, 238] (by decide +kernel) (by decide +kernel)
set_option maxRecDepth 20000 in
theorem gX11_outcomeOf_X11_forecast : GoodIn wsX11_outcomeOf (wsV RX11 242 RX11 yX11_forecast wsX11_forecast) := goodIn_app (goodIn_of _ (by decide +kernel)) ggX11_outcomeOf_X11_forecast
theorem dX11_outcomeOf_0 : decode cX11_outcomeOf 0 = .ok (.aload_n 0, 1) := by decide +kernel
theorem dX11_outcomeOf_1 : decode cX11_outcomeOf 1 = .ok (.getfield 23, 3) := by decide +kernel
theorem dX11_outcomeOf_4 : decode cX11_outcomeOf 4 = .ok (.invokevirtual 249, 3) := by decide +kernel
theorem dX11_outcomeOf_7 : decode cX11_outcomeOf 7 = .ok (.ifCond .ne 6, 3) := by decide +kernel
theorem dX11_outcomeOf_10 : decode cX11_outcomeOf 10 = .ok (.ldc 71, 2) := by decide +kernel
theorem dX11_outcomeOf_12 : decode cX11_outcomeOf 12 = .ok (.ireturn, 1) := by decide +kernel
theorem dX11_outcomeOf_13 : decode cX11_outcomeOf 13 = .ok (.aload_n 0, 1) := by decide +kernel
theorem dX11_outcomeOf_14 : decode cX11_outcomeOf 14 = .ok (.getfield 26, 3) := by decide +kernel
theorem dX11_outcomeOf_17 : decode cX11_outcomeOf 17 = .ok (.aload_n 0, 1) := by decide +kernel
theorem dX11_outcomeOf_18 : decode cX11_outcomeOf 18 = .ok (.getfield 23, 3) := by decide +kernel
theorem dX11_outcomeOf_21 : decode cX11_outcomeOf 21 = .ok (.invokevirtual 74, 3) := by decide +kernel
theorem dX11_outcomeOf_24 : decode cX11_outcomeOf 24 = .ok (.aload_n 0, 1) := by decide +kernel
theorem dX11_outcomeOf_25 : decode cX11_outcomeOf 25 = .ok (.getfield 26, 3) := by decide +kernel
theorem dX11_outcomeOf_28 : decode cX11_outcomeOf 28 = .ok (.iload_n 1, 1) := by decide +kernel
theorem dX11_outcomeOf_29 : decode cX11_outcomeOf 29 = .ok (.invokevirtual 306, 3) := by decide +kernel
theorem dX11_outcomeOf_32 : decode cX11_outcomeOf 32 = .ok (.aload_n 0, 1) := by decide +kernel
theorem dX11_outcomeOf_33 : decode cX11_outcomeOf 33 = .ok (.iload_n 2, 1) := by decide +kernel
theorem dX11_outcomeOf_34 : decode cX11_outcomeOf 34 = .ok (.iload_n 3, 1) := by decide +kernel
theorem dX11_outcomeOf_35 : decode cX11_outcomeOf 35 = .ok (.invokevirtual 242, 3) := by decide +kernel
theorem dX11_outcomeOf_38 : decode cX11_outcomeOf 38 = .ok (.ireturn, 1) := by decide +kernel
set_option maxRecDepth 20000 in
theorem ggX11_forecast_X7_passOne : GoodIn wsX11_forecast wsX7_passOne := goodIn_r _ [11, 12, 13, 14, 15, 16, 17, 18, 19, 20, 21, 22, 23, 24, 25, 26, 27, 28, 29, 30, 31, 32, 33, 34, 35, 36, 37, 38, 39, 40, 41, 42, 43, 44, 45, 46, 47, 48, 49, 50, 51, 52, 53, 54, 55, 56, 57, 58, 59, 60, 61, 62, 63, 64, 65, 66, 67, 68, 69, 70, 71, 72, 73, 74, 75, 76, 77, 78, 79, 80, 81, 82, 4, 5, 6, 83, 84, 85, 86, 87, 88, 89, 90, 91, 92, 93, 94, 95, 96, 97, 98, 99, 100, 101, 115, 116, 117, 118, 119, 120, 127, 128, 129, 130, 131, 132, 133, 134, 145, 146, 147, 148, 149, 150, 151, 152, 153, 154, 155, 121, 122, 123, 124, 125, 126, 135, 136, 137, 138, 139, 140, 141, 142, 143, 144] (by decide +kernel) (by decide +kernel)
set_option maxRecDepth 20000 in
theorem gX11_forecast_X7_passOne : GoodIn wsX11_forecast (wsV RX11 257 RX7 yX7_passOne wsX7_passOne) := goodIn_app (goodIn_of _ (by decide +kernel)) ggX11_forecast_X7_passOne
set_option maxRecDepth 20000 in
theorem ggX11_forecast_X7_distance : GoodIn wsX11_forecast wsX7_distance := goodIn_r _ [105, 13, 12, 106, 107, 5, 108, 115, 116, 117, 118, 119, 120, 145, 146, 147, 148, 149, 150, 151, 152, 153, 154, 155, 127, 128, 129, 130, 131, 132, 133, 134] (by decide +kernel) (by decide +kernel)
set_option maxRecDepth 20000 in
theorem gX11_forecast_X7_distance : GoodIn wsX11_forecast (wsV RX11 254 RX7 yX7_distance wsX7_distance) := goodIn_app (goodIn_of _ (by decide +kernel)) ggX11_forecast_X7_distance
theorem dX11_forecast_0 : decode cX11_forecast 0 = .ok (.iconst 0, 1) := by decide +kernel
theorem dX11_forecast_1 : decode cX11_forecast 1 = .ok (.istore_n 3, 1) := by decide +kernel
theorem dX11_forecast_2 : decode cX11_forecast 2 = .ok (.ldc 71, 2) := by decide +kernel
theorem dX11_forecast_4 : decode cX11_forecast 4 = .ok (.istore 4, 2) := by decide +kernel
theorem dX11_forecast_6 : decode cX11_forecast 6 = .ok (.iconst 0, 1) := by decide +kernel
theorem dX11_forecast_7 : decode cX11_forecast 7 = .ok (.istore 5, 2) := by decide +kernel
theorem dX11_forecast_9 : decode cX11_forecast 9 = .ok (.iconst 0, 1) := by decide +kernel
theorem dX11_forecast_10 : decode cX11_forecast 10 = .ok (.istore 6, 2) := by decide +kernel
theorem dX11_forecast_12 : decode cX11_forecast 12 = .ok (.iload 6, 2) := by decide +kernel
theorem dX11_forecast_14 : decode cX11_forecast 14 = .ok (.iload_n 1, 1) := by decide +kernel
theorem dX11_forecast_15 : decode cX11_forecast 15 = .ok (.if_icmp .ge 58, 3) := by decide +kernel
theorem dX11_forecast_18 : decode cX11_forecast 18 = .ok (.aload_n 0, 1) := by decide +kernel
theorem dX11_forecast_19 : decode cX11_forecast 19 = .ok (.getfield 26, 3) := by decide +kernel
theorem dX11_forecast_22 : decode cX11_forecast 22 = .ok (.invokevirtual 257, 3) := by decide +kernel
theorem dX11_forecast_25 : decode cX11_forecast 25 = .ok (.iload_n 3, 1) := by decide +kernel
theorem dX11_forecast_26 : decode cX11_forecast 26 = .ok (.aload_n 0, 1) := by decide +kernel
theorem dX11_forecast_27 : decode cX11_forecast 27 = .ok (.getfield 26, 3) := by decide +kernel
theorem dX11_forecast_30 : decode cX11_forecast 30 = .ok (.getfield 136, 3) := by decide +kernel
theorem dX11_forecast_33 : decode cX11_forecast 33 = .ok (.getfield 309, 3) := by decide +kernel
theorem dX11_forecast_36 : decode cX11_forecast 36 = .ok (.iadd, 1) := by decide +kernel
theorem dX11_forecast_37 : decode cX11_forecast 37 = .ok (.istore_n 3, 1) := by decide +kernel
theorem dX11_forecast_38 : decode cX11_forecast 38 = .ok (.iload 4, 2) := by decide +kernel
theorem dX11_forecast_40 : decode cX11_forecast 40 = .ok (.aload_n 0, 1) := by decide +kernel
theorem dX11_forecast_41 : decode cX11_forecast 41 = .ok (.getfield 26, 3) := by decide +kernel
theorem dX11_forecast_44 : decode cX11_forecast 44 = .ok (.getfield 87, 3) := by decide +kernel
theorem dX11_forecast_47 : decode cX11_forecast 47 = .ok (.getfield 91, 3) := by decide +kernel
theorem dX11_forecast_50 : decode cX11_forecast 50 = .ok (.invokestatic 312, 3) := by decide +kernel
theorem dX11_forecast_53 : decode cX11_forecast 53 = .ok (.istore 4, 2) := by decide +kernel
theorem dX11_forecast_55 : decode cX11_forecast 55 = .ok (.iload 5, 2) := by decide +kernel
theorem dX11_forecast_57 : decode cX11_forecast 57 = .ok (.aload_n 0, 1) := by decide +kernel
theorem dX11_forecast_58 : decode cX11_forecast 58 = .ok (.getfield 26, 3) := by decide +kernel
theorem dX11_forecast_61 : decode cX11_forecast 61 = .ok (.invokevirtual 254, 3) := by decide +kernel
theorem dX11_forecast_64 : decode cX11_forecast 64 = .ok (.iadd, 1) := by decide +kernel
theorem dX11_forecast_65 : decode cX11_forecast 65 = .ok (.istore 5, 2) := by decide +kernel
theorem dX11_forecast_67 : decode cX11_forecast 67 = .ok (.iinc 6 1, 3) := by decide +kernel
theorem dX11_forecast_70 : decode cX11_forecast 70 = .ok (.goto (-58), 3) := by decide +kernel
theorem dX11_forecast_73 : decode cX11_forecast 73 = .ok (.iload_n 2, 1) := by decide +kernel
theorem dX11_forecast_74 : decode cX11_forecast 74 = .ok (.tableswitch 57 0 3 #[30, 41, 43, 46], 30) := by decide +kernel
theorem dX11_forecast_104 : decode cX11_forecast 104 = .ok (.aload_n 0, 1) := by decide +kernel
theorem dX11_forecast_105 : decode cX11_forecast 105 = .ok (.getfield 26, 3) := by decide +kernel
theorem dX11_forecast_108 : decode cX11_forecast 108 = .ok (.getfield 87, 3) := by decide +kernel
theorem dX11_forecast_111 : decode cX11_forecast 111 = .ok (.getfield 91, 3) := by decide +kernel
theorem dX11_forecast_114 : decode cX11_forecast 114 = .ok (.ireturn, 1) := by decide +kernel
theorem dX11_forecast_115 : decode cX11_forecast 115 = .ok (.iload_n 3, 1) := by decide +kernel
theorem dX11_forecast_116 : decode cX11_forecast 116 = .ok (.ireturn, 1) := by decide +kernel
theorem dX11_forecast_117 : decode cX11_forecast 117 = .ok (.iload 4, 2) := by decide +kernel
theorem dX11_forecast_119 : decode cX11_forecast 119 = .ok (.ireturn, 1) := by decide +kernel
theorem dX11_forecast_120 : decode cX11_forecast 120 = .ok (.aload_n 0, 1) := by decide +kernel
theorem dX11_forecast_121 : decode cX11_forecast 121 = .ok (.getfield 26, 3) := by decide +kernel
theorem dX11_forecast_124 : decode cX11_forecast 124 = .ok (.getfield 102, 3) := by decide +kernel
theorem dX11_forecast_127 : decode cX11_forecast 127 = .ok (.getfield 317, 3) := by decide +kernel
theorem dX11_forecast_130 : decode cX11_forecast 130 = .ok (.ireturn, 1) := by decide +kernel
theorem dX11_forecast_131 : decode cX11_forecast 131 = .ok (.iload 5, 2) := by decide +kernel
theorem dX11_forecast_133 : decode cX11_forecast 133 = .ok (.ireturn, 1) := by decide +kernel
theorem dX11_within_0 : decode cX11_within 0 = .ok (.iload_n 0, 1) := by decide +kernel
theorem dX11_within_1 : decode cX11_within 1 = .ok (.iload_n 1, 1) := by decide +kernel
theorem dX11_within_2 : decode cX11_within 2 = .ok (.if_icmp .ge 5, 3) := by decide +kernel
theorem dX11_within_5 : decode cX11_within 5 = .ok (.iload_n 1, 1) := by decide +kernel
theorem dX11_within_6 : decode cX11_within 6 = .ok (.ireturn, 1) := by decide +kernel
theorem dX11_within_7 : decode cX11_within 7 = .ok (.iload_n 0, 1) := by decide +kernel
theorem dX11_within_8 : decode cX11_within 8 = .ok (.iload_n 2, 1) := by decide +kernel
theorem dX11_within_9 : decode cX11_within 9 = .ok (.if_icmp .le 7, 3) := by decide +kernel
theorem dX11_within_12 : decode cX11_within 12 = .ok (.iload_n 2, 1) := by decide +kernel
theorem dX11_within_13 : decode cX11_within 13 = .ok (.goto 4, 3) := by decide +kernel
theorem dX11_within_16 : decode cX11_within 16 = .ok (.iload_n 0, 1) := by decide +kernel
theorem dX11_within_17 : decode cX11_within 17 = .ok (.ireturn, 1) := by decide +kernel
