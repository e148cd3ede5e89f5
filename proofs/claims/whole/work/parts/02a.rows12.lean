theorem dJ6_compare_7cf53_0 : decode cJ6_compare_7cf53 0 = .ok (.iload_n 0, 1) := by decide +kernel
theorem dJ6_compare_7cf53_1 : decode cJ6_compare_7cf53 1 = .ok (.iload_n 1, 1) := by decide +kernel
theorem dJ6_compare_7cf53_2 : decode cJ6_compare_7cf53 2 = .ok (.if_icmp .ge 7, 3) := by decide +kernel
theorem dJ6_compare_7cf53_5 : decode cJ6_compare_7cf53 5 = .ok (.iconst (-1), 1) := by decide +kernel
theorem dJ6_compare_7cf53_6 : decode cJ6_compare_7cf53 6 = .ok (.goto 13, 3) := by decide +kernel
theorem dJ6_compare_7cf53_9 : decode cJ6_compare_7cf53 9 = .ok (.iload_n 0, 1) := by decide +kernel
theorem dJ6_compare_7cf53_10 : decode cJ6_compare_7cf53 10 = .ok (.iload_n 1, 1) := by decide +kernel
theorem dJ6_compare_7cf53_11 : decode cJ6_compare_7cf53 11 = .ok (.if_icmp .ne 7, 3) := by decide +kernel
theorem dJ6_compare_7cf53_14 : decode cJ6_compare_7cf53 14 = .ok (.iconst 0, 1) := by decide +kernel
theorem dJ6_compare_7cf53_15 : decode cJ6_compare_7cf53 15 = .ok (.goto 4, 3) := by decide +kernel
theorem dJ6_compare_7cf53_18 : decode cJ6_compare_7cf53 18 = .ok (.iconst 1, 1) := by decide +kernel
theorem dJ6_compare_7cf53_19 : decode cJ6_compare_7cf53 19 = .ok (.ireturn, 1) := by decide +kernel
theorem dJ9_abs_0f7a4_0 : decode cJ9_abs_0f7a4 0 = .ok (.iload_n 0, 1) := by decide +kernel
theorem dJ9_abs_0f7a4_1 : decode cJ9_abs_0f7a4 1 = .ok (.ifCond .ge 8, 3) := by decide +kernel
theorem dJ9_abs_0f7a4_4 : decode cJ9_abs_0f7a4 4 = .ok (.iload_n 0, 1) := by decide +kernel
theorem dJ9_abs_0f7a4_5 : decode cJ9_abs_0f7a4 5 = .ok (.ineg, 1) := by decide +kernel
theorem dJ9_abs_0f7a4_6 : decode cJ9_abs_0f7a4 6 = .ok (.goto 4, 3) := by decide +kernel
theorem dJ9_abs_0f7a4_9 : decode cJ9_abs_0f7a4 9 = .ok (.iload_n 0, 1) := by decide +kernel
theorem dJ9_abs_0f7a4_10 : decode cJ9_abs_0f7a4 10 = .ok (.ireturn, 1) := by decide +kernel
theorem dJ9_max_7cf53_0 : decode cJ9_max_7cf53 0 = .ok (.iload_n 0, 1) := by decide +kernel
theorem dJ9_max_7cf53_1 : decode cJ9_max_7cf53 1 = .ok (.iload_n 1, 1) := by decide +kernel
theorem dJ9_max_7cf53_2 : decode cJ9_max_7cf53 2 = .ok (.if_icmp .lt 7, 3) := by decide +kernel
theorem dJ9_max_7cf53_5 : decode cJ9_max_7cf53 5 = .ok (.iload_n 0, 1) := by decide +kernel
theorem dJ9_max_7cf53_6 : decode cJ9_max_7cf53 6 = .ok (.goto 4, 3) := by decide +kernel
theorem dJ9_max_7cf53_9 : decode cJ9_max_7cf53 9 = .ok (.iload_n 1, 1) := by decide +kernel
theorem dJ9_max_7cf53_10 : decode cJ9_max_7cf53 10 = .ok (.ireturn, 1) := by decide +kernel
theorem dJ9_min_7cf53_0 : decode cJ9_min_7cf53 0 = .ok (.iload_n 0, 1) := by decide +kernel
theorem dJ9_min_7cf53_1 : decode cJ9_min_7cf53 1 = .ok (.iload_n 1, 1) := by decide +kernel
theorem dJ9_min_7cf53_2 : decode cJ9_min_7cf53 2 = .ok (.if_icmp .gt 7, 3) := by decide +kernel
theorem dJ9_min_7cf53_5 : decode cJ9_min_7cf53 5 = .ok (.iload_n 0, 1) := by decide +kernel
theorem dJ9_min_7cf53_6 : decode cJ9_min_7cf53 6 = .ok (.goto 4, 3) := by decide +kernel
theorem dJ9_min_7cf53_9 : decode cJ9_min_7cf53 9 = .ok (.iload_n 1, 1) := by decide +kernel
theorem dJ9_min_7cf53_10 : decode cJ9_min_7cf53 10 = .ok (.ireturn, 1) := by decide +kernel
set_option maxRecDepth 20000 in
theorem ggX12_init_X12_begin : GoodIn wsX12_init wsX12_begin := goodIn_r _ [17] (by decide +kernel) (by decide +kernel)
set_option maxRecDepth 20000 in
theorem gX12_init_X12_begin : GoodIn wsX12_init (va_wsS RX12 35 yX12_begin wsX12_begin) := goodIn_app (goodIn_of _ (by decide +kernel)) ggX12_init_X12_begin
theorem dX12_init_0 : decode cX12_init 0 = .ok (.aload_n 0, 1) := by decide +kernel
theorem dX12_init_1 : decode cX12_init 1 = .ok (.invokespecial 1, 3) := by decide +kernel
theorem dX12_init_4 : decode cX12_init 4 = .ok (.aload_n 0, 1) := by decide +kernel
theorem dX12_init_5 : decode cX12_init 5 = .ok (.bipush 60, 2) := by decide +kernel
theorem dX12_init_7 : decode cX12_init 7 = .ok (.newarray .int, 2) := by decide +kernel
theorem dX12_init_9 : decode cX12_init 9 = .ok (.putfield 7, 3) := by decide +kernel
theorem dX12_init_12 : decode cX12_init 12 = .ok (.aload_n 0, 1) := by decide +kernel
theorem dX12_init_13 : decode cX12_init 13 = .ok (.sipush 154, 3) := by decide +kernel
theorem dX12_init_16 : decode cX12_init 16 = .ok (.newarray .int, 2) := by decide +kernel
theorem dX12_init_18 : decode cX12_init 18 = .ok (.putfield 13, 3) := by decide +kernel
theorem dX12_init_21 : decode cX12_init 21 = .ok (.aload_n 0, 1) := by decide +kernel
theorem dX12_init_22 : decode cX12_init 22 = .ok (.sipush 154, 3) := by decide +kernel
theorem dX12_init_25 : decode cX12_init 25 = .ok (.newarray .int, 2) := by decide +kernel
theorem dX12_init_27 : decode cX12_init 27 = .ok (.putfield 16, 3) := by decide +kernel
theorem dX12_init_30 : decode cX12_init 30 = .ok (.aload_n 0, 1) := by decide +kernel
theorem dX12_init_31 : decode cX12_init 31 = .ok (.sipush 154, 3) := by decide +kernel
theorem dX12_init_34 : decode cX12_init 34 = .ok (.newarray .int, 2) := by decide +kernel
theorem dX12_init_36 : decode cX12_init 36 = .ok (.putfield 19, 3) := by decide +kernel
theorem dX12_init_39 : decode cX12_init 39 = .ok (.aload_n 0, 1) := by decide +kernel
theorem dX12_init_40 : decode cX12_init 40 = .ok (.sipush 2156, 3) := by decide +kernel
theorem dX12_init_43 : decode cX12_init 43 = .ok (.newarray .int, 2) := by decide +kernel
theorem dX12_init_45 : decode cX12_init 45 = .ok (.putfield 22, 3) := by decide +kernel
theorem dX12_init_48 : decode cX12_init 48 = .ok (.aload_n 0, 1) := by decide +kernel
theorem dX12_init_49 : decode cX12_init 49 = .ok (.sipush 308, 3) := by decide +kernel
theorem dX12_init_52 : decode cX12_init 52 = .ok (.newarray .int, 2) := by decide +kernel
theorem dX12_init_54 : decode cX12_init 54 = .ok (.putfield 25, 3) := by decide +kernel
theorem dX12_init_57 : decode cX12_init 57 = .ok (.aload_n 0, 1) := by decide +kernel
theorem dX12_init_58 : decode cX12_init 58 = .ok (.iconst 2, 1) := by decide +kernel
theorem dX12_init_59 : decode cX12_init 59 = .ok (.newarray .boolean, 2) := by decide +kernel
theorem dX12_init_61 : decode cX12_init 61 = .ok (.putfield 28, 3) := by decide +kernel
theorem dX12_init_64 : decode cX12_init 64 = .ok (.aload_n 0, 1) := by decide +kernel
theorem dX12_init_65 : decode cX12_init 65 = .ok (.bipush 20, 2) := by decide +kernel
theorem dX12_init_67 : decode cX12_init 67 = .ok (.newarray .int, 2) := by decide +kernel
theorem dX12_init_69 : decode cX12_init 69 = .ok (.putfield 32, 3) := by decide +kernel
theorem dX12_init_72 : decode cX12_init 72 = .ok (.aload_n 0, 1) := by decide +kernel
theorem dX12_init_73 : decode cX12_init 73 = .ok (.getfield 16, 3) := by decide +kernel
theorem dX12_init_76 : decode cX12_init 76 = .ok (.invokestatic 35, 3) := by decide +kernel
theorem dX12_init_79 : decode cX12_init 79 = .ok (.return_, 1) := by decide +kernel
theorem dX12_thrown_0 : decode cX12_thrown 0 = .ok (.aload_n 0, 1) := by decide +kernel
theorem dX12_thrown_1 : decode cX12_thrown 1 = .ok (.getfield 39, 3) := by decide +kernel
theorem dX12_thrown_4 : decode cX12_thrown 4 = .ok (.ireturn, 1) := by decide +kernel
theorem dX12_refused_0 : decode cX12_refused 0 = .ok (.aload_n 0, 1) := by decide +kernel
theorem dX12_refused_1 : decode cX12_refused 1 = .ok (.iload_n 1, 1) := by decide +kernel
theorem dX12_refused_2 : decode cX12_refused 2 = .ok (.putfield 39, 3) := by decide +kernel
theorem dX12_refused_5 : decode cX12_refused 5 = .ok (.iload_n 1, 1) := by decide +kernel
theorem dX12_refused_6 : decode cX12_refused 6 = .ok (.ifCond .le 7, 3) := by decide +kernel
theorem dX12_refused_9 : decode cX12_refused 9 = .ok (.iconst 1, 1) := by decide +kernel
theorem dX12_refused_10 : decode cX12_refused 10 = .ok (.goto 4, 3) := by decide +kernel
theorem dX12_refused_13 : decode cX12_refused 13 = .ok (.iconst 0, 1) := by decide +kernel
theorem dX12_refused_14 : decode cX12_refused 14 = .ok (.ireturn, 1) := by decide +kernel
theorem dX12_in_0 : decode cX12_in 0 = .ok (.lload_n 0, 1) := by decide +kernel
theorem dX12_in_1 : decode cX12_in 1 = .ok (.lload_n 2, 1) := by decide +kernel
theorem dX12_in_2 : decode cX12_in 2 = .ok (.lcmp, 1) := by decide +kernel
theorem dX12_in_3 : decode cX12_in 3 = .ok (.ifCond .lt 14, 3) := by decide +kernel
theorem dX12_in_6 : decode cX12_in 6 = .ok (.lload_n 0, 1) := by decide +kernel
theorem dX12_in_7 : decode cX12_in 7 = .ok (.lload 4, 2) := by decide +kernel
theorem dX12_in_9 : decode cX12_in 9 = .ok (.lcmp, 1) := by decide +kernel
theorem dX12_in_10 : decode cX12_in 10 = .ok (.ifCond .gt 7, 3) := by decide +kernel
theorem dX12_in_13 : decode cX12_in 13 = .ok (.iconst 1, 1) := by decide +kernel
theorem dX12_in_14 : decode cX12_in 14 = .ok (.goto 4, 3) := by decide +kernel
theorem dX12_in_17 : decode cX12_in 17 = .ok (.iconst 0, 1) := by decide +kernel
theorem dX12_in_18 : decode cX12_in 18 = .ok (.ireturn, 1) := by decide +kernel
theorem dX12_size_0 : decode cX12_size 0 = .ok (.iload_n 0, 1) := by decide +kernel
theorem dX12_size_1 : decode cX12_size 1 = .ok (.ifCond .ge 8, 3) := by decide +kernel
theorem dX12_size_4 : decode cX12_size 4 = .ok (.iload_n 0, 1) := by decide +kernel
theorem dX12_size_5 : decode cX12_size 5 = .ok (.ineg, 1) := by decide +kernel
theorem dX12_size_6 : decode cX12_size 6 = .ok (.goto 4, 3) := by decide +kernel
theorem dX12_size_9 : decode cX12_size 9 = .ok (.iload_n 0, 1) := by decide +kernel
theorem dX12_size_10 : decode cX12_size 10 = .ok (.ireturn, 1) := by decide +kernel
theorem dX12_within_0 : decode cX12_within 0 = .ok (.iload_n 0, 1) := by decide +kernel
theorem dX12_within_1 : decode cX12_within 1 = .ok (.iload_n 1, 1) := by decide +kernel
theorem dX12_within_2 : decode cX12_within 2 = .ok (.if_icmp .ge 7, 3) := by decide +kernel
theorem dX12_within_5 : decode cX12_within 5 = .ok (.iload_n 1, 1) := by decide +kernel
theorem dX12_within_6 : decode cX12_within 6 = .ok (.goto 13, 3) := by decide +kernel
theorem dX12_within_9 : decode cX12_within 9 = .ok (.iload_n 0, 1) := by decide +kernel
theorem dX12_within_10 : decode cX12_within 10 = .ok (.iload_n 2, 1) := by decide +kernel
theorem dX12_within_11 : decode cX12_within 11 = .ok (.if_icmp .le 7, 3) := by decide +kernel
theorem dX12_within_14 : decode cX12_within 14 = .ok (.iload_n 2, 1) := by decide +kernel
theorem dX12_within_15 : decode cX12_within 15 = .ok (.goto 4, 3) := by decide +kernel
theorem dX12_within_18 : decode cX12_within 18 = .ok (.iload_n 0, 1) := by decide +kernel
theorem dX12_within_19 : decode cX12_within 19 = .ok (.ireturn, 1) := by decide +kernel
theorem dX12_copyPage_0 : decode cX12_copyPage 0 = .ok (.iconst 0, 1) := by decide +kernel
theorem dX12_copyPage_1 : decode cX12_copyPage 1 = .ok (.istore 4, 2) := by decide +kernel
theorem dX12_copyPage_3 : decode cX12_copyPage 3 = .ok (.iload 4, 2) := by decide +kernel
theorem dX12_copyPage_5 : decode cX12_copyPage 5 = .ok (.sipush 154, 3) := by decide +kernel
theorem dX12_copyPage_8 : decode cX12_copyPage 8 = .ok (.if_icmp .ge 21, 3) := by decide +kernel
theorem dX12_copyPage_11 : decode cX12_copyPage 11 = .ok (.aload_n 2, 1) := by decide +kernel
theorem dX12_copyPage_12 : decode cX12_copyPage 12 = .ok (.iload_n 3, 1) := by decide +kernel
theorem dX12_copyPage_13 : decode cX12_copyPage 13 = .ok (.iload 4, 2) := by decide +kernel
theorem dX12_copyPage_15 : decode cX12_copyPage 15 = .ok (.iadd, 1) := by decide +kernel
theorem dX12_copyPage_16 : decode cX12_copyPage 16 = .ok (.aload_n 0, 1) := by decide +kernel
theorem dX12_copyPage_17 : decode cX12_copyPage 17 = .ok (.iload_n 1, 1) := by decide +kernel
theorem dX12_copyPage_18 : decode cX12_copyPage 18 = .ok (.iload 4, 2) := by decide +kernel
theorem dX12_copyPage_20 : decode cX12_copyPage 20 = .ok (.iadd, 1) := by decide +kernel
theorem dX12_copyPage_21 : decode cX12_copyPage 21 = .ok (.iaload, 1) := by decide +kernel
theorem dX12_copyPage_22 : decode cX12_copyPage 22 = .ok (.iastore, 1) := by decide +kernel
theorem dX12_copyPage_23 : decode cX12_copyPage 23 = .ok (.iinc 4 1, 3) := by decide +kernel
theorem dX12_copyPage_26 : decode cX12_copyPage 26 = .ok (.goto (-23), 3) := by decide +kernel
theorem dX12_copyPage_29 : decode cX12_copyPage 29 = .ok (.return_, 1) := by decide +kernel
theorem dX12_begin_0 : decode cX12_begin 0 = .ok (.iconst 0, 1) := by decide +kernel
theorem dX12_begin_1 : decode cX12_begin 1 = .ok (.istore_n 1, 1) := by decide +kernel
theorem dX12_begin_2 : decode cX12_begin 2 = .ok (.iload_n 1, 1) := by decide +kernel
theorem dX12_begin_3 : decode cX12_begin 3 = .ok (.sipush 154, 3) := by decide +kernel
theorem dX12_begin_6 : decode cX12_begin 6 = .ok (.if_icmp .ge 13, 3) := by decide +kernel
theorem dX12_begin_9 : decode cX12_begin 9 = .ok (.aload_n 0, 1) := by decide +kernel
theorem dX12_begin_10 : decode cX12_begin 10 = .ok (.iload_n 1, 1) := by decide +kernel
theorem dX12_begin_11 : decode cX12_begin 11 = .ok (.iconst 0, 1) := by decide +kernel
theorem dX12_begin_12 : decode cX12_begin 12 = .ok (.iastore, 1) := by decide +kernel
theorem dX12_begin_13 : decode cX12_begin 13 = .ok (.iinc 1 1, 3) := by decide +kernel
theorem dX12_begin_16 : decode cX12_begin 16 = .ok (.goto (-14), 3) := by decide +kernel
theorem dX12_begin_19 : decode cX12_begin 19 = .ok (.aload_n 0, 1) := by decide +kernel
theorem dX12_begin_20 : decode cX12_begin 20 = .ok (.iconst 0, 1) := by decide +kernel
theorem dX12_begin_21 : decode cX12_begin 21 = .ok (.bipush 10, 2) := by decide +kernel
theorem dX12_begin_23 : decode cX12_begin 23 = .ok (.iastore, 1) := by decide +kernel
theorem dX12_begin_24 : decode cX12_begin 24 = .ok (.aload_n 0, 1) := by decide +kernel
theorem dX12_begin_25 : decode cX12_begin 25 = .ok (.iconst 1, 1) := by decide +kernel
theorem dX12_begin_26 : decode cX12_begin 26 = .ok (.bipush 8, 2) := by decide +kernel
theorem dX12_begin_28 : decode cX12_begin 28 = .ok (.iastore, 1) := by decide +kernel
theorem dX12_begin_29 : decode cX12_begin 29 = .ok (.aload_n 0, 1) := by decide +kernel
theorem dX12_begin_30 : decode cX12_begin 30 = .ok (.iconst 2, 1) := by decide +kernel
theorem dX12_begin_31 : decode cX12_begin 31 = .ok (.iconst 2, 1) := by decide +kernel
theorem dX12_begin_32 : decode cX12_begin 32 = .ok (.iastore, 1) := by decide +kernel
theorem dX12_begin_33 : decode cX12_begin 33 = .ok (.aload_n 0, 1) := by decide +kernel
theorem dX12_begin_34 : decode cX12_begin 34 = .ok (.iconst 3, 1) := by decide +kernel
theorem dX12_begin_35 : decode cX12_begin 35 = .ok (.bipush 20, 2) := by decide +kernel
theorem dX12_begin_37 : decode cX12_begin 37 = .ok (.iastore, 1) := by decide +kernel
theorem dX12_begin_38 : decode cX12_begin 38 = .ok (.aload_n 0, 1) := by decide +kernel
theorem dX12_begin_39 : decode cX12_begin 39 = .ok (.iconst 4, 1) := by decide +kernel
theorem dX12_begin_40 : decode cX12_begin 40 = .ok (.bipush 20, 2) := by decide +kernel
theorem dX12_begin_42 : decode cX12_begin 42 = .ok (.iastore, 1) := by decide +kernel
theorem dX12_begin_43 : decode cX12_begin 43 = .ok (.aload_n 0, 1) := by decide +kernel
theorem dX12_begin_44 : decode cX12_begin 44 = .ok (.iconst 5, 1) := by decide +kernel
theorem dX12_begin_45 : decode cX12_begin 45 = .ok (.bipush 100, 2) := by decide +kernel
theorem dX12_begin_47 : decode cX12_begin 47 = .ok (.iastore, 1) := by decide +kernel
theorem dX12_begin_48 : decode cX12_begin 48 = .ok (.aload_n 0, 1) := by decide +kernel
theorem dX12_begin_49 : decode cX12_begin 49 = .ok (.bipush 6, 2) := by decide +kernel
theorem dX12_begin_51 : decode cX12_begin 51 = .ok (.iconst 3, 1) := by decide +kernel
theorem dX12_begin_52 : decode cX12_begin 52 = .ok (.iastore, 1) := by decide +kernel
theorem dX12_begin_53 : decode cX12_begin 53 = .ok (.aload_n 0, 1) := by decide +kernel
theorem dX12_begin_54 : decode cX12_begin 54 = .ok (.bipush 7, 2) := by decide +kernel
theorem dX12_begin_56 : decode cX12_begin 56 = .ok (.bipush 20, 2) := by decide +kernel
theorem dX12_begin_58 : decode cX12_begin 58 = .ok (.iastore, 1) := by decide +kernel
theorem dX12_begin_59 : decode cX12_begin 59 = .ok (.aload_n 0, 1) := by decide +kernel
theorem dX12_begin_60 : decode cX12_begin 60 = .ok (.bipush 8, 2) := by decide +kernel
theorem dX12_begin_62 : decode cX12_begin 62 = .ok (.bipush 50, 2) := by decide +kernel
theorem dX12_begin_64 : decode cX12_begin 64 = .ok (.iastore, 1) := by decide +kernel
theorem dX12_begin_65 : decode cX12_begin 65 = .ok (.aload_n 0, 1) := by decide +kernel
theorem dX12_begin_66 : decode cX12_begin 66 = .ok (.bipush 12, 2) := by decide +kernel
theorem dX12_begin_68 : decode cX12_begin 68 = .ok (.bipush 20, 2) := by decide +kernel
theorem dX12_begin_70 : decode cX12_begin 70 = .ok (.iastore, 1) := by decide +kernel
theorem dX12_begin_71 : decode cX12_begin 71 = .ok (.return_, 1) := by decide +kernel
theorem dX12_relayOutput_0 : decode cX12_relayOutput 0 = .ok (.aload_n 0, 1) := by decide +kernel
theorem dX12_relayOutput_1 : decode cX12_relayOutput 1 = .ok (.bipush 12, 2) := by decide +kernel
theorem dX12_relayOutput_3 : decode cX12_relayOutput 3 = .ok (.iaload, 1) := by decide +kernel
theorem dX12_relayOutput_4 : decode cX12_relayOutput 4 = .ok (.aload_n 0, 1) := by decide +kernel
theorem dX12_relayOutput_5 : decode cX12_relayOutput 5 = .ok (.iconst 5, 1) := by decide +kernel
theorem dX12_relayOutput_6 : decode cX12_relayOutput 6 = .ok (.iaload, 1) := by decide +kernel
theorem dX12_relayOutput_7 : decode cX12_relayOutput 7 = .ok (.aload_n 0, 1) := by decide +kernel
theorem dX12_relayOutput_8 : decode cX12_relayOutput 8 = .ok (.bipush 6, 2) := by decide +kernel
theorem dX12_relayOutput_10 : decode cX12_relayOutput 10 = .ok (.iaload, 1) := by decide +kernel
theorem dX12_relayOutput_11 : decode cX12_relayOutput 11 = .ok (.iadd, 1) := by decide +kernel
theorem dX12_relayOutput_12 : decode cX12_relayOutput 12 = .ok (.if_icmp .lt 11, 3) := by decide +kernel
theorem dX12_relayOutput_15 : decode cX12_relayOutput 15 = .ok (.aload_n 0, 1) := by decide +kernel
theorem dX12_relayOutput_16 : decode cX12_relayOutput 16 = .ok (.bipush 14, 2) := by decide +kernel
theorem dX12_relayOutput_18 : decode cX12_relayOutput 18 = .ok (.iconst 0, 1) := by decide +kernel
theorem dX12_relayOutput_19 : decode cX12_relayOutput 19 = .ok (.iastore, 1) := by decide +kernel
theorem dX12_relayOutput_20 : decode cX12_relayOutput 20 = .ok (.goto 23, 3) := by decide +kernel
theorem dX12_relayOutput_23 : decode cX12_relayOutput 23 = .ok (.aload_n 0, 1) := by decide +kernel
theorem dX12_relayOutput_24 : decode cX12_relayOutput 24 = .ok (.bipush 12, 2) := by decide +kernel
theorem dX12_relayOutput_26 : decode cX12_relayOutput 26 = .ok (.iaload, 1) := by decide +kernel
theorem dX12_relayOutput_27 : decode cX12_relayOutput 27 = .ok (.aload_n 0, 1) := by decide +kernel
theorem dX12_relayOutput_28 : decode cX12_relayOutput 28 = .ok (.iconst 5, 1) := by decide +kernel
theorem dX12_relayOutput_29 : decode cX12_relayOutput 29 = .ok (.iaload, 1) := by decide +kernel
theorem dX12_relayOutput_30 : decode cX12_relayOutput 30 = .ok (.aload_n 0, 1) := by decide +kernel
theorem dX12_relayOutput_31 : decode cX12_relayOutput 31 = .ok (.bipush 6, 2) := by decide +kernel
theorem dX12_relayOutput_33 : decode cX12_relayOutput 33 = .ok (.iaload, 1) := by decide +kernel
theorem dX12_relayOutput_34 : decode cX12_relayOutput 34 = .ok (.isub, 1) := by decide +kernel
theorem dX12_relayOutput_35 : decode cX12_relayOutput 35 = .ok (.if_icmp .gt 8, 3) := by decide +kernel
theorem dX12_relayOutput_38 : decode cX12_relayOutput 38 = .ok (.aload_n 0, 1) := by decide +kernel
theorem dX12_relayOutput_39 : decode cX12_relayOutput 39 = .ok (.bipush 14, 2) := by decide +kernel
theorem dX12_relayOutput_41 : decode cX12_relayOutput 41 = .ok (.iconst 1, 1) := by decide +kernel
theorem dX12_relayOutput_42 : decode cX12_relayOutput 42 = .ok (.iastore, 1) := by decide +kernel
theorem dX12_relayOutput_43 : decode cX12_relayOutput 43 = .ok (.aload_n 0, 1) := by decide +kernel
theorem dX12_relayOutput_44 : decode cX12_relayOutput 44 = .ok (.bipush 14, 2) := by decide +kernel
theorem dX12_relayOutput_46 : decode cX12_relayOutput 46 = .ok (.iaload, 1) := by decide +kernel
theorem dX12_relayOutput_47 : decode cX12_relayOutput 47 = .ok (.iconst 1, 1) := by decide +kernel
theorem dX12_relayOutput_48 : decode cX12_relayOutput 48 = .ok (.if_icmp .ne 9, 3) := by decide +kernel
theorem dX12_relayOutput_51 : decode cX12_relayOutput 51 = .ok (.aload_n 0, 1) := by decide +kernel
theorem dX12_relayOutput_52 : decode cX12_relayOutput 52 = .ok (.iconst 4, 1) := by decide +kernel
theorem dX12_relayOutput_53 : decode cX12_relayOutput 53 = .ok (.iaload, 1) := by decide +kernel
theorem dX12_relayOutput_54 : decode cX12_relayOutput 54 = .ok (.goto 4, 3) := by decide +kernel
theorem dX12_relayOutput_57 : decode cX12_relayOutput 57 = .ok (.iconst 0, 1) := by decide +kernel
theorem dX12_relayOutput_58 : decode cX12_relayOutput 58 = .ok (.ireturn, 1) := by decide +kernel
set_option maxRecDepth 20000 in
theorem ggX12_controlOutput_X12_within : GoodIn wsX12_controlOutput wsX12_within := goodIn_r _ [4] (by decide +kernel) (by decide +kernel)
set_option maxRecDepth 20000 in
theorem gX12_controlOutput_X12_within : GoodIn wsX12_controlOutput (va_wsS RX12 43 yX12_within wsX12_within) := goodIn_app (goodIn_of _ (by decide +kernel)) ggX12_controlOutput_X12_within
theorem dX12_controlOutput_0 : decode cX12_controlOutput 0 = .ok (.aload_n 0, 1) := by decide +kernel
theorem dX12_controlOutput_1 : decode cX12_controlOutput 1 = .ok (.iconst 5, 1) := by decide +kernel
theorem dX12_controlOutput_2 : decode cX12_controlOutput 2 = .ok (.iaload, 1) := by decide +kernel
theorem dX12_controlOutput_3 : decode cX12_controlOutput 3 = .ok (.aload_n 0, 1) := by decide +kernel
theorem dX12_controlOutput_4 : decode cX12_controlOutput 4 = .ok (.bipush 12, 2) := by decide +kernel
theorem dX12_controlOutput_6 : decode cX12_controlOutput 6 = .ok (.iaload, 1) := by decide +kernel
theorem dX12_controlOutput_7 : decode cX12_controlOutput 7 = .ok (.isub, 1) := by decide +kernel
theorem dX12_controlOutput_8 : decode cX12_controlOutput 8 = .ok (.istore_n 1, 1) := by decide +kernel
theorem dX12_controlOutput_9 : decode cX12_controlOutput 9 = .ok (.aload_n 0, 1) := by decide +kernel
theorem dX12_controlOutput_10 : decode cX12_controlOutput 10 = .ok (.bipush 19, 2) := by decide +kernel
theorem dX12_controlOutput_12 : decode cX12_controlOutput 12 = .ok (.iaload, 1) := by decide +kernel
theorem dX12_controlOutput_13 : decode cX12_controlOutput 13 = .ok (.iconst 1, 1) := by decide +kernel
theorem dX12_controlOutput_14 : decode cX12_controlOutput 14 = .ok (.if_icmp .ne 12, 3) := by decide +kernel
theorem dX12_controlOutput_17 : decode cX12_controlOutput 17 = .ok (.iload_n 1, 1) := by decide +kernel
theorem dX12_controlOutput_18 : decode cX12_controlOutput 18 = .ok (.aload_n 0, 1) := by decide +kernel
theorem dX12_controlOutput_19 : decode cX12_controlOutput 19 = .ok (.bipush 20, 2) := by decide +kernel
theorem dX12_controlOutput_21 : decode cX12_controlOutput 21 = .ok (.iaload, 1) := by decide +kernel
theorem dX12_controlOutput_22 : decode cX12_controlOutput 22 = .ok (.isub, 1) := by decide +kernel
theorem dX12_controlOutput_23 : decode cX12_controlOutput 23 = .ok (.goto 4, 3) := by decide +kernel
theorem dX12_controlOutput_26 : decode cX12_controlOutput 26 = .ok (.iconst 0, 1) := by decide +kernel
theorem dX12_controlOutput_27 : decode cX12_controlOutput 27 = .ok (.istore_n 2, 1) := by decide +kernel
theorem dX12_controlOutput_28 : decode cX12_controlOutput 28 = .ok (.aload_n 0, 1) := by decide +kernel
theorem dX12_controlOutput_29 : decode cX12_controlOutput 29 = .ok (.bipush 8, 2) := by decide +kernel
theorem dX12_controlOutput_31 : decode cX12_controlOutput 31 = .ok (.iaload, 1) := by decide +kernel
theorem dX12_controlOutput_32 : decode cX12_controlOutput 32 = .ok (.iload_n 1, 1) := by decide +kernel
theorem dX12_controlOutput_33 : decode cX12_controlOutput 33 = .ok (.imul, 1) := by decide +kernel
theorem dX12_controlOutput_34 : decode cX12_controlOutput 34 = .ok (.aload_n 0, 1) := by decide +kernel
theorem dX12_controlOutput_35 : decode cX12_controlOutput 35 = .ok (.bipush 9, 2) := by decide +kernel
theorem dX12_controlOutput_37 : decode cX12_controlOutput 37 = .ok (.iaload, 1) := by decide +kernel
theorem dX12_controlOutput_38 : decode cX12_controlOutput 38 = .ok (.aload_n 0, 1) := by decide +kernel
theorem dX12_controlOutput_39 : decode cX12_controlOutput 39 = .ok (.bipush 15, 2) := by decide +kernel
theorem dX12_controlOutput_41 : decode cX12_controlOutput 41 = .ok (.iaload, 1) := by decide +kernel
theorem dX12_controlOutput_42 : decode cX12_controlOutput 42 = .ok (.imul, 1) := by decide +kernel
theorem dX12_controlOutput_43 : decode cX12_controlOutput 43 = .ok (.iadd, 1) := by decide +kernel
theorem dX12_controlOutput_44 : decode cX12_controlOutput 44 = .ok (.aload_n 0, 1) := by decide +kernel
theorem dX12_controlOutput_45 : decode cX12_controlOutput 45 = .ok (.bipush 10, 2) := by decide +kernel
theorem dX12_controlOutput_47 : decode cX12_controlOutput 47 = .ok (.iaload, 1) := by decide +kernel
theorem dX12_controlOutput_48 : decode cX12_controlOutput 48 = .ok (.iload_n 2, 1) := by decide +kernel
theorem dX12_controlOutput_49 : decode cX12_controlOutput 49 = .ok (.imul, 1) := by decide +kernel
theorem dX12_controlOutput_50 : decode cX12_controlOutput 50 = .ok (.iadd, 1) := by decide +kernel
theorem dX12_controlOutput_51 : decode cX12_controlOutput 51 = .ok (.bipush 100, 2) := by decide +kernel
theorem dX12_controlOutput_53 : decode cX12_controlOutput 53 = .ok (.idiv, 1) := by decide +kernel
theorem dX12_controlOutput_54 : decode cX12_controlOutput 54 = .ok (.istore_n 3, 1) := by decide +kernel
theorem dX12_controlOutput_55 : decode cX12_controlOutput 55 = .ok (.iload_n 3, 1) := by decide +kernel
theorem dX12_controlOutput_56 : decode cX12_controlOutput 56 = .ok (.iconst 0, 1) := by decide +kernel
theorem dX12_controlOutput_57 : decode cX12_controlOutput 57 = .ok (.aload_n 0, 1) := by decide +kernel
theorem dX12_controlOutput_58 : decode cX12_controlOutput 58 = .ok (.iconst 4, 1) := by decide +kernel
theorem dX12_controlOutput_59 : decode cX12_controlOutput 59 = .ok (.iaload, 1) := by decide +kernel
theorem dX12_controlOutput_60 : decode cX12_controlOutput 60 = .ok (.invokestatic 43, 3) := by decide +kernel
theorem dX12_controlOutput_63 : decode cX12_controlOutput 63 = .ok (.istore 4, 2) := by decide +kernel
theorem dX12_controlOutput_65 : decode cX12_controlOutput 65 = .ok (.aload_n 0, 1) := by decide +kernel
theorem dX12_controlOutput_66 : decode cX12_controlOutput 66 = .ok (.bipush 15, 2) := by decide +kernel
theorem dX12_controlOutput_68 : decode cX12_controlOutput 68 = .ok (.iload 4, 2) := by decide +kernel
theorem dX12_controlOutput_70 : decode cX12_controlOutput 70 = .ok (.iload_n 3, 1) := by decide +kernel
theorem dX12_controlOutput_71 : decode cX12_controlOutput 71 = .ok (.if_icmp .ne 21, 3) := by decide +kernel
theorem dX12_controlOutput_74 : decode cX12_controlOutput 74 = .ok (.aload_n 0, 1) := by decide +kernel
theorem dX12_controlOutput_75 : decode cX12_controlOutput 75 = .ok (.bipush 15, 2) := by decide +kernel
theorem dX12_controlOutput_77 : decode cX12_controlOutput 77 = .ok (.iaload, 1) := by decide +kernel
theorem dX12_controlOutput_78 : decode cX12_controlOutput 78 = .ok (.iload_n 1, 1) := by decide +kernel
theorem dX12_controlOutput_79 : decode cX12_controlOutput 79 = .ok (.iadd, 1) := by decide +kernel
theorem dX12_controlOutput_80 : decode cX12_controlOutput 80 = .ok (.sipush (-9999), 3) := by decide +kernel
theorem dX12_controlOutput_83 : decode cX12_controlOutput 83 = .ok (.sipush 9999, 3) := by decide +kernel
theorem dX12_controlOutput_86 : decode cX12_controlOutput 86 = .ok (.invokestatic 43, 3) := by decide +kernel
theorem dX12_controlOutput_89 : decode cX12_controlOutput 89 = .ok (.goto 7, 3) := by decide +kernel
theorem dX12_controlOutput_92 : decode cX12_controlOutput 92 = .ok (.aload_n 0, 1) := by decide +kernel
theorem dX12_controlOutput_93 : decode cX12_controlOutput 93 = .ok (.bipush 15, 2) := by decide +kernel
theorem dX12_controlOutput_95 : decode cX12_controlOutput 95 = .ok (.iaload, 1) := by decide +kernel
theorem dX12_controlOutput_96 : decode cX12_controlOutput 96 = .ok (.iastore, 1) := by decide +kernel
theorem dX12_controlOutput_97 : decode cX12_controlOutput 97 = .ok (.aload_n 0, 1) := by decide +kernel
theorem dX12_controlOutput_98 : decode cX12_controlOutput 98 = .ok (.bipush 19, 2) := by decide +kernel
theorem dX12_controlOutput_100 : decode cX12_controlOutput 100 = .ok (.iconst 1, 1) := by decide +kernel
theorem dX12_controlOutput_101 : decode cX12_controlOutput 101 = .ok (.iastore, 1) := by decide +kernel
theorem dX12_controlOutput_102 : decode cX12_controlOutput 102 = .ok (.aload_n 0, 1) := by decide +kernel
theorem dX12_controlOutput_103 : decode cX12_controlOutput 103 = .ok (.bipush 20, 2) := by decide +kernel
theorem dX12_controlOutput_105 : decode cX12_controlOutput 105 = .ok (.iload_n 1, 1) := by decide +kernel
theorem dX12_controlOutput_106 : decode cX12_controlOutput 106 = .ok (.iastore, 1) := by decide +kernel
theorem dX12_controlOutput_107 : decode cX12_controlOutput 107 = .ok (.iload 4, 2) := by decide +kernel
theorem dX12_controlOutput_109 : decode cX12_controlOutput 109 = .ok (.ireturn, 1) := by decide +kernel
set_option maxRecDepth 20000 in
theorem ggX12_warm_X12_within : GoodIn wsX12_warm wsX12_within := goodIn_r _ [4] (by decide +kernel) (by decide +kernel)
set_option maxRecDepth 20000 in
theorem gX12_warm_X12_within : GoodIn wsX12_warm (va_wsS RX12 43 yX12_within wsX12_within) := goodIn_app (goodIn_of _ (by decide +kernel)) ggX12_warm_X12_within
theorem dX12_warm_0 : decode cX12_warm 0 = .ok (.aload_n 0, 1) := by decide +kernel
theorem dX12_warm_1 : decode cX12_warm 1 = .ok (.iconst 3, 1) := by decide +kernel
theorem dX12_warm_2 : decode cX12_warm 2 = .ok (.iaload, 1) := by decide +kernel
theorem dX12_warm_3 : decode cX12_warm 3 = .ok (.aload_n 0, 1) := by decide +kernel
theorem dX12_warm_4 : decode cX12_warm 4 = .ok (.iconst 0, 1) := by decide +kernel
theorem dX12_warm_5 : decode cX12_warm 5 = .ok (.iaload, 1) := by decide +kernel
theorem dX12_warm_6 : decode cX12_warm 6 = .ok (.aload_n 0, 1) := by decide +kernel
theorem dX12_warm_7 : decode cX12_warm 7 = .ok (.bipush 25, 2) := by decide +kernel
theorem dX12_warm_9 : decode cX12_warm 9 = .ok (.aload_n 0, 1) := by decide +kernel
theorem dX12_warm_10 : decode cX12_warm 10 = .ok (.iconst 2, 1) := by decide +kernel
theorem dX12_warm_11 : decode cX12_warm 11 = .ok (.iaload, 1) := by decide +kernel
theorem dX12_warm_12 : decode cX12_warm 12 = .ok (.iadd, 1) := by decide +kernel
theorem dX12_warm_13 : decode cX12_warm 13 = .ok (.iaload, 1) := by decide +kernel
theorem dX12_warm_14 : decode cX12_warm 14 = .ok (.imul, 1) := by decide +kernel
theorem dX12_warm_15 : decode cX12_warm 15 = .ok (.iadd, 1) := by decide +kernel
theorem dX12_warm_16 : decode cX12_warm 16 = .ok (.aload_n 0, 1) := by decide +kernel
theorem dX12_warm_17 : decode cX12_warm 17 = .ok (.bipush 12, 2) := by decide +kernel
theorem dX12_warm_19 : decode cX12_warm 19 = .ok (.iaload, 1) := by decide +kernel
theorem dX12_warm_20 : decode cX12_warm 20 = .ok (.isub, 1) := by decide +kernel
theorem dX12_warm_21 : decode cX12_warm 21 = .ok (.istore_n 1, 1) := by decide +kernel
theorem dX12_warm_22 : decode cX12_warm 22 = .ok (.iload_n 1, 1) := by decide +kernel
theorem dX12_warm_23 : decode cX12_warm 23 = .ok (.aload_n 0, 1) := by decide +kernel
theorem dX12_warm_24 : decode cX12_warm 24 = .ok (.iconst 1, 1) := by decide +kernel
theorem dX12_warm_25 : decode cX12_warm 25 = .ok (.iaload, 1) := by decide +kernel
theorem dX12_warm_26 : decode cX12_warm 26 = .ok (.idiv, 1) := by decide +kernel
theorem dX12_warm_27 : decode cX12_warm 27 = .ok (.istore_n 2, 1) := by decide +kernel
theorem dX12_warm_28 : decode cX12_warm 28 = .ok (.iload_n 2, 1) := by decide +kernel
theorem dX12_warm_29 : decode cX12_warm 29 = .ok (.ifCond .ne 19, 3) := by decide +kernel
theorem dX12_warm_32 : decode cX12_warm 32 = .ok (.iload_n 1, 1) := by decide +kernel
theorem dX12_warm_33 : decode cX12_warm 33 = .ok (.ifCond .eq 15, 3) := by decide +kernel
theorem dX12_warm_36 : decode cX12_warm 36 = .ok (.iload_n 1, 1) := by decide +kernel
theorem dX12_warm_37 : decode cX12_warm 37 = .ok (.ifCond .le 7, 3) := by decide +kernel
theorem dX12_warm_40 : decode cX12_warm 40 = .ok (.iconst 1, 1) := by decide +kernel
theorem dX12_warm_41 : decode cX12_warm 41 = .ok (.goto 8, 3) := by decide +kernel
theorem dX12_warm_44 : decode cX12_warm 44 = .ok (.iconst (-1), 1) := by decide +kernel
theorem dX12_warm_45 : decode cX12_warm 45 = .ok (.goto 4, 3) := by decide +kernel
theorem dX12_warm_48 : decode cX12_warm 48 = .ok (.iload_n 2, 1) := by decide +kernel
theorem dX12_warm_49 : decode cX12_warm 49 = .ok (.istore_n 2, 1) := by decide +kernel
theorem dX12_warm_50 : decode cX12_warm 50 = .ok (.aload_n 0, 1) := by decide +kernel
theorem dX12_warm_51 : decode cX12_warm 51 = .ok (.bipush 12, 2) := by decide +kernel
theorem dX12_warm_53 : decode cX12_warm 53 = .ok (.aload_n 0, 1) := by decide +kernel
theorem dX12_warm_54 : decode cX12_warm 54 = .ok (.bipush 12, 2) := by decide +kernel
theorem dX12_warm_56 : decode cX12_warm 56 = .ok (.iaload, 1) := by decide +kernel
theorem dX12_warm_57 : decode cX12_warm 57 = .ok (.iload_n 2, 1) := by decide +kernel
theorem dX12_warm_58 : decode cX12_warm 58 = .ok (.iadd, 1) := by decide +kernel
theorem dX12_warm_59 : decode cX12_warm 59 = .ok (.sipush (-9999), 3) := by decide +kernel
theorem dX12_warm_62 : decode cX12_warm 62 = .ok (.sipush 9999, 3) := by decide +kernel
theorem dX12_warm_65 : decode cX12_warm 65 = .ok (.invokestatic 43, 3) := by decide +kernel
theorem dX12_warm_68 : decode cX12_warm 68 = .ok (.iastore, 1) := by decide +kernel
theorem dX12_warm_69 : decode cX12_warm 69 = .ok (.return_, 1) := by decide +kernel
set_option maxRecDepth 20000 in
theorem ggX12_addSwing_X12_dropSwing : GoodIn wsX12_addSwing wsX12_dropSwing := goodIn_r _ [4] (by decide +kernel) (by decide +kernel)
set_option maxRecDepth 20000 in
theorem gX12_addSwing_X12_dropSwing : GoodIn wsX12_addSwing (va_wsS RX12 47 yX12_dropSwing wsX12_dropSwing) := goodIn_app (goodIn_of _ (by decide +kernel)) ggX12_addSwing_X12_dropSwing
theorem dX12_addSwing_0 : decode cX12_addSwing 0 = .ok (.aload_n 0, 1) := by decide +kernel
theorem dX12_addSwing_1 : decode cX12_addSwing 1 = .ok (.bipush 16, 2) := by decide +kernel
theorem dX12_addSwing_3 : decode cX12_addSwing 3 = .ok (.iaload, 1) := by decide +kernel
theorem dX12_addSwing_4 : decode cX12_addSwing 4 = .ok (.bipush 20, 2) := by decide +kernel
theorem dX12_addSwing_6 : decode cX12_addSwing 6 = .ok (.if_icmp .ne 8, 3) := by decide +kernel
theorem dX12_addSwing_9 : decode cX12_addSwing 9 = .ok (.aload_n 0, 1) := by decide +kernel
theorem dX12_addSwing_10 : decode cX12_addSwing 10 = .ok (.iconst 0, 1) := by decide +kernel
theorem dX12_addSwing_11 : decode cX12_addSwing 11 = .ok (.invokestatic 47, 3) := by decide +kernel
theorem dX12_addSwing_14 : decode cX12_addSwing 14 = .ok (.bipush 42, 2) := by decide +kernel
theorem dX12_addSwing_16 : decode cX12_addSwing 16 = .ok (.iconst 4, 1) := by decide +kernel
theorem dX12_addSwing_17 : decode cX12_addSwing 17 = .ok (.aload_n 0, 1) := by decide +kernel
theorem dX12_addSwing_18 : decode cX12_addSwing 18 = .ok (.bipush 16, 2) := by decide +kernel
theorem dX12_addSwing_20 : decode cX12_addSwing 20 = .ok (.iaload, 1) := by decide +kernel
theorem dX12_addSwing_21 : decode cX12_addSwing 21 = .ok (.imul, 1) := by decide +kernel
theorem dX12_addSwing_22 : decode cX12_addSwing 22 = .ok (.iadd, 1) := by decide +kernel
theorem dX12_addSwing_23 : decode cX12_addSwing 23 = .ok (.istore_n 1, 1) := by decide +kernel
theorem dX12_addSwing_24 : decode cX12_addSwing 24 = .ok (.aload_n 0, 1) := by decide +kernel
theorem dX12_addSwing_25 : decode cX12_addSwing 25 = .ok (.iload_n 1, 1) := by decide +kernel
theorem dX12_addSwing_26 : decode cX12_addSwing 26 = .ok (.aload_n 0, 1) := by decide +kernel
theorem dX12_addSwing_27 : decode cX12_addSwing 27 = .ok (.bipush 22, 2) := by decide +kernel
theorem dX12_addSwing_29 : decode cX12_addSwing 29 = .ok (.iaload, 1) := by decide +kernel
theorem dX12_addSwing_30 : decode cX12_addSwing 30 = .ok (.iastore, 1) := by decide +kernel
theorem dX12_addSwing_31 : decode cX12_addSwing 31 = .ok (.aload_n 0, 1) := by decide +kernel
theorem dX12_addSwing_32 : decode cX12_addSwing 32 = .ok (.iload_n 1, 1) := by decide +kernel
theorem dX12_addSwing_33 : decode cX12_addSwing 33 = .ok (.iconst 1, 1) := by decide +kernel
theorem dX12_addSwing_34 : decode cX12_addSwing 34 = .ok (.iadd, 1) := by decide +kernel
theorem dX12_addSwing_35 : decode cX12_addSwing 35 = .ok (.aload_n 0, 1) := by decide +kernel
theorem dX12_addSwing_36 : decode cX12_addSwing 36 = .ok (.bipush 23, 2) := by decide +kernel
theorem dX12_addSwing_38 : decode cX12_addSwing 38 = .ok (.iaload, 1) := by decide +kernel
theorem dX12_addSwing_39 : decode cX12_addSwing 39 = .ok (.iastore, 1) := by decide +kernel
theorem dX12_addSwing_40 : decode cX12_addSwing 40 = .ok (.aload_n 0, 1) := by decide +kernel
theorem dX12_addSwing_41 : decode cX12_addSwing 41 = .ok (.iload_n 1, 1) := by decide +kernel
theorem dX12_addSwing_42 : decode cX12_addSwing 42 = .ok (.iconst 2, 1) := by decide +kernel
theorem dX12_addSwing_43 : decode cX12_addSwing 43 = .ok (.iadd, 1) := by decide +kernel
theorem dX12_addSwing_44 : decode cX12_addSwing 44 = .ok (.aload_n 0, 1) := by decide +kernel
theorem dX12_addSwing_45 : decode cX12_addSwing 45 = .ok (.bipush 24, 2) := by decide +kernel
theorem dX12_addSwing_47 : decode cX12_addSwing 47 = .ok (.iaload, 1) := by decide +kernel
theorem dX12_addSwing_48 : decode cX12_addSwing 48 = .ok (.iastore, 1) := by decide +kernel
theorem dX12_addSwing_49 : decode cX12_addSwing 49 = .ok (.aload_n 0, 1) := by decide +kernel
theorem dX12_addSwing_50 : decode cX12_addSwing 50 = .ok (.iload_n 1, 1) := by decide +kernel
theorem dX12_addSwing_51 : decode cX12_addSwing 51 = .ok (.iconst 3, 1) := by decide +kernel
theorem dX12_addSwing_52 : decode cX12_addSwing 52 = .ok (.iadd, 1) := by decide +kernel
theorem dX12_addSwing_53 : decode cX12_addSwing 53 = .ok (.aload_n 0, 1) := by decide +kernel
theorem dX12_addSwing_54 : decode cX12_addSwing 54 = .ok (.bipush 13, 2) := by decide +kernel
theorem dX12_addSwing_56 : decode cX12_addSwing 56 = .ok (.iaload, 1) := by decide +kernel
theorem dX12_addSwing_57 : decode cX12_addSwing 57 = .ok (.iastore, 1) := by decide +kernel
theorem dX12_addSwing_58 : decode cX12_addSwing 58 = .ok (.aload_n 0, 1) := by decide +kernel
theorem dX12_addSwing_59 : decode cX12_addSwing 59 = .ok (.bipush 16, 2) := by decide +kernel
theorem dX12_addSwing_61 : decode cX12_addSwing 61 = .ok (.dup2, 1) := by decide +kernel
theorem dX12_addSwing_62 : decode cX12_addSwing 62 = .ok (.iaload, 1) := by decide +kernel
theorem dX12_addSwing_63 : decode cX12_addSwing 63 = .ok (.iconst 1, 1) := by decide +kernel
theorem dX12_addSwing_64 : decode cX12_addSwing 64 = .ok (.iadd, 1) := by decide +kernel
theorem dX12_addSwing_65 : decode cX12_addSwing 65 = .ok (.iastore, 1) := by decide +kernel
theorem dX12_addSwing_66 : decode cX12_addSwing 66 = .ok (.return_, 1) := by decide +kernel
theorem dX12_dropSwing_0 : decode cX12_dropSwing 0 = .ok (.bipush 42, 2) := by decide +kernel
theorem dX12_dropSwing_2 : decode cX12_dropSwing 2 = .ok (.iconst 4, 1) := by decide +kernel
theorem dX12_dropSwing_3 : decode cX12_dropSwing 3 = .ok (.iload_n 1, 1) := by decide +kernel
theorem dX12_dropSwing_4 : decode cX12_dropSwing 4 = .ok (.imul, 1) := by decide +kernel
theorem dX12_dropSwing_5 : decode cX12_dropSwing 5 = .ok (.iadd, 1) := by decide +kernel
theorem dX12_dropSwing_6 : decode cX12_dropSwing 6 = .ok (.istore_n 2, 1) := by decide +kernel
theorem dX12_dropSwing_7 : decode cX12_dropSwing 7 = .ok (.iload_n 2, 1) := by decide +kernel
theorem dX12_dropSwing_8 : decode cX12_dropSwing 8 = .ok (.iconst 4, 1) := by decide +kernel
theorem dX12_dropSwing_9 : decode cX12_dropSwing 9 = .ok (.iadd, 1) := by decide +kernel
theorem dX12_dropSwing_10 : decode cX12_dropSwing 10 = .ok (.bipush 122, 2) := by decide +kernel
theorem dX12_dropSwing_12 : decode cX12_dropSwing 12 = .ok (.if_icmp .ge 17, 3) := by decide +kernel
theorem dX12_dropSwing_15 : decode cX12_dropSwing 15 = .ok (.aload_n 0, 1) := by decide +kernel
theorem dX12_dropSwing_16 : decode cX12_dropSwing 16 = .ok (.iload_n 2, 1) := by decide +kernel
theorem dX12_dropSwing_17 : decode cX12_dropSwing 17 = .ok (.aload_n 0, 1) := by decide +kernel
theorem dX12_dropSwing_18 : decode cX12_dropSwing 18 = .ok (.iload_n 2, 1) := by decide +kernel
theorem dX12_dropSwing_19 : decode cX12_dropSwing 19 = .ok (.iconst 4, 1) := by decide +kernel
theorem dX12_dropSwing_20 : decode cX12_dropSwing 20 = .ok (.iadd, 1) := by decide +kernel
theorem dX12_dropSwing_21 : decode cX12_dropSwing 21 = .ok (.iaload, 1) := by decide +kernel
theorem dX12_dropSwing_22 : decode cX12_dropSwing 22 = .ok (.iastore, 1) := by decide +kernel
theorem dX12_dropSwing_23 : decode cX12_dropSwing 23 = .ok (.iinc 2 1, 3) := by decide +kernel
theorem dX12_dropSwing_26 : decode cX12_dropSwing 26 = .ok (.goto (-19), 3) := by decide +kernel
theorem dX12_dropSwing_29 : decode cX12_dropSwing 29 = .ok (.aload_n 0, 1) := by decide +kernel
theorem dX12_dropSwing_30 : decode cX12_dropSwing 30 = .ok (.bipush 16, 2) := by decide +kernel
theorem dX12_dropSwing_32 : decode cX12_dropSwing 32 = .ok (.dup2, 1) := by decide +kernel
theorem dX12_dropSwing_33 : decode cX12_dropSwing 33 = .ok (.iaload, 1) := by decide +kernel
theorem dX12_dropSwing_34 : decode cX12_dropSwing 34 = .ok (.iconst 1, 1) := by decide +kernel
theorem dX12_dropSwing_35 : decode cX12_dropSwing 35 = .ok (.isub, 1) := by decide +kernel
theorem dX12_dropSwing_36 : decode cX12_dropSwing 36 = .ok (.iastore, 1) := by decide +kernel
theorem dX12_dropSwing_37 : decode cX12_dropSwing 37 = .ok (.return_, 1) := by decide +kernel
set_option maxRecDepth 20000 in
theorem ggX12_cross_X12_addSwing : GoodIn wsX12_cross wsX12_addSwing := goodIn_r _ [4, 5, 6, 3, 7] (by decide +kernel) (by decide +kernel)
set_option maxRecDepth 20000 in
theorem gX12_cross_X12_addSwing : GoodIn wsX12_cross (va_wsS RX12 51 yX12_addSwing wsX12_addSwing) := goodIn_app (goodIn_of _ (by decide +kernel)) ggX12_cross_X12_addSwing
theorem dX12_cross_0 : decode cX12_cross 0 = .ok (.aload_n 0, 1) := by decide +kernel
theorem dX12_cross_1 : decode cX12_cross 1 = .ok (.bipush 21, 2) := by decide +kernel
theorem dX12_cross_3 : decode cX12_cross 3 = .ok (.iaload, 1) := by decide +kernel
theorem dX12_cross_4 : decode cX12_cross 4 = .ok (.iconst 1, 1) := by decide +kernel
theorem dX12_cross_5 : decode cX12_cross 5 = .ok (.if_icmp .ne 77, 3) := by decide +kernel
theorem dX12_cross_8 : decode cX12_cross 8 = .ok (.aload_n 0, 1) := by decide +kernel
theorem dX12_cross_9 : decode cX12_cross 9 = .ok (.bipush 23, 2) := by decide +kernel
theorem dX12_cross_11 : decode cX12_cross 11 = .ok (.aload_n 0, 1) := by decide +kernel
theorem dX12_cross_12 : decode cX12_cross 12 = .ok (.bipush 22, 2) := by decide +kernel
theorem dX12_cross_14 : decode cX12_cross 14 = .ok (.iaload, 1) := by decide +kernel
theorem dX12_cross_15 : decode cX12_cross 15 = .ok (.ifCond .eq 14, 3) := by decide +kernel
theorem dX12_cross_18 : decode cX12_cross 18 = .ok (.aload_n 0, 1) := by decide +kernel
theorem dX12_cross_19 : decode cX12_cross 19 = .ok (.bipush 12, 2) := by decide +kernel
theorem dX12_cross_21 : decode cX12_cross 21 = .ok (.iaload, 1) := by decide +kernel
theorem dX12_cross_22 : decode cX12_cross 22 = .ok (.aload_n 0, 1) := by decide +kernel
theorem dX12_cross_23 : decode cX12_cross 23 = .ok (.bipush 23, 2) := by decide +kernel
theorem dX12_cross_25 : decode cX12_cross 25 = .ok (.iaload, 1) := by decide +kernel
theorem dX12_cross_26 : decode cX12_cross 26 = .ok (.if_icmp .le 10, 3) := by decide +kernel
theorem dX12_cross_29 : decode cX12_cross 29 = .ok (.aload_n 0, 1) := by decide +kernel
theorem dX12_cross_30 : decode cX12_cross 30 = .ok (.bipush 12, 2) := by decide +kernel
theorem dX12_cross_32 : decode cX12_cross 32 = .ok (.iaload, 1) := by decide +kernel
theorem dX12_cross_33 : decode cX12_cross 33 = .ok (.goto 7, 3) := by decide +kernel
theorem dX12_cross_36 : decode cX12_cross 36 = .ok (.aload_n 0, 1) := by decide +kernel
theorem dX12_cross_37 : decode cX12_cross 37 = .ok (.bipush 23, 2) := by decide +kernel
theorem dX12_cross_39 : decode cX12_cross 39 = .ok (.iaload, 1) := by decide +kernel
theorem dX12_cross_40 : decode cX12_cross 40 = .ok (.iastore, 1) := by decide +kernel
theorem dX12_cross_41 : decode cX12_cross 41 = .ok (.aload_n 0, 1) := by decide +kernel
theorem dX12_cross_42 : decode cX12_cross 42 = .ok (.bipush 24, 2) := by decide +kernel
theorem dX12_cross_44 : decode cX12_cross 44 = .ok (.aload_n 0, 1) := by decide +kernel
theorem dX12_cross_45 : decode cX12_cross 45 = .ok (.bipush 22, 2) := by decide +kernel
theorem dX12_cross_47 : decode cX12_cross 47 = .ok (.iaload, 1) := by decide +kernel
theorem dX12_cross_48 : decode cX12_cross 48 = .ok (.ifCond .eq 14, 3) := by decide +kernel
theorem dX12_cross_51 : decode cX12_cross 51 = .ok (.aload_n 0, 1) := by decide +kernel
theorem dX12_cross_52 : decode cX12_cross 52 = .ok (.bipush 12, 2) := by decide +kernel
theorem dX12_cross_54 : decode cX12_cross 54 = .ok (.iaload, 1) := by decide +kernel
theorem dX12_cross_55 : decode cX12_cross 55 = .ok (.aload_n 0, 1) := by decide +kernel
theorem dX12_cross_56 : decode cX12_cross 56 = .ok (.bipush 24, 2) := by decide +kernel
theorem dX12_cross_58 : decode cX12_cross 58 = .ok (.iaload, 1) := by decide +kernel
theorem dX12_cross_59 : decode cX12_cross 59 = .ok (.if_icmp .ge 10, 3) := by decide +kernel
theorem dX12_cross_62 : decode cX12_cross 62 = .ok (.aload_n 0, 1) := by decide +kernel
theorem dX12_cross_63 : decode cX12_cross 63 = .ok (.bipush 12, 2) := by decide +kernel
theorem dX12_cross_65 : decode cX12_cross 65 = .ok (.iaload, 1) := by decide +kernel
theorem dX12_cross_66 : decode cX12_cross 66 = .ok (.goto 7, 3) := by decide +kernel
theorem dX12_cross_69 : decode cX12_cross 69 = .ok (.aload_n 0, 1) := by decide +kernel
theorem dX12_cross_70 : decode cX12_cross 70 = .ok (.bipush 24, 2) := by decide +kernel
theorem dX12_cross_72 : decode cX12_cross 72 = .ok (.iaload, 1) := by decide +kernel
theorem dX12_cross_73 : decode cX12_cross 73 = .ok (.iastore, 1) := by decide +kernel
theorem dX12_cross_74 : decode cX12_cross 74 = .ok (.aload_n 0, 1) := by decide +kernel
theorem dX12_cross_75 : decode cX12_cross 75 = .ok (.bipush 22, 2) := by decide +kernel
theorem dX12_cross_77 : decode cX12_cross 77 = .ok (.dup2, 1) := by decide +kernel
theorem dX12_cross_78 : decode cX12_cross 78 = .ok (.iaload, 1) := by decide +kernel
theorem dX12_cross_79 : decode cX12_cross 79 = .ok (.iconst 1, 1) := by decide +kernel
theorem dX12_cross_80 : decode cX12_cross 80 = .ok (.iadd, 1) := by decide +kernel
theorem dX12_cross_81 : decode cX12_cross 81 = .ok (.iastore, 1) := by decide +kernel
theorem dX12_cross_82 : decode cX12_cross 82 = .ok (.iload_n 1, 1) := by decide +kernel
theorem dX12_cross_83 : decode cX12_cross 83 = .ok (.aload_n 0, 1) := by decide +kernel
theorem dX12_cross_84 : decode cX12_cross 84 = .ok (.iconst 5, 1) := by decide +kernel
theorem dX12_cross_85 : decode cX12_cross 85 = .ok (.iaload, 1) := by decide +kernel
theorem dX12_cross_86 : decode cX12_cross 86 = .ok (.if_icmp .ge 43, 3) := by decide +kernel
theorem dX12_cross_89 : decode cX12_cross 89 = .ok (.aload_n 0, 1) := by decide +kernel
theorem dX12_cross_90 : decode cX12_cross 90 = .ok (.bipush 12, 2) := by decide +kernel
theorem dX12_cross_92 : decode cX12_cross 92 = .ok (.iaload, 1) := by decide +kernel
theorem dX12_cross_93 : decode cX12_cross 93 = .ok (.aload_n 0, 1) := by decide +kernel
theorem dX12_cross_94 : decode cX12_cross 94 = .ok (.iconst 5, 1) := by decide +kernel
theorem dX12_cross_95 : decode cX12_cross 95 = .ok (.iaload, 1) := by decide +kernel
theorem dX12_cross_96 : decode cX12_cross 96 = .ok (.if_icmp .lt 33, 3) := by decide +kernel
theorem dX12_cross_99 : decode cX12_cross 99 = .ok (.aload_n 0, 1) := by decide +kernel
theorem dX12_cross_100 : decode cX12_cross 100 = .ok (.bipush 40, 2) := by decide +kernel
theorem dX12_cross_102 : decode cX12_cross 102 = .ok (.dup2, 1) := by decide +kernel
theorem dX12_cross_103 : decode cX12_cross 103 = .ok (.iaload, 1) := by decide +kernel
theorem dX12_cross_104 : decode cX12_cross 104 = .ok (.iconst 1, 1) := by decide +kernel
theorem dX12_cross_105 : decode cX12_cross 105 = .ok (.iadd, 1) := by decide +kernel
theorem dX12_cross_106 : decode cX12_cross 106 = .ok (.iastore, 1) := by decide +kernel
theorem dX12_cross_107 : decode cX12_cross 107 = .ok (.aload_n 0, 1) := by decide +kernel
theorem dX12_cross_108 : decode cX12_cross 108 = .ok (.bipush 21, 2) := by decide +kernel
theorem dX12_cross_110 : decode cX12_cross 110 = .ok (.iaload, 1) := by decide +kernel
theorem dX12_cross_111 : decode cX12_cross 111 = .ok (.iconst 1, 1) := by decide +kernel
theorem dX12_cross_112 : decode cX12_cross 112 = .ok (.if_icmp .ne 7, 3) := by decide +kernel
theorem dX12_cross_115 : decode cX12_cross 115 = .ok (.aload_n 0, 1) := by decide +kernel
theorem dX12_cross_116 : decode cX12_cross 116 = .ok (.invokestatic 51, 3) := by decide +kernel
theorem dX12_cross_119 : decode cX12_cross 119 = .ok (.aload_n 0, 1) := by decide +kernel
theorem dX12_cross_120 : decode cX12_cross 120 = .ok (.bipush 21, 2) := by decide +kernel
theorem dX12_cross_122 : decode cX12_cross 122 = .ok (.iconst 1, 1) := by decide +kernel
theorem dX12_cross_123 : decode cX12_cross 123 = .ok (.iastore, 1) := by decide +kernel
theorem dX12_cross_124 : decode cX12_cross 124 = .ok (.aload_n 0, 1) := by decide +kernel
theorem dX12_cross_125 : decode cX12_cross 125 = .ok (.bipush 22, 2) := by decide +kernel
theorem dX12_cross_127 : decode cX12_cross 127 = .ok (.iconst 0, 1) := by decide +kernel
theorem dX12_cross_128 : decode cX12_cross 128 = .ok (.iastore, 1) := by decide +kernel
theorem dX12_cross_129 : decode cX12_cross 129 = .ok (.return_, 1) := by decide +kernel
set_option maxRecDepth 20000 in
theorem ggX12_tickOn_X12_relayOutput : GoodIn wsX12_tickOn wsX12_relayOutput := goodIn_r _ [4] (by decide +kernel) (by decide +kernel)
set_option maxRecDepth 20000 in
theorem gX12_tickOn_X12_relayOutput : GoodIn wsX12_tickOn (va_wsS RX12 54 yX12_relayOutput wsX12_relayOutput) := goodIn_app (goodIn_of _ (by decide +kernel)) ggX12_tickOn_X12_relayOutput
set_option maxRecDepth 20000 in
theorem ggX12_tickOn_X12_controlOutput : GoodIn wsX12_tickOn wsX12_controlOutput := goodIn_r _ [7, 8, 9, 3, 10] (by decide +kernel) (by decide +kernel)
set_option maxRecDepth 20000 in
theorem gX12_tickOn_X12_controlOutput : GoodIn wsX12_tickOn (va_wsS RX12 58 yX12_controlOutput wsX12_controlOutput) := goodIn_app (goodIn_of _ (by decide +kernel)) ggX12_tickOn_X12_controlOutput
set_option maxRecDepth 20000 in
theorem ggX12_tickOn_X12_warm : GoodIn wsX12_tickOn wsX12_warm := goodIn_r _ [13, 8, 9, 3, 10] (by decide +kernel) (by decide +kernel)
set_option maxRecDepth 20000 in
theorem gX12_tickOn_X12_warm : GoodIn wsX12_tickOn (va_wsS RX12 61 yX12_warm wsX12_warm) := goodIn_app (goodIn_of _ (by decide +kernel)) ggX12_tickOn_X12_warm
set_option maxRecDepth 20000 in
theorem ggX12_tickOn_X12_cross : GoodIn wsX12_tickOn wsX12_cross := goodIn_r _ [16, 17, 18, 3, 19, 20, 21, 22] (by decide +kernel) (by decide +kernel)
set_option maxRecDepth 20000 in
theorem gX12_tickOn_X12_cross : GoodIn wsX12_tickOn (va_wsS RX12 64 yX12_cross wsX12_cross) := goodIn_app (goodIn_of _ (by decide +kernel)) ggX12_tickOn_X12_cross
theorem dX12_tickOn_0 : decode cX12_tickOn 0 = .ok (.aload_n 0, 1) := by decide +kernel
theorem dX12_tickOn_1 : decode cX12_tickOn 1 = .ok (.bipush 12, 2) := by decide +kernel
theorem dX12_tickOn_3 : decode cX12_tickOn 3 = .ok (.iaload, 1) := by decide +kernel
theorem dX12_tickOn_4 : decode cX12_tickOn 4 = .ok (.istore_n 1, 1) := by decide +kernel
theorem dX12_tickOn_5 : decode cX12_tickOn 5 = .ok (.aload_n 0, 1) := by decide +kernel
theorem dX12_tickOn_6 : decode cX12_tickOn 6 = .ok (.bipush 11, 2) := by decide +kernel
theorem dX12_tickOn_8 : decode cX12_tickOn 8 = .ok (.iaload, 1) := by decide +kernel
theorem dX12_tickOn_9 : decode cX12_tickOn 9 = .ok (.ifCond .ne 7, 3) := by decide +kernel
theorem dX12_tickOn_12 : decode cX12_tickOn 12 = .ok (.iconst 0, 1) := by decide +kernel
theorem dX12_tickOn_13 : decode cX12_tickOn 13 = .ok (.goto 22, 3) := by decide +kernel
theorem dX12_tickOn_16 : decode cX12_tickOn 16 = .ok (.aload_n 0, 1) := by decide +kernel
theorem dX12_tickOn_17 : decode cX12_tickOn 17 = .ok (.bipush 11, 2) := by decide +kernel
theorem dX12_tickOn_19 : decode cX12_tickOn 19 = .ok (.iaload, 1) := by decide +kernel
theorem dX12_tickOn_20 : decode cX12_tickOn 20 = .ok (.iconst 1, 1) := by decide +kernel
theorem dX12_tickOn_21 : decode cX12_tickOn 21 = .ok (.if_icmp .ne 10, 3) := by decide +kernel
theorem dX12_tickOn_24 : decode cX12_tickOn 24 = .ok (.aload_n 0, 1) := by decide +kernel
theorem dX12_tickOn_25 : decode cX12_tickOn 25 = .ok (.invokestatic 54, 3) := by decide +kernel
theorem dX12_tickOn_28 : decode cX12_tickOn 28 = .ok (.goto 7, 3) := by decide +kernel
theorem dX12_tickOn_31 : decode cX12_tickOn 31 = .ok (.aload_n 0, 1) := by decide +kernel
theorem dX12_tickOn_32 : decode cX12_tickOn 32 = .ok (.invokestatic 58, 3) := by decide +kernel
theorem dX12_tickOn_35 : decode cX12_tickOn 35 = .ok (.istore_n 2, 1) := by decide +kernel
theorem dX12_tickOn_36 : decode cX12_tickOn 36 = .ok (.aload_n 0, 1) := by decide +kernel
theorem dX12_tickOn_37 : decode cX12_tickOn 37 = .ok (.bipush 39, 2) := by decide +kernel
theorem dX12_tickOn_39 : decode cX12_tickOn 39 = .ok (.dup2, 1) := by decide +kernel
theorem dX12_tickOn_40 : decode cX12_tickOn 40 = .ok (.iaload, 1) := by decide +kernel
theorem dX12_tickOn_41 : decode cX12_tickOn 41 = .ok (.iload_n 2, 1) := by decide +kernel
theorem dX12_tickOn_42 : decode cX12_tickOn 42 = .ok (.aload_n 0, 1) := by decide +kernel
theorem dX12_tickOn_43 : decode cX12_tickOn 43 = .ok (.bipush 18, 2) := by decide +kernel
theorem dX12_tickOn_45 : decode cX12_tickOn 45 = .ok (.iaload, 1) := by decide +kernel
theorem dX12_tickOn_46 : decode cX12_tickOn 46 = .ok (.if_icmp .eq 7, 3) := by decide +kernel
theorem dX12_tickOn_49 : decode cX12_tickOn 49 = .ok (.iconst 1, 1) := by decide +kernel
theorem dX12_tickOn_50 : decode cX12_tickOn 50 = .ok (.goto 4, 3) := by decide +kernel
theorem dX12_tickOn_53 : decode cX12_tickOn 53 = .ok (.iconst 0, 1) := by decide +kernel
theorem dX12_tickOn_54 : decode cX12_tickOn 54 = .ok (.iadd, 1) := by decide +kernel
theorem dX12_tickOn_55 : decode cX12_tickOn 55 = .ok (.iastore, 1) := by decide +kernel
theorem dX12_tickOn_56 : decode cX12_tickOn 56 = .ok (.aload_n 0, 1) := by decide +kernel
theorem dX12_tickOn_57 : decode cX12_tickOn 57 = .ok (.bipush 38, 2) := by decide +kernel
theorem dX12_tickOn_59 : decode cX12_tickOn 59 = .ok (.dup2, 1) := by decide +kernel
theorem dX12_tickOn_60 : decode cX12_tickOn 60 = .ok (.iaload, 1) := by decide +kernel
theorem dX12_tickOn_61 : decode cX12_tickOn 61 = .ok (.iload_n 2, 1) := by decide +kernel
theorem dX12_tickOn_62 : decode cX12_tickOn 62 = .ok (.iadd, 1) := by decide +kernel
theorem dX12_tickOn_63 : decode cX12_tickOn 63 = .ok (.iastore, 1) := by decide +kernel
theorem dX12_tickOn_64 : decode cX12_tickOn 64 = .ok (.aload_n 0, 1) := by decide +kernel
theorem dX12_tickOn_65 : decode cX12_tickOn 65 = .ok (.bipush 35, 2) := by decide +kernel
theorem dX12_tickOn_67 : decode cX12_tickOn 67 = .ok (.aload_n 0, 1) := by decide +kernel
theorem dX12_tickOn_68 : decode cX12_tickOn 68 = .ok (.bipush 11, 2) := by decide +kernel
theorem dX12_tickOn_70 : decode cX12_tickOn 70 = .ok (.iaload, 1) := by decide +kernel
theorem dX12_tickOn_71 : decode cX12_tickOn 71 = .ok (.iadd, 1) := by decide +kernel
theorem dX12_tickOn_72 : decode cX12_tickOn 72 = .ok (.dup2, 1) := by decide +kernel
theorem dX12_tickOn_73 : decode cX12_tickOn 73 = .ok (.iaload, 1) := by decide +kernel
theorem dX12_tickOn_74 : decode cX12_tickOn 74 = .ok (.iconst 1, 1) := by decide +kernel
theorem dX12_tickOn_75 : decode cX12_tickOn 75 = .ok (.iadd, 1) := by decide +kernel
theorem dX12_tickOn_76 : decode cX12_tickOn 76 = .ok (.iastore, 1) := by decide +kernel
theorem dX12_tickOn_77 : decode cX12_tickOn 77 = .ok (.aload_n 0, 1) := by decide +kernel
theorem dX12_tickOn_78 : decode cX12_tickOn 78 = .ok (.bipush 18, 2) := by decide +kernel
theorem dX12_tickOn_80 : decode cX12_tickOn 80 = .ok (.iload_n 2, 1) := by decide +kernel
theorem dX12_tickOn_81 : decode cX12_tickOn 81 = .ok (.iastore, 1) := by decide +kernel
theorem dX12_tickOn_82 : decode cX12_tickOn 82 = .ok (.bipush 9, 2) := by decide +kernel
theorem dX12_tickOn_84 : decode cX12_tickOn 84 = .ok (.istore_n 3, 1) := by decide +kernel
theorem dX12_tickOn_85 : decode cX12_tickOn 85 = .ok (.iload_n 3, 1) := by decide +kernel
theorem dX12_tickOn_86 : decode cX12_tickOn 86 = .ok (.ifCond .le 23, 3) := by decide +kernel
theorem dX12_tickOn_89 : decode cX12_tickOn 89 = .ok (.aload_n 0, 1) := by decide +kernel
theorem dX12_tickOn_90 : decode cX12_tickOn 90 = .ok (.bipush 25, 2) := by decide +kernel
theorem dX12_tickOn_92 : decode cX12_tickOn 92 = .ok (.iload_n 3, 1) := by decide +kernel
theorem dX12_tickOn_93 : decode cX12_tickOn 93 = .ok (.iadd, 1) := by decide +kernel
theorem dX12_tickOn_94 : decode cX12_tickOn 94 = .ok (.aload_n 0, 1) := by decide +kernel
theorem dX12_tickOn_95 : decode cX12_tickOn 95 = .ok (.bipush 25, 2) := by decide +kernel
theorem dX12_tickOn_97 : decode cX12_tickOn 97 = .ok (.iload_n 3, 1) := by decide +kernel
theorem dX12_tickOn_98 : decode cX12_tickOn 98 = .ok (.iadd, 1) := by decide +kernel
theorem dX12_tickOn_99 : decode cX12_tickOn 99 = .ok (.iconst 1, 1) := by decide +kernel
theorem dX12_tickOn_100 : decode cX12_tickOn 100 = .ok (.isub, 1) := by decide +kernel
theorem dX12_tickOn_101 : decode cX12_tickOn 101 = .ok (.iaload, 1) := by decide +kernel
theorem dX12_tickOn_102 : decode cX12_tickOn 102 = .ok (.iastore, 1) := by decide +kernel
theorem dX12_tickOn_103 : decode cX12_tickOn 103 = .ok (.iinc 3 (-1), 3) := by decide +kernel
theorem dX12_tickOn_106 : decode cX12_tickOn 106 = .ok (.goto (-21), 3) := by decide +kernel
theorem dX12_tickOn_109 : decode cX12_tickOn 109 = .ok (.aload_n 0, 1) := by decide +kernel
theorem dX12_tickOn_110 : decode cX12_tickOn 110 = .ok (.bipush 25, 2) := by decide +kernel
theorem dX12_tickOn_112 : decode cX12_tickOn 112 = .ok (.iload_n 2, 1) := by decide +kernel
theorem dX12_tickOn_113 : decode cX12_tickOn 113 = .ok (.iastore, 1) := by decide +kernel
theorem dX12_tickOn_114 : decode cX12_tickOn 114 = .ok (.aload_n 0, 1) := by decide +kernel
theorem dX12_tickOn_115 : decode cX12_tickOn 115 = .ok (.invokestatic 61, 3) := by decide +kernel
theorem dX12_tickOn_118 : decode cX12_tickOn 118 = .ok (.aload_n 0, 1) := by decide +kernel
theorem dX12_tickOn_119 : decode cX12_tickOn 119 = .ok (.bipush 13, 2) := by decide +kernel
theorem dX12_tickOn_121 : decode cX12_tickOn 121 = .ok (.dup2, 1) := by decide +kernel
theorem dX12_tickOn_122 : decode cX12_tickOn 122 = .ok (.iaload, 1) := by decide +kernel
theorem dX12_tickOn_123 : decode cX12_tickOn 123 = .ok (.iconst 1, 1) := by decide +kernel
theorem dX12_tickOn_124 : decode cX12_tickOn 124 = .ok (.iadd, 1) := by decide +kernel
theorem dX12_tickOn_125 : decode cX12_tickOn 125 = .ok (.iastore, 1) := by decide +kernel
theorem dX12_tickOn_126 : decode cX12_tickOn 126 = .ok (.aload_n 0, 1) := by decide +kernel
theorem dX12_tickOn_127 : decode cX12_tickOn 127 = .ok (.bipush 11, 2) := by decide +kernel
theorem dX12_tickOn_129 : decode cX12_tickOn 129 = .ok (.iaload, 1) := by decide +kernel
theorem dX12_tickOn_130 : decode cX12_tickOn 130 = .ok (.iconst 1, 1) := by decide +kernel
theorem dX12_tickOn_131 : decode cX12_tickOn 131 = .ok (.if_icmp .ne 8, 3) := by decide +kernel
theorem dX12_tickOn_134 : decode cX12_tickOn 134 = .ok (.aload_n 0, 1) := by decide +kernel
theorem dX12_tickOn_135 : decode cX12_tickOn 135 = .ok (.iload_n 1, 1) := by decide +kernel
theorem dX12_tickOn_136 : decode cX12_tickOn 136 = .ok (.invokestatic 64, 3) := by decide +kernel
theorem dX12_tickOn_139 : decode cX12_tickOn 139 = .ok (.return_, 1) := by decide +kernel
set_option maxRecDepth 20000 in
theorem ggX12_ticksOn_X12_tickOn : GoodIn wsX12_ticksOn wsX12_tickOn := goodIn_r _ [4, 5, 6, 3, 7, 8, 9, 10, 11, 12, 13, 14, 15, 16, 17, 18, 19, 20, 21, 22, 23, 24, 25] (by decide +kernel) (by decide +kernel)
set_option maxRecDepth 20000 in
theorem gX12_ticksOn_X12_tickOn : GoodIn wsX12_ticksOn (va_wsS RX12 67 yX12_tickOn wsX12_tickOn) := goodIn_app (goodIn_of _ (by decide +kernel)) ggX12_ticksOn_X12_tickOn
theorem dX12_ticksOn_0 : decode cX12_ticksOn 0 = .ok (.iconst 0, 1) := by decide +kernel
theorem dX12_ticksOn_1 : decode cX12_ticksOn 1 = .ok (.istore_n 2, 1) := by decide +kernel
theorem dX12_ticksOn_2 : decode cX12_ticksOn 2 = .ok (.iload_n 2, 1) := by decide +kernel
theorem dX12_ticksOn_3 : decode cX12_ticksOn 3 = .ok (.iload_n 1, 1) := by decide +kernel
theorem dX12_ticksOn_4 : decode cX12_ticksOn 4 = .ok (.if_icmp .ge 13, 3) := by decide +kernel
theorem dX12_ticksOn_7 : decode cX12_ticksOn 7 = .ok (.aload_n 0, 1) := by decide +kernel
theorem dX12_ticksOn_8 : decode cX12_ticksOn 8 = .ok (.invokestatic 67, 3) := by decide +kernel
theorem dX12_ticksOn_11 : decode cX12_ticksOn 11 = .ok (.iinc 2 1, 3) := by decide +kernel
theorem dX12_ticksOn_14 : decode cX12_ticksOn 14 = .ok (.goto (-12), 3) := by decide +kernel
theorem dX12_ticksOn_17 : decode cX12_ticksOn 17 = .ok (.return_, 1) := by decide +kernel
theorem dX12_modeOn_0 : decode cX12_modeOn 0 = .ok (.aload_n 0, 1) := by decide +kernel
theorem dX12_modeOn_1 : decode cX12_modeOn 1 = .ok (.bipush 11, 2) := by decide +kernel
theorem dX12_modeOn_3 : decode cX12_modeOn 3 = .ok (.iaload, 1) := by decide +kernel
theorem dX12_modeOn_4 : decode cX12_modeOn 4 = .ok (.iload_n 1, 1) := by decide +kernel
theorem dX12_modeOn_5 : decode cX12_modeOn 5 = .ok (.if_icmp .ne 4, 3) := by decide +kernel
theorem dX12_modeOn_8 : decode cX12_modeOn 8 = .ok (.return_, 1) := by decide +kernel
theorem dX12_modeOn_9 : decode cX12_modeOn 9 = .ok (.aload_n 0, 1) := by decide +kernel
theorem dX12_modeOn_10 : decode cX12_modeOn 10 = .ok (.bipush 11, 2) := by decide +kernel
theorem dX12_modeOn_12 : decode cX12_modeOn 12 = .ok (.iload_n 1, 1) := by decide +kernel
theorem dX12_modeOn_13 : decode cX12_modeOn 13 = .ok (.iastore, 1) := by decide +kernel
theorem dX12_modeOn_14 : decode cX12_modeOn 14 = .ok (.aload_n 0, 1) := by decide +kernel
theorem dX12_modeOn_15 : decode cX12_modeOn 15 = .ok (.bipush 14, 2) := by decide +kernel
theorem dX12_modeOn_17 : decode cX12_modeOn 17 = .ok (.iload_n 1, 1) := by decide +kernel
theorem dX12_modeOn_18 : decode cX12_modeOn 18 = .ok (.iconst 1, 1) := by decide +kernel
theorem dX12_modeOn_19 : decode cX12_modeOn 19 = .ok (.if_icmp .ne 7, 3) := by decide +kernel
theorem dX12_modeOn_22 : decode cX12_modeOn 22 = .ok (.iconst 1, 1) := by decide +kernel
theorem dX12_modeOn_23 : decode cX12_modeOn 23 = .ok (.goto 4, 3) := by decide +kernel
theorem dX12_modeOn_26 : decode cX12_modeOn 26 = .ok (.iconst 0, 1) := by decide +kernel
theorem dX12_modeOn_27 : decode cX12_modeOn 27 = .ok (.iastore, 1) := by decide +kernel
theorem dX12_modeOn_28 : decode cX12_modeOn 28 = .ok (.aload_n 0, 1) := by decide +kernel
theorem dX12_modeOn_29 : decode cX12_modeOn 29 = .ok (.bipush 21, 2) := by decide +kernel
theorem dX12_modeOn_31 : decode cX12_modeOn 31 = .ok (.iconst 0, 1) := by decide +kernel
theorem dX12_modeOn_32 : decode cX12_modeOn 32 = .ok (.iastore, 1) := by decide +kernel
theorem dX12_modeOn_33 : decode cX12_modeOn 33 = .ok (.aload_n 0, 1) := by decide +kernel
theorem dX12_modeOn_34 : decode cX12_modeOn 34 = .ok (.bipush 22, 2) := by decide +kernel
theorem dX12_modeOn_36 : decode cX12_modeOn 36 = .ok (.iconst 0, 1) := by decide +kernel
theorem dX12_modeOn_37 : decode cX12_modeOn 37 = .ok (.iastore, 1) := by decide +kernel
theorem dX12_modeOn_38 : decode cX12_modeOn 38 = .ok (.iload_n 1, 1) := by decide +kernel
theorem dX12_modeOn_39 : decode cX12_modeOn 39 = .ok (.iconst 2, 1) := by decide +kernel
theorem dX12_modeOn_40 : decode cX12_modeOn 40 = .ok (.if_icmp .ne 13, 3) := by decide +kernel
theorem dX12_modeOn_43 : decode cX12_modeOn 43 = .ok (.aload_n 0, 1) := by decide +kernel
theorem dX12_modeOn_44 : decode cX12_modeOn 44 = .ok (.bipush 15, 2) := by decide +kernel
theorem dX12_modeOn_46 : decode cX12_modeOn 46 = .ok (.iconst 0, 1) := by decide +kernel
theorem dX12_modeOn_47 : decode cX12_modeOn 47 = .ok (.iastore, 1) := by decide +kernel
theorem dX12_modeOn_48 : decode cX12_modeOn 48 = .ok (.aload_n 0, 1) := by decide +kernel
theorem dX12_modeOn_49 : decode cX12_modeOn 49 = .ok (.bipush 19, 2) := by decide +kernel
theorem dX12_modeOn_51 : decode cX12_modeOn 51 = .ok (.iconst 0, 1) := by decide +kernel
theorem dX12_modeOn_52 : decode cX12_modeOn 52 = .ok (.iastore, 1) := by decide +kernel
theorem dX12_modeOn_53 : decode cX12_modeOn 53 = .ok (.return_, 1) := by decide +kernel
set_option maxRecDepth 20000 in
theorem ggX12_disturbOn_X12_within : GoodIn wsX12_disturbOn wsX12_within := goodIn_r _ [4] (by decide +kernel) (by decide +kernel)
set_option maxRecDepth 20000 in
theorem gX12_disturbOn_X12_within : GoodIn wsX12_disturbOn (va_wsS RX12 43 yX12_within wsX12_within) := goodIn_app (goodIn_of _ (by decide +kernel)) ggX12_disturbOn_X12_within
theorem dX12_disturbOn_0 : decode cX12_disturbOn 0 = .ok (.aload_n 0, 1) := by decide +kernel
theorem dX12_disturbOn_1 : decode cX12_disturbOn 1 = .ok (.bipush 12, 2) := by decide +kernel
theorem dX12_disturbOn_3 : decode cX12_disturbOn 3 = .ok (.aload_n 0, 1) := by decide +kernel
theorem dX12_disturbOn_4 : decode cX12_disturbOn 4 = .ok (.bipush 12, 2) := by decide +kernel
theorem dX12_disturbOn_6 : decode cX12_disturbOn 6 = .ok (.iaload, 1) := by decide +kernel
theorem dX12_disturbOn_7 : decode cX12_disturbOn 7 = .ok (.iload_n 1, 1) := by decide +kernel
theorem dX12_disturbOn_8 : decode cX12_disturbOn 8 = .ok (.iadd, 1) := by decide +kernel
theorem dX12_disturbOn_9 : decode cX12_disturbOn 9 = .ok (.sipush (-9999), 3) := by decide +kernel
theorem dX12_disturbOn_12 : decode cX12_disturbOn 12 = .ok (.sipush 9999, 3) := by decide +kernel
theorem dX12_disturbOn_15 : decode cX12_disturbOn 15 = .ok (.invokestatic 43, 3) := by decide +kernel
theorem dX12_disturbOn_18 : decode cX12_disturbOn 18 = .ok (.iastore, 1) := by decide +kernel
theorem dX12_disturbOn_19 : decode cX12_disturbOn 19 = .ok (.aload_n 0, 1) := by decide +kernel
theorem dX12_disturbOn_20 : decode cX12_disturbOn 20 = .ok (.bipush 41, 2) := by decide +kernel
theorem dX12_disturbOn_22 : decode cX12_disturbOn 22 = .ok (.dup2, 1) := by decide +kernel
theorem dX12_disturbOn_23 : decode cX12_disturbOn 23 = .ok (.iaload, 1) := by decide +kernel
theorem dX12_disturbOn_24 : decode cX12_disturbOn 24 = .ok (.iconst 1, 1) := by decide +kernel
theorem dX12_disturbOn_25 : decode cX12_disturbOn 25 = .ok (.iadd, 1) := by decide +kernel
theorem dX12_disturbOn_26 : decode cX12_disturbOn 26 = .ok (.iastore, 1) := by decide +kernel
theorem dX12_disturbOn_27 : decode cX12_disturbOn 27 = .ok (.return_, 1) := by decide +kernel
theorem dX12_spanOf_0 : decode cX12_spanOf 0 = .ok (.aload_n 0, 1) := by decide +kernel
theorem dX12_spanOf_1 : decode cX12_spanOf 1 = .ok (.bipush 42, 2) := by decide +kernel
theorem dX12_spanOf_3 : decode cX12_spanOf 3 = .ok (.iconst 4, 1) := by decide +kernel
theorem dX12_spanOf_4 : decode cX12_spanOf 4 = .ok (.iload_n 1, 1) := by decide +kernel
theorem dX12_spanOf_5 : decode cX12_spanOf 5 = .ok (.imul, 1) := by decide +kernel
theorem dX12_spanOf_6 : decode cX12_spanOf 6 = .ok (.iadd, 1) := by decide +kernel
theorem dX12_spanOf_7 : decode cX12_spanOf 7 = .ok (.iconst 1, 1) := by decide +kernel
theorem dX12_spanOf_8 : decode cX12_spanOf 8 = .ok (.iadd, 1) := by decide +kernel
theorem dX12_spanOf_9 : decode cX12_spanOf 9 = .ok (.iaload, 1) := by decide +kernel
theorem dX12_spanOf_10 : decode cX12_spanOf 10 = .ok (.aload_n 0, 1) := by decide +kernel
theorem dX12_spanOf_11 : decode cX12_spanOf 11 = .ok (.bipush 42, 2) := by decide +kernel
theorem dX12_spanOf_13 : decode cX12_spanOf 13 = .ok (.iconst 4, 1) := by decide +kernel
theorem dX12_spanOf_14 : decode cX12_spanOf 14 = .ok (.iload_n 1, 1) := by decide +kernel
theorem dX12_spanOf_15 : decode cX12_spanOf 15 = .ok (.imul, 1) := by decide +kernel
theorem dX12_spanOf_16 : decode cX12_spanOf 16 = .ok (.iadd, 1) := by decide +kernel
theorem dX12_spanOf_17 : decode cX12_spanOf 17 = .ok (.iconst 2, 1) := by decide +kernel
theorem dX12_spanOf_18 : decode cX12_spanOf 18 = .ok (.iadd, 1) := by decide +kernel
theorem dX12_spanOf_19 : decode cX12_spanOf 19 = .ok (.iaload, 1) := by decide +kernel
theorem dX12_spanOf_20 : decode cX12_spanOf 20 = .ok (.isub, 1) := by decide +kernel
theorem dX12_spanOf_21 : decode cX12_spanOf 21 = .ok (.ireturn, 1) := by decide +kernel
set_option maxRecDepth 20000 in
theorem ggX12_middleOf_X12_spanOf : GoodIn wsX12_middleOf wsX12_spanOf := goodIn_r _ [6] (by decide +kernel) (by decide +kernel)
set_option maxRecDepth 20000 in
theorem gX12_middleOf_X12_spanOf : GoodIn wsX12_middleOf (va_wsS RX12 70 yX12_spanOf wsX12_spanOf) := goodIn_app (goodIn_of _ (by decide +kernel)) ggX12_middleOf_X12_spanOf
theorem dX12_middleOf_0 : decode cX12_middleOf 0 = .ok (.aload_n 1, 1) := by decide +kernel
theorem dX12_middleOf_1 : decode cX12_middleOf 1 = .ok (.bipush 16, 2) := by decide +kernel
theorem dX12_middleOf_3 : decode cX12_middleOf 3 = .ok (.iaload, 1) := by decide +kernel
theorem dX12_middleOf_4 : decode cX12_middleOf 4 = .ok (.iconst 1, 1) := by decide +kernel
theorem dX12_middleOf_5 : decode cX12_middleOf 5 = .ok (.isub, 1) := by decide +kernel
theorem dX12_middleOf_6 : decode cX12_middleOf 6 = .ok (.istore_n 3, 1) := by decide +kernel
theorem dX12_middleOf_7 : decode cX12_middleOf 7 = .ok (.iconst 1, 1) := by decide +kernel
theorem dX12_middleOf_8 : decode cX12_middleOf 8 = .ok (.istore 4, 2) := by decide +kernel
theorem dX12_middleOf_10 : decode cX12_middleOf 10 = .ok (.iload 4, 2) := by decide +kernel
theorem dX12_middleOf_12 : decode cX12_middleOf 12 = .ok (.aload_n 1, 1) := by decide +kernel
theorem dX12_middleOf_13 : decode cX12_middleOf 13 = .ok (.bipush 16, 2) := by decide +kernel
theorem dX12_middleOf_15 : decode cX12_middleOf 15 = .ok (.iaload, 1) := by decide +kernel
theorem dX12_middleOf_16 : decode cX12_middleOf 16 = .ok (.if_icmp .ge 89, 3) := by decide +kernel
theorem dX12_middleOf_19 : decode cX12_middleOf 19 = .ok (.iload_n 2, 1) := by decide +kernel
theorem dX12_middleOf_20 : decode cX12_middleOf 20 = .ok (.ifCond .eq 12, 3) := by decide +kernel
theorem dX12_middleOf_23 : decode cX12_middleOf 23 = .ok (.aload_n 1, 1) := by decide +kernel
theorem dX12_middleOf_24 : decode cX12_middleOf 24 = .ok (.iload 4, 2) := by decide +kernel
theorem dX12_middleOf_26 : decode cX12_middleOf 26 = .ok (.invokestatic 70, 3) := by decide +kernel
theorem dX12_middleOf_29 : decode cX12_middleOf 29 = .ok (.goto 12, 3) := by decide +kernel
theorem dX12_middleOf_32 : decode cX12_middleOf 32 = .ok (.aload_n 1, 1) := by decide +kernel
theorem dX12_middleOf_33 : decode cX12_middleOf 33 = .ok (.bipush 42, 2) := by decide +kernel
theorem dX12_middleOf_35 : decode cX12_middleOf 35 = .ok (.iconst 4, 1) := by decide +kernel
theorem dX12_middleOf_36 : decode cX12_middleOf 36 = .ok (.iload 4, 2) := by decide +kernel
theorem dX12_middleOf_38 : decode cX12_middleOf 38 = .ok (.imul, 1) := by decide +kernel
theorem dX12_middleOf_39 : decode cX12_middleOf 39 = .ok (.iadd, 1) := by decide +kernel
theorem dX12_middleOf_40 : decode cX12_middleOf 40 = .ok (.iaload, 1) := by decide +kernel
theorem dX12_middleOf_41 : decode cX12_middleOf 41 = .ok (.istore 5, 2) := by decide +kernel
theorem dX12_middleOf_43 : decode cX12_middleOf 43 = .ok (.iload 4, 2) := by decide +kernel
theorem dX12_middleOf_45 : decode cX12_middleOf 45 = .ok (.iconst 1, 1) := by decide +kernel
theorem dX12_middleOf_46 : decode cX12_middleOf 46 = .ok (.isub, 1) := by decide +kernel
theorem dX12_middleOf_47 : decode cX12_middleOf 47 = .ok (.istore 6, 2) := by decide +kernel
theorem dX12_middleOf_49 : decode cX12_middleOf 49 = .ok (.iload 6, 2) := by decide +kernel
theorem dX12_middleOf_51 : decode cX12_middleOf 51 = .ok (.ifCond .le 39, 3) := by decide +kernel
theorem dX12_middleOf_54 : decode cX12_middleOf 54 = .ok (.aload_n 0, 1) := by decide +kernel
theorem dX12_middleOf_55 : decode cX12_middleOf 55 = .ok (.getfield 32, 3) := by decide +kernel
theorem dX12_middleOf_58 : decode cX12_middleOf 58 = .ok (.iload 6, 2) := by decide +kernel
theorem dX12_middleOf_60 : decode cX12_middleOf 60 = .ok (.iconst 1, 1) := by decide +kernel
theorem dX12_middleOf_61 : decode cX12_middleOf 61 = .ok (.isub, 1) := by decide +kernel
theorem dX12_middleOf_62 : decode cX12_middleOf 62 = .ok (.iaload, 1) := by decide +kernel
theorem dX12_middleOf_63 : decode cX12_middleOf 63 = .ok (.iload 5, 2) := by decide +kernel
theorem dX12_middleOf_65 : decode cX12_middleOf 65 = .ok (.if_icmp .le 25, 3) := by decide +kernel
theorem dX12_middleOf_68 : decode cX12_middleOf 68 = .ok (.aload_n 0, 1) := by decide +kernel
theorem dX12_middleOf_69 : decode cX12_middleOf 69 = .ok (.getfield 32, 3) := by decide +kernel
theorem dX12_middleOf_72 : decode cX12_middleOf 72 = .ok (.iload 6, 2) := by decide +kernel
theorem dX12_middleOf_74 : decode cX12_middleOf 74 = .ok (.aload_n 0, 1) := by decide +kernel
theorem dX12_middleOf_75 : decode cX12_middleOf 75 = .ok (.getfield 32, 3) := by decide +kernel
theorem dX12_middleOf_78 : decode cX12_middleOf 78 = .ok (.iload 6, 2) := by decide +kernel
theorem dX12_middleOf_80 : decode cX12_middleOf 80 = .ok (.iconst 1, 1) := by decide +kernel
theorem dX12_middleOf_81 : decode cX12_middleOf 81 = .ok (.isub, 1) := by decide +kernel
theorem dX12_middleOf_82 : decode cX12_middleOf 82 = .ok (.iaload, 1) := by decide +kernel
theorem dX12_middleOf_83 : decode cX12_middleOf 83 = .ok (.iastore, 1) := by decide +kernel
theorem dX12_middleOf_84 : decode cX12_middleOf 84 = .ok (.iinc 6 (-1), 3) := by decide +kernel
theorem dX12_middleOf_87 : decode cX12_middleOf 87 = .ok (.goto (-38), 3) := by decide +kernel
theorem dX12_middleOf_90 : decode cX12_middleOf 90 = .ok (.aload_n 0, 1) := by decide +kernel
theorem dX12_middleOf_91 : decode cX12_middleOf 91 = .ok (.getfield 32, 3) := by decide +kernel
theorem dX12_middleOf_94 : decode cX12_middleOf 94 = .ok (.iload 6, 2) := by decide +kernel
theorem dX12_middleOf_96 : decode cX12_middleOf 96 = .ok (.iload 5, 2) := by decide +kernel
theorem dX12_middleOf_98 : decode cX12_middleOf 98 = .ok (.iastore, 1) := by decide +kernel
theorem dX12_middleOf_99 : decode cX12_middleOf 99 = .ok (.iinc 4 1, 3) := by decide +kernel
theorem dX12_middleOf_102 : decode cX12_middleOf 102 = .ok (.goto (-92), 3) := by decide +kernel
theorem dX12_middleOf_105 : decode cX12_middleOf 105 = .ok (.iload_n 3, 1) := by decide +kernel
theorem dX12_middleOf_106 : decode cX12_middleOf 106 = .ok (.iconst 1, 1) := by decide +kernel
theorem dX12_middleOf_107 : decode cX12_middleOf 107 = .ok (.if_icmp .ge 8, 3) := by decide +kernel
theorem dX12_middleOf_110 : decode cX12_middleOf 110 = .ok (.ldc 74, 2) := by decide +kernel
theorem dX12_middleOf_112 : decode cX12_middleOf 112 = .ok (.goto 13, 3) := by decide +kernel
theorem dX12_middleOf_115 : decode cX12_middleOf 115 = .ok (.aload_n 0, 1) := by decide +kernel
theorem dX12_middleOf_116 : decode cX12_middleOf 116 = .ok (.getfield 32, 3) := by decide +kernel
theorem dX12_middleOf_119 : decode cX12_middleOf 119 = .ok (.iload_n 3, 1) := by decide +kernel
theorem dX12_middleOf_120 : decode cX12_middleOf 120 = .ok (.iconst 1, 1) := by decide +kernel
theorem dX12_middleOf_121 : decode cX12_middleOf 121 = .ok (.isub, 1) := by decide +kernel
theorem dX12_middleOf_122 : decode cX12_middleOf 122 = .ok (.iconst 2, 1) := by decide +kernel
theorem dX12_middleOf_123 : decode cX12_middleOf 123 = .ok (.idiv, 1) := by decide +kernel
theorem dX12_middleOf_124 : decode cX12_middleOf 124 = .ok (.iaload, 1) := by decide +kernel
theorem dX12_middleOf_125 : decode cX12_middleOf 125 = .ok (.ireturn, 1) := by decide +kernel
set_option maxRecDepth 20000 in
theorem ggX12_isFar_X12_size : GoodIn wsX12_isFar wsX12_size := goodIn_r _ [4] (by decide +kernel) (by decide +kernel)
set_option maxRecDepth 20000 in
theorem gX12_isFar_X12_size : GoodIn wsX12_isFar (va_wsS RX12 75 yX12_size wsX12_size) := goodIn_app (goodIn_of _ (by decide +kernel)) ggX12_isFar_X12_size
theorem dX12_isFar_0 : decode cX12_isFar 0 = .ok (.iload_n 0, 1) := by decide +kernel
theorem dX12_isFar_1 : decode cX12_isFar 1 = .ok (.iload_n 1, 1) := by decide +kernel
theorem dX12_isFar_2 : decode cX12_isFar 2 = .ok (.isub, 1) := by decide +kernel
theorem dX12_isFar_3 : decode cX12_isFar 3 = .ok (.invokestatic 75, 3) := by decide +kernel
theorem dX12_isFar_6 : decode cX12_isFar 6 = .ok (.bipush 100, 2) := by decide +kernel
theorem dX12_isFar_8 : decode cX12_isFar 8 = .ok (.imul, 1) := by decide +kernel
theorem dX12_isFar_9 : decode cX12_isFar 9 = .ok (.iload_n 2, 1) := by decide +kernel
theorem dX12_isFar_10 : decode cX12_isFar 10 = .ok (.iload_n 1, 1) := by decide +kernel
theorem dX12_isFar_11 : decode cX12_isFar 11 = .ok (.imul, 1) := by decide +kernel
theorem dX12_isFar_12 : decode cX12_isFar 12 = .ok (.if_icmp .le 7, 3) := by decide +kernel
theorem dX12_isFar_15 : decode cX12_isFar 15 = .ok (.iconst 1, 1) := by decide +kernel
theorem dX12_isFar_16 : decode cX12_isFar 16 = .ok (.goto 4, 3) := by decide +kernel
theorem dX12_isFar_19 : decode cX12_isFar 19 = .ok (.iconst 0, 1) := by decide +kernel
theorem dX12_isFar_20 : decode cX12_isFar 20 = .ok (.ireturn, 1) := by decide +kernel
set_option maxRecDepth 20000 in
theorem ggX12_oddOf_X12_middleOf : GoodIn wsX12_oddOf wsX12_middleOf := goodIn_r _ [5, 6, 7, 8, 9, 4, 10, 17, 18, 19, 20, 21, 22, 23, 24, 25, 26, 27, 28, 29, 30, 31] (by decide +kernel) (by decide +kernel)
set_option maxRecDepth 20000 in
theorem gX12_oddOf_X12_middleOf : GoodIn wsX12_oddOf (wsV RX12 79 RX12 yX12_middleOf wsX12_middleOf) := goodIn_app (goodIn_of _ (by decide +kernel)) ggX12_oddOf_X12_middleOf
set_option maxRecDepth 20000 in
theorem ggX12_oddOf_X12_isFar : GoodIn wsX12_oddOf wsX12_isFar := goodIn_r _ [13, 14, 15, 4, 16] (by decide +kernel) (by decide +kernel)
set_option maxRecDepth 20000 in
theorem gX12_oddOf_X12_isFar : GoodIn wsX12_oddOf (va_wsS RX12 83 yX12_isFar wsX12_isFar) := goodIn_app (goodIn_of _ (by decide +kernel)) ggX12_oddOf_X12_isFar
set_option maxRecDepth 20000 in
theorem ggX12_oddOf_X12_spanOf : GoodIn wsX12_oddOf wsX12_spanOf := goodIn_r _ [10] (by decide +kernel) (by decide +kernel)
set_option maxRecDepth 20000 in
theorem gX12_oddOf_X12_spanOf : GoodIn wsX12_oddOf (va_wsS RX12 70 yX12_spanOf wsX12_spanOf) := goodIn_app (goodIn_of _ (by decide +kernel)) ggX12_oddOf_X12_spanOf
theorem dX12_oddOf_0 : decode cX12_oddOf 0 = .ok (.iload_n 2, 1) := by decide +kernel
theorem dX12_oddOf_1 : decode cX12_oddOf 1 = .ok (.ifCond .ne 5, 3) := by decide +kernel
theorem dX12_oddOf_4 : decode cX12_oddOf 4 = .ok (.iconst 1, 1) := by decide +kernel
theorem dX12_oddOf_5 : decode cX12_oddOf 5 = .ok (.ireturn, 1) := by decide +kernel
theorem dX12_oddOf_6 : decode cX12_oddOf 6 = .ok (.aload_n 1, 1) := by decide +kernel
theorem dX12_oddOf_7 : decode cX12_oddOf 7 = .ok (.bipush 7, 2) := by decide +kernel
theorem dX12_oddOf_9 : decode cX12_oddOf 9 = .ok (.iaload, 1) := by decide +kernel
theorem dX12_oddOf_10 : decode cX12_oddOf 10 = .ok (.istore_n 3, 1) := by decide +kernel
theorem dX12_oddOf_11 : decode cX12_oddOf 11 = .ok (.aload_n 1, 1) := by decide +kernel
theorem dX12_oddOf_12 : decode cX12_oddOf 12 = .ok (.bipush 42, 2) := by decide +kernel
theorem dX12_oddOf_14 : decode cX12_oddOf 14 = .ok (.iconst 4, 1) := by decide +kernel
theorem dX12_oddOf_15 : decode cX12_oddOf 15 = .ok (.iload_n 2, 1) := by decide +kernel
theorem dX12_oddOf_16 : decode cX12_oddOf 16 = .ok (.imul, 1) := by decide +kernel
theorem dX12_oddOf_17 : decode cX12_oddOf 17 = .ok (.iadd, 1) := by decide +kernel
theorem dX12_oddOf_18 : decode cX12_oddOf 18 = .ok (.iaload, 1) := by decide +kernel
theorem dX12_oddOf_19 : decode cX12_oddOf 19 = .ok (.aload_n 0, 1) := by decide +kernel
theorem dX12_oddOf_20 : decode cX12_oddOf 20 = .ok (.aload_n 1, 1) := by decide +kernel
theorem dX12_oddOf_21 : decode cX12_oddOf 21 = .ok (.iconst 0, 1) := by decide +kernel
theorem dX12_oddOf_22 : decode cX12_oddOf 22 = .ok (.invokevirtual 79, 3) := by decide +kernel
theorem dX12_oddOf_25 : decode cX12_oddOf 25 = .ok (.iload_n 3, 1) := by decide +kernel
theorem dX12_oddOf_26 : decode cX12_oddOf 26 = .ok (.invokestatic 83, 3) := by decide +kernel
theorem dX12_oddOf_29 : decode cX12_oddOf 29 = .ok (.ifCond .eq 5, 3) := by decide +kernel
theorem dX12_oddOf_32 : decode cX12_oddOf 32 = .ok (.iconst 2, 1) := by decide +kernel
theorem dX12_oddOf_33 : decode cX12_oddOf 33 = .ok (.ireturn, 1) := by decide +kernel
theorem dX12_oddOf_34 : decode cX12_oddOf 34 = .ok (.aload_n 1, 1) := by decide +kernel
theorem dX12_oddOf_35 : decode cX12_oddOf 35 = .ok (.iload_n 2, 1) := by decide +kernel
theorem dX12_oddOf_36 : decode cX12_oddOf 36 = .ok (.invokestatic 70, 3) := by decide +kernel
theorem dX12_oddOf_39 : decode cX12_oddOf 39 = .ok (.aload_n 0, 1) := by decide +kernel
theorem dX12_oddOf_40 : decode cX12_oddOf 40 = .ok (.aload_n 1, 1) := by decide +kernel
theorem dX12_oddOf_41 : decode cX12_oddOf 41 = .ok (.iconst 1, 1) := by decide +kernel
theorem dX12_oddOf_42 : decode cX12_oddOf 42 = .ok (.invokevirtual 79, 3) := by decide +kernel
theorem dX12_oddOf_45 : decode cX12_oddOf 45 = .ok (.iload_n 3, 1) := by decide +kernel
theorem dX12_oddOf_46 : decode cX12_oddOf 46 = .ok (.invokestatic 83, 3) := by decide +kernel
theorem dX12_oddOf_49 : decode cX12_oddOf 49 = .ok (.ifCond .eq 7, 3) := by decide +kernel
theorem dX12_oddOf_52 : decode cX12_oddOf 52 = .ok (.iconst 3, 1) := by decide +kernel
theorem dX12_oddOf_53 : decode cX12_oddOf 53 = .ok (.goto 4, 3) := by decide +kernel
theorem dX12_oddOf_56 : decode cX12_oddOf 56 = .ok (.iconst 0, 1) := by decide +kernel
theorem dX12_oddOf_57 : decode cX12_oddOf 57 = .ok (.ireturn, 1) := by decide +kernel
set_option maxRecDepth 20000 in
theorem ggX12_goodOf_X12_oddOf : GoodIn wsX12_goodOf wsX12_oddOf := goodIn_r _ [5, 6, 7, 8, 4, 9, 10, 11, 12, 13, 14, 15, 16, 17, 18, 19, 20, 21, 22, 23, 24, 25, 26, 27, 28, 29, 30, 31, 32, 33, 34, 35] (by decide +kernel) (by decide +kernel)
set_option maxRecDepth 20000 in
theorem gX12_goodOf_X12_oddOf : GoodIn wsX12_goodOf (wsV RX12 87 RX12 yX12_oddOf wsX12_oddOf) := goodIn_app (goodIn_of _ (by decide +kernel)) ggX12_goodOf_X12_oddOf
theorem dX12_goodOf_0 : decode cX12_goodOf 0 = .ok (.iconst 0, 1) := by decide +kernel
theorem dX12_goodOf_1 : decode cX12_goodOf 1 = .ok (.istore_n 2, 1) := by decide +kernel
theorem dX12_goodOf_2 : decode cX12_goodOf 2 = .ok (.iconst 0, 1) := by decide +kernel
theorem dX12_goodOf_3 : decode cX12_goodOf 3 = .ok (.istore_n 3, 1) := by decide +kernel
theorem dX12_goodOf_4 : decode cX12_goodOf 4 = .ok (.iload_n 3, 1) := by decide +kernel
theorem dX12_goodOf_5 : decode cX12_goodOf 5 = .ok (.aload_n 1, 1) := by decide +kernel
theorem dX12_goodOf_6 : decode cX12_goodOf 6 = .ok (.bipush 16, 2) := by decide +kernel
theorem dX12_goodOf_8 : decode cX12_goodOf 8 = .ok (.iaload, 1) := by decide +kernel
theorem dX12_goodOf_9 : decode cX12_goodOf 9 = .ok (.if_icmp .ge 26, 3) := by decide +kernel
theorem dX12_goodOf_12 : decode cX12_goodOf 12 = .ok (.iload_n 2, 1) := by decide +kernel
theorem dX12_goodOf_13 : decode cX12_goodOf 13 = .ok (.aload_n 0, 1) := by decide +kernel
theorem dX12_goodOf_14 : decode cX12_goodOf 14 = .ok (.aload_n 1, 1) := by decide +kernel
theorem dX12_goodOf_15 : decode cX12_goodOf 15 = .ok (.iload_n 3, 1) := by decide +kernel
theorem dX12_goodOf_16 : decode cX12_goodOf 16 = .ok (.invokevirtual 87, 3) := by decide +kernel
theorem dX12_goodOf_19 : decode cX12_goodOf 19 = .ok (.ifCond .ne 7, 3) := by decide +kernel
theorem dX12_goodOf_22 : decode cX12_goodOf 22 = .ok (.iconst 1, 1) := by decide +kernel
theorem dX12_goodOf_23 : decode cX12_goodOf 23 = .ok (.goto 4, 3) := by decide +kernel
theorem dX12_goodOf_26 : decode cX12_goodOf 26 = .ok (.iconst 0, 1) := by decide +kernel
theorem dX12_goodOf_27 : decode cX12_goodOf 27 = .ok (.iadd, 1) := by decide +kernel
theorem dX12_goodOf_28 : decode cX12_goodOf 28 = .ok (.istore_n 2, 1) := by decide +kernel
theorem dX12_goodOf_29 : decode cX12_goodOf 29 = .ok (.iinc 3 1, 3) := by decide +kernel
theorem dX12_goodOf_32 : decode cX12_goodOf 32 = .ok (.goto (-28), 3) := by decide +kernel
theorem dX12_goodOf_35 : decode cX12_goodOf 35 = .ok (.iload_n 2, 1) := by decide +kernel
theorem dX12_goodOf_36 : decode cX12_goodOf 36 = .ok (.ireturn, 1) := by decide +kernel
set_option maxRecDepth 20000 in
theorem ggX12_meanOf_X12_oddOf : GoodIn wsX12_meanOf wsX12_oddOf := goodIn_r _ [5, 6, 7, 8, 4, 9, 10, 11, 12, 13, 14, 15, 16, 17, 18, 19, 20, 21, 22, 23, 24, 25, 26, 27, 28, 29, 30, 31, 32, 33, 34, 35] (by decide +kernel) (by decide +kernel)
set_option maxRecDepth 20000 in
theorem gX12_meanOf_X12_oddOf : GoodIn wsX12_meanOf (wsV RX12 87 RX12 yX12_oddOf wsX12_oddOf) := goodIn_app (goodIn_of _ (by decide +kernel)) ggX12_meanOf_X12_oddOf
set_option maxRecDepth 20000 in
theorem ggX12_meanOf_X12_spanOf : GoodIn wsX12_meanOf wsX12_spanOf := goodIn_r _ [14] (by decide +kernel) (by decide +kernel)
set_option maxRecDepth 20000 in
theorem gX12_meanOf_X12_spanOf : GoodIn wsX12_meanOf (va_wsS RX12 70 yX12_spanOf wsX12_spanOf) := goodIn_app (goodIn_of _ (by decide +kernel)) ggX12_meanOf_X12_spanOf
theorem dX12_meanOf_0 : decode cX12_meanOf 0 = .ok (.iconst 0, 1) := by decide +kernel
theorem dX12_meanOf_1 : decode cX12_meanOf 1 = .ok (.istore_n 3, 1) := by decide +kernel
theorem dX12_meanOf_2 : decode cX12_meanOf 2 = .ok (.iconst 0, 1) := by decide +kernel
theorem dX12_meanOf_3 : decode cX12_meanOf 3 = .ok (.istore 4, 2) := by decide +kernel
theorem dX12_meanOf_5 : decode cX12_meanOf 5 = .ok (.iconst 0, 1) := by decide +kernel
theorem dX12_meanOf_6 : decode cX12_meanOf 6 = .ok (.istore 5, 2) := by decide +kernel
theorem dX12_meanOf_8 : decode cX12_meanOf 8 = .ok (.iload 5, 2) := by decide +kernel
theorem dX12_meanOf_10 : decode cX12_meanOf 10 = .ok (.aload_n 1, 1) := by decide +kernel
theorem dX12_meanOf_11 : decode cX12_meanOf 11 = .ok (.bipush 16, 2) := by decide +kernel
theorem dX12_meanOf_13 : decode cX12_meanOf 13 = .ok (.iaload, 1) := by decide +kernel
theorem dX12_meanOf_14 : decode cX12_meanOf 14 = .ok (.if_icmp .ge 47, 3) := by decide +kernel
theorem dX12_meanOf_17 : decode cX12_meanOf 17 = .ok (.aload_n 0, 1) := by decide +kernel
theorem dX12_meanOf_18 : decode cX12_meanOf 18 = .ok (.aload_n 1, 1) := by decide +kernel
theorem dX12_meanOf_19 : decode cX12_meanOf 19 = .ok (.iload 5, 2) := by decide +kernel
theorem dX12_meanOf_21 : decode cX12_meanOf 21 = .ok (.invokevirtual 87, 3) := by decide +kernel
theorem dX12_meanOf_24 : decode cX12_meanOf 24 = .ok (.ifCond .ne 31, 3) := by decide +kernel
theorem dX12_meanOf_27 : decode cX12_meanOf 27 = .ok (.iload_n 3, 1) := by decide +kernel
theorem dX12_meanOf_28 : decode cX12_meanOf 28 = .ok (.iload_n 2, 1) := by decide +kernel
theorem dX12_meanOf_29 : decode cX12_meanOf 29 = .ok (.ifCond .eq 12, 3) := by decide +kernel
theorem dX12_meanOf_32 : decode cX12_meanOf 32 = .ok (.aload_n 1, 1) := by decide +kernel
theorem dX12_meanOf_33 : decode cX12_meanOf 33 = .ok (.iload 5, 2) := by decide +kernel
theorem dX12_meanOf_35 : decode cX12_meanOf 35 = .ok (.invokestatic 70, 3) := by decide +kernel
theorem dX12_meanOf_38 : decode cX12_meanOf 38 = .ok (.goto 12, 3) := by decide +kernel
theorem dX12_meanOf_41 : decode cX12_meanOf 41 = .ok (.aload_n 1, 1) := by decide +kernel
theorem dX12_meanOf_42 : decode cX12_meanOf 42 = .ok (.bipush 42, 2) := by decide +kernel
theorem dX12_meanOf_44 : decode cX12_meanOf 44 = .ok (.iconst 4, 1) := by decide +kernel
theorem dX12_meanOf_45 : decode cX12_meanOf 45 = .ok (.iload 5, 2) := by decide +kernel
theorem dX12_meanOf_47 : decode cX12_meanOf 47 = .ok (.imul, 1) := by decide +kernel
theorem dX12_meanOf_48 : decode cX12_meanOf 48 = .ok (.iadd, 1) := by decide +kernel
theorem dX12_meanOf_49 : decode cX12_meanOf 49 = .ok (.iaload, 1) := by decide +kernel
theorem dX12_meanOf_50 : decode cX12_meanOf 50 = .ok (.iadd, 1) := by decide +kernel
theorem dX12_meanOf_51 : decode cX12_meanOf 51 = .ok (.istore_n 3, 1) := by decide +kernel
theorem dX12_meanOf_52 : decode cX12_meanOf 52 = .ok (.iinc 4 1, 3) := by decide +kernel
theorem dX12_meanOf_55 : decode cX12_meanOf 55 = .ok (.iinc 5 1, 3) := by decide +kernel
theorem dX12_meanOf_58 : decode cX12_meanOf 58 = .ok (.goto (-50), 3) := by decide +kernel
theorem dX12_meanOf_61 : decode cX12_meanOf 61 = .ok (.iload_n 3, 1) := by decide +kernel
theorem dX12_meanOf_62 : decode cX12_meanOf 62 = .ok (.iload 4, 2) := by decide +kernel
theorem dX12_meanOf_64 : decode cX12_meanOf 64 = .ok (.idiv, 1) := by decide +kernel
theorem dX12_meanOf_65 : decode cX12_meanOf 65 = .ok (.iconst 1, 1) := by decide +kernel
theorem dX12_meanOf_66 : decode cX12_meanOf 66 = .ok (.if_icmp .ge 7, 3) := by decide +kernel
theorem dX12_meanOf_69 : decode cX12_meanOf 69 = .ok (.iconst 1, 1) := by decide +kernel
theorem dX12_meanOf_70 : decode cX12_meanOf 70 = .ok (.goto 7, 3) := by decide +kernel
theorem dX12_meanOf_73 : decode cX12_meanOf 73 = .ok (.iload_n 3, 1) := by decide +kernel
theorem dX12_meanOf_74 : decode cX12_meanOf 74 = .ok (.iload 4, 2) := by decide +kernel
theorem dX12_meanOf_76 : decode cX12_meanOf 76 = .ok (.idiv, 1) := by decide +kernel
theorem dX12_meanOf_77 : decode cX12_meanOf 77 = .ok (.ireturn, 1) := by decide +kernel
theorem dX12_capped_0 : decode cX12_capped 0 = .ok (.iload_n 0, 1) := by decide +kernel
theorem dX12_capped_1 : decode cX12_capped 1 = .ok (.sipush 9999, 3) := by decide +kernel
theorem dX12_capped_4 : decode cX12_capped 4 = .ok (.if_icmp .le 9, 3) := by decide +kernel
theorem dX12_capped_7 : decode cX12_capped 7 = .ok (.sipush 9999, 3) := by decide +kernel
theorem dX12_capped_10 : decode cX12_capped 10 = .ok (.goto 4, 3) := by decide +kernel
theorem dX12_capped_13 : decode cX12_capped 13 = .ok (.iload_n 0, 1) := by decide +kernel
theorem dX12_capped_14 : decode cX12_capped 14 = .ok (.ireturn, 1) := by decide +kernel
set_option maxRecDepth 20000 in
theorem ggX12_proposalOf_X12_meanOf : GoodIn wsX12_proposalOf wsX12_meanOf := goodIn_r _ [5, 6, 7, 8, 4, 9, 10, 11, 12, 13, 14, 15, 16, 17, 18, 19, 20, 21, 22, 23, 24, 28, 29, 30, 31, 32, 33, 34, 35, 36, 37, 38, 39, 40, 41, 42] (by decide +kernel) (by decide +kernel)
set_option maxRecDepth 20000 in
theorem gX12_proposalOf_X12_meanOf : GoodIn wsX12_proposalOf (wsV RX12 90 RX12 yX12_meanOf wsX12_meanOf) := goodIn_app (goodIn_of _ (by decide +kernel)) ggX12_proposalOf_X12_meanOf
set_option maxRecDepth 20000 in
theorem ggX12_proposalOf_X12_capped : GoodIn wsX12_proposalOf wsX12_capped := goodIn_r _ [27] (by decide +kernel) (by decide +kernel)
set_option maxRecDepth 20000 in
theorem gX12_proposalOf_X12_capped : GoodIn wsX12_proposalOf (va_wsS RX12 93 yX12_capped wsX12_capped) := goodIn_app (goodIn_of _ (by decide +kernel)) ggX12_proposalOf_X12_capped
theorem dX12_proposalOf_0 : decode cX12_proposalOf 0 = .ok (.bipush 127, 2) := by decide +kernel
theorem dX12_proposalOf_2 : decode cX12_proposalOf 2 = .ok (.aload_n 1, 1) := by decide +kernel
theorem dX12_proposalOf_3 : decode cX12_proposalOf 3 = .ok (.iconst 4, 1) := by decide +kernel
theorem dX12_proposalOf_4 : decode cX12_proposalOf 4 = .ok (.iaload, 1) := by decide +kernel
theorem dX12_proposalOf_5 : decode cX12_proposalOf 5 = .ok (.imul, 1) := by decide +kernel
theorem dX12_proposalOf_6 : decode cX12_proposalOf 6 = .ok (.aload_n 0, 1) := by decide +kernel
theorem dX12_proposalOf_7 : decode cX12_proposalOf 7 = .ok (.aload_n 1, 1) := by decide +kernel
theorem dX12_proposalOf_8 : decode cX12_proposalOf 8 = .ok (.iconst 1, 1) := by decide +kernel
theorem dX12_proposalOf_9 : decode cX12_proposalOf 9 = .ok (.invokevirtual 90, 3) := by decide +kernel
theorem dX12_proposalOf_12 : decode cX12_proposalOf 12 = .ok (.idiv, 1) := by decide +kernel
theorem dX12_proposalOf_13 : decode cX12_proposalOf 13 = .ok (.istore 4, 2) := by decide +kernel
theorem dX12_proposalOf_15 : decode cX12_proposalOf 15 = .ok (.aload_n 0, 1) := by decide +kernel
theorem dX12_proposalOf_16 : decode cX12_proposalOf 16 = .ok (.aload_n 1, 1) := by decide +kernel
theorem dX12_proposalOf_17 : decode cX12_proposalOf 17 = .ok (.iconst 0, 1) := by decide +kernel
theorem dX12_proposalOf_18 : decode cX12_proposalOf 18 = .ok (.invokevirtual 90, 3) := by decide +kernel
theorem dX12_proposalOf_21 : decode cX12_proposalOf 21 = .ok (.istore 5, 2) := by decide +kernel
theorem dX12_proposalOf_23 : decode cX12_proposalOf 23 = .ok (.iload_n 2, 1) := by decide +kernel
theorem dX12_proposalOf_24 : decode cX12_proposalOf 24 = .ok (.ifCond .ne 10, 3) := by decide +kernel
theorem dX12_proposalOf_27 : decode cX12_proposalOf 27 = .ok (.iload 4, 2) := by decide +kernel
theorem dX12_proposalOf_29 : decode cX12_proposalOf 29 = .ok (.iconst 2, 1) := by decide +kernel
theorem dX12_proposalOf_30 : decode cX12_proposalOf 30 = .ok (.idiv, 1) := by decide +kernel
theorem dX12_proposalOf_31 : decode cX12_proposalOf 31 = .ok (.goto 42, 3) := by decide +kernel
theorem dX12_proposalOf_34 : decode cX12_proposalOf 34 = .ok (.iload_n 2, 1) := by decide +kernel
theorem dX12_proposalOf_35 : decode cX12_proposalOf 35 = .ok (.iconst 1, 1) := by decide +kernel
theorem dX12_proposalOf_36 : decode cX12_proposalOf 36 = .ok (.if_icmp .ne 14, 3) := by decide +kernel
theorem dX12_proposalOf_39 : decode cX12_proposalOf 39 = .ok (.iload 4, 2) := by decide +kernel
theorem dX12_proposalOf_41 : decode cX12_proposalOf 41 = .ok (.bipush 45, 2) := by decide +kernel
theorem dX12_proposalOf_43 : decode cX12_proposalOf 43 = .ok (.imul, 1) := by decide +kernel
theorem dX12_proposalOf_44 : decode cX12_proposalOf 44 = .ok (.bipush 100, 2) := by decide +kernel
theorem dX12_proposalOf_46 : decode cX12_proposalOf 46 = .ok (.idiv, 1) := by decide +kernel
theorem dX12_proposalOf_47 : decode cX12_proposalOf 47 = .ok (.goto 26, 3) := by decide +kernel
theorem dX12_proposalOf_50 : decode cX12_proposalOf 50 = .ok (.iload_n 2, 1) := by decide +kernel
theorem dX12_proposalOf_51 : decode cX12_proposalOf 51 = .ok (.iconst 2, 1) := by decide +kernel
theorem dX12_proposalOf_52 : decode cX12_proposalOf 52 = .ok (.if_icmp .ne 14, 3) := by decide +kernel
theorem dX12_proposalOf_55 : decode cX12_proposalOf 55 = .ok (.iload 4, 2) := by decide +kernel
theorem dX12_proposalOf_57 : decode cX12_proposalOf 57 = .ok (.bipush 6, 2) := by decide +kernel
theorem dX12_proposalOf_59 : decode cX12_proposalOf 59 = .ok (.imul, 1) := by decide +kernel
theorem dX12_proposalOf_60 : decode cX12_proposalOf 60 = .ok (.bipush 10, 2) := by decide +kernel
theorem dX12_proposalOf_62 : decode cX12_proposalOf 62 = .ok (.idiv, 1) := by decide +kernel
theorem dX12_proposalOf_63 : decode cX12_proposalOf 63 = .ok (.goto 10, 3) := by decide +kernel
theorem dX12_proposalOf_66 : decode cX12_proposalOf 66 = .ok (.iload 4, 2) := by decide +kernel
theorem dX12_proposalOf_68 : decode cX12_proposalOf 68 = .ok (.iconst 2, 1) := by decide +kernel
theorem dX12_proposalOf_69 : decode cX12_proposalOf 69 = .ok (.imul, 1) := by decide +kernel
theorem dX12_proposalOf_70 : decode cX12_proposalOf 70 = .ok (.bipush 10, 2) := by decide +kernel
theorem dX12_proposalOf_72 : decode cX12_proposalOf 72 = .ok (.idiv, 1) := by decide +kernel
theorem dX12_proposalOf_73 : decode cX12_proposalOf 73 = .ok (.istore 6, 2) := by decide +kernel
theorem dX12_proposalOf_75 : decode cX12_proposalOf 75 = .ok (.iload_n 3, 1) := by decide +kernel
theorem dX12_proposalOf_76 : decode cX12_proposalOf 76 = .ok (.ifCond .ne 9, 3) := by decide +kernel
theorem dX12_proposalOf_79 : decode cX12_proposalOf 79 = .ok (.iload 6, 2) := by decide +kernel
theorem dX12_proposalOf_81 : decode cX12_proposalOf 81 = .ok (.invokestatic 93, 3) := by decide +kernel
theorem dX12_proposalOf_84 : decode cX12_proposalOf 84 = .ok (.ireturn, 1) := by decide +kernel
theorem dX12_proposalOf_85 : decode cX12_proposalOf 85 = .ok (.iload_n 3, 1) := by decide +kernel
theorem dX12_proposalOf_86 : decode cX12_proposalOf 86 = .ok (.iconst 1, 1) := by decide +kernel
theorem dX12_proposalOf_87 : decode cX12_proposalOf 87 = .ok (.if_icmp .ne 41, 3) := by decide +kernel
theorem dX12_proposalOf_90 : decode cX12_proposalOf 90 = .ok (.iload_n 2, 1) := by decide +kernel
theorem dX12_proposalOf_91 : decode cX12_proposalOf 91 = .ok (.ifCond .ne 7, 3) := by decide +kernel
theorem dX12_proposalOf_94 : decode cX12_proposalOf 94 = .ok (.iconst 0, 1) := by decide +kernel
theorem dX12_proposalOf_95 : decode cX12_proposalOf 95 = .ok (.goto 32, 3) := by decide +kernel
theorem dX12_proposalOf_98 : decode cX12_proposalOf 98 = .ok (.iload_n 2, 1) := by decide +kernel
theorem dX12_proposalOf_99 : decode cX12_proposalOf 99 = .ok (.iconst 1, 1) := by decide +kernel
theorem dX12_proposalOf_100 : decode cX12_proposalOf 100 = .ok (.if_icmp .ne 17, 3) := by decide +kernel
theorem dX12_proposalOf_103 : decode cX12_proposalOf 103 = .ok (.iload 6, 2) := by decide +kernel
theorem dX12_proposalOf_105 : decode cX12_proposalOf 105 = .ok (.bipush 12, 2) := by decide +kernel
theorem dX12_proposalOf_107 : decode cX12_proposalOf 107 = .ok (.imul, 1) := by decide +kernel
theorem dX12_proposalOf_108 : decode cX12_proposalOf 108 = .ok (.bipush 10, 2) := by decide +kernel
theorem dX12_proposalOf_110 : decode cX12_proposalOf 110 = .ok (.iload 5, 2) := by decide +kernel
theorem dX12_proposalOf_112 : decode cX12_proposalOf 112 = .ok (.imul, 1) := by decide +kernel
theorem dX12_proposalOf_113 : decode cX12_proposalOf 113 = .ok (.idiv, 1) := by decide +kernel
theorem dX12_proposalOf_114 : decode cX12_proposalOf 114 = .ok (.goto 10, 3) := by decide +kernel
theorem dX12_proposalOf_117 : decode cX12_proposalOf 117 = .ok (.iload 6, 2) := by decide +kernel
theorem dX12_proposalOf_119 : decode cX12_proposalOf 119 = .ok (.iconst 2, 1) := by decide +kernel
theorem dX12_proposalOf_120 : decode cX12_proposalOf 120 = .ok (.imul, 1) := by decide +kernel
theorem dX12_proposalOf_121 : decode cX12_proposalOf 121 = .ok (.iload 5, 2) := by decide +kernel
theorem dX12_proposalOf_123 : decode cX12_proposalOf 123 = .ok (.idiv, 1) := by decide +kernel
theorem dX12_proposalOf_124 : decode cX12_proposalOf 124 = .ok (.invokestatic 93, 3) := by decide +kernel
theorem dX12_proposalOf_127 : decode cX12_proposalOf 127 = .ok (.ireturn, 1) := by decide +kernel
theorem dX12_proposalOf_128 : decode cX12_proposalOf 128 = .ok (.iload_n 2, 1) := by decide +kernel
theorem dX12_proposalOf_129 : decode cX12_proposalOf 129 = .ok (.iconst 2, 1) := by decide +kernel
theorem dX12_proposalOf_130 : decode cX12_proposalOf 130 = .ok (.if_icmp .ge 7, 3) := by decide +kernel
theorem dX12_proposalOf_133 : decode cX12_proposalOf 133 = .ok (.iconst 0, 1) := by decide +kernel
theorem dX12_proposalOf_134 : decode cX12_proposalOf 134 = .ok (.goto 23, 3) := by decide +kernel
theorem dX12_proposalOf_137 : decode cX12_proposalOf 137 = .ok (.iload 6, 2) := by decide +kernel
theorem dX12_proposalOf_139 : decode cX12_proposalOf 139 = .ok (.iload 5, 2) := by decide +kernel
theorem dX12_proposalOf_141 : decode cX12_proposalOf 141 = .ok (.imul, 1) := by decide +kernel
theorem dX12_proposalOf_142 : decode cX12_proposalOf 142 = .ok (.iload_n 2, 1) := by decide +kernel
theorem dX12_proposalOf_143 : decode cX12_proposalOf 143 = .ok (.iconst 2, 1) := by decide +kernel
theorem dX12_proposalOf_144 : decode cX12_proposalOf 144 = .ok (.if_icmp .ne 8, 3) := by decide +kernel
theorem dX12_proposalOf_147 : decode cX12_proposalOf 147 = .ok (.bipush 8, 2) := by decide +kernel
theorem dX12_proposalOf_149 : decode cX12_proposalOf 149 = .ok (.goto 4, 3) := by decide +kernel
theorem dX12_proposalOf_152 : decode cX12_proposalOf 152 = .ok (.iconst 3, 1) := by decide +kernel
theorem dX12_proposalOf_153 : decode cX12_proposalOf 153 = .ok (.idiv, 1) := by decide +kernel
theorem dX12_proposalOf_154 : decode cX12_proposalOf 154 = .ok (.invokestatic 93, 3) := by decide +kernel
theorem dX12_proposalOf_157 : decode cX12_proposalOf 157 = .ok (.ireturn, 1) := by decide +kernel
set_option maxRecDepth 20000 in
theorem ggX12_ruleOn_X12_proposalOf : GoodIn wsX12_ruleOn wsX12_proposalOf := goodIn_r _ [5, 6, 7, 8, 4, 9, 10, 11, 12, 13, 14, 15, 16, 17, 18, 19, 20, 21, 22, 23, 24, 25, 26, 27, 28, 29, 30, 31, 35, 36, 37, 38, 39, 40, 41, 42, 43, 44, 45, 46, 47, 48, 49] (by decide +kernel) (by decide +kernel)
set_option maxRecDepth 20000 in
theorem gX12_ruleOn_X12_proposalOf : GoodIn wsX12_ruleOn (wsV RX12 96 RX12 yX12_proposalOf wsX12_proposalOf) := goodIn_app (goodIn_of _ (by decide +kernel)) ggX12_ruleOn_X12_proposalOf
set_option maxRecDepth 20000 in
theorem ggX12_ruleOn_X12_modeOn : GoodIn wsX12_ruleOn wsX12_modeOn := goodIn_r _ [34] (by decide +kernel) (by decide +kernel)
set_option maxRecDepth 20000 in
theorem gX12_ruleOn_X12_modeOn : GoodIn wsX12_ruleOn (va_wsS RX12 100 yX12_modeOn wsX12_modeOn) := goodIn_app (goodIn_of _ (by decide +kernel)) ggX12_ruleOn_X12_modeOn
theorem dX12_ruleOn_0 : decode cX12_ruleOn 0 = .ok (.aload_n 0, 1) := by decide +kernel
theorem dX12_ruleOn_1 : decode cX12_ruleOn 1 = .ok (.aload_n 1, 1) := by decide +kernel
theorem dX12_ruleOn_2 : decode cX12_ruleOn 2 = .ok (.iload_n 2, 1) := by decide +kernel
theorem dX12_ruleOn_3 : decode cX12_ruleOn 3 = .ok (.iconst 0, 1) := by decide +kernel
theorem dX12_ruleOn_4 : decode cX12_ruleOn 4 = .ok (.invokevirtual 96, 3) := by decide +kernel
theorem dX12_ruleOn_7 : decode cX12_ruleOn 7 = .ok (.istore_n 3, 1) := by decide +kernel
theorem dX12_ruleOn_8 : decode cX12_ruleOn 8 = .ok (.aload_n 0, 1) := by decide +kernel
theorem dX12_ruleOn_9 : decode cX12_ruleOn 9 = .ok (.aload_n 1, 1) := by decide +kernel
theorem dX12_ruleOn_10 : decode cX12_ruleOn 10 = .ok (.iload_n 2, 1) := by decide +kernel
theorem dX12_ruleOn_11 : decode cX12_ruleOn 11 = .ok (.iconst 1, 1) := by decide +kernel
theorem dX12_ruleOn_12 : decode cX12_ruleOn 12 = .ok (.invokevirtual 96, 3) := by decide +kernel
theorem dX12_ruleOn_15 : decode cX12_ruleOn 15 = .ok (.istore 4, 2) := by decide +kernel
theorem dX12_ruleOn_17 : decode cX12_ruleOn 17 = .ok (.aload_n 0, 1) := by decide +kernel
theorem dX12_ruleOn_18 : decode cX12_ruleOn 18 = .ok (.aload_n 1, 1) := by decide +kernel
theorem dX12_ruleOn_19 : decode cX12_ruleOn 19 = .ok (.iload_n 2, 1) := by decide +kernel
theorem dX12_ruleOn_20 : decode cX12_ruleOn 20 = .ok (.iconst 2, 1) := by decide +kernel
theorem dX12_ruleOn_21 : decode cX12_ruleOn 21 = .ok (.invokevirtual 96, 3) := by decide +kernel
theorem dX12_ruleOn_24 : decode cX12_ruleOn 24 = .ok (.istore 5, 2) := by decide +kernel
theorem dX12_ruleOn_26 : decode cX12_ruleOn 26 = .ok (.aload_n 1, 1) := by decide +kernel
theorem dX12_ruleOn_27 : decode cX12_ruleOn 27 = .ok (.bipush 8, 2) := by decide +kernel
theorem dX12_ruleOn_29 : decode cX12_ruleOn 29 = .ok (.iload_n 3, 1) := by decide +kernel
theorem dX12_ruleOn_30 : decode cX12_ruleOn 30 = .ok (.iastore, 1) := by decide +kernel
theorem dX12_ruleOn_31 : decode cX12_ruleOn 31 = .ok (.aload_n 1, 1) := by decide +kernel
theorem dX12_ruleOn_32 : decode cX12_ruleOn 32 = .ok (.bipush 9, 2) := by decide +kernel
theorem dX12_ruleOn_34 : decode cX12_ruleOn 34 = .ok (.iload 4, 2) := by decide +kernel
theorem dX12_ruleOn_36 : decode cX12_ruleOn 36 = .ok (.iastore, 1) := by decide +kernel
theorem dX12_ruleOn_37 : decode cX12_ruleOn 37 = .ok (.aload_n 1, 1) := by decide +kernel
theorem dX12_ruleOn_38 : decode cX12_ruleOn 38 = .ok (.bipush 10, 2) := by decide +kernel
theorem dX12_ruleOn_40 : decode cX12_ruleOn 40 = .ok (.iload 5, 2) := by decide +kernel
theorem dX12_ruleOn_42 : decode cX12_ruleOn 42 = .ok (.iastore, 1) := by decide +kernel
theorem dX12_ruleOn_43 : decode cX12_ruleOn 43 = .ok (.aload_n 1, 1) := by decide +kernel
theorem dX12_ruleOn_44 : decode cX12_ruleOn 44 = .ok (.iconst 2, 1) := by decide +kernel
theorem dX12_ruleOn_45 : decode cX12_ruleOn 45 = .ok (.invokestatic 100, 3) := by decide +kernel
theorem dX12_ruleOn_48 : decode cX12_ruleOn 48 = .ok (.return_, 1) := by decide +kernel
set_option maxRecDepth 20000 in
theorem ggX12_canTry_X12_goodOf : GoodIn wsX12_canTry wsX12_goodOf := goodIn_r _ [5, 6, 7, 8, 4, 9, 10, 11, 12, 13, 14, 15, 16, 17, 18, 19, 20, 21, 22, 23, 24, 25, 26, 27, 28, 29, 30, 31, 32, 33, 34, 35, 36, 37, 38, 39] (by decide +kernel) (by decide +kernel)
set_option maxRecDepth 20000 in
theorem gX12_canTry_X12_goodOf : GoodIn wsX12_canTry (wsV RX12 103 RX12 yX12_goodOf wsX12_goodOf) := goodIn_app (goodIn_of _ (by decide +kernel)) ggX12_canTry_X12_goodOf
theorem dX12_canTry_0 : decode cX12_canTry 0 = .ok (.aload_n 1, 1) := by decide +kernel
theorem dX12_canTry_1 : decode cX12_canTry 1 = .ok (.bipush 17, 2) := by decide +kernel
theorem dX12_canTry_3 : decode cX12_canTry 3 = .ok (.iaload, 1) := by decide +kernel
theorem dX12_canTry_4 : decode cX12_canTry 4 = .ok (.bipush 8, 2) := by decide +kernel
theorem dX12_canTry_6 : decode cX12_canTry 6 = .ok (.if_icmp .ge 15, 3) := by decide +kernel
theorem dX12_canTry_9 : decode cX12_canTry 9 = .ok (.aload_n 0, 1) := by decide +kernel
theorem dX12_canTry_10 : decode cX12_canTry 10 = .ok (.aload_n 1, 1) := by decide +kernel
theorem dX12_canTry_11 : decode cX12_canTry 11 = .ok (.invokevirtual 103, 3) := by decide +kernel
theorem dX12_canTry_14 : decode cX12_canTry 14 = .ok (.ifCond .le 7, 3) := by decide +kernel
theorem dX12_canTry_17 : decode cX12_canTry 17 = .ok (.iconst 1, 1) := by decide +kernel
theorem dX12_canTry_18 : decode cX12_canTry 18 = .ok (.goto 4, 3) := by decide +kernel
theorem dX12_canTry_21 : decode cX12_canTry 21 = .ok (.iconst 0, 1) := by decide +kernel
theorem dX12_canTry_22 : decode cX12_canTry 22 = .ok (.ireturn, 1) := by decide +kernel
set_option maxRecDepth 20000 in
theorem ggX12_tryOn_X12_ruleOn : GoodIn wsX12_tryOn wsX12_ruleOn := goodIn_r _ [5, 6, 7, 8, 4, 9, 10, 11, 12, 13, 14, 15, 16, 17, 18, 19, 20, 21, 22, 23, 24, 25, 26, 27, 28, 29, 30, 31, 32, 33, 34, 35, 36, 37, 38, 39, 40, 41, 42, 43, 44, 45, 46, 47, 48, 49, 50, 51, 52, 53] (by decide +kernel) (by decide +kernel)
set_option maxRecDepth 20000 in
theorem gX12_tryOn_X12_ruleOn : GoodIn wsX12_tryOn (wsV RX12 106 RX12 yX12_ruleOn wsX12_ruleOn) := goodIn_app (goodIn_of _ (by decide +kernel)) ggX12_tryOn_X12_ruleOn
theorem dX12_tryOn_0 : decode cX12_tryOn 0 = .ok (.bipush 122, 2) := by decide +kernel
theorem dX12_tryOn_2 : decode cX12_tryOn 2 = .ok (.iconst 4, 1) := by decide +kernel
theorem dX12_tryOn_3 : decode cX12_tryOn 3 = .ok (.aload_n 1, 1) := by decide +kernel
theorem dX12_tryOn_4 : decode cX12_tryOn 4 = .ok (.bipush 17, 2) := by decide +kernel
theorem dX12_tryOn_6 : decode cX12_tryOn 6 = .ok (.iaload, 1) := by decide +kernel
theorem dX12_tryOn_7 : decode cX12_tryOn 7 = .ok (.imul, 1) := by decide +kernel
theorem dX12_tryOn_8 : decode cX12_tryOn 8 = .ok (.iadd, 1) := by decide +kernel
theorem dX12_tryOn_9 : decode cX12_tryOn 9 = .ok (.istore_n 3, 1) := by decide +kernel
theorem dX12_tryOn_10 : decode cX12_tryOn 10 = .ok (.aload_n 1, 1) := by decide +kernel
theorem dX12_tryOn_11 : decode cX12_tryOn 11 = .ok (.iload_n 3, 1) := by decide +kernel
theorem dX12_tryOn_12 : decode cX12_tryOn 12 = .ok (.aload_n 1, 1) := by decide +kernel
theorem dX12_tryOn_13 : decode cX12_tryOn 13 = .ok (.bipush 8, 2) := by decide +kernel
theorem dX12_tryOn_15 : decode cX12_tryOn 15 = .ok (.iaload, 1) := by decide +kernel
theorem dX12_tryOn_16 : decode cX12_tryOn 16 = .ok (.iastore, 1) := by decide +kernel
theorem dX12_tryOn_17 : decode cX12_tryOn 17 = .ok (.aload_n 1, 1) := by decide +kernel
theorem dX12_tryOn_18 : decode cX12_tryOn 18 = .ok (.iload_n 3, 1) := by decide +kernel
theorem dX12_tryOn_19 : decode cX12_tryOn 19 = .ok (.iconst 1, 1) := by decide +kernel
theorem dX12_tryOn_20 : decode cX12_tryOn 20 = .ok (.iadd, 1) := by decide +kernel
theorem dX12_tryOn_21 : decode cX12_tryOn 21 = .ok (.aload_n 1, 1) := by decide +kernel
theorem dX12_tryOn_22 : decode cX12_tryOn 22 = .ok (.bipush 9, 2) := by decide +kernel
theorem dX12_tryOn_24 : decode cX12_tryOn 24 = .ok (.iaload, 1) := by decide +kernel
theorem dX12_tryOn_25 : decode cX12_tryOn 25 = .ok (.iastore, 1) := by decide +kernel
theorem dX12_tryOn_26 : decode cX12_tryOn 26 = .ok (.aload_n 1, 1) := by decide +kernel
theorem dX12_tryOn_27 : decode cX12_tryOn 27 = .ok (.iload_n 3, 1) := by decide +kernel
theorem dX12_tryOn_28 : decode cX12_tryOn 28 = .ok (.iconst 2, 1) := by decide +kernel
theorem dX12_tryOn_29 : decode cX12_tryOn 29 = .ok (.iadd, 1) := by decide +kernel
theorem dX12_tryOn_30 : decode cX12_tryOn 30 = .ok (.aload_n 1, 1) := by decide +kernel
theorem dX12_tryOn_31 : decode cX12_tryOn 31 = .ok (.bipush 10, 2) := by decide +kernel
theorem dX12_tryOn_33 : decode cX12_tryOn 33 = .ok (.iaload, 1) := by decide +kernel
theorem dX12_tryOn_34 : decode cX12_tryOn 34 = .ok (.iastore, 1) := by decide +kernel
theorem dX12_tryOn_35 : decode cX12_tryOn 35 = .ok (.aload_n 1, 1) := by decide +kernel
theorem dX12_tryOn_36 : decode cX12_tryOn 36 = .ok (.iload_n 3, 1) := by decide +kernel
theorem dX12_tryOn_37 : decode cX12_tryOn 37 = .ok (.iconst 3, 1) := by decide +kernel
theorem dX12_tryOn_38 : decode cX12_tryOn 38 = .ok (.iadd, 1) := by decide +kernel
theorem dX12_tryOn_39 : decode cX12_tryOn 39 = .ok (.aload_n 1, 1) := by decide +kernel
theorem dX12_tryOn_40 : decode cX12_tryOn 40 = .ok (.bipush 11, 2) := by decide +kernel
theorem dX12_tryOn_42 : decode cX12_tryOn 42 = .ok (.iaload, 1) := by decide +kernel
theorem dX12_tryOn_43 : decode cX12_tryOn 43 = .ok (.iastore, 1) := by decide +kernel
theorem dX12_tryOn_44 : decode cX12_tryOn 44 = .ok (.aload_n 1, 1) := by decide +kernel
theorem dX12_tryOn_45 : decode cX12_tryOn 45 = .ok (.bipush 17, 2) := by decide +kernel
theorem dX12_tryOn_47 : decode cX12_tryOn 47 = .ok (.dup2, 1) := by decide +kernel
theorem dX12_tryOn_48 : decode cX12_tryOn 48 = .ok (.iaload, 1) := by decide +kernel
theorem dX12_tryOn_49 : decode cX12_tryOn 49 = .ok (.iconst 1, 1) := by decide +kernel
theorem dX12_tryOn_50 : decode cX12_tryOn 50 = .ok (.iadd, 1) := by decide +kernel
theorem dX12_tryOn_51 : decode cX12_tryOn 51 = .ok (.iastore, 1) := by decide +kernel
theorem dX12_tryOn_52 : decode cX12_tryOn 52 = .ok (.aload_n 0, 1) := by decide +kernel
theorem dX12_tryOn_53 : decode cX12_tryOn 53 = .ok (.aload_n 1, 1) := by decide +kernel
theorem dX12_tryOn_54 : decode cX12_tryOn 54 = .ok (.iload_n 2, 1) := by decide +kernel
theorem dX12_tryOn_55 : decode cX12_tryOn 55 = .ok (.invokevirtual 106, 3) := by decide +kernel
theorem dX12_tryOn_58 : decode cX12_tryOn 58 = .ok (.return_, 1) := by decide +kernel
set_option maxRecDepth 20000 in
theorem ggX12_takeBackOn_X12_modeOn : GoodIn wsX12_takeBackOn wsX12_modeOn := goodIn_r _ [4] (by decide +kernel) (by decide +kernel)
set_option maxRecDepth 20000 in
theorem gX12_takeBackOn_X12_modeOn : GoodIn wsX12_takeBackOn (va_wsS RX12 100 yX12_modeOn wsX12_modeOn) := goodIn_app (goodIn_of _ (by decide +kernel)) ggX12_takeBackOn_X12_modeOn
theorem dX12_takeBackOn_0 : decode cX12_takeBackOn 0 = .ok (.aload_n 0, 1) := by decide +kernel
theorem dX12_takeBackOn_1 : decode cX12_takeBackOn 1 = .ok (.bipush 17, 2) := by decide +kernel
theorem dX12_takeBackOn_3 : decode cX12_takeBackOn 3 = .ok (.dup2, 1) := by decide +kernel
theorem dX12_takeBackOn_4 : decode cX12_takeBackOn 4 = .ok (.iaload, 1) := by decide +kernel
theorem dX12_takeBackOn_5 : decode cX12_takeBackOn 5 = .ok (.iconst 1, 1) := by decide +kernel
theorem dX12_takeBackOn_6 : decode cX12_takeBackOn 6 = .ok (.isub, 1) := by decide +kernel
theorem dX12_takeBackOn_7 : decode cX12_takeBackOn 7 = .ok (.iastore, 1) := by decide +kernel
theorem dX12_takeBackOn_8 : decode cX12_takeBackOn 8 = .ok (.bipush 122, 2) := by decide +kernel
theorem dX12_takeBackOn_10 : decode cX12_takeBackOn 10 = .ok (.iconst 4, 1) := by decide +kernel
theorem dX12_takeBackOn_11 : decode cX12_takeBackOn 11 = .ok (.aload_n 0, 1) := by decide +kernel
theorem dX12_takeBackOn_12 : decode cX12_takeBackOn 12 = .ok (.bipush 17, 2) := by decide +kernel
theorem dX12_takeBackOn_14 : decode cX12_takeBackOn 14 = .ok (.iaload, 1) := by decide +kernel
theorem dX12_takeBackOn_15 : decode cX12_takeBackOn 15 = .ok (.imul, 1) := by decide +kernel
theorem dX12_takeBackOn_16 : decode cX12_takeBackOn 16 = .ok (.iadd, 1) := by decide +kernel
theorem dX12_takeBackOn_17 : decode cX12_takeBackOn 17 = .ok (.istore_n 1, 1) := by decide +kernel
theorem dX12_takeBackOn_18 : decode cX12_takeBackOn 18 = .ok (.aload_n 0, 1) := by decide +kernel
theorem dX12_takeBackOn_19 : decode cX12_takeBackOn 19 = .ok (.bipush 8, 2) := by decide +kernel
theorem dX12_takeBackOn_21 : decode cX12_takeBackOn 21 = .ok (.aload_n 0, 1) := by decide +kernel
theorem dX12_takeBackOn_22 : decode cX12_takeBackOn 22 = .ok (.iload_n 1, 1) := by decide +kernel
theorem dX12_takeBackOn_23 : decode cX12_takeBackOn 23 = .ok (.iaload, 1) := by decide +kernel
theorem dX12_takeBackOn_24 : decode cX12_takeBackOn 24 = .ok (.iastore, 1) := by decide +kernel
theorem dX12_takeBackOn_25 : decode cX12_takeBackOn 25 = .ok (.aload_n 0, 1) := by decide +kernel
theorem dX12_takeBackOn_26 : decode cX12_takeBackOn 26 = .ok (.bipush 9, 2) := by decide +kernel
theorem dX12_takeBackOn_28 : decode cX12_takeBackOn 28 = .ok (.aload_n 0, 1) := by decide +kernel
theorem dX12_takeBackOn_29 : decode cX12_takeBackOn 29 = .ok (.iload_n 1, 1) := by decide +kernel
theorem dX12_takeBackOn_30 : decode cX12_takeBackOn 30 = .ok (.iconst 1, 1) := by decide +kernel
theorem dX12_takeBackOn_31 : decode cX12_takeBackOn 31 = .ok (.iadd, 1) := by decide +kernel
theorem dX12_takeBackOn_32 : decode cX12_takeBackOn 32 = .ok (.iaload, 1) := by decide +kernel
theorem dX12_takeBackOn_33 : decode cX12_takeBackOn 33 = .ok (.iastore, 1) := by decide +kernel
theorem dX12_takeBackOn_34 : decode cX12_takeBackOn 34 = .ok (.aload_n 0, 1) := by decide +kernel
theorem dX12_takeBackOn_35 : decode cX12_takeBackOn 35 = .ok (.bipush 10, 2) := by decide +kernel
theorem dX12_takeBackOn_37 : decode cX12_takeBackOn 37 = .ok (.aload_n 0, 1) := by decide +kernel
theorem dX12_takeBackOn_38 : decode cX12_takeBackOn 38 = .ok (.iload_n 1, 1) := by decide +kernel
theorem dX12_takeBackOn_39 : decode cX12_takeBackOn 39 = .ok (.iconst 2, 1) := by decide +kernel
theorem dX12_takeBackOn_40 : decode cX12_takeBackOn 40 = .ok (.iadd, 1) := by decide +kernel
theorem dX12_takeBackOn_41 : decode cX12_takeBackOn 41 = .ok (.iaload, 1) := by decide +kernel
theorem dX12_takeBackOn_42 : decode cX12_takeBackOn 42 = .ok (.iastore, 1) := by decide +kernel
theorem dX12_takeBackOn_43 : decode cX12_takeBackOn 43 = .ok (.aload_n 0, 1) := by decide +kernel
theorem dX12_takeBackOn_44 : decode cX12_takeBackOn 44 = .ok (.aload_n 0, 1) := by decide +kernel
theorem dX12_takeBackOn_45 : decode cX12_takeBackOn 45 = .ok (.iload_n 1, 1) := by decide +kernel
theorem dX12_takeBackOn_46 : decode cX12_takeBackOn 46 = .ok (.iconst 3, 1) := by decide +kernel
theorem dX12_takeBackOn_47 : decode cX12_takeBackOn 47 = .ok (.iadd, 1) := by decide +kernel
theorem dX12_takeBackOn_48 : decode cX12_takeBackOn 48 = .ok (.iaload, 1) := by decide +kernel
theorem dX12_takeBackOn_49 : decode cX12_takeBackOn 49 = .ok (.invokestatic 100, 3) := by decide +kernel
theorem dX12_takeBackOn_52 : decode cX12_takeBackOn 52 = .ok (.return_, 1) := by decide +kernel
set_option maxRecDepth 20000 in
theorem ggX12_append_X12_in : GoodIn wsX12_append wsX12_in := goodIn_r _ [7] (by decide +kernel) (by decide +kernel)
set_option maxRecDepth 20000 in
theorem gX12_append_X12_in : GoodIn wsX12_append (va_wsS RX12 111 yX12_in wsX12_in) := goodIn_app (goodIn_of _ (by decide +kernel)) ggX12_append_X12_in
set_option maxRecDepth 20000 in
theorem ggX12_append_X12_refused : GoodIn wsX12_append wsX12_refused := goodIn_r _ [11, 12, 13, 14, 15, 16, 17, 18, 19, 20, 21, 22, 23, 24, 25, 26, 27] (by decide +kernel) (by decide +kernel)
set_option maxRecDepth 20000 in
theorem gX12_append_X12_refused : GoodIn wsX12_append (wsV RX12 118 RX12 yX12_refused wsX12_refused) := goodIn_app (goodIn_of _ (by decide +kernel)) ggX12_append_X12_refused
theorem dX12_append_0 : decode cX12_append 0 = .ok (.aload_n 0, 1) := by decide +kernel
theorem dX12_append_1 : decode cX12_append 1 = .ok (.iload_n 1, 1) := by decide +kernel
theorem dX12_append_2 : decode cX12_append 2 = .ok (.i2l, 1) := by decide +kernel
theorem dX12_append_3 : decode cX12_append 3 = .ok (.lconst 0, 1) := by decide +kernel
theorem dX12_append_4 : decode cX12_append 4 = .ok (.ldc2_w 109, 3) := by decide +kernel
theorem dX12_append_7 : decode cX12_append 7 = .ok (.invokestatic 111, 3) := by decide +kernel
theorem dX12_append_10 : decode cX12_append 10 = .ok (.ifCond .ne 7, 3) := by decide +kernel
theorem dX12_append_13 : decode cX12_append 13 = .ok (.iconst 1, 1) := by decide +kernel
theorem dX12_append_14 : decode cX12_append 14 = .ok (.goto 17, 3) := by decide +kernel
theorem dX12_append_17 : decode cX12_append 17 = .ok (.aload_n 0, 1) := by decide +kernel
theorem dX12_append_18 : decode cX12_append 18 = .ok (.getfield 115, 3) := by decide +kernel
theorem dX12_append_21 : decode cX12_append 21 = .ok (.bipush 60, 2) := by decide +kernel
theorem dX12_append_23 : decode cX12_append 23 = .ok (.if_icmp .ne 7, 3) := by decide +kernel
theorem dX12_append_26 : decode cX12_append 26 = .ok (.iconst 2, 1) := by decide +kernel
theorem dX12_append_27 : decode cX12_append 27 = .ok (.goto 4, 3) := by decide +kernel
theorem dX12_append_30 : decode cX12_append 30 = .ok (.iconst 0, 1) := by decide +kernel
theorem dX12_append_31 : decode cX12_append 31 = .ok (.invokevirtual 118, 3) := by decide +kernel
theorem dX12_append_34 : decode cX12_append 34 = .ok (.ifCond .eq 5, 3) := by decide +kernel
theorem dX12_append_37 : decode cX12_append 37 = .ok (.iconst 0, 1) := by decide +kernel
theorem dX12_append_38 : decode cX12_append 38 = .ok (.ireturn, 1) := by decide +kernel
theorem dX12_append_39 : decode cX12_append 39 = .ok (.aload_n 0, 1) := by decide +kernel
theorem dX12_append_40 : decode cX12_append 40 = .ok (.getfield 7, 3) := by decide +kernel
theorem dX12_append_43 : decode cX12_append 43 = .ok (.aload_n 0, 1) := by decide +kernel
theorem dX12_append_44 : decode cX12_append 44 = .ok (.getfield 115, 3) := by decide +kernel
theorem dX12_append_47 : decode cX12_append 47 = .ok (.iload_n 1, 1) := by decide +kernel
theorem dX12_append_48 : decode cX12_append 48 = .ok (.iastore, 1) := by decide +kernel
theorem dX12_append_49 : decode cX12_append 49 = .ok (.aload_n 0, 1) := by decide +kernel
theorem dX12_append_50 : decode cX12_append 50 = .ok (.dup, 1) := by decide +kernel
theorem dX12_append_51 : decode cX12_append 51 = .ok (.getfield 115, 3) := by decide +kernel
theorem dX12_append_54 : decode cX12_append 54 = .ok (.iconst 1, 1) := by decide +kernel
theorem dX12_append_55 : decode cX12_append 55 = .ok (.iadd, 1) := by decide +kernel
theorem dX12_append_56 : decode cX12_append 56 = .ok (.putfield 115, 3) := by decide +kernel
theorem dX12_append_59 : decode cX12_append 59 = .ok (.aload_n 0, 1) := by decide +kernel
theorem dX12_append_60 : decode cX12_append 60 = .ok (.getfield 115, 3) := by decide +kernel
theorem dX12_append_63 : decode cX12_append 63 = .ok (.ireturn, 1) := by decide +kernel
theorem dX12_clearText_0 : decode cX12_clearText 0 = .ok (.aload_n 0, 1) := by decide +kernel
theorem dX12_clearText_1 : decode cX12_clearText 1 = .ok (.iconst 0, 1) := by decide +kernel
theorem dX12_clearText_2 : decode cX12_clearText 2 = .ok (.putfield 39, 3) := by decide +kernel
theorem dX12_clearText_5 : decode cX12_clearText 5 = .ok (.aload_n 0, 1) := by decide +kernel
theorem dX12_clearText_6 : decode cX12_clearText 6 = .ok (.getfield 115, 3) := by decide +kernel
theorem dX12_clearText_9 : decode cX12_clearText 9 = .ok (.istore_n 1, 1) := by decide +kernel
theorem dX12_clearText_10 : decode cX12_clearText 10 = .ok (.aload_n 0, 1) := by decide +kernel
theorem dX12_clearText_11 : decode cX12_clearText 11 = .ok (.iconst 0, 1) := by decide +kernel
theorem dX12_clearText_12 : decode cX12_clearText 12 = .ok (.putfield 115, 3) := by decide +kernel
theorem dX12_clearText_15 : decode cX12_clearText 15 = .ok (.iload_n 1, 1) := by decide +kernel
theorem dX12_clearText_16 : decode cX12_clearText 16 = .ok (.ireturn, 1) := by decide +kernel
theorem dX12_eat_0 : decode cX12_eat 0 = .ok (.aload_n 0, 1) := by decide +kernel
theorem dX12_eat_1 : decode cX12_eat 1 = .ok (.getfield 122, 3) := by decide +kernel
theorem dX12_eat_4 : decode cX12_eat 4 = .ok (.aload_n 0, 1) := by decide +kernel
theorem dX12_eat_5 : decode cX12_eat 5 = .ok (.getfield 115, 3) := by decide +kernel
theorem dX12_eat_8 : decode cX12_eat 8 = .ok (.if_icmp .ge 20, 3) := by decide +kernel
theorem dX12_eat_11 : decode cX12_eat 11 = .ok (.aload_n 0, 1) := by decide +kernel
theorem dX12_eat_12 : decode cX12_eat 12 = .ok (.getfield 7, 3) := by decide +kernel
theorem dX12_eat_15 : decode cX12_eat 15 = .ok (.aload_n 0, 1) := by decide +kernel
theorem dX12_eat_16 : decode cX12_eat 16 = .ok (.getfield 122, 3) := by decide +kernel
theorem dX12_eat_19 : decode cX12_eat 19 = .ok (.iaload, 1) := by decide +kernel
theorem dX12_eat_20 : decode cX12_eat 20 = .ok (.iload_n 1, 1) := by decide +kernel
theorem dX12_eat_21 : decode cX12_eat 21 = .ok (.if_icmp .ne 7, 3) := by decide +kernel
theorem dX12_eat_24 : decode cX12_eat 24 = .ok (.iconst 1, 1) := by decide +kernel
theorem dX12_eat_25 : decode cX12_eat 25 = .ok (.goto 4, 3) := by decide +kernel
theorem dX12_eat_28 : decode cX12_eat 28 = .ok (.iconst 0, 1) := by decide +kernel
theorem dX12_eat_29 : decode cX12_eat 29 = .ok (.istore_n 2, 1) := by decide +kernel
theorem dX12_eat_30 : decode cX12_eat 30 = .ok (.aload_n 0, 1) := by decide +kernel
theorem dX12_eat_31 : decode cX12_eat 31 = .ok (.dup, 1) := by decide +kernel
theorem dX12_eat_32 : decode cX12_eat 32 = .ok (.getfield 122, 3) := by decide +kernel
theorem dX12_eat_35 : decode cX12_eat 35 = .ok (.iload_n 2, 1) := by decide +kernel
theorem dX12_eat_36 : decode cX12_eat 36 = .ok (.ifCond .eq 7, 3) := by decide +kernel
theorem dX12_eat_39 : decode cX12_eat 39 = .ok (.iconst 1, 1) := by decide +kernel
theorem dX12_eat_40 : decode cX12_eat 40 = .ok (.goto 4, 3) := by decide +kernel
theorem dX12_eat_43 : decode cX12_eat 43 = .ok (.iconst 0, 1) := by decide +kernel
theorem dX12_eat_44 : decode cX12_eat 44 = .ok (.iadd, 1) := by decide +kernel
theorem dX12_eat_45 : decode cX12_eat 45 = .ok (.putfield 122, 3) := by decide +kernel
theorem dX12_eat_48 : decode cX12_eat 48 = .ok (.iload_n 2, 1) := by decide +kernel
theorem dX12_eat_49 : decode cX12_eat 49 = .ok (.ireturn, 1) := by decide +kernel
set_option maxRecDepth 20000 in
theorem ggX12_put_X12_in : GoodIn wsX12_put wsX12_in := goodIn_r _ [10] (by decide +kernel) (by decide +kernel)
set_option maxRecDepth 20000 in
theorem gX12_put_X12_in : GoodIn wsX12_put (va_wsS RX12 111 yX12_in wsX12_in) := goodIn_app (goodIn_of _ (by decide +kernel)) ggX12_put_X12_in
theorem dX12_put_0 : decode cX12_put 0 = .ok (.iload_n 2, 1) := by decide +kernel
theorem dX12_put_1 : decode cX12_put 1 = .ok (.iconst 1, 1) := by decide +kernel
theorem dX12_put_2 : decode cX12_put 2 = .ok (.if_icmp .ne 7, 3) := by decide +kernel
theorem dX12_put_5 : decode cX12_put 5 = .ok (.iconst 1, 1) := by decide +kernel
theorem dX12_put_6 : decode cX12_put 6 = .ok (.goto 15, 3) := by decide +kernel
theorem dX12_put_9 : decode cX12_put 9 = .ok (.iload_n 2, 1) := by decide +kernel
theorem dX12_put_10 : decode cX12_put 10 = .ok (.iconst 2, 1) := by decide +kernel
theorem dX12_put_11 : decode cX12_put 11 = .ok (.if_icmp .ne 8, 3) := by decide +kernel
theorem dX12_put_14 : decode cX12_put 14 = .ok (.bipush 10, 2) := by decide +kernel
theorem dX12_put_16 : decode cX12_put 16 = .ok (.goto 5, 3) := by decide +kernel
theorem dX12_put_19 : decode cX12_put 19 = .ok (.bipush 100, 2) := by decide +kernel
theorem dX12_put_21 : decode cX12_put 21 = .ok (.istore 5, 2) := by decide +kernel
theorem dX12_put_23 : decode cX12_put 23 = .ok (.iconst 0, 1) := by decide +kernel
theorem dX12_put_24 : decode cX12_put 24 = .ok (.istore 6, 2) := by decide +kernel
theorem dX12_put_26 : decode cX12_put 26 = .ok (.iload 5, 2) := by decide +kernel
theorem dX12_put_28 : decode cX12_put 28 = .ok (.ifCond .le 100, 3) := by decide +kernel
theorem dX12_put_31 : decode cX12_put 31 = .ok (.aload_n 0, 1) := by decide +kernel
theorem dX12_put_32 : decode cX12_put 32 = .ok (.getfield 122, 3) := by decide +kernel
theorem dX12_put_35 : decode cX12_put 35 = .ok (.aload_n 0, 1) := by decide +kernel
theorem dX12_put_36 : decode cX12_put 36 = .ok (.getfield 115, 3) := by decide +kernel
theorem dX12_put_39 : decode cX12_put 39 = .ok (.if_icmp .ge 18, 3) := by decide +kernel
theorem dX12_put_42 : decode cX12_put 42 = .ok (.aload_n 0, 1) := by decide +kernel
theorem dX12_put_43 : decode cX12_put 43 = .ok (.getfield 7, 3) := by decide +kernel
theorem dX12_put_46 : decode cX12_put 46 = .ok (.aload_n 0, 1) := by decide +kernel
theorem dX12_put_47 : decode cX12_put 47 = .ok (.getfield 122, 3) := by decide +kernel
theorem dX12_put_50 : decode cX12_put 50 = .ok (.iaload, 1) := by decide +kernel
theorem dX12_put_51 : decode cX12_put 51 = .ok (.bipush 48, 2) := by decide +kernel
theorem dX12_put_53 : decode cX12_put 53 = .ok (.isub, 1) := by decide +kernel
theorem dX12_put_54 : decode cX12_put 54 = .ok (.goto 5, 3) := by decide +kernel
theorem dX12_put_57 : decode cX12_put 57 = .ok (.ldc 74, 2) := by decide +kernel
theorem dX12_put_59 : decode cX12_put 59 = .ok (.istore 7, 2) := by decide +kernel
theorem dX12_put_61 : decode cX12_put 61 = .ok (.iload 6, 2) := by decide +kernel
theorem dX12_put_63 : decode cX12_put 63 = .ok (.iload 7, 2) := by decide +kernel
theorem dX12_put_65 : decode cX12_put 65 = .ok (.iload 5, 2) := by decide +kernel
theorem dX12_put_67 : decode cX12_put 67 = .ok (.imul, 1) := by decide +kernel
theorem dX12_put_68 : decode cX12_put 68 = .ok (.iadd, 1) := by decide +kernel
theorem dX12_put_69 : decode cX12_put 69 = .ok (.istore 8, 2) := by decide +kernel
theorem dX12_put_71 : decode cX12_put 71 = .ok (.iload 7, 2) := by decide +kernel
theorem dX12_put_73 : decode cX12_put 73 = .ok (.i2l, 1) := by decide +kernel
theorem dX12_put_74 : decode cX12_put 74 = .ok (.lconst 0, 1) := by decide +kernel
theorem dX12_put_75 : decode cX12_put 75 = .ok (.ldc2_w 125, 3) := by decide +kernel
theorem dX12_put_78 : decode cX12_put 78 = .ok (.invokestatic 111, 3) := by decide +kernel
theorem dX12_put_81 : decode cX12_put 81 = .ok (.ifCond .eq 21, 3) := by decide +kernel
theorem dX12_put_84 : decode cX12_put 84 = .ok (.iload 8, 2) := by decide +kernel
theorem dX12_put_86 : decode cX12_put 86 = .ok (.iload 4, 2) := by decide +kernel
theorem dX12_put_88 : decode cX12_put 88 = .ok (.if_icmp .gt 14, 3) := by decide +kernel
theorem dX12_put_91 : decode cX12_put 91 = .ok (.iload 8, 2) := by decide +kernel
theorem dX12_put_93 : decode cX12_put 93 = .ok (.iload 5, 2) := by decide +kernel
theorem dX12_put_95 : decode cX12_put 95 = .ok (.iadd, 1) := by decide +kernel
theorem dX12_put_96 : decode cX12_put 96 = .ok (.iconst 1, 1) := by decide +kernel
theorem dX12_put_97 : decode cX12_put 97 = .ok (.isub, 1) := by decide +kernel
theorem dX12_put_98 : decode cX12_put 98 = .ok (.iload_n 3, 1) := by decide +kernel
theorem dX12_put_99 : decode cX12_put 99 = .ok (.if_icmp .ge 5, 3) := by decide +kernel
theorem dX12_put_102 : decode cX12_put 102 = .ok (.iconst 0, 1) := by decide +kernel
theorem dX12_put_103 : decode cX12_put 103 = .ok (.ireturn, 1) := by decide +kernel
theorem dX12_put_104 : decode cX12_put 104 = .ok (.iload 8, 2) := by decide +kernel
theorem dX12_put_106 : decode cX12_put 106 = .ok (.istore 6, 2) := by decide +kernel
theorem dX12_put_108 : decode cX12_put 108 = .ok (.iload 5, 2) := by decide +kernel
theorem dX12_put_110 : decode cX12_put 110 = .ok (.bipush 10, 2) := by decide +kernel
theorem dX12_put_112 : decode cX12_put 112 = .ok (.idiv, 1) := by decide +kernel
theorem dX12_put_113 : decode cX12_put 113 = .ok (.istore 5, 2) := by decide +kernel
theorem dX12_put_115 : decode cX12_put 115 = .ok (.aload_n 0, 1) := by decide +kernel
theorem dX12_put_116 : decode cX12_put 116 = .ok (.dup, 1) := by decide +kernel
theorem dX12_put_117 : decode cX12_put 117 = .ok (.getfield 122, 3) := by decide +kernel
theorem dX12_put_120 : decode cX12_put 120 = .ok (.iconst 1, 1) := by decide +kernel
theorem dX12_put_121 : decode cX12_put 121 = .ok (.iadd, 1) := by decide +kernel
theorem dX12_put_122 : decode cX12_put 122 = .ok (.putfield 122, 3) := by decide +kernel
theorem dX12_put_125 : decode cX12_put 125 = .ok (.goto (-99), 3) := by decide +kernel
theorem dX12_put_128 : decode cX12_put 128 = .ok (.aload_n 0, 1) := by decide +kernel
theorem dX12_put_129 : decode cX12_put 129 = .ok (.getfield 13, 3) := by decide +kernel
theorem dX12_put_132 : decode cX12_put 132 = .ok (.iload_n 1, 1) := by decide +kernel
theorem dX12_put_133 : decode cX12_put 133 = .ok (.iload 6, 2) := by decide +kernel
theorem dX12_put_135 : decode cX12_put 135 = .ok (.iastore, 1) := by decide +kernel
theorem dX12_put_136 : decode cX12_put 136 = .ok (.iconst 1, 1) := by decide +kernel
theorem dX12_put_137 : decode cX12_put 137 = .ok (.ireturn, 1) := by decide +kernel
set_option maxRecDepth 20000 in
theorem ggX12_readAmbient_X12_eat : GoodIn wsX12_readAmbient wsX12_eat := goodIn_r _ [6, 7, 8, 9, 19, 20, 21, 22, 23, 24, 25, 26, 27, 28, 29, 30, 31, 32, 33] (by decide +kernel) (by decide +kernel)
set_option maxRecDepth 20000 in
theorem gX12_readAmbient_X12_eat : GoodIn wsX12_readAmbient (wsV RX12 127 RX12 yX12_eat wsX12_eat) := goodIn_app (goodIn_of _ (by decide +kernel)) ggX12_readAmbient_X12_eat
set_option maxRecDepth 20000 in
theorem ggX12_readAmbient_X12_put : GoodIn wsX12_readAmbient wsX12_put := goodIn_r _ [13, 7, 8, 9, 14, 15, 1, 16, 17, 5, 18, 19, 20, 21, 22, 23, 24, 25, 26, 27, 28, 29, 30, 31, 32, 33] (by decide +kernel) (by decide +kernel)
set_option maxRecDepth 20000 in
theorem gX12_readAmbient_X12_put : GoodIn wsX12_readAmbient (wsV RX12 130 RX12 yX12_put wsX12_put) := goodIn_app (goodIn_of _ (by decide +kernel)) ggX12_readAmbient_X12_put
theorem dX12_readAmbient_0 : decode cX12_readAmbient 0 = .ok (.aload_n 0, 1) := by decide +kernel
theorem dX12_readAmbient_1 : decode cX12_readAmbient 1 = .ok (.bipush 45, 2) := by decide +kernel
theorem dX12_readAmbient_3 : decode cX12_readAmbient 3 = .ok (.invokevirtual 127, 3) := by decide +kernel
theorem dX12_readAmbient_6 : decode cX12_readAmbient 6 = .ok (.istore_n 1, 1) := by decide +kernel
theorem dX12_readAmbient_7 : decode cX12_readAmbient 7 = .ok (.iload_n 1, 1) := by decide +kernel
theorem dX12_readAmbient_8 : decode cX12_readAmbient 8 = .ok (.ifCond .ne 12, 3) := by decide +kernel
theorem dX12_readAmbient_11 : decode cX12_readAmbient 11 = .ok (.aload_n 0, 1) := by decide +kernel
theorem dX12_readAmbient_12 : decode cX12_readAmbient 12 = .ok (.bipush 43, 2) := by decide +kernel
theorem dX12_readAmbient_14 : decode cX12_readAmbient 14 = .ok (.invokevirtual 127, 3) := by decide +kernel
theorem dX12_readAmbient_17 : decode cX12_readAmbient 17 = .ok (.ifCond .eq 15, 3) := by decide +kernel
theorem dX12_readAmbient_20 : decode cX12_readAmbient 20 = .ok (.aload_n 0, 1) := by decide +kernel
theorem dX12_readAmbient_21 : decode cX12_readAmbient 21 = .ok (.iconst 3, 1) := by decide +kernel
theorem dX12_readAmbient_22 : decode cX12_readAmbient 22 = .ok (.iconst 2, 1) := by decide +kernel
theorem dX12_readAmbient_23 : decode cX12_readAmbient 23 = .ok (.iconst 0, 1) := by decide +kernel
theorem dX12_readAmbient_24 : decode cX12_readAmbient 24 = .ok (.bipush 99, 2) := by decide +kernel
theorem dX12_readAmbient_26 : decode cX12_readAmbient 26 = .ok (.invokevirtual 130, 3) := by decide +kernel
theorem dX12_readAmbient_29 : decode cX12_readAmbient 29 = .ok (.ifCond .ne 5, 3) := by decide +kernel
theorem dX12_readAmbient_32 : decode cX12_readAmbient 32 = .ok (.iconst 0, 1) := by decide +kernel
theorem dX12_readAmbient_33 : decode cX12_readAmbient 33 = .ok (.ireturn, 1) := by decide +kernel
theorem dX12_readAmbient_34 : decode cX12_readAmbient 34 = .ok (.aload_n 0, 1) := by decide +kernel
theorem dX12_readAmbient_35 : decode cX12_readAmbient 35 = .ok (.getfield 13, 3) := by decide +kernel
theorem dX12_readAmbient_38 : decode cX12_readAmbient 38 = .ok (.iconst 3, 1) := by decide +kernel
theorem dX12_readAmbient_39 : decode cX12_readAmbient 39 = .ok (.iload_n 1, 1) := by decide +kernel
theorem dX12_readAmbient_40 : decode cX12_readAmbient 40 = .ok (.ifCond .eq 13, 3) := by decide +kernel
theorem dX12_readAmbient_43 : decode cX12_readAmbient 43 = .ok (.aload_n 0, 1) := by decide +kernel
theorem dX12_readAmbient_44 : decode cX12_readAmbient 44 = .ok (.getfield 13, 3) := by decide +kernel
theorem dX12_readAmbient_47 : decode cX12_readAmbient 47 = .ok (.iconst 3, 1) := by decide +kernel
theorem dX12_readAmbient_48 : decode cX12_readAmbient 48 = .ok (.iaload, 1) := by decide +kernel
theorem dX12_readAmbient_49 : decode cX12_readAmbient 49 = .ok (.ineg, 1) := by decide +kernel
theorem dX12_readAmbient_50 : decode cX12_readAmbient 50 = .ok (.goto 9, 3) := by decide +kernel
theorem dX12_readAmbient_53 : decode cX12_readAmbient 53 = .ok (.aload_n 0, 1) := by decide +kernel
theorem dX12_readAmbient_54 : decode cX12_readAmbient 54 = .ok (.getfield 13, 3) := by decide +kernel
theorem dX12_readAmbient_57 : decode cX12_readAmbient 57 = .ok (.iconst 3, 1) := by decide +kernel
theorem dX12_readAmbient_58 : decode cX12_readAmbient 58 = .ok (.iaload, 1) := by decide +kernel
theorem dX12_readAmbient_59 : decode cX12_readAmbient 59 = .ok (.iastore, 1) := by decide +kernel
theorem dX12_readAmbient_60 : decode cX12_readAmbient 60 = .ok (.iconst 1, 1) := by decide +kernel
theorem dX12_readAmbient_61 : decode cX12_readAmbient 61 = .ok (.ireturn, 1) := by decide +kernel
set_option maxRecDepth 20000 in
theorem ggX12_readAll_X12_begin : GoodIn wsX12_readAll wsX12_begin := goodIn_r _ [8] (by decide +kernel) (by decide +kernel)
set_option maxRecDepth 20000 in
theorem gX12_readAll_X12_begin : GoodIn wsX12_readAll (va_wsS RX12 35 yX12_begin wsX12_begin) := goodIn_app (goodIn_of _ (by decide +kernel)) ggX12_readAll_X12_begin
set_option maxRecDepth 20000 in
theorem ggX12_readAll_X12_eat : GoodIn wsX12_readAll wsX12_eat := goodIn_r _ [12, 1, 3, 4, 26, 27, 28, 29, 30, 31, 32, 33, 34, 35, 36, 37, 38, 39, 40] (by decide +kernel) (by decide +kernel)
set_option maxRecDepth 20000 in
theorem gX12_readAll_X12_eat : GoodIn wsX12_readAll (wsV RX12 127 RX12 yX12_eat wsX12_eat) := goodIn_app (goodIn_of _ (by decide +kernel)) ggX12_readAll_X12_eat
set_option maxRecDepth 20000 in
theorem ggX12_readAll_X12_put : GoodIn wsX12_readAll wsX12_put := goodIn_r _ [16, 1, 3, 4, 17, 18, 2, 19, 20, 7, 21, 26, 27, 28, 29, 30, 31, 32, 33, 34, 35, 36, 37, 38, 39, 40] (by decide +kernel) (by decide +kernel)
set_option maxRecDepth 20000 in
theorem gX12_readAll_X12_put : GoodIn wsX12_readAll (wsV RX12 130 RX12 yX12_put wsX12_put) := goodIn_app (goodIn_of _ (by decide +kernel)) ggX12_readAll_X12_put
set_option maxRecDepth 20000 in
theorem ggX12_readAll_X12_readAmbient : GoodIn wsX12_readAll wsX12_readAmbient := goodIn_r _ [25, 2, 9, 10, 11, 7, 12, 1, 3, 4, 13, 14, 15, 16, 17, 18, 19, 20, 21, 26, 27, 28, 29, 30, 31, 32, 33, 34, 35, 36, 37, 38, 39, 40] (by decide +kernel) (by decide +kernel)
set_option maxRecDepth 20000 in
theorem gX12_readAll_X12_readAmbient : GoodIn wsX12_readAll (wsV RX12 134 RX12 yX12_readAmbient wsX12_readAmbient) := goodIn_app (goodIn_of _ (by decide +kernel)) ggX12_readAll_X12_readAmbient
theorem dX12_readAll_0 : decode cX12_readAll 0 = .ok (.aload_n 0, 1) := by decide +kernel
theorem dX12_readAll_1 : decode cX12_readAll 1 = .ok (.iconst 0, 1) := by decide +kernel
theorem dX12_readAll_2 : decode cX12_readAll 2 = .ok (.putfield 122, 3) := by decide +kernel
theorem dX12_readAll_5 : decode cX12_readAll 5 = .ok (.aload_n 0, 1) := by decide +kernel
theorem dX12_readAll_6 : decode cX12_readAll 6 = .ok (.getfield 13, 3) := by decide +kernel
theorem dX12_readAll_9 : decode cX12_readAll 9 = .ok (.invokestatic 35, 3) := by decide +kernel
theorem dX12_readAll_12 : decode cX12_readAll 12 = .ok (.aload_n 0, 1) := by decide +kernel
theorem dX12_readAll_13 : decode cX12_readAll 13 = .ok (.bipush 71, 2) := by decide +kernel
theorem dX12_readAll_15 : decode cX12_readAll 15 = .ok (.invokevirtual 127, 3) := by decide +kernel
theorem dX12_readAll_18 : decode cX12_readAll 18 = .ok (.ifCond .eq 78, 3) := by decide +kernel
theorem dX12_readAll_21 : decode cX12_readAll 21 = .ok (.aload_n 0, 1) := by decide +kernel
theorem dX12_readAll_22 : decode cX12_readAll 22 = .ok (.iconst 0, 1) := by decide +kernel
theorem dX12_readAll_23 : decode cX12_readAll 23 = .ok (.iconst 2, 1) := by decide +kernel
theorem dX12_readAll_24 : decode cX12_readAll 24 = .ok (.iconst 1, 1) := by decide +kernel
theorem dX12_readAll_25 : decode cX12_readAll 25 = .ok (.bipush 20, 2) := by decide +kernel
theorem dX12_readAll_27 : decode cX12_readAll 27 = .ok (.invokevirtual 130, 3) := by decide +kernel
theorem dX12_readAll_30 : decode cX12_readAll 30 = .ok (.ifCond .eq 66, 3) := by decide +kernel
theorem dX12_readAll_33 : decode cX12_readAll 33 = .ok (.aload_n 0, 1) := by decide +kernel
theorem dX12_readAll_34 : decode cX12_readAll 34 = .ok (.bipush 78, 2) := by decide +kernel
theorem dX12_readAll_36 : decode cX12_readAll 36 = .ok (.invokevirtual 127, 3) := by decide +kernel
theorem dX12_readAll_39 : decode cX12_readAll 39 = .ok (.ifCond .eq 57, 3) := by decide +kernel
theorem dX12_readAll_42 : decode cX12_readAll 42 = .ok (.aload_n 0, 1) := by decide +kernel
theorem dX12_readAll_43 : decode cX12_readAll 43 = .ok (.iconst 1, 1) := by decide +kernel
theorem dX12_readAll_44 : decode cX12_readAll 44 = .ok (.iconst 2, 1) := by decide +kernel
theorem dX12_readAll_45 : decode cX12_readAll 45 = .ok (.iconst 1, 1) := by decide +kernel
theorem dX12_readAll_46 : decode cX12_readAll 46 = .ok (.bipush 50, 2) := by decide +kernel
theorem dX12_readAll_48 : decode cX12_readAll 48 = .ok (.invokevirtual 130, 3) := by decide +kernel
theorem dX12_readAll_51 : decode cX12_readAll 51 = .ok (.ifCond .eq 45, 3) := by decide +kernel
theorem dX12_readAll_54 : decode cX12_readAll 54 = .ok (.aload_n 0, 1) := by decide +kernel
theorem dX12_readAll_55 : decode cX12_readAll 55 = .ok (.bipush 76, 2) := by decide +kernel
theorem dX12_readAll_57 : decode cX12_readAll 57 = .ok (.invokevirtual 127, 3) := by decide +kernel
theorem dX12_readAll_60 : decode cX12_readAll 60 = .ok (.ifCond .eq 36, 3) := by decide +kernel
theorem dX12_readAll_63 : decode cX12_readAll 63 = .ok (.aload_n 0, 1) := by decide +kernel
theorem dX12_readAll_64 : decode cX12_readAll 64 = .ok (.iconst 2, 1) := by decide +kernel
theorem dX12_readAll_65 : decode cX12_readAll 65 = .ok (.iconst 1, 1) := by decide +kernel
theorem dX12_readAll_66 : decode cX12_readAll 66 = .ok (.iconst 0, 1) := by decide +kernel
theorem dX12_readAll_67 : decode cX12_readAll 67 = .ok (.bipush 9, 2) := by decide +kernel
theorem dX12_readAll_69 : decode cX12_readAll 69 = .ok (.invokevirtual 130, 3) := by decide +kernel
theorem dX12_readAll_72 : decode cX12_readAll 72 = .ok (.ifCond .eq 24, 3) := by decide +kernel
theorem dX12_readAll_75 : decode cX12_readAll 75 = .ok (.aload_n 0, 1) := by decide +kernel
theorem dX12_readAll_76 : decode cX12_readAll 76 = .ok (.bipush 72, 2) := by decide +kernel
theorem dX12_readAll_78 : decode cX12_readAll 78 = .ok (.invokevirtual 127, 3) := by decide +kernel
theorem dX12_readAll_81 : decode cX12_readAll 81 = .ok (.ifCond .eq 15, 3) := by decide +kernel
theorem dX12_readAll_84 : decode cX12_readAll 84 = .ok (.aload_n 0, 1) := by decide +kernel
theorem dX12_readAll_85 : decode cX12_readAll 85 = .ok (.iconst 4, 1) := by decide +kernel
theorem dX12_readAll_86 : decode cX12_readAll 86 = .ok (.iconst 2, 1) := by decide +kernel
theorem dX12_readAll_87 : decode cX12_readAll 87 = .ok (.iconst 1, 1) := by decide +kernel
theorem dX12_readAll_88 : decode cX12_readAll 88 = .ok (.bipush 99, 2) := by decide +kernel
theorem dX12_readAll_90 : decode cX12_readAll 90 = .ok (.invokevirtual 130, 3) := by decide +kernel
theorem dX12_readAll_93 : decode cX12_readAll 93 = .ok (.ifCond .ne 5, 3) := by decide +kernel
theorem dX12_readAll_96 : decode cX12_readAll 96 = .ok (.iconst 0, 1) := by decide +kernel
theorem dX12_readAll_97 : decode cX12_readAll 97 = .ok (.ireturn, 1) := by decide +kernel
theorem dX12_readAll_98 : decode cX12_readAll 98 = .ok (.iconst 0, 1) := by decide +kernel
theorem dX12_readAll_99 : decode cX12_readAll 99 = .ok (.istore_n 1, 1) := by decide +kernel
theorem dX12_readAll_100 : decode cX12_readAll 100 = .ok (.aload_n 0, 1) := by decide +kernel
theorem dX12_readAll_101 : decode cX12_readAll 101 = .ok (.getfield 122, 3) := by decide +kernel
theorem dX12_readAll_104 : decode cX12_readAll 104 = .ok (.aload_n 0, 1) := by decide +kernel
theorem dX12_readAll_105 : decode cX12_readAll 105 = .ok (.getfield 115, 3) := by decide +kernel
theorem dX12_readAll_108 : decode cX12_readAll 108 = .ok (.if_icmp .ge 172, 3) := by decide +kernel
theorem dX12_readAll_111 : decode cX12_readAll 111 = .ok (.aload_n 0, 1) := by decide +kernel
theorem dX12_readAll_112 : decode cX12_readAll 112 = .ok (.getfield 7, 3) := by decide +kernel
theorem dX12_readAll_115 : decode cX12_readAll 115 = .ok (.aload_n 0, 1) := by decide +kernel
theorem dX12_readAll_116 : decode cX12_readAll 116 = .ok (.getfield 122, 3) := by decide +kernel
theorem dX12_readAll_119 : decode cX12_readAll 119 = .ok (.iaload, 1) := by decide +kernel
theorem dX12_readAll_120 : decode cX12_readAll 120 = .ok (.bipush 65, 2) := by decide +kernel
theorem dX12_readAll_122 : decode cX12_readAll 122 = .ok (.if_icmp .ne 7, 3) := by decide +kernel
theorem dX12_readAll_125 : decode cX12_readAll 125 = .ok (.iconst 1, 1) := by decide +kernel
theorem dX12_readAll_126 : decode cX12_readAll 126 = .ok (.goto 59, 3) := by decide +kernel
theorem dX12_readAll_129 : decode cX12_readAll 129 = .ok (.aload_n 0, 1) := by decide +kernel
theorem dX12_readAll_130 : decode cX12_readAll 130 = .ok (.getfield 7, 3) := by decide +kernel
theorem dX12_readAll_133 : decode cX12_readAll 133 = .ok (.aload_n 0, 1) := by decide +kernel
theorem dX12_readAll_134 : decode cX12_readAll 134 = .ok (.getfield 122, 3) := by decide +kernel
theorem dX12_readAll_137 : decode cX12_readAll 137 = .ok (.iaload, 1) := by decide +kernel
theorem dX12_readAll_138 : decode cX12_readAll 138 = .ok (.bipush 83, 2) := by decide +kernel
theorem dX12_readAll_140 : decode cX12_readAll 140 = .ok (.if_icmp .ne 7, 3) := by decide +kernel
theorem dX12_readAll_143 : decode cX12_readAll 143 = .ok (.iconst 2, 1) := by decide +kernel
theorem dX12_readAll_144 : decode cX12_readAll 144 = .ok (.goto 41, 3) := by decide +kernel
theorem dX12_readAll_147 : decode cX12_readAll 147 = .ok (.aload_n 0, 1) := by decide +kernel
theorem dX12_readAll_148 : decode cX12_readAll 148 = .ok (.getfield 7, 3) := by decide +kernel
theorem dX12_readAll_151 : decode cX12_readAll 151 = .ok (.aload_n 0, 1) := by decide +kernel
theorem dX12_readAll_152 : decode cX12_readAll 152 = .ok (.getfield 122, 3) := by decide +kernel
theorem dX12_readAll_155 : decode cX12_readAll 155 = .ok (.iaload, 1) := by decide +kernel
theorem dX12_readAll_156 : decode cX12_readAll 156 = .ok (.bipush 66, 2) := by decide +kernel
theorem dX12_readAll_158 : decode cX12_readAll 158 = .ok (.if_icmp .ne 7, 3) := by decide +kernel
theorem dX12_readAll_161 : decode cX12_readAll 161 = .ok (.iconst 4, 1) := by decide +kernel
theorem dX12_readAll_162 : decode cX12_readAll 162 = .ok (.goto 23, 3) := by decide +kernel
theorem dX12_readAll_165 : decode cX12_readAll 165 = .ok (.aload_n 0, 1) := by decide +kernel
theorem dX12_readAll_166 : decode cX12_readAll 166 = .ok (.getfield 7, 3) := by decide +kernel
theorem dX12_readAll_169 : decode cX12_readAll 169 = .ok (.aload_n 0, 1) := by decide +kernel
theorem dX12_readAll_170 : decode cX12_readAll 170 = .ok (.getfield 122, 3) := by decide +kernel
theorem dX12_readAll_173 : decode cX12_readAll 173 = .ok (.iaload, 1) := by decide +kernel
theorem dX12_readAll_174 : decode cX12_readAll 174 = .ok (.bipush 84, 2) := by decide +kernel
theorem dX12_readAll_176 : decode cX12_readAll 176 = .ok (.if_icmp .ne 8, 3) := by decide +kernel
theorem dX12_readAll_179 : decode cX12_readAll 179 = .ok (.bipush 8, 2) := by decide +kernel
theorem dX12_readAll_181 : decode cX12_readAll 181 = .ok (.goto 4, 3) := by decide +kernel
theorem dX12_readAll_184 : decode cX12_readAll 184 = .ok (.iconst 0, 1) := by decide +kernel
theorem dX12_readAll_185 : decode cX12_readAll 185 = .ok (.istore_n 2, 1) := by decide +kernel
theorem dX12_readAll_186 : decode cX12_readAll 186 = .ok (.iload_n 2, 1) := by decide +kernel
theorem dX12_readAll_187 : decode cX12_readAll 187 = .ok (.ifCond .eq 9, 3) := by decide +kernel
theorem dX12_readAll_190 : decode cX12_readAll 190 = .ok (.iload_n 1, 1) := by decide +kernel
theorem dX12_readAll_191 : decode cX12_readAll 191 = .ok (.iload_n 2, 1) := by decide +kernel
theorem dX12_readAll_192 : decode cX12_readAll 192 = .ok (.iand, 1) := by decide +kernel
theorem dX12_readAll_193 : decode cX12_readAll 193 = .ok (.ifCond .eq 5, 3) := by decide +kernel
theorem dX12_readAll_196 : decode cX12_readAll 196 = .ok (.iconst 0, 1) := by decide +kernel
theorem dX12_readAll_197 : decode cX12_readAll 197 = .ok (.ireturn, 1) := by decide +kernel
theorem dX12_readAll_198 : decode cX12_readAll 198 = .ok (.iload_n 1, 1) := by decide +kernel
theorem dX12_readAll_199 : decode cX12_readAll 199 = .ok (.iload_n 2, 1) := by decide +kernel
theorem dX12_readAll_200 : decode cX12_readAll 200 = .ok (.ior, 1) := by decide +kernel
theorem dX12_readAll_201 : decode cX12_readAll 201 = .ok (.istore_n 1, 1) := by decide +kernel
theorem dX12_readAll_202 : decode cX12_readAll 202 = .ok (.aload_n 0, 1) := by decide +kernel
theorem dX12_readAll_203 : decode cX12_readAll 203 = .ok (.dup, 1) := by decide +kernel
theorem dX12_readAll_204 : decode cX12_readAll 204 = .ok (.getfield 122, 3) := by decide +kernel
theorem dX12_readAll_207 : decode cX12_readAll 207 = .ok (.iconst 1, 1) := by decide +kernel
theorem dX12_readAll_208 : decode cX12_readAll 208 = .ok (.iadd, 1) := by decide +kernel
theorem dX12_readAll_209 : decode cX12_readAll 209 = .ok (.putfield 122, 3) := by decide +kernel
theorem dX12_readAll_212 : decode cX12_readAll 212 = .ok (.iload_n 2, 1) := by decide +kernel
theorem dX12_readAll_213 : decode cX12_readAll 213 = .ok (.iconst 1, 1) := by decide +kernel
theorem dX12_readAll_214 : decode cX12_readAll 214 = .ok (.if_icmp .ne 10, 3) := by decide +kernel
theorem dX12_readAll_217 : decode cX12_readAll 217 = .ok (.aload_n 0, 1) := by decide +kernel
theorem dX12_readAll_218 : decode cX12_readAll 218 = .ok (.invokevirtual 134, 3) := by decide +kernel
theorem dX12_readAll_221 : decode cX12_readAll 221 = .ok (.goto 49, 3) := by decide +kernel
theorem dX12_readAll_224 : decode cX12_readAll 224 = .ok (.iload_n 2, 1) := by decide +kernel
theorem dX12_readAll_225 : decode cX12_readAll 225 = .ok (.iconst 2, 1) := by decide +kernel
theorem dX12_readAll_226 : decode cX12_readAll 226 = .ok (.if_icmp .ne 16, 3) := by decide +kernel
theorem dX12_readAll_229 : decode cX12_readAll 229 = .ok (.aload_n 0, 1) := by decide +kernel
theorem dX12_readAll_230 : decode cX12_readAll 230 = .ok (.iconst 5, 1) := by decide +kernel
theorem dX12_readAll_231 : decode cX12_readAll 231 = .ok (.iconst 3, 1) := by decide +kernel
theorem dX12_readAll_232 : decode cX12_readAll 232 = .ok (.iconst 0, 1) := by decide +kernel
theorem dX12_readAll_233 : decode cX12_readAll 233 = .ok (.sipush 999, 3) := by decide +kernel
theorem dX12_readAll_236 : decode cX12_readAll 236 = .ok (.invokevirtual 130, 3) := by decide +kernel
theorem dX12_readAll_239 : decode cX12_readAll 239 = .ok (.goto 31, 3) := by decide +kernel
theorem dX12_readAll_242 : decode cX12_readAll 242 = .ok (.iload_n 2, 1) := by decide +kernel
theorem dX12_readAll_243 : decode cX12_readAll 243 = .ok (.iconst 4, 1) := by decide +kernel
theorem dX12_readAll_244 : decode cX12_readAll 244 = .ok (.if_icmp .ne 16, 3) := by decide +kernel
theorem dX12_readAll_247 : decode cX12_readAll 247 = .ok (.aload_n 0, 1) := by decide +kernel
theorem dX12_readAll_248 : decode cX12_readAll 248 = .ok (.bipush 6, 2) := by decide +kernel
theorem dX12_readAll_250 : decode cX12_readAll 250 = .ok (.iconst 2, 1) := by decide +kernel
theorem dX12_readAll_251 : decode cX12_readAll 251 = .ok (.iconst 0, 1) := by decide +kernel
theorem dX12_readAll_252 : decode cX12_readAll 252 = .ok (.bipush 20, 2) := by decide +kernel
theorem dX12_readAll_254 : decode cX12_readAll 254 = .ok (.invokevirtual 130, 3) := by decide +kernel
theorem dX12_readAll_257 : decode cX12_readAll 257 = .ok (.goto 13, 3) := by decide +kernel
theorem dX12_readAll_260 : decode cX12_readAll 260 = .ok (.aload_n 0, 1) := by decide +kernel
theorem dX12_readAll_261 : decode cX12_readAll 261 = .ok (.bipush 7, 2) := by decide +kernel
theorem dX12_readAll_263 : decode cX12_readAll 263 = .ok (.iconst 2, 1) := by decide +kernel
theorem dX12_readAll_264 : decode cX12_readAll 264 = .ok (.iconst 0, 1) := by decide +kernel
theorem dX12_readAll_265 : decode cX12_readAll 265 = .ok (.bipush 99, 2) := by decide +kernel
theorem dX12_readAll_267 : decode cX12_readAll 267 = .ok (.invokevirtual 130, 3) := by decide +kernel
theorem dX12_readAll_270 : decode cX12_readAll 270 = .ok (.istore_n 3, 1) := by decide +kernel
theorem dX12_readAll_271 : decode cX12_readAll 271 = .ok (.iload_n 3, 1) := by decide +kernel
theorem dX12_readAll_272 : decode cX12_readAll 272 = .ok (.ifCond .ne 5, 3) := by decide +kernel
theorem dX12_readAll_275 : decode cX12_readAll 275 = .ok (.iconst 0, 1) := by decide +kernel
theorem dX12_readAll_276 : decode cX12_readAll 276 = .ok (.ireturn, 1) := by decide +kernel
theorem dX12_readAll_277 : decode cX12_readAll 277 = .ok (.goto (-177), 3) := by decide +kernel
theorem dX12_readAll_280 : decode cX12_readAll 280 = .ok (.aload_n 0, 1) := by decide +kernel
theorem dX12_readAll_281 : decode cX12_readAll 281 = .ok (.getfield 13, 3) := by decide +kernel
theorem dX12_readAll_284 : decode cX12_readAll 284 = .ok (.bipush 12, 2) := by decide +kernel
theorem dX12_readAll_286 : decode cX12_readAll 286 = .ok (.aload_n 0, 1) := by decide +kernel
theorem dX12_readAll_287 : decode cX12_readAll 287 = .ok (.getfield 13, 3) := by decide +kernel
theorem dX12_readAll_290 : decode cX12_readAll 290 = .ok (.iconst 3, 1) := by decide +kernel
theorem dX12_readAll_291 : decode cX12_readAll 291 = .ok (.iaload, 1) := by decide +kernel
theorem dX12_readAll_292 : decode cX12_readAll 292 = .ok (.iastore, 1) := by decide +kernel
theorem dX12_readAll_293 : decode cX12_readAll 293 = .ok (.iconst 1, 1) := by decide +kernel
theorem dX12_readAll_294 : decode cX12_readAll 294 = .ok (.ireturn, 1) := by decide +kernel
set_option maxRecDepth 20000 in
theorem ggX12_errorPosition_X12_readAll : GoodIn wsX12_errorPosition wsX12_readAll := goodIn_r _ [8, 3, 9, 10, 11, 12, 13, 7, 14, 15, 16, 17, 18, 19, 20, 21, 22, 2, 23, 24, 25, 26, 27, 28, 29, 30, 31, 32, 33, 34, 35, 36, 37, 38, 39, 40, 41, 42, 43, 44, 45] (by decide +kernel) (by decide +kernel)
set_option maxRecDepth 20000 in
theorem gX12_errorPosition_X12_readAll : GoodIn wsX12_errorPosition (wsV RX12 138 RX12 yX12_readAll wsX12_readAll) := goodIn_app (goodIn_of _ (by decide +kernel)) ggX12_errorPosition_X12_readAll
theorem dX12_errorPosition_0 : decode cX12_errorPosition 0 = .ok (.aload_n 0, 1) := by decide +kernel
theorem dX12_errorPosition_1 : decode cX12_errorPosition 1 = .ok (.iconst 0, 1) := by decide +kernel
theorem dX12_errorPosition_2 : decode cX12_errorPosition 2 = .ok (.putfield 39, 3) := by decide +kernel
theorem dX12_errorPosition_5 : decode cX12_errorPosition 5 = .ok (.aload_n 0, 1) := by decide +kernel
theorem dX12_errorPosition_6 : decode cX12_errorPosition 6 = .ok (.invokevirtual 138, 3) := by decide +kernel
theorem dX12_errorPosition_9 : decode cX12_errorPosition 9 = .ok (.ifCond .eq 8, 3) := by decide +kernel
theorem dX12_errorPosition_12 : decode cX12_errorPosition 12 = .ok (.ldc 74, 2) := by decide +kernel
theorem dX12_errorPosition_14 : decode cX12_errorPosition 14 = .ok (.goto 7, 3) := by decide +kernel
theorem dX12_errorPosition_17 : decode cX12_errorPosition 17 = .ok (.aload_n 0, 1) := by decide +kernel
theorem dX12_errorPosition_18 : decode cX12_errorPosition 18 = .ok (.getfield 122, 3) := by decide +kernel
theorem dX12_errorPosition_21 : decode cX12_errorPosition 21 = .ok (.ireturn, 1) := by decide +kernel
set_option maxRecDepth 20000 in
theorem ggX12_load_X12_readAll : GoodIn wsX12_load wsX12_readAll := goodIn_r _ [9, 10, 1, 11, 12, 13, 14, 8, 15, 16, 17, 18, 19, 20, 21, 22, 23, 24, 25, 26, 27, 28, 29, 30, 31, 32, 41, 42, 43, 44, 45, 46, 47, 48, 49, 50, 51, 52, 53, 54, 55] (by decide +kernel) (by decide +kernel)
set_option maxRecDepth 20000 in
theorem gX12_load_X12_readAll : GoodIn wsX12_load (wsV RX12 138 RX12 yX12_readAll wsX12_readAll) := goodIn_app (goodIn_of _ (by decide +kernel)) ggX12_load_X12_readAll
set_option maxRecDepth 20000 in
theorem ggX12_load_X12_refused : GoodIn wsX12_load wsX12_refused := goodIn_r _ [36, 37, 41, 42, 43, 44, 45, 46, 47, 48, 49, 50, 51, 52, 53, 54, 55] (by decide +kernel) (by decide +kernel)
set_option maxRecDepth 20000 in
theorem gX12_load_X12_refused : GoodIn wsX12_load (wsV RX12 118 RX12 yX12_refused wsX12_refused) := goodIn_app (goodIn_of _ (by decide +kernel)) ggX12_load_X12_refused
set_option maxRecDepth 20000 in
theorem ggX12_load_X12_copyPage : GoodIn wsX12_load wsX12_copyPage := goodIn_r _ [40] (by decide +kernel) (by decide +kernel)
set_option maxRecDepth 20000 in
theorem gX12_load_X12_copyPage : GoodIn wsX12_load (va_wsS RX12 141 yX12_copyPage wsX12_copyPage) := goodIn_app (goodIn_of _ (by decide +kernel)) ggX12_load_X12_copyPage
theorem dX12_load_0 : decode cX12_load 0 = .ok (.aload_n 0, 1) := by decide +kernel
theorem dX12_load_1 : decode cX12_load 1 = .ok (.aload_n 0, 1) := by decide +kernel
theorem dX12_load_2 : decode cX12_load 2 = .ok (.invokevirtual 138, 3) := by decide +kernel
theorem dX12_load_5 : decode cX12_load 5 = .ok (.ifCond .eq 7, 3) := by decide +kernel
theorem dX12_load_8 : decode cX12_load 8 = .ok (.iconst 0, 1) := by decide +kernel
theorem dX12_load_9 : decode cX12_load 9 = .ok (.goto 4, 3) := by decide +kernel
theorem dX12_load_12 : decode cX12_load 12 = .ok (.iconst 1, 1) := by decide +kernel
theorem dX12_load_13 : decode cX12_load 13 = .ok (.invokevirtual 118, 3) := by decide +kernel
theorem dX12_load_16 : decode cX12_load 16 = .ok (.ifCond .eq 5, 3) := by decide +kernel
theorem dX12_load_19 : decode cX12_load 19 = .ok (.iconst 0, 1) := by decide +kernel
theorem dX12_load_20 : decode cX12_load 20 = .ok (.ireturn, 1) := by decide +kernel
theorem dX12_load_21 : decode cX12_load 21 = .ok (.aload_n 0, 1) := by decide +kernel
theorem dX12_load_22 : decode cX12_load 22 = .ok (.getfield 13, 3) := by decide +kernel
theorem dX12_load_25 : decode cX12_load 25 = .ok (.iconst 0, 1) := by decide +kernel
theorem dX12_load_26 : decode cX12_load 26 = .ok (.aload_n 0, 1) := by decide +kernel
theorem dX12_load_27 : decode cX12_load 27 = .ok (.getfield 16, 3) := by decide +kernel
theorem dX12_load_30 : decode cX12_load 30 = .ok (.iconst 0, 1) := by decide +kernel
theorem dX12_load_31 : decode cX12_load 31 = .ok (.invokestatic 141, 3) := by decide +kernel
theorem dX12_load_34 : decode cX12_load 34 = .ok (.aload_n 0, 1) := by decide +kernel
theorem dX12_load_35 : decode cX12_load 35 = .ok (.iconst 0, 1) := by decide +kernel
theorem dX12_load_36 : decode cX12_load 36 = .ok (.putfield 145, 3) := by decide +kernel
theorem dX12_load_39 : decode cX12_load 39 = .ok (.aload_n 0, 1) := by decide +kernel
theorem dX12_load_40 : decode cX12_load 40 = .ok (.getfield 28, 3) := by decide +kernel
theorem dX12_load_43 : decode cX12_load 43 = .ok (.iconst 0, 1) := by decide +kernel
theorem dX12_load_44 : decode cX12_load 44 = .ok (.iconst 0, 1) := by decide +kernel
theorem dX12_load_45 : decode cX12_load 45 = .ok (.bastore, 1) := by decide +kernel
theorem dX12_load_46 : decode cX12_load 46 = .ok (.aload_n 0, 1) := by decide +kernel
theorem dX12_load_47 : decode cX12_load 47 = .ok (.getfield 28, 3) := by decide +kernel
theorem dX12_load_50 : decode cX12_load 50 = .ok (.iconst 1, 1) := by decide +kernel
theorem dX12_load_51 : decode cX12_load 51 = .ok (.iconst 0, 1) := by decide +kernel
theorem dX12_load_52 : decode cX12_load 52 = .ok (.bastore, 1) := by decide +kernel
theorem dX12_load_53 : decode cX12_load 53 = .ok (.aload_n 0, 1) := by decide +kernel
theorem dX12_load_54 : decode cX12_load 54 = .ok (.getfield 16, 3) := by decide +kernel
theorem dX12_load_57 : decode cX12_load 57 = .ok (.bipush 12, 2) := by decide +kernel
theorem dX12_load_59 : decode cX12_load 59 = .ok (.iaload, 1) := by decide +kernel
theorem dX12_load_60 : decode cX12_load 60 = .ok (.ireturn, 1) := by decide +kernel
set_option maxRecDepth 20000 in
theorem ggX12_about_X12_in : GoodIn wsX12_about wsX12_in := goodIn_r _ [6] (by decide +kernel) (by decide +kernel)
set_option maxRecDepth 20000 in
theorem gX12_about_X12_in : GoodIn wsX12_about (va_wsS RX12 111 yX12_in wsX12_in) := goodIn_app (goodIn_of _ (by decide +kernel)) ggX12_about_X12_in
set_option maxRecDepth 20000 in
theorem ggX12_about_X12_refused : GoodIn wsX12_about wsX12_refused := goodIn_r _ [10, 11, 35, 36, 37, 38, 39, 40, 41, 42, 43, 44, 45, 46, 47, 48, 49] (by decide +kernel) (by decide +kernel)
set_option maxRecDepth 20000 in
theorem gX12_about_X12_refused : GoodIn wsX12_about (wsV RX12 118 RX12 yX12_refused wsX12_refused) := goodIn_app (goodIn_of _ (by decide +kernel)) ggX12_about_X12_refused
set_option maxRecDepth 20000 in
theorem ggX12_about_X12_goodOf : GoodIn wsX12_about wsX12_goodOf := goodIn_r _ [15, 16, 17, 18, 5, 19, 20, 21, 22, 23, 24, 25, 26, 27, 28, 29, 30, 31, 32, 33, 34, 35, 36, 37, 38, 39, 40, 41, 42, 43, 44, 45, 46, 47, 48, 49] (by decide +kernel) (by decide +kernel)
set_option maxRecDepth 20000 in
theorem gX12_about_X12_goodOf : GoodIn wsX12_about (wsV RX12 103 RX12 yX12_goodOf wsX12_goodOf) := goodIn_app (goodIn_of _ (by decide +kernel)) ggX12_about_X12_goodOf
theorem dX12_about_0 : decode cX12_about 0 = .ok (.aload_n 0, 1) := by decide +kernel
theorem dX12_about_1 : decode cX12_about 1 = .ok (.iload_n 1, 1) := by decide +kernel
theorem dX12_about_2 : decode cX12_about 2 = .ok (.i2l, 1) := by decide +kernel
theorem dX12_about_3 : decode cX12_about 3 = .ok (.lconst 0, 1) := by decide +kernel
theorem dX12_about_4 : decode cX12_about 4 = .ok (.ldc2_w 148, 3) := by decide +kernel
theorem dX12_about_7 : decode cX12_about 7 = .ok (.invokestatic 111, 3) := by decide +kernel
theorem dX12_about_10 : decode cX12_about 10 = .ok (.ifCond .eq 7, 3) := by decide +kernel
theorem dX12_about_13 : decode cX12_about 13 = .ok (.iconst 0, 1) := by decide +kernel
theorem dX12_about_14 : decode cX12_about 14 = .ok (.goto 4, 3) := by decide +kernel
theorem dX12_about_17 : decode cX12_about 17 = .ok (.iconst 1, 1) := by decide +kernel
theorem dX12_about_18 : decode cX12_about 18 = .ok (.invokevirtual 118, 3) := by decide +kernel
theorem dX12_about_21 : decode cX12_about 21 = .ok (.ifCond .eq 5, 3) := by decide +kernel
theorem dX12_about_24 : decode cX12_about 24 = .ok (.iconst 0, 1) := by decide +kernel
theorem dX12_about_25 : decode cX12_about 25 = .ok (.ireturn, 1) := by decide +kernel
theorem dX12_about_26 : decode cX12_about 26 = .ok (.iload_n 1, 1) := by decide +kernel
theorem dX12_about_27 : decode cX12_about 27 = .ok (.bipush 17, 2) := by decide +kernel
theorem dX12_about_29 : decode cX12_about 29 = .ok (.if_icmp .ge 12, 3) := by decide +kernel
theorem dX12_about_32 : decode cX12_about 32 = .ok (.aload_n 0, 1) := by decide +kernel
theorem dX12_about_33 : decode cX12_about 33 = .ok (.getfield 16, 3) := by decide +kernel
theorem dX12_about_36 : decode cX12_about 36 = .ok (.iload_n 1, 1) := by decide +kernel
theorem dX12_about_37 : decode cX12_about 37 = .ok (.iaload, 1) := by decide +kernel
theorem dX12_about_38 : decode cX12_about 38 = .ok (.goto 43, 3) := by decide +kernel
theorem dX12_about_41 : decode cX12_about 41 = .ok (.iload_n 1, 1) := by decide +kernel
theorem dX12_about_42 : decode cX12_about 42 = .ok (.bipush 17, 2) := by decide +kernel
theorem dX12_about_44 : decode cX12_about 44 = .ok (.if_icmp .ne 14, 3) := by decide +kernel
theorem dX12_about_47 : decode cX12_about 47 = .ok (.aload_n 0, 1) := by decide +kernel
theorem dX12_about_48 : decode cX12_about 48 = .ok (.aload_n 0, 1) := by decide +kernel
theorem dX12_about_49 : decode cX12_about 49 = .ok (.getfield 16, 3) := by decide +kernel
theorem dX12_about_52 : decode cX12_about 52 = .ok (.invokevirtual 103, 3) := by decide +kernel
theorem dX12_about_55 : decode cX12_about 55 = .ok (.goto 26, 3) := by decide +kernel
theorem dX12_about_58 : decode cX12_about 58 = .ok (.iload_n 1, 1) := by decide +kernel
theorem dX12_about_59 : decode cX12_about 59 = .ok (.bipush 18, 2) := by decide +kernel
theorem dX12_about_61 : decode cX12_about 61 = .ok (.if_icmp .ne 13, 3) := by decide +kernel
theorem dX12_about_64 : decode cX12_about 64 = .ok (.aload_n 0, 1) := by decide +kernel
theorem dX12_about_65 : decode cX12_about 65 = .ok (.getfield 16, 3) := by decide +kernel
theorem dX12_about_68 : decode cX12_about 68 = .ok (.bipush 17, 2) := by decide +kernel
theorem dX12_about_70 : decode cX12_about 70 = .ok (.iaload, 1) := by decide +kernel
theorem dX12_about_71 : decode cX12_about 71 = .ok (.goto 10, 3) := by decide +kernel
theorem dX12_about_74 : decode cX12_about 74 = .ok (.aload_n 0, 1) := by decide +kernel
theorem dX12_about_75 : decode cX12_about 75 = .ok (.getfield 16, 3) := by decide +kernel
theorem dX12_about_78 : decode cX12_about 78 = .ok (.bipush 18, 2) := by decide +kernel
theorem dX12_about_80 : decode cX12_about 80 = .ok (.iaload, 1) := by decide +kernel
theorem dX12_about_81 : decode cX12_about 81 = .ok (.ireturn, 1) := by decide +kernel
set_option maxRecDepth 20000 in
theorem ggX12_isSwing_X12_in : GoodIn wsX12_isSwing wsX12_in := goodIn_r _ [5] (by decide +kernel) (by decide +kernel)
set_option maxRecDepth 20000 in
theorem gX12_isSwing_X12_in : GoodIn wsX12_isSwing (va_wsS RX12 111 yX12_in wsX12_in) := goodIn_app (goodIn_of _ (by decide +kernel)) ggX12_isSwing_X12_in
theorem dX12_isSwing_0 : decode cX12_isSwing 0 = .ok (.iload_n 1, 1) := by decide +kernel
theorem dX12_isSwing_1 : decode cX12_isSwing 1 = .ok (.i2l, 1) := by decide +kernel
theorem dX12_isSwing_2 : decode cX12_isSwing 2 = .ok (.lconst 0, 1) := by decide +kernel
theorem dX12_isSwing_3 : decode cX12_isSwing 3 = .ok (.aload_n 0, 1) := by decide +kernel
theorem dX12_isSwing_4 : decode cX12_isSwing 4 = .ok (.getfield 16, 3) := by decide +kernel
theorem dX12_isSwing_7 : decode cX12_isSwing 7 = .ok (.bipush 16, 2) := by decide +kernel
theorem dX12_isSwing_9 : decode cX12_isSwing 9 = .ok (.iaload, 1) := by decide +kernel
theorem dX12_isSwing_10 : decode cX12_isSwing 10 = .ok (.iconst 1, 1) := by decide +kernel
theorem dX12_isSwing_11 : decode cX12_isSwing 11 = .ok (.isub, 1) := by decide +kernel
theorem dX12_isSwing_12 : decode cX12_isSwing 12 = .ok (.i2l, 1) := by decide +kernel
theorem dX12_isSwing_13 : decode cX12_isSwing 13 = .ok (.invokestatic 111, 3) := by decide +kernel
theorem dX12_isSwing_16 : decode cX12_isSwing 16 = .ok (.ireturn, 1) := by decide +kernel
set_option maxRecDepth 20000 in
theorem ggX12_swing_X12_isSwing : GoodIn wsX12_swing wsX12_isSwing := goodIn_r _ [7, 2, 8, 9, 6, 10, 35, 36, 37, 38, 39, 40, 41, 42, 43, 44, 45, 46, 47, 48, 49] (by decide +kernel) (by decide +kernel)
set_option maxRecDepth 20000 in
theorem gX12_swing_X12_isSwing : GoodIn wsX12_swing (wsV RX12 150 RX12 yX12_isSwing wsX12_isSwing) := goodIn_app (goodIn_of _ (by decide +kernel)) ggX12_swing_X12_isSwing
set_option maxRecDepth 20000 in
theorem ggX12_swing_X12_in : GoodIn wsX12_swing wsX12_in := goodIn_r _ [10] (by decide +kernel) (by decide +kernel)
set_option maxRecDepth 20000 in
theorem gX12_swing_X12_in : GoodIn wsX12_swing (va_wsS RX12 111 yX12_in wsX12_in) := goodIn_app (goodIn_of _ (by decide +kernel)) ggX12_swing_X12_in
set_option maxRecDepth 20000 in
theorem ggX12_swing_X12_refused : GoodIn wsX12_swing wsX12_refused := goodIn_r _ [14, 15, 35, 36, 37, 38, 39, 40, 41, 42, 43, 44, 45, 46, 47, 48, 49] (by decide +kernel) (by decide +kernel)
set_option maxRecDepth 20000 in
theorem gX12_swing_X12_refused : GoodIn wsX12_swing (wsV RX12 118 RX12 yX12_refused wsX12_refused) := goodIn_app (goodIn_of _ (by decide +kernel)) ggX12_swing_X12_refused
set_option maxRecDepth 20000 in
theorem ggX12_swing_X12_oddOf : GoodIn wsX12_swing wsX12_oddOf := goodIn_r _ [19, 20, 21, 22, 6, 23, 24, 25, 26, 27, 28, 29, 30, 31, 32, 33, 34, 35, 36, 37, 38, 39, 40, 41, 42, 43, 44, 45, 46, 47, 48, 49] (by decide +kernel) (by decide +kernel)
set_option maxRecDepth 20000 in
theorem gX12_swing_X12_oddOf : GoodIn wsX12_swing (wsV RX12 87 RX12 yX12_oddOf wsX12_oddOf) := goodIn_app (goodIn_of _ (by decide +kernel)) ggX12_swing_X12_oddOf
theorem dX12_swing_0 : decode cX12_swing 0 = .ok (.aload_n 0, 1) := by decide +kernel
theorem dX12_swing_1 : decode cX12_swing 1 = .ok (.aload_n 0, 1) := by decide +kernel
theorem dX12_swing_2 : decode cX12_swing 2 = .ok (.iload_n 1, 1) := by decide +kernel
theorem dX12_swing_3 : decode cX12_swing 3 = .ok (.invokevirtual 150, 3) := by decide +kernel
theorem dX12_swing_6 : decode cX12_swing 6 = .ok (.ifCond .ne 7, 3) := by decide +kernel
theorem dX12_swing_9 : decode cX12_swing 9 = .ok (.iconst 1, 1) := by decide +kernel
theorem dX12_swing_10 : decode cX12_swing 10 = .ok (.goto 20, 3) := by decide +kernel
theorem dX12_swing_13 : decode cX12_swing 13 = .ok (.iload_n 2, 1) := by decide +kernel
theorem dX12_swing_14 : decode cX12_swing 14 = .ok (.i2l, 1) := by decide +kernel
theorem dX12_swing_15 : decode cX12_swing 15 = .ok (.lconst 0, 1) := by decide +kernel
theorem dX12_swing_16 : decode cX12_swing 16 = .ok (.ldc2_w 153, 3) := by decide +kernel
theorem dX12_swing_19 : decode cX12_swing 19 = .ok (.invokestatic 111, 3) := by decide +kernel
theorem dX12_swing_22 : decode cX12_swing 22 = .ok (.ifCond .ne 7, 3) := by decide +kernel
theorem dX12_swing_25 : decode cX12_swing 25 = .ok (.iconst 2, 1) := by decide +kernel
theorem dX12_swing_26 : decode cX12_swing 26 = .ok (.goto 4, 3) := by decide +kernel
theorem dX12_swing_29 : decode cX12_swing 29 = .ok (.iconst 0, 1) := by decide +kernel
theorem dX12_swing_30 : decode cX12_swing 30 = .ok (.invokevirtual 118, 3) := by decide +kernel
theorem dX12_swing_33 : decode cX12_swing 33 = .ok (.ifCond .eq 5, 3) := by decide +kernel
theorem dX12_swing_36 : decode cX12_swing 36 = .ok (.iconst 0, 1) := by decide +kernel
theorem dX12_swing_37 : decode cX12_swing 37 = .ok (.ireturn, 1) := by decide +kernel
theorem dX12_swing_38 : decode cX12_swing 38 = .ok (.iload_n 2, 1) := by decide +kernel
theorem dX12_swing_39 : decode cX12_swing 39 = .ok (.iconst 3, 1) := by decide +kernel
theorem dX12_swing_40 : decode cX12_swing 40 = .ok (.if_icmp .ge 19, 3) := by decide +kernel
theorem dX12_swing_43 : decode cX12_swing 43 = .ok (.aload_n 0, 1) := by decide +kernel
theorem dX12_swing_44 : decode cX12_swing 44 = .ok (.getfield 16, 3) := by decide +kernel
theorem dX12_swing_47 : decode cX12_swing 47 = .ok (.bipush 42, 2) := by decide +kernel
theorem dX12_swing_49 : decode cX12_swing 49 = .ok (.iconst 4, 1) := by decide +kernel
theorem dX12_swing_50 : decode cX12_swing 50 = .ok (.iload_n 1, 1) := by decide +kernel
theorem dX12_swing_51 : decode cX12_swing 51 = .ok (.imul, 1) := by decide +kernel
theorem dX12_swing_52 : decode cX12_swing 52 = .ok (.iadd, 1) := by decide +kernel
theorem dX12_swing_53 : decode cX12_swing 53 = .ok (.iload_n 2, 1) := by decide +kernel
theorem dX12_swing_54 : decode cX12_swing 54 = .ok (.iadd, 1) := by decide +kernel
theorem dX12_swing_55 : decode cX12_swing 55 = .ok (.iaload, 1) := by decide +kernel
theorem dX12_swing_56 : decode cX12_swing 56 = .ok (.goto 33, 3) := by decide +kernel
theorem dX12_swing_59 : decode cX12_swing 59 = .ok (.iload_n 2, 1) := by decide +kernel
theorem dX12_swing_60 : decode cX12_swing 60 = .ok (.iconst 3, 1) := by decide +kernel
theorem dX12_swing_61 : decode cX12_swing 61 = .ok (.if_icmp .ne 15, 3) := by decide +kernel
theorem dX12_swing_64 : decode cX12_swing 64 = .ok (.aload_n 0, 1) := by decide +kernel
theorem dX12_swing_65 : decode cX12_swing 65 = .ok (.aload_n 0, 1) := by decide +kernel
theorem dX12_swing_66 : decode cX12_swing 66 = .ok (.getfield 16, 3) := by decide +kernel
theorem dX12_swing_69 : decode cX12_swing 69 = .ok (.iload_n 1, 1) := by decide +kernel
theorem dX12_swing_70 : decode cX12_swing 70 = .ok (.invokevirtual 87, 3) := by decide +kernel
theorem dX12_swing_73 : decode cX12_swing 73 = .ok (.goto 16, 3) := by decide +kernel
theorem dX12_swing_76 : decode cX12_swing 76 = .ok (.aload_n 0, 1) := by decide +kernel
theorem dX12_swing_77 : decode cX12_swing 77 = .ok (.getfield 16, 3) := by decide +kernel
theorem dX12_swing_80 : decode cX12_swing 80 = .ok (.bipush 42, 2) := by decide +kernel
theorem dX12_swing_82 : decode cX12_swing 82 = .ok (.iconst 4, 1) := by decide +kernel
theorem dX12_swing_83 : decode cX12_swing 83 = .ok (.iload_n 1, 1) := by decide +kernel
theorem dX12_swing_84 : decode cX12_swing 84 = .ok (.imul, 1) := by decide +kernel
theorem dX12_swing_85 : decode cX12_swing 85 = .ok (.iadd, 1) := by decide +kernel
theorem dX12_swing_86 : decode cX12_swing 86 = .ok (.iconst 3, 1) := by decide +kernel
theorem dX12_swing_87 : decode cX12_swing 87 = .ok (.iadd, 1) := by decide +kernel
theorem dX12_swing_88 : decode cX12_swing 88 = .ok (.iaload, 1) := by decide +kernel
theorem dX12_swing_89 : decode cX12_swing 89 = .ok (.ireturn, 1) := by decide +kernel
set_option maxRecDepth 20000 in
theorem ggX12_account_X12_in : GoodIn wsX12_account wsX12_in := goodIn_r _ [6] (by decide +kernel) (by decide +kernel)
set_option maxRecDepth 20000 in
theorem gX12_account_X12_in : GoodIn wsX12_account (va_wsS RX12 111 yX12_in wsX12_in) := goodIn_app (goodIn_of _ (by decide +kernel)) ggX12_account_X12_in
set_option maxRecDepth 20000 in
theorem ggX12_account_X12_refused : GoodIn wsX12_account wsX12_refused := goodIn_r _ [10, 11, 12, 13, 14, 15, 16, 17, 18, 19, 20, 21, 22, 23, 24, 25, 26] (by decide +kernel) (by decide +kernel)
set_option maxRecDepth 20000 in
theorem gX12_account_X12_refused : GoodIn wsX12_account (wsV RX12 118 RX12 yX12_refused wsX12_refused) := goodIn_app (goodIn_of _ (by decide +kernel)) ggX12_account_X12_refused
theorem dX12_account_0 : decode cX12_account 0 = .ok (.aload_n 0, 1) := by decide +kernel
theorem dX12_account_1 : decode cX12_account 1 = .ok (.iload_n 1, 1) := by decide +kernel
theorem dX12_account_2 : decode cX12_account 2 = .ok (.i2l, 1) := by decide +kernel
theorem dX12_account_3 : decode cX12_account 3 = .ok (.lconst 0, 1) := by decide +kernel
theorem dX12_account_4 : decode cX12_account 4 = .ok (.ldc2_w 155, 3) := by decide +kernel
theorem dX12_account_7 : decode cX12_account 7 = .ok (.invokestatic 111, 3) := by decide +kernel
theorem dX12_account_10 : decode cX12_account 10 = .ok (.ifCond .eq 7, 3) := by decide +kernel
theorem dX12_account_13 : decode cX12_account 13 = .ok (.iconst 0, 1) := by decide +kernel
theorem dX12_account_14 : decode cX12_account 14 = .ok (.goto 4, 3) := by decide +kernel
theorem dX12_account_17 : decode cX12_account 17 = .ok (.iconst 1, 1) := by decide +kernel
theorem dX12_account_18 : decode cX12_account 18 = .ok (.invokevirtual 118, 3) := by decide +kernel
theorem dX12_account_21 : decode cX12_account 21 = .ok (.ifCond .eq 7, 3) := by decide +kernel
theorem dX12_account_24 : decode cX12_account 24 = .ok (.iconst 0, 1) := by decide +kernel
theorem dX12_account_25 : decode cX12_account 25 = .ok (.goto 12, 3) := by decide +kernel
theorem dX12_account_28 : decode cX12_account 28 = .ok (.aload_n 0, 1) := by decide +kernel
theorem dX12_account_29 : decode cX12_account 29 = .ok (.getfield 16, 3) := by decide +kernel
theorem dX12_account_32 : decode cX12_account 32 = .ok (.bipush 35, 2) := by decide +kernel
theorem dX12_account_34 : decode cX12_account 34 = .ok (.iload_n 1, 1) := by decide +kernel
theorem dX12_account_35 : decode cX12_account 35 = .ok (.iadd, 1) := by decide +kernel
theorem dX12_account_36 : decode cX12_account 36 = .ok (.iaload, 1) := by decide +kernel
theorem dX12_account_37 : decode cX12_account 37 = .ok (.ireturn, 1) := by decide +kernel
set_option maxRecDepth 20000 in
theorem ggX12_note_X12_copyPage : GoodIn wsX12_note wsX12_copyPage := goodIn_r _ [7] (by decide +kernel) (by decide +kernel)
set_option maxRecDepth 20000 in
theorem gX12_note_X12_copyPage : GoodIn wsX12_note (va_wsS RX12 141 yX12_copyPage wsX12_copyPage) := goodIn_app (goodIn_of _ (by decide +kernel)) ggX12_note_X12_copyPage
theorem dX12_note_0 : decode cX12_note 0 = .ok (.aload_n 0, 1) := by decide +kernel
theorem dX12_note_1 : decode cX12_note 1 = .ok (.getfield 145, 3) := by decide +kernel
theorem dX12_note_4 : decode cX12_note 4 = .ok (.bipush 14, 2) := by decide +kernel
theorem dX12_note_6 : decode cX12_note 6 = .ok (.if_icmp .ne 44, 3) := by decide +kernel
theorem dX12_note_9 : decode cX12_note 9 = .ok (.iconst 0, 1) := by decide +kernel
theorem dX12_note_10 : decode cX12_note 10 = .ok (.istore_n 1, 1) := by decide +kernel
theorem dX12_note_11 : decode cX12_note 11 = .ok (.iload_n 1, 1) := by decide +kernel
theorem dX12_note_12 : decode cX12_note 12 = .ok (.sipush 2002, 3) := by decide +kernel
theorem dX12_note_15 : decode cX12_note 15 = .ok (.if_icmp .ge 25, 3) := by decide +kernel
theorem dX12_note_18 : decode cX12_note 18 = .ok (.aload_n 0, 1) := by decide +kernel
theorem dX12_note_19 : decode cX12_note 19 = .ok (.getfield 22, 3) := by decide +kernel
theorem dX12_note_22 : decode cX12_note 22 = .ok (.iload_n 1, 1) := by decide +kernel
theorem dX12_note_23 : decode cX12_note 23 = .ok (.aload_n 0, 1) := by decide +kernel
theorem dX12_note_24 : decode cX12_note 24 = .ok (.getfield 22, 3) := by decide +kernel
theorem dX12_note_27 : decode cX12_note 27 = .ok (.iload_n 1, 1) := by decide +kernel
theorem dX12_note_28 : decode cX12_note 28 = .ok (.sipush 154, 3) := by decide +kernel
theorem dX12_note_31 : decode cX12_note 31 = .ok (.iadd, 1) := by decide +kernel
theorem dX12_note_32 : decode cX12_note 32 = .ok (.iaload, 1) := by decide +kernel
theorem dX12_note_33 : decode cX12_note 33 = .ok (.iastore, 1) := by decide +kernel
theorem dX12_note_34 : decode cX12_note 34 = .ok (.iinc 1 1, 3) := by decide +kernel
theorem dX12_note_37 : decode cX12_note 37 = .ok (.goto (-26), 3) := by decide +kernel
theorem dX12_note_40 : decode cX12_note 40 = .ok (.aload_n 0, 1) := by decide +kernel
theorem dX12_note_41 : decode cX12_note 41 = .ok (.dup, 1) := by decide +kernel
theorem dX12_note_42 : decode cX12_note 42 = .ok (.getfield 145, 3) := by decide +kernel
theorem dX12_note_45 : decode cX12_note 45 = .ok (.iconst 1, 1) := by decide +kernel
theorem dX12_note_46 : decode cX12_note 46 = .ok (.isub, 1) := by decide +kernel
theorem dX12_note_47 : decode cX12_note 47 = .ok (.putfield 145, 3) := by decide +kernel
theorem dX12_note_50 : decode cX12_note 50 = .ok (.aload_n 0, 1) := by decide +kernel
theorem dX12_note_51 : decode cX12_note 51 = .ok (.getfield 16, 3) := by decide +kernel
theorem dX12_note_54 : decode cX12_note 54 = .ok (.iconst 0, 1) := by decide +kernel
theorem dX12_note_55 : decode cX12_note 55 = .ok (.aload_n 0, 1) := by decide +kernel
theorem dX12_note_56 : decode cX12_note 56 = .ok (.getfield 22, 3) := by decide +kernel
theorem dX12_note_59 : decode cX12_note 59 = .ok (.sipush 154, 3) := by decide +kernel
theorem dX12_note_62 : decode cX12_note 62 = .ok (.aload_n 0, 1) := by decide +kernel
theorem dX12_note_63 : decode cX12_note 63 = .ok (.getfield 145, 3) := by decide +kernel
theorem dX12_note_66 : decode cX12_note 66 = .ok (.imul, 1) := by decide +kernel
theorem dX12_note_67 : decode cX12_note 67 = .ok (.invokestatic 141, 3) := by decide +kernel
theorem dX12_note_70 : decode cX12_note 70 = .ok (.aload_n 0, 1) := by decide +kernel
theorem dX12_note_71 : decode cX12_note 71 = .ok (.dup, 1) := by decide +kernel
theorem dX12_note_72 : decode cX12_note 72 = .ok (.getfield 145, 3) := by decide +kernel
theorem dX12_note_75 : decode cX12_note 75 = .ok (.iconst 1, 1) := by decide +kernel
theorem dX12_note_76 : decode cX12_note 76 = .ok (.iadd, 1) := by decide +kernel
theorem dX12_note_77 : decode cX12_note 77 = .ok (.putfield 145, 3) := by decide +kernel
theorem dX12_note_80 : decode cX12_note 80 = .ok (.return_, 1) := by decide +kernel
set_option maxRecDepth 20000 in
theorem ggX12_tick_X12_in : GoodIn wsX12_tick wsX12_in := goodIn_r _ [6] (by decide +kernel) (by decide +kernel)
set_option maxRecDepth 20000 in
theorem gX12_tick_X12_in : GoodIn wsX12_tick (va_wsS RX12 111 yX12_in wsX12_in) := goodIn_app (goodIn_of _ (by decide +kernel)) ggX12_tick_X12_in
set_option maxRecDepth 20000 in
theorem ggX12_tick_X12_refused : GoodIn wsX12_tick wsX12_refused := goodIn_r _ [10, 11, 48, 49, 50, 51, 52, 53, 54, 55, 56, 57, 58, 59, 60, 61, 62] (by decide +kernel) (by decide +kernel)
set_option maxRecDepth 20000 in
theorem gX12_tick_X12_refused : GoodIn wsX12_tick (wsV RX12 118 RX12 yX12_refused wsX12_refused) := goodIn_app (goodIn_of _ (by decide +kernel)) ggX12_tick_X12_refused
set_option maxRecDepth 20000 in
theorem ggX12_tick_X12_note : GoodIn wsX12_tick wsX12_note := goodIn_r _ [15, 16, 17, 2, 18, 19, 5, 20, 48, 49, 50, 51, 52, 53, 54, 55, 56, 57, 58, 59, 60, 61, 62] (by decide +kernel) (by decide +kernel)
set_option maxRecDepth 20000 in
theorem gX12_tick_X12_note : GoodIn wsX12_tick (wsV RX12 159 RX12 yX12_note wsX12_note) := goodIn_app (goodIn_of _ (by decide +kernel)) ggX12_tick_X12_note
set_option maxRecDepth 20000 in
theorem ggX12_tick_X12_ticksOn : GoodIn wsX12_tick wsX12_ticksOn := goodIn_r _ [23, 24, 25, 5, 26, 27, 28, 29, 30, 31, 32, 33, 34, 35, 36, 37, 38, 39, 40, 41, 42, 43, 44, 45, 46, 47] (by decide +kernel) (by decide +kernel)
set_option maxRecDepth 20000 in
theorem gX12_tick_X12_ticksOn : GoodIn wsX12_tick (va_wsS RX12 162 yX12_ticksOn wsX12_ticksOn) := goodIn_app (goodIn_of _ (by decide +kernel)) ggX12_tick_X12_ticksOn
theorem dX12_tick_0 : decode cX12_tick 0 = .ok (.aload_n 0, 1) := by decide +kernel
theorem dX12_tick_1 : decode cX12_tick 1 = .ok (.iload_n 1, 1) := by decide +kernel
theorem dX12_tick_2 : decode cX12_tick 2 = .ok (.i2l, 1) := by decide +kernel
theorem dX12_tick_3 : decode cX12_tick 3 = .ok (.lconst 1, 1) := by decide +kernel
theorem dX12_tick_4 : decode cX12_tick 4 = .ok (.ldc2_w 157, 3) := by decide +kernel
theorem dX12_tick_7 : decode cX12_tick 7 = .ok (.invokestatic 111, 3) := by decide +kernel
theorem dX12_tick_10 : decode cX12_tick 10 = .ok (.ifCond .eq 7, 3) := by decide +kernel
theorem dX12_tick_13 : decode cX12_tick 13 = .ok (.iconst 0, 1) := by decide +kernel
theorem dX12_tick_14 : decode cX12_tick 14 = .ok (.goto 4, 3) := by decide +kernel
theorem dX12_tick_17 : decode cX12_tick 17 = .ok (.iconst 1, 1) := by decide +kernel
theorem dX12_tick_18 : decode cX12_tick 18 = .ok (.invokevirtual 118, 3) := by decide +kernel
theorem dX12_tick_21 : decode cX12_tick 21 = .ok (.ifCond .eq 5, 3) := by decide +kernel
theorem dX12_tick_24 : decode cX12_tick 24 = .ok (.iconst 0, 1) := by decide +kernel
theorem dX12_tick_25 : decode cX12_tick 25 = .ok (.ireturn, 1) := by decide +kernel
theorem dX12_tick_26 : decode cX12_tick 26 = .ok (.aload_n 0, 1) := by decide +kernel
theorem dX12_tick_27 : decode cX12_tick 27 = .ok (.invokevirtual 159, 3) := by decide +kernel
theorem dX12_tick_30 : decode cX12_tick 30 = .ok (.aload_n 0, 1) := by decide +kernel
theorem dX12_tick_31 : decode cX12_tick 31 = .ok (.getfield 16, 3) := by decide +kernel
theorem dX12_tick_34 : decode cX12_tick 34 = .ok (.iload_n 1, 1) := by decide +kernel
theorem dX12_tick_35 : decode cX12_tick 35 = .ok (.invokestatic 162, 3) := by decide +kernel
theorem dX12_tick_38 : decode cX12_tick 38 = .ok (.aload_n 0, 1) := by decide +kernel
theorem dX12_tick_39 : decode cX12_tick 39 = .ok (.getfield 16, 3) := by decide +kernel
theorem dX12_tick_42 : decode cX12_tick 42 = .ok (.bipush 12, 2) := by decide +kernel
theorem dX12_tick_44 : decode cX12_tick 44 = .ok (.iaload, 1) := by decide +kernel
theorem dX12_tick_45 : decode cX12_tick 45 = .ok (.ireturn, 1) := by decide +kernel
set_option maxRecDepth 20000 in
theorem ggX12_isMode_X12_in : GoodIn wsX12_isMode wsX12_in := goodIn_r _ [5] (by decide +kernel) (by decide +kernel)
set_option maxRecDepth 20000 in
theorem gX12_isMode_X12_in : GoodIn wsX12_isMode (va_wsS RX12 111 yX12_in wsX12_in) := goodIn_app (goodIn_of _ (by decide +kernel)) ggX12_isMode_X12_in
theorem dX12_isMode_0 : decode cX12_isMode 0 = .ok (.iload_n 0, 1) := by decide +kernel
theorem dX12_isMode_1 : decode cX12_isMode 1 = .ok (.i2l, 1) := by decide +kernel
theorem dX12_isMode_2 : decode cX12_isMode 2 = .ok (.lconst 0, 1) := by decide +kernel
theorem dX12_isMode_3 : decode cX12_isMode 3 = .ok (.ldc2_w 165, 3) := by decide +kernel
theorem dX12_isMode_6 : decode cX12_isMode 6 = .ok (.invokestatic 111, 3) := by decide +kernel
theorem dX12_isMode_9 : decode cX12_isMode 9 = .ok (.ireturn, 1) := by decide +kernel
set_option maxRecDepth 20000 in
theorem ggX12_mode_X12_isMode : GoodIn wsX12_mode wsX12_isMode := goodIn_r _ [5, 6, 7, 8, 4, 9] (by decide +kernel) (by decide +kernel)
set_option maxRecDepth 20000 in
theorem gX12_mode_X12_isMode : GoodIn wsX12_mode (va_wsS RX12 167 yX12_isMode wsX12_isMode) := goodIn_app (goodIn_of _ (by decide +kernel)) ggX12_mode_X12_isMode
set_option maxRecDepth 20000 in
theorem ggX12_mode_X12_refused : GoodIn wsX12_mode wsX12_refused := goodIn_r _ [13, 14, 27, 28, 29, 30, 31, 32, 33, 34, 35, 36, 37, 38, 39, 40, 41] (by decide +kernel) (by decide +kernel)
set_option maxRecDepth 20000 in
theorem gX12_mode_X12_refused : GoodIn wsX12_mode (wsV RX12 118 RX12 yX12_refused wsX12_refused) := goodIn_app (goodIn_of _ (by decide +kernel)) ggX12_mode_X12_refused
set_option maxRecDepth 20000 in
theorem ggX12_mode_X12_note : GoodIn wsX12_mode wsX12_note := goodIn_r _ [18, 19, 20, 1, 21, 22, 4, 23, 27, 28, 29, 30, 31, 32, 33, 34, 35, 36, 37, 38, 39, 40, 41] (by decide +kernel) (by decide +kernel)
set_option maxRecDepth 20000 in
theorem gX12_mode_X12_note : GoodIn wsX12_mode (wsV RX12 159 RX12 yX12_note wsX12_note) := goodIn_app (goodIn_of _ (by decide +kernel)) ggX12_mode_X12_note
set_option maxRecDepth 20000 in
theorem ggX12_mode_X12_modeOn : GoodIn wsX12_mode wsX12_modeOn := goodIn_r _ [26] (by decide +kernel) (by decide +kernel)
set_option maxRecDepth 20000 in
theorem gX12_mode_X12_modeOn : GoodIn wsX12_mode (va_wsS RX12 100 yX12_modeOn wsX12_modeOn) := goodIn_app (goodIn_of _ (by decide +kernel)) ggX12_mode_X12_modeOn
theorem dX12_mode_0 : decode cX12_mode 0 = .ok (.aload_n 0, 1) := by decide +kernel
theorem dX12_mode_1 : decode cX12_mode 1 = .ok (.iload_n 1, 1) := by decide +kernel
theorem dX12_mode_2 : decode cX12_mode 2 = .ok (.invokestatic 167, 3) := by decide +kernel
theorem dX12_mode_5 : decode cX12_mode 5 = .ok (.ifCond .eq 7, 3) := by decide +kernel
theorem dX12_mode_8 : decode cX12_mode 8 = .ok (.iconst 0, 1) := by decide +kernel
theorem dX12_mode_9 : decode cX12_mode 9 = .ok (.goto 4, 3) := by decide +kernel
theorem dX12_mode_12 : decode cX12_mode 12 = .ok (.iconst 1, 1) := by decide +kernel
theorem dX12_mode_13 : decode cX12_mode 13 = .ok (.invokevirtual 118, 3) := by decide +kernel
theorem dX12_mode_16 : decode cX12_mode 16 = .ok (.ifCond .eq 5, 3) := by decide +kernel
theorem dX12_mode_19 : decode cX12_mode 19 = .ok (.iconst 0, 1) := by decide +kernel
theorem dX12_mode_20 : decode cX12_mode 20 = .ok (.ireturn, 1) := by decide +kernel
theorem dX12_mode_21 : decode cX12_mode 21 = .ok (.aload_n 0, 1) := by decide +kernel
theorem dX12_mode_22 : decode cX12_mode 22 = .ok (.invokevirtual 159, 3) := by decide +kernel
theorem dX12_mode_25 : decode cX12_mode 25 = .ok (.aload_n 0, 1) := by decide +kernel
theorem dX12_mode_26 : decode cX12_mode 26 = .ok (.getfield 16, 3) := by decide +kernel
theorem dX12_mode_29 : decode cX12_mode 29 = .ok (.bipush 11, 2) := by decide +kernel
theorem dX12_mode_31 : decode cX12_mode 31 = .ok (.iaload, 1) := by decide +kernel
theorem dX12_mode_32 : decode cX12_mode 32 = .ok (.istore_n 2, 1) := by decide +kernel
theorem dX12_mode_33 : decode cX12_mode 33 = .ok (.aload_n 0, 1) := by decide +kernel
theorem dX12_mode_34 : decode cX12_mode 34 = .ok (.getfield 16, 3) := by decide +kernel
theorem dX12_mode_37 : decode cX12_mode 37 = .ok (.iload_n 1, 1) := by decide +kernel
theorem dX12_mode_38 : decode cX12_mode 38 = .ok (.invokestatic 100, 3) := by decide +kernel
theorem dX12_mode_41 : decode cX12_mode 41 = .ok (.iload_n 2, 1) := by decide +kernel
theorem dX12_mode_42 : decode cX12_mode 42 = .ok (.ireturn, 1) := by decide +kernel
set_option maxRecDepth 20000 in
theorem ggX12_isSetting_X12_in : GoodIn wsX12_isSetting wsX12_in := goodIn_r _ [10] (by decide +kernel) (by decide +kernel)
set_option maxRecDepth 20000 in
theorem gX12_isSetting_X12_in : GoodIn wsX12_isSetting (va_wsS RX12 111 yX12_in wsX12_in) := goodIn_app (goodIn_of _ (by decide +kernel)) ggX12_isSetting_X12_in
theorem dX12_isSetting_0 : decode cX12_isSetting 0 = .ok (.iload_n 0, 1) := by decide +kernel
theorem dX12_isSetting_1 : decode cX12_isSetting 1 = .ok (.iconst 5, 1) := by decide +kernel
theorem dX12_isSetting_2 : decode cX12_isSetting 2 = .ok (.if_icmp .ne 15, 3) := by decide +kernel
theorem dX12_isSetting_5 : decode cX12_isSetting 5 = .ok (.iload_n 1, 1) := by decide +kernel
theorem dX12_isSetting_6 : decode cX12_isSetting 6 = .ok (.i2l, 1) := by decide +kernel
theorem dX12_isSetting_7 : decode cX12_isSetting 7 = .ok (.lconst 0, 1) := by decide +kernel
theorem dX12_isSetting_8 : decode cX12_isSetting 8 = .ok (.ldc2_w 170, 3) := by decide +kernel
theorem dX12_isSetting_11 : decode cX12_isSetting 11 = .ok (.invokestatic 111, 3) := by decide +kernel
theorem dX12_isSetting_14 : decode cX12_isSetting 14 = .ok (.goto 70, 3) := by decide +kernel
theorem dX12_isSetting_17 : decode cX12_isSetting 17 = .ok (.iload_n 0, 1) := by decide +kernel
theorem dX12_isSetting_18 : decode cX12_isSetting 18 = .ok (.bipush 6, 2) := by decide +kernel
theorem dX12_isSetting_20 : decode cX12_isSetting 20 = .ok (.if_icmp .ne 15, 3) := by decide +kernel
theorem dX12_isSetting_23 : decode cX12_isSetting 23 = .ok (.iload_n 1, 1) := by decide +kernel
theorem dX12_isSetting_24 : decode cX12_isSetting 24 = .ok (.i2l, 1) := by decide +kernel
theorem dX12_isSetting_25 : decode cX12_isSetting 25 = .ok (.lconst 0, 1) := by decide +kernel
theorem dX12_isSetting_26 : decode cX12_isSetting 26 = .ok (.ldc2_w 172, 3) := by decide +kernel
theorem dX12_isSetting_29 : decode cX12_isSetting 29 = .ok (.invokestatic 111, 3) := by decide +kernel
theorem dX12_isSetting_32 : decode cX12_isSetting 32 = .ok (.goto 52, 3) := by decide +kernel
theorem dX12_isSetting_35 : decode cX12_isSetting 35 = .ok (.iload_n 0, 1) := by decide +kernel
theorem dX12_isSetting_36 : decode cX12_isSetting 36 = .ok (.bipush 7, 2) := by decide +kernel
theorem dX12_isSetting_38 : decode cX12_isSetting 38 = .ok (.if_icmp .ne 15, 3) := by decide +kernel
theorem dX12_isSetting_41 : decode cX12_isSetting 41 = .ok (.iload_n 1, 1) := by decide +kernel
theorem dX12_isSetting_42 : decode cX12_isSetting 42 = .ok (.i2l, 1) := by decide +kernel
theorem dX12_isSetting_43 : decode cX12_isSetting 43 = .ok (.lconst 0, 1) := by decide +kernel
theorem dX12_isSetting_44 : decode cX12_isSetting 44 = .ok (.ldc2_w 174, 3) := by decide +kernel
theorem dX12_isSetting_47 : decode cX12_isSetting 47 = .ok (.invokestatic 111, 3) := by decide +kernel
theorem dX12_isSetting_50 : decode cX12_isSetting 50 = .ok (.goto 34, 3) := by decide +kernel
theorem dX12_isSetting_53 : decode cX12_isSetting 53 = .ok (.iload_n 0, 1) := by decide +kernel
theorem dX12_isSetting_54 : decode cX12_isSetting 54 = .ok (.i2l, 1) := by decide +kernel
theorem dX12_isSetting_55 : decode cX12_isSetting 55 = .ok (.ldc2_w 176, 3) := by decide +kernel
theorem dX12_isSetting_58 : decode cX12_isSetting 58 = .ok (.ldc2_w 178, 3) := by decide +kernel
theorem dX12_isSetting_61 : decode cX12_isSetting 61 = .ok (.invokestatic 111, 3) := by decide +kernel
theorem dX12_isSetting_64 : decode cX12_isSetting 64 = .ok (.ifCond .eq 19, 3) := by decide +kernel
theorem dX12_isSetting_67 : decode cX12_isSetting 67 = .ok (.iload_n 1, 1) := by decide +kernel
theorem dX12_isSetting_68 : decode cX12_isSetting 68 = .ok (.i2l, 1) := by decide +kernel
theorem dX12_isSetting_69 : decode cX12_isSetting 69 = .ok (.lconst 0, 1) := by decide +kernel
theorem dX12_isSetting_70 : decode cX12_isSetting 70 = .ok (.ldc2_w 180, 3) := by decide +kernel
theorem dX12_isSetting_73 : decode cX12_isSetting 73 = .ok (.invokestatic 111, 3) := by decide +kernel
theorem dX12_isSetting_76 : decode cX12_isSetting 76 = .ok (.ifCond .eq 7, 3) := by decide +kernel
theorem dX12_isSetting_79 : decode cX12_isSetting 79 = .ok (.iconst 1, 1) := by decide +kernel
theorem dX12_isSetting_80 : decode cX12_isSetting 80 = .ok (.goto 4, 3) := by decide +kernel
theorem dX12_isSetting_83 : decode cX12_isSetting 83 = .ok (.iconst 0, 1) := by decide +kernel
theorem dX12_isSetting_84 : decode cX12_isSetting 84 = .ok (.ireturn, 1) := by decide +kernel
set_option maxRecDepth 20000 in
theorem ggX12_set_X12_isSetting : GoodIn wsX12_set wsX12_isSetting := goodIn_r _ [5, 6, 7, 8, 9, 10, 11, 12, 13, 4, 14] (by decide +kernel) (by decide +kernel)
set_option maxRecDepth 20000 in
theorem gX12_set_X12_isSetting : GoodIn wsX12_set (va_wsS RX12 182 yX12_isSetting wsX12_isSetting) := goodIn_app (goodIn_of _ (by decide +kernel)) ggX12_set_X12_isSetting
set_option maxRecDepth 20000 in
theorem ggX12_set_X12_refused : GoodIn wsX12_set wsX12_refused := goodIn_r _ [18, 19, 29, 30, 31, 32, 33, 34, 35, 36, 37, 38, 39, 40, 41, 42, 43] (by decide +kernel) (by decide +kernel)
set_option maxRecDepth 20000 in
theorem gX12_set_X12_refused : GoodIn wsX12_set (wsV RX12 118 RX12 yX12_refused wsX12_refused) := goodIn_app (goodIn_of _ (by decide +kernel)) ggX12_set_X12_refused
set_option maxRecDepth 20000 in
theorem ggX12_set_X12_note : GoodIn wsX12_set wsX12_note := goodIn_r _ [23, 24, 25, 1, 26, 27, 4, 28, 29, 30, 31, 32, 33, 34, 35, 36, 37, 38, 39, 40, 41, 42, 43] (by decide +kernel) (by decide +kernel)
set_option maxRecDepth 20000 in
theorem gX12_set_X12_note : GoodIn wsX12_set (wsV RX12 159 RX12 yX12_note wsX12_note) := goodIn_app (goodIn_of _ (by decide +kernel)) ggX12_set_X12_note
theorem dX12_set_0 : decode cX12_set 0 = .ok (.aload_n 0, 1) := by decide +kernel
theorem dX12_set_1 : decode cX12_set 1 = .ok (.iload_n 1, 1) := by decide +kernel
theorem dX12_set_2 : decode cX12_set 2 = .ok (.iload_n 2, 1) := by decide +kernel
theorem dX12_set_3 : decode cX12_set 3 = .ok (.invokestatic 182, 3) := by decide +kernel
theorem dX12_set_6 : decode cX12_set 6 = .ok (.ifCond .eq 7, 3) := by decide +kernel
theorem dX12_set_9 : decode cX12_set 9 = .ok (.iconst 0, 1) := by decide +kernel
theorem dX12_set_10 : decode cX12_set 10 = .ok (.goto 4, 3) := by decide +kernel
theorem dX12_set_13 : decode cX12_set 13 = .ok (.iconst 1, 1) := by decide +kernel
theorem dX12_set_14 : decode cX12_set 14 = .ok (.invokevirtual 118, 3) := by decide +kernel
theorem dX12_set_17 : decode cX12_set 17 = .ok (.ifCond .eq 5, 3) := by decide +kernel
theorem dX12_set_20 : decode cX12_set 20 = .ok (.iconst 0, 1) := by decide +kernel
theorem dX12_set_21 : decode cX12_set 21 = .ok (.ireturn, 1) := by decide +kernel
theorem dX12_set_22 : decode cX12_set 22 = .ok (.aload_n 0, 1) := by decide +kernel
theorem dX12_set_23 : decode cX12_set 23 = .ok (.invokevirtual 159, 3) := by decide +kernel
theorem dX12_set_26 : decode cX12_set 26 = .ok (.aload_n 0, 1) := by decide +kernel
theorem dX12_set_27 : decode cX12_set 27 = .ok (.getfield 16, 3) := by decide +kernel
theorem dX12_set_30 : decode cX12_set 30 = .ok (.iload_n 1, 1) := by decide +kernel
theorem dX12_set_31 : decode cX12_set 31 = .ok (.iaload, 1) := by decide +kernel
theorem dX12_set_32 : decode cX12_set 32 = .ok (.istore_n 3, 1) := by decide +kernel
theorem dX12_set_33 : decode cX12_set 33 = .ok (.aload_n 0, 1) := by decide +kernel
theorem dX12_set_34 : decode cX12_set 34 = .ok (.getfield 16, 3) := by decide +kernel
theorem dX12_set_37 : decode cX12_set 37 = .ok (.iload_n 1, 1) := by decide +kernel
theorem dX12_set_38 : decode cX12_set 38 = .ok (.iload_n 2, 1) := by decide +kernel
theorem dX12_set_39 : decode cX12_set 39 = .ok (.iastore, 1) := by decide +kernel
theorem dX12_set_40 : decode cX12_set 40 = .ok (.iload_n 3, 1) := by decide +kernel
theorem dX12_set_41 : decode cX12_set 41 = .ok (.ireturn, 1) := by decide +kernel
set_option maxRecDepth 20000 in
theorem ggX12_disturb_X12_in : GoodIn wsX12_disturb wsX12_in := goodIn_r _ [7] (by decide +kernel) (by decide +kernel)
set_option maxRecDepth 20000 in
theorem gX12_disturb_X12_in : GoodIn wsX12_disturb (va_wsS RX12 111 yX12_in wsX12_in) := goodIn_app (goodIn_of _ (by decide +kernel)) ggX12_disturb_X12_in
set_option maxRecDepth 20000 in
theorem ggX12_disturb_X12_refused : GoodIn wsX12_disturb wsX12_refused := goodIn_r _ [11, 12, 28, 29, 30, 31, 32, 33, 34, 35, 36, 37, 38, 39, 40, 41, 42] (by decide +kernel) (by decide +kernel)
set_option maxRecDepth 20000 in
theorem gX12_disturb_X12_refused : GoodIn wsX12_disturb (wsV RX12 118 RX12 yX12_refused wsX12_refused) := goodIn_app (goodIn_of _ (by decide +kernel)) ggX12_disturb_X12_refused
set_option maxRecDepth 20000 in
theorem ggX12_disturb_X12_note : GoodIn wsX12_disturb wsX12_note := goodIn_r _ [16, 17, 18, 3, 19, 20, 6, 21, 28, 29, 30, 31, 32, 33, 34, 35, 36, 37, 38, 39, 40, 41, 42] (by decide +kernel) (by decide +kernel)
set_option maxRecDepth 20000 in
theorem gX12_disturb_X12_note : GoodIn wsX12_disturb (wsV RX12 159 RX12 yX12_note wsX12_note) := goodIn_app (goodIn_of _ (by decide +kernel)) ggX12_disturb_X12_note
set_option maxRecDepth 20000 in
theorem ggX12_disturb_X12_disturbOn : GoodIn wsX12_disturb wsX12_disturbOn := goodIn_r _ [24, 25, 26, 6, 27] (by decide +kernel) (by decide +kernel)
set_option maxRecDepth 20000 in
theorem gX12_disturb_X12_disturbOn : GoodIn wsX12_disturb (va_wsS RX12 190 yX12_disturbOn wsX12_disturbOn) := goodIn_app (goodIn_of _ (by decide +kernel)) ggX12_disturb_X12_disturbOn
theorem dX12_disturb_0 : decode cX12_disturb 0 = .ok (.aload_n 0, 1) := by decide +kernel
theorem dX12_disturb_1 : decode cX12_disturb 1 = .ok (.iload_n 1, 1) := by decide +kernel
theorem dX12_disturb_2 : decode cX12_disturb 2 = .ok (.i2l, 1) := by decide +kernel
theorem dX12_disturb_3 : decode cX12_disturb 3 = .ok (.ldc2_w 186, 3) := by decide +kernel
theorem dX12_disturb_6 : decode cX12_disturb 6 = .ok (.ldc2_w 188, 3) := by decide +kernel
theorem dX12_disturb_9 : decode cX12_disturb 9 = .ok (.invokestatic 111, 3) := by decide +kernel
theorem dX12_disturb_12 : decode cX12_disturb 12 = .ok (.ifCond .eq 7, 3) := by decide +kernel
theorem dX12_disturb_15 : decode cX12_disturb 15 = .ok (.iconst 0, 1) := by decide +kernel
theorem dX12_disturb_16 : decode cX12_disturb 16 = .ok (.goto 4, 3) := by decide +kernel
theorem dX12_disturb_19 : decode cX12_disturb 19 = .ok (.iconst 1, 1) := by decide +kernel
theorem dX12_disturb_20 : decode cX12_disturb 20 = .ok (.invokevirtual 118, 3) := by decide +kernel
theorem dX12_disturb_23 : decode cX12_disturb 23 = .ok (.ifCond .eq 5, 3) := by decide +kernel
theorem dX12_disturb_26 : decode cX12_disturb 26 = .ok (.iconst 0, 1) := by decide +kernel
theorem dX12_disturb_27 : decode cX12_disturb 27 = .ok (.ireturn, 1) := by decide +kernel
theorem dX12_disturb_28 : decode cX12_disturb 28 = .ok (.aload_n 0, 1) := by decide +kernel
theorem dX12_disturb_29 : decode cX12_disturb 29 = .ok (.invokevirtual 159, 3) := by decide +kernel
theorem dX12_disturb_32 : decode cX12_disturb 32 = .ok (.aload_n 0, 1) := by decide +kernel
theorem dX12_disturb_33 : decode cX12_disturb 33 = .ok (.getfield 16, 3) := by decide +kernel
theorem dX12_disturb_36 : decode cX12_disturb 36 = .ok (.iload_n 1, 1) := by decide +kernel
theorem dX12_disturb_37 : decode cX12_disturb 37 = .ok (.invokestatic 190, 3) := by decide +kernel
theorem dX12_disturb_40 : decode cX12_disturb 40 = .ok (.aload_n 0, 1) := by decide +kernel
theorem dX12_disturb_41 : decode cX12_disturb 41 = .ok (.getfield 16, 3) := by decide +kernel
theorem dX12_disturb_44 : decode cX12_disturb 44 = .ok (.bipush 12, 2) := by decide +kernel
theorem dX12_disturb_46 : decode cX12_disturb 46 = .ok (.iaload, 1) := by decide +kernel
theorem dX12_disturb_47 : decode cX12_disturb 47 = .ok (.ireturn, 1) := by decide +kernel
set_option maxRecDepth 20000 in
theorem ggX12_discard_X12_isSwing : GoodIn wsX12_discard wsX12_isSwing := goodIn_r _ [6, 1, 7, 8, 5, 9, 27, 28, 29, 30, 31, 32, 33, 34, 35, 36, 37, 38, 39, 40, 41] (by decide +kernel) (by decide +kernel)
set_option maxRecDepth 20000 in
theorem gX12_discard_X12_isSwing : GoodIn wsX12_discard (wsV RX12 150 RX12 yX12_isSwing wsX12_isSwing) := goodIn_app (goodIn_of _ (by decide +kernel)) ggX12_discard_X12_isSwing
set_option maxRecDepth 20000 in
theorem ggX12_discard_X12_refused : GoodIn wsX12_discard wsX12_refused := goodIn_r _ [13, 14, 27, 28, 29, 30, 31, 32, 33, 34, 35, 36, 37, 38, 39, 40, 41] (by decide +kernel) (by decide +kernel)
set_option maxRecDepth 20000 in
theorem gX12_discard_X12_refused : GoodIn wsX12_discard (wsV RX12 118 RX12 yX12_refused wsX12_refused) := goodIn_app (goodIn_of _ (by decide +kernel)) ggX12_discard_X12_refused
set_option maxRecDepth 20000 in
theorem ggX12_discard_X12_note : GoodIn wsX12_discard wsX12_note := goodIn_r _ [18, 19, 20, 1, 21, 22, 5, 23, 27, 28, 29, 30, 31, 32, 33, 34, 35, 36, 37, 38, 39, 40, 41] (by decide +kernel) (by decide +kernel)
set_option maxRecDepth 20000 in
theorem gX12_discard_X12_note : GoodIn wsX12_discard (wsV RX12 159 RX12 yX12_note wsX12_note) := goodIn_app (goodIn_of _ (by decide +kernel)) ggX12_discard_X12_note
set_option maxRecDepth 20000 in
theorem ggX12_discard_X12_dropSwing : GoodIn wsX12_discard wsX12_dropSwing := goodIn_r _ [26] (by decide +kernel) (by decide +kernel)
set_option maxRecDepth 20000 in
theorem gX12_discard_X12_dropSwing : GoodIn wsX12_discard (va_wsS RX12 47 yX12_dropSwing wsX12_dropSwing) := goodIn_app (goodIn_of _ (by decide +kernel)) ggX12_discard_X12_dropSwing
theorem dX12_discard_0 : decode cX12_discard 0 = .ok (.aload_n 0, 1) := by decide +kernel
theorem dX12_discard_1 : decode cX12_discard 1 = .ok (.aload_n 0, 1) := by decide +kernel
theorem dX12_discard_2 : decode cX12_discard 2 = .ok (.iload_n 1, 1) := by decide +kernel
theorem dX12_discard_3 : decode cX12_discard 3 = .ok (.invokevirtual 150, 3) := by decide +kernel
theorem dX12_discard_6 : decode cX12_discard 6 = .ok (.ifCond .eq 7, 3) := by decide +kernel
theorem dX12_discard_9 : decode cX12_discard 9 = .ok (.iconst 0, 1) := by decide +kernel
theorem dX12_discard_10 : decode cX12_discard 10 = .ok (.goto 4, 3) := by decide +kernel
theorem dX12_discard_13 : decode cX12_discard 13 = .ok (.iconst 1, 1) := by decide +kernel
theorem dX12_discard_14 : decode cX12_discard 14 = .ok (.invokevirtual 118, 3) := by decide +kernel
theorem dX12_discard_17 : decode cX12_discard 17 = .ok (.ifCond .eq 5, 3) := by decide +kernel
theorem dX12_discard_20 : decode cX12_discard 20 = .ok (.iconst 0, 1) := by decide +kernel
theorem dX12_discard_21 : decode cX12_discard 21 = .ok (.ireturn, 1) := by decide +kernel
theorem dX12_discard_22 : decode cX12_discard 22 = .ok (.aload_n 0, 1) := by decide +kernel
theorem dX12_discard_23 : decode cX12_discard 23 = .ok (.invokevirtual 159, 3) := by decide +kernel
theorem dX12_discard_26 : decode cX12_discard 26 = .ok (.aload_n 0, 1) := by decide +kernel
theorem dX12_discard_27 : decode cX12_discard 27 = .ok (.getfield 16, 3) := by decide +kernel
theorem dX12_discard_30 : decode cX12_discard 30 = .ok (.bipush 42, 2) := by decide +kernel
theorem dX12_discard_32 : decode cX12_discard 32 = .ok (.iconst 4, 1) := by decide +kernel
theorem dX12_discard_33 : decode cX12_discard 33 = .ok (.iload_n 1, 1) := by decide +kernel
theorem dX12_discard_34 : decode cX12_discard 34 = .ok (.imul, 1) := by decide +kernel
theorem dX12_discard_35 : decode cX12_discard 35 = .ok (.iadd, 1) := by decide +kernel
theorem dX12_discard_36 : decode cX12_discard 36 = .ok (.iaload, 1) := by decide +kernel
theorem dX12_discard_37 : decode cX12_discard 37 = .ok (.istore_n 2, 1) := by decide +kernel
theorem dX12_discard_38 : decode cX12_discard 38 = .ok (.aload_n 0, 1) := by decide +kernel
theorem dX12_discard_39 : decode cX12_discard 39 = .ok (.getfield 16, 3) := by decide +kernel
theorem dX12_discard_42 : decode cX12_discard 42 = .ok (.iload_n 1, 1) := by decide +kernel
theorem dX12_discard_43 : decode cX12_discard 43 = .ok (.invokestatic 47, 3) := by decide +kernel
theorem dX12_discard_46 : decode cX12_discard 46 = .ok (.iload_n 2, 1) := by decide +kernel
theorem dX12_discard_47 : decode cX12_discard 47 = .ok (.ireturn, 1) := by decide +kernel
set_option maxRecDepth 20000 in
theorem ggX12_isRule_X12_in : GoodIn wsX12_isRule wsX12_in := goodIn_r _ [5] (by decide +kernel) (by decide +kernel)
set_option maxRecDepth 20000 in
theorem gX12_isRule_X12_in : GoodIn wsX12_isRule (va_wsS RX12 111 yX12_in wsX12_in) := goodIn_app (goodIn_of _ (by decide +kernel)) ggX12_isRule_X12_in
theorem dX12_isRule_0 : decode cX12_isRule 0 = .ok (.iload_n 0, 1) := by decide +kernel
theorem dX12_isRule_1 : decode cX12_isRule 1 = .ok (.i2l, 1) := by decide +kernel
theorem dX12_isRule_2 : decode cX12_isRule 2 = .ok (.lconst 0, 1) := by decide +kernel
theorem dX12_isRule_3 : decode cX12_isRule 3 = .ok (.ldc2_w 193, 3) := by decide +kernel
theorem dX12_isRule_6 : decode cX12_isRule 6 = .ok (.invokestatic 111, 3) := by decide +kernel
theorem dX12_isRule_9 : decode cX12_isRule 9 = .ok (.ireturn, 1) := by decide +kernel
set_option maxRecDepth 20000 in
theorem ggX12_tryRule_X12_isRule : GoodIn wsX12_tryRule wsX12_isRule := goodIn_r _ [5, 6, 7, 8, 4, 9] (by decide +kernel) (by decide +kernel)
set_option maxRecDepth 20000 in
theorem gX12_tryRule_X12_isRule : GoodIn wsX12_tryRule (va_wsS RX12 195 yX12_isRule wsX12_isRule) := goodIn_app (goodIn_of _ (by decide +kernel)) ggX12_tryRule_X12_isRule
set_option maxRecDepth 20000 in
theorem ggX12_tryRule_X12_canTry : GoodIn wsX12_tryRule wsX12_canTry := goodIn_r _ [13, 14, 15, 16, 4, 17, 18, 19, 20, 21, 22, 23, 24, 25, 26, 27, 28, 29, 30, 31, 32, 33, 34, 35, 36, 73, 74, 75, 76, 77, 78, 79, 80, 81, 82, 83, 84, 85, 86, 87] (by decide +kernel) (by decide +kernel)
set_option maxRecDepth 20000 in
theorem gX12_tryRule_X12_canTry : GoodIn wsX12_tryRule (wsV RX12 198 RX12 yX12_canTry wsX12_canTry) := goodIn_app (goodIn_of _ (by decide +kernel)) ggX12_tryRule_X12_canTry
set_option maxRecDepth 20000 in
theorem ggX12_tryRule_X12_refused : GoodIn wsX12_tryRule wsX12_refused := goodIn_r _ [40, 41, 73, 74, 75, 76, 77, 78, 79, 80, 81, 82, 83, 84, 85, 86, 87] (by decide +kernel) (by decide +kernel)
set_option maxRecDepth 20000 in
theorem gX12_tryRule_X12_refused : GoodIn wsX12_tryRule (wsV RX12 118 RX12 yX12_refused wsX12_refused) := goodIn_app (goodIn_of _ (by decide +kernel)) ggX12_tryRule_X12_refused
set_option maxRecDepth 20000 in
theorem ggX12_tryRule_X12_note : GoodIn wsX12_tryRule wsX12_note := goodIn_r _ [45, 46, 47, 1, 48, 49, 4, 50, 73, 74, 75, 76, 77, 78, 79, 80, 81, 82, 83, 84, 85, 86, 87] (by decide +kernel) (by decide +kernel)
set_option maxRecDepth 20000 in
theorem gX12_tryRule_X12_note : GoodIn wsX12_tryRule (wsV RX12 159 RX12 yX12_note wsX12_note) := goodIn_app (goodIn_of _ (by decide +kernel)) ggX12_tryRule_X12_note
set_option maxRecDepth 20000 in
theorem ggX12_tryRule_X12_tryOn : GoodIn wsX12_tryRule wsX12_tryOn := goodIn_r _ [54, 55, 56, 57, 4, 58, 59, 60, 61, 62, 63, 64, 65, 66, 18, 19, 20, 21, 22, 23, 24, 25, 26, 27, 28, 29, 30, 31, 32, 33, 34, 35, 36, 67, 68, 69, 70, 71, 72, 73, 74, 75, 76, 77, 78, 79, 80, 81, 82, 83, 84, 85, 86, 87] (by decide +kernel) (by decide +kernel)
set_option maxRecDepth 20000 in
theorem gX12_tryRule_X12_tryOn : GoodIn wsX12_tryRule (wsV RX12 202 RX12 yX12_tryOn wsX12_tryOn) := goodIn_app (goodIn_of _ (by decide +kernel)) ggX12_tryRule_X12_tryOn
theorem dX12_tryRule_0 : decode cX12_tryRule 0 = .ok (.aload_n 0, 1) := by decide +kernel
theorem dX12_tryRule_1 : decode cX12_tryRule 1 = .ok (.iload_n 1, 1) := by decide +kernel
theorem dX12_tryRule_2 : decode cX12_tryRule 2 = .ok (.invokestatic 195, 3) := by decide +kernel
theorem dX12_tryRule_5 : decode cX12_tryRule 5 = .ok (.ifCond .ne 7, 3) := by decide +kernel
theorem dX12_tryRule_8 : decode cX12_tryRule 8 = .ok (.iconst 1, 1) := by decide +kernel
theorem dX12_tryRule_9 : decode cX12_tryRule 9 = .ok (.goto 19, 3) := by decide +kernel
theorem dX12_tryRule_12 : decode cX12_tryRule 12 = .ok (.aload_n 0, 1) := by decide +kernel
theorem dX12_tryRule_13 : decode cX12_tryRule 13 = .ok (.aload_n 0, 1) := by decide +kernel
theorem dX12_tryRule_14 : decode cX12_tryRule 14 = .ok (.getfield 16, 3) := by decide +kernel
theorem dX12_tryRule_17 : decode cX12_tryRule 17 = .ok (.invokevirtual 198, 3) := by decide +kernel
theorem dX12_tryRule_20 : decode cX12_tryRule 20 = .ok (.ifCond .ne 7, 3) := by decide +kernel
theorem dX12_tryRule_23 : decode cX12_tryRule 23 = .ok (.iconst 2, 1) := by decide +kernel
theorem dX12_tryRule_24 : decode cX12_tryRule 24 = .ok (.goto 4, 3) := by decide +kernel
theorem dX12_tryRule_27 : decode cX12_tryRule 27 = .ok (.iconst 0, 1) := by decide +kernel
theorem dX12_tryRule_28 : decode cX12_tryRule 28 = .ok (.invokevirtual 118, 3) := by decide +kernel
theorem dX12_tryRule_31 : decode cX12_tryRule 31 = .ok (.ifCond .eq 5, 3) := by decide +kernel
theorem dX12_tryRule_34 : decode cX12_tryRule 34 = .ok (.iconst 0, 1) := by decide +kernel
theorem dX12_tryRule_35 : decode cX12_tryRule 35 = .ok (.ireturn, 1) := by decide +kernel
theorem dX12_tryRule_36 : decode cX12_tryRule 36 = .ok (.aload_n 0, 1) := by decide +kernel
theorem dX12_tryRule_37 : decode cX12_tryRule 37 = .ok (.invokevirtual 159, 3) := by decide +kernel
theorem dX12_tryRule_40 : decode cX12_tryRule 40 = .ok (.aload_n 0, 1) := by decide +kernel
theorem dX12_tryRule_41 : decode cX12_tryRule 41 = .ok (.aload_n 0, 1) := by decide +kernel
theorem dX12_tryRule_42 : decode cX12_tryRule 42 = .ok (.getfield 16, 3) := by decide +kernel
theorem dX12_tryRule_45 : decode cX12_tryRule 45 = .ok (.iload_n 1, 1) := by decide +kernel
theorem dX12_tryRule_46 : decode cX12_tryRule 46 = .ok (.invokevirtual 202, 3) := by decide +kernel
theorem dX12_tryRule_49 : decode cX12_tryRule 49 = .ok (.aload_n 0, 1) := by decide +kernel
theorem dX12_tryRule_50 : decode cX12_tryRule 50 = .ok (.getfield 16, 3) := by decide +kernel
theorem dX12_tryRule_53 : decode cX12_tryRule 53 = .ok (.bipush 8, 2) := by decide +kernel
theorem dX12_tryRule_55 : decode cX12_tryRule 55 = .ok (.iaload, 1) := by decide +kernel
theorem dX12_tryRule_56 : decode cX12_tryRule 56 = .ok (.ireturn, 1) := by decide +kernel
set_option maxRecDepth 20000 in
theorem ggX12_takeBack_X12_refused : GoodIn wsX12_takeBack wsX12_refused := goodIn_r _ [6, 7, 23, 24, 25, 26, 27, 28, 29, 30, 31, 32, 33, 34, 35, 36, 37] (by decide +kernel) (by decide +kernel)
set_option maxRecDepth 20000 in
theorem gX12_takeBack_X12_refused : GoodIn wsX12_takeBack (wsV RX12 118 RX12 yX12_refused wsX12_refused) := goodIn_app (goodIn_of _ (by decide +kernel)) ggX12_takeBack_X12_refused
set_option maxRecDepth 20000 in
theorem ggX12_takeBack_X12_note : GoodIn wsX12_takeBack wsX12_note := goodIn_r _ [11, 12, 13, 1, 14, 15, 5, 16, 23, 24, 25, 26, 27, 28, 29, 30, 31, 32, 33, 34, 35, 36, 37] (by decide +kernel) (by decide +kernel)
set_option maxRecDepth 20000 in
theorem gX12_takeBack_X12_note : GoodIn wsX12_takeBack (wsV RX12 159 RX12 yX12_note wsX12_note) := goodIn_app (goodIn_of _ (by decide +kernel)) ggX12_takeBack_X12_note
set_option maxRecDepth 20000 in
theorem ggX12_takeBack_X12_takeBackOn : GoodIn wsX12_takeBack wsX12_takeBackOn := goodIn_r _ [19, 20, 21, 5, 22] (by decide +kernel) (by decide +kernel)
set_option maxRecDepth 20000 in
theorem gX12_takeBack_X12_takeBackOn : GoodIn wsX12_takeBack (va_wsS RX12 205 yX12_takeBackOn wsX12_takeBackOn) := goodIn_app (goodIn_of _ (by decide +kernel)) ggX12_takeBack_X12_takeBackOn
theorem dX12_takeBack_0 : decode cX12_takeBack 0 = .ok (.aload_n 0, 1) := by decide +kernel
theorem dX12_takeBack_1 : decode cX12_takeBack 1 = .ok (.aload_n 0, 1) := by decide +kernel
theorem dX12_takeBack_2 : decode cX12_takeBack 2 = .ok (.getfield 16, 3) := by decide +kernel
theorem dX12_takeBack_5 : decode cX12_takeBack 5 = .ok (.bipush 17, 2) := by decide +kernel
theorem dX12_takeBack_7 : decode cX12_takeBack 7 = .ok (.iaload, 1) := by decide +kernel
theorem dX12_takeBack_8 : decode cX12_takeBack 8 = .ok (.ifCond .ne 7, 3) := by decide +kernel
theorem dX12_takeBack_11 : decode cX12_takeBack 11 = .ok (.iconst 1, 1) := by decide +kernel
theorem dX12_takeBack_12 : decode cX12_takeBack 12 = .ok (.goto 4, 3) := by decide +kernel
theorem dX12_takeBack_15 : decode cX12_takeBack 15 = .ok (.iconst 0, 1) := by decide +kernel
theorem dX12_takeBack_16 : decode cX12_takeBack 16 = .ok (.invokevirtual 118, 3) := by decide +kernel
theorem dX12_takeBack_19 : decode cX12_takeBack 19 = .ok (.ifCond .eq 5, 3) := by decide +kernel
theorem dX12_takeBack_22 : decode cX12_takeBack 22 = .ok (.iconst 0, 1) := by decide +kernel
theorem dX12_takeBack_23 : decode cX12_takeBack 23 = .ok (.ireturn, 1) := by decide +kernel
theorem dX12_takeBack_24 : decode cX12_takeBack 24 = .ok (.aload_n 0, 1) := by decide +kernel
theorem dX12_takeBack_25 : decode cX12_takeBack 25 = .ok (.invokevirtual 159, 3) := by decide +kernel
theorem dX12_takeBack_28 : decode cX12_takeBack 28 = .ok (.aload_n 0, 1) := by decide +kernel
theorem dX12_takeBack_29 : decode cX12_takeBack 29 = .ok (.getfield 16, 3) := by decide +kernel
theorem dX12_takeBack_32 : decode cX12_takeBack 32 = .ok (.invokestatic 205, 3) := by decide +kernel
theorem dX12_takeBack_35 : decode cX12_takeBack 35 = .ok (.aload_n 0, 1) := by decide +kernel
theorem dX12_takeBack_36 : decode cX12_takeBack 36 = .ok (.getfield 16, 3) := by decide +kernel
theorem dX12_takeBack_39 : decode cX12_takeBack 39 = .ok (.bipush 17, 2) := by decide +kernel
theorem dX12_takeBack_41 : decode cX12_takeBack 41 = .ok (.iaload, 1) := by decide +kernel
theorem dX12_takeBack_42 : decode cX12_takeBack 42 = .ok (.ireturn, 1) := by decide +kernel
set_option maxRecDepth 20000 in
theorem ggX12_accept_X12_note : GoodIn wsX12_accept wsX12_note := goodIn_r _ [7, 8, 9, 2, 10, 11, 6, 12, 13, 14, 15, 16, 17, 18, 19, 20, 21, 22, 23, 24, 25, 26, 27] (by decide +kernel) (by decide +kernel)
set_option maxRecDepth 20000 in
theorem gX12_accept_X12_note : GoodIn wsX12_accept (wsV RX12 159 RX12 yX12_note wsX12_note) := goodIn_app (goodIn_of _ (by decide +kernel)) ggX12_accept_X12_note
theorem dX12_accept_0 : decode cX12_accept 0 = .ok (.aload_n 0, 1) := by decide +kernel
theorem dX12_accept_1 : decode cX12_accept 1 = .ok (.iconst 0, 1) := by decide +kernel
theorem dX12_accept_2 : decode cX12_accept 2 = .ok (.putfield 39, 3) := by decide +kernel
theorem dX12_accept_5 : decode cX12_accept 5 = .ok (.aload_n 0, 1) := by decide +kernel
theorem dX12_accept_6 : decode cX12_accept 6 = .ok (.invokevirtual 159, 3) := by decide +kernel
theorem dX12_accept_9 : decode cX12_accept 9 = .ok (.aload_n 0, 1) := by decide +kernel
theorem dX12_accept_10 : decode cX12_accept 10 = .ok (.getfield 16, 3) := by decide +kernel
theorem dX12_accept_13 : decode cX12_accept 13 = .ok (.bipush 17, 2) := by decide +kernel
theorem dX12_accept_15 : decode cX12_accept 15 = .ok (.iaload, 1) := by decide +kernel
theorem dX12_accept_16 : decode cX12_accept 16 = .ok (.istore_n 1, 1) := by decide +kernel
theorem dX12_accept_17 : decode cX12_accept 17 = .ok (.aload_n 0, 1) := by decide +kernel
theorem dX12_accept_18 : decode cX12_accept 18 = .ok (.getfield 16, 3) := by decide +kernel
theorem dX12_accept_21 : decode cX12_accept 21 = .ok (.bipush 17, 2) := by decide +kernel
theorem dX12_accept_23 : decode cX12_accept 23 = .ok (.iconst 0, 1) := by decide +kernel
theorem dX12_accept_24 : decode cX12_accept 24 = .ok (.iastore, 1) := by decide +kernel
theorem dX12_accept_25 : decode cX12_accept 25 = .ok (.iload_n 1, 1) := by decide +kernel
theorem dX12_accept_26 : decode cX12_accept 26 = .ok (.ireturn, 1) := by decide +kernel
set_option maxRecDepth 20000 in
theorem ggX12_undo_X12_refused : GoodIn wsX12_undo wsX12_refused := goodIn_r _ [8, 9, 13, 14, 15, 16, 17, 18, 19, 20, 21, 22, 23, 24, 25, 26, 27] (by decide +kernel) (by decide +kernel)
set_option maxRecDepth 20000 in
theorem gX12_undo_X12_refused : GoodIn wsX12_undo (wsV RX12 118 RX12 yX12_refused wsX12_refused) := goodIn_app (goodIn_of _ (by decide +kernel)) ggX12_undo_X12_refused
set_option maxRecDepth 20000 in
theorem ggX12_undo_X12_copyPage : GoodIn wsX12_undo wsX12_copyPage := goodIn_r _ [12] (by decide +kernel) (by decide +kernel)
set_option maxRecDepth 20000 in
theorem gX12_undo_X12_copyPage : GoodIn wsX12_undo (va_wsS RX12 141 yX12_copyPage wsX12_copyPage) := goodIn_app (goodIn_of _ (by decide +kernel)) ggX12_undo_X12_copyPage
theorem dX12_undo_0 : decode cX12_undo 0 = .ok (.aload_n 0, 1) := by decide +kernel
theorem dX12_undo_1 : decode cX12_undo 1 = .ok (.aload_n 0, 1) := by decide +kernel
theorem dX12_undo_2 : decode cX12_undo 2 = .ok (.getfield 145, 3) := by decide +kernel
theorem dX12_undo_5 : decode cX12_undo 5 = .ok (.ifCond .ne 7, 3) := by decide +kernel
theorem dX12_undo_8 : decode cX12_undo 8 = .ok (.iconst 1, 1) := by decide +kernel
theorem dX12_undo_9 : decode cX12_undo 9 = .ok (.goto 4, 3) := by decide +kernel
theorem dX12_undo_12 : decode cX12_undo 12 = .ok (.iconst 0, 1) := by decide +kernel
theorem dX12_undo_13 : decode cX12_undo 13 = .ok (.invokevirtual 118, 3) := by decide +kernel
theorem dX12_undo_16 : decode cX12_undo 16 = .ok (.ifCond .eq 5, 3) := by decide +kernel
theorem dX12_undo_19 : decode cX12_undo 19 = .ok (.iconst 0, 1) := by decide +kernel
theorem dX12_undo_20 : decode cX12_undo 20 = .ok (.ireturn, 1) := by decide +kernel
theorem dX12_undo_21 : decode cX12_undo 21 = .ok (.aload_n 0, 1) := by decide +kernel
theorem dX12_undo_22 : decode cX12_undo 22 = .ok (.dup, 1) := by decide +kernel
theorem dX12_undo_23 : decode cX12_undo 23 = .ok (.getfield 145, 3) := by decide +kernel
theorem dX12_undo_26 : decode cX12_undo 26 = .ok (.iconst 1, 1) := by decide +kernel
theorem dX12_undo_27 : decode cX12_undo 27 = .ok (.isub, 1) := by decide +kernel
theorem dX12_undo_28 : decode cX12_undo 28 = .ok (.putfield 145, 3) := by decide +kernel
theorem dX12_undo_31 : decode cX12_undo 31 = .ok (.aload_n 0, 1) := by decide +kernel
theorem dX12_undo_32 : decode cX12_undo 32 = .ok (.getfield 22, 3) := by decide +kernel
theorem dX12_undo_35 : decode cX12_undo 35 = .ok (.sipush 154, 3) := by decide +kernel
theorem dX12_undo_38 : decode cX12_undo 38 = .ok (.aload_n 0, 1) := by decide +kernel
theorem dX12_undo_39 : decode cX12_undo 39 = .ok (.getfield 145, 3) := by decide +kernel
theorem dX12_undo_42 : decode cX12_undo 42 = .ok (.imul, 1) := by decide +kernel
theorem dX12_undo_43 : decode cX12_undo 43 = .ok (.aload_n 0, 1) := by decide +kernel
theorem dX12_undo_44 : decode cX12_undo 44 = .ok (.getfield 16, 3) := by decide +kernel
theorem dX12_undo_47 : decode cX12_undo 47 = .ok (.iconst 0, 1) := by decide +kernel
theorem dX12_undo_48 : decode cX12_undo 48 = .ok (.invokestatic 141, 3) := by decide +kernel
theorem dX12_undo_51 : decode cX12_undo 51 = .ok (.aload_n 0, 1) := by decide +kernel
theorem dX12_undo_52 : decode cX12_undo 52 = .ok (.getfield 145, 3) := by decide +kernel
theorem dX12_undo_55 : decode cX12_undo 55 = .ok (.ireturn, 1) := by decide +kernel
set_option maxRecDepth 20000 in
theorem ggX12_middle_X12_middleOf : GoodIn wsX12_middle wsX12_middleOf := goodIn_r _ [7, 8, 9, 10, 11, 6, 12, 13, 14, 15, 16, 17, 18, 19, 20, 21, 22, 23, 24, 25, 26, 27] (by decide +kernel) (by decide +kernel)
set_option maxRecDepth 20000 in
theorem gX12_middle_X12_middleOf : GoodIn wsX12_middle (wsV RX12 79 RX12 yX12_middleOf wsX12_middleOf) := goodIn_app (goodIn_of _ (by decide +kernel)) ggX12_middle_X12_middleOf
theorem dX12_middle_0 : decode cX12_middle 0 = .ok (.aload_n 0, 1) := by decide +kernel
theorem dX12_middle_1 : decode cX12_middle 1 = .ok (.iconst 0, 1) := by decide +kernel
theorem dX12_middle_2 : decode cX12_middle 2 = .ok (.putfield 39, 3) := by decide +kernel
theorem dX12_middle_5 : decode cX12_middle 5 = .ok (.aload_n 0, 1) := by decide +kernel
theorem dX12_middle_6 : decode cX12_middle 6 = .ok (.aload_n 0, 1) := by decide +kernel
theorem dX12_middle_7 : decode cX12_middle 7 = .ok (.getfield 16, 3) := by decide +kernel
theorem dX12_middle_10 : decode cX12_middle 10 = .ok (.iload_n 1, 1) := by decide +kernel
theorem dX12_middle_11 : decode cX12_middle 11 = .ok (.invokevirtual 79, 3) := by decide +kernel
theorem dX12_middle_14 : decode cX12_middle 14 = .ok (.ireturn, 1) := by decide +kernel
set_option maxRecDepth 20000 in
theorem ggX12_proposal_X12_isRule : GoodIn wsX12_proposal wsX12_isRule := goodIn_r _ [7, 8, 9, 10, 6, 11] (by decide +kernel) (by decide +kernel)
set_option maxRecDepth 20000 in
theorem gX12_proposal_X12_isRule : GoodIn wsX12_proposal (va_wsS RX12 195 yX12_isRule wsX12_isRule) := goodIn_app (goodIn_of _ (by decide +kernel)) ggX12_proposal_X12_isRule
set_option maxRecDepth 20000 in
theorem ggX12_proposal_X12_in : GoodIn wsX12_proposal wsX12_in := goodIn_r _ [11] (by decide +kernel) (by decide +kernel)
set_option maxRecDepth 20000 in
theorem gX12_proposal_X12_in : GoodIn wsX12_proposal (va_wsS RX12 111 yX12_in wsX12_in) := goodIn_app (goodIn_of _ (by decide +kernel)) ggX12_proposal_X12_in
set_option maxRecDepth 20000 in
theorem ggX12_proposal_X12_refused : GoodIn wsX12_proposal wsX12_refused := goodIn_r _ [15, 16, 50, 51, 52, 53, 54, 55, 56, 57, 58, 59, 60, 61, 62, 63, 64] (by decide +kernel) (by decide +kernel)
set_option maxRecDepth 20000 in
theorem gX12_proposal_X12_refused : GoodIn wsX12_proposal (wsV RX12 118 RX12 yX12_refused wsX12_refused) := goodIn_app (goodIn_of _ (by decide +kernel)) ggX12_proposal_X12_refused
set_option maxRecDepth 20000 in
theorem ggX12_proposal_X12_goodOf : GoodIn wsX12_proposal wsX12_goodOf := goodIn_r _ [20, 21, 22, 23, 6, 24, 25, 26, 27, 28, 29, 3, 30, 31, 32, 33, 34, 35, 36, 37, 38, 50, 51, 52, 53, 54, 55, 56, 57, 58, 59, 60, 61, 62, 63, 64] (by decide +kernel) (by decide +kernel)
set_option maxRecDepth 20000 in
theorem gX12_proposal_X12_goodOf : GoodIn wsX12_proposal (wsV RX12 103 RX12 yX12_goodOf wsX12_goodOf) := goodIn_app (goodIn_of _ (by decide +kernel)) ggX12_proposal_X12_goodOf
set_option maxRecDepth 20000 in
theorem ggX12_proposal_X12_proposalOf : GoodIn wsX12_proposal wsX12_proposalOf := goodIn_r _ [42, 43, 44, 45, 6, 46, 21, 22, 23, 24, 25, 26, 27, 28, 29, 3, 30, 31, 32, 33, 34, 35, 36, 37, 38, 47, 48, 49, 50, 51, 52, 53, 54, 55, 56, 57, 58, 59, 60, 61, 62, 63, 64] (by decide +kernel) (by decide +kernel)
set_option maxRecDepth 20000 in
theorem gX12_proposal_X12_proposalOf : GoodIn wsX12_proposal (wsV RX12 96 RX12 yX12_proposalOf wsX12_proposalOf) := goodIn_app (goodIn_of _ (by decide +kernel)) ggX12_proposal_X12_proposalOf
theorem dX12_proposal_0 : decode cX12_proposal 0 = .ok (.aload_n 0, 1) := by decide +kernel
theorem dX12_proposal_1 : decode cX12_proposal 1 = .ok (.iload_n 1, 1) := by decide +kernel
theorem dX12_proposal_2 : decode cX12_proposal 2 = .ok (.invokestatic 195, 3) := by decide +kernel
theorem dX12_proposal_5 : decode cX12_proposal 5 = .ok (.ifCond .ne 7, 3) := by decide +kernel
theorem dX12_proposal_8 : decode cX12_proposal 8 = .ok (.iconst 1, 1) := by decide +kernel
theorem dX12_proposal_9 : decode cX12_proposal 9 = .ok (.goto 20, 3) := by decide +kernel
theorem dX12_proposal_12 : decode cX12_proposal 12 = .ok (.iload_n 2, 1) := by decide +kernel
theorem dX12_proposal_13 : decode cX12_proposal 13 = .ok (.i2l, 1) := by decide +kernel
theorem dX12_proposal_14 : decode cX12_proposal 14 = .ok (.lconst 0, 1) := by decide +kernel
theorem dX12_proposal_15 : decode cX12_proposal 15 = .ok (.ldc2_w 165, 3) := by decide +kernel
theorem dX12_proposal_18 : decode cX12_proposal 18 = .ok (.invokestatic 111, 3) := by decide +kernel
theorem dX12_proposal_21 : decode cX12_proposal 21 = .ok (.ifCond .ne 7, 3) := by decide +kernel
theorem dX12_proposal_24 : decode cX12_proposal 24 = .ok (.iconst 2, 1) := by decide +kernel
theorem dX12_proposal_25 : decode cX12_proposal 25 = .ok (.goto 4, 3) := by decide +kernel
theorem dX12_proposal_28 : decode cX12_proposal 28 = .ok (.iconst 0, 1) := by decide +kernel
theorem dX12_proposal_29 : decode cX12_proposal 29 = .ok (.invokevirtual 118, 3) := by decide +kernel
theorem dX12_proposal_32 : decode cX12_proposal 32 = .ok (.ifCond .eq 5, 3) := by decide +kernel
theorem dX12_proposal_35 : decode cX12_proposal 35 = .ok (.iconst 0, 1) := by decide +kernel
theorem dX12_proposal_36 : decode cX12_proposal 36 = .ok (.ireturn, 1) := by decide +kernel
theorem dX12_proposal_37 : decode cX12_proposal 37 = .ok (.aload_n 0, 1) := by decide +kernel
theorem dX12_proposal_38 : decode cX12_proposal 38 = .ok (.aload_n 0, 1) := by decide +kernel
theorem dX12_proposal_39 : decode cX12_proposal 39 = .ok (.getfield 16, 3) := by decide +kernel
theorem dX12_proposal_42 : decode cX12_proposal 42 = .ok (.invokevirtual 103, 3) := by decide +kernel
theorem dX12_proposal_45 : decode cX12_proposal 45 = .ok (.ifCond .ne 8, 3) := by decide +kernel
theorem dX12_proposal_48 : decode cX12_proposal 48 = .ok (.ldc 74, 2) := by decide +kernel
theorem dX12_proposal_50 : decode cX12_proposal 50 = .ok (.goto 13, 3) := by decide +kernel
theorem dX12_proposal_53 : decode cX12_proposal 53 = .ok (.aload_n 0, 1) := by decide +kernel
theorem dX12_proposal_54 : decode cX12_proposal 54 = .ok (.aload_n 0, 1) := by decide +kernel
theorem dX12_proposal_55 : decode cX12_proposal 55 = .ok (.getfield 16, 3) := by decide +kernel
theorem dX12_proposal_58 : decode cX12_proposal 58 = .ok (.iload_n 1, 1) := by decide +kernel
theorem dX12_proposal_59 : decode cX12_proposal 59 = .ok (.iload_n 2, 1) := by decide +kernel
theorem dX12_proposal_60 : decode cX12_proposal 60 = .ok (.invokevirtual 96, 3) := by decide +kernel
theorem dX12_proposal_63 : decode cX12_proposal 63 = .ok (.ireturn, 1) := by decide +kernel
set_option maxRecDepth 20000 in
theorem ggX12_toleranceFor_X12_in : GoodIn wsX12_toleranceFor wsX12_in := goodIn_r _ [8] (by decide +kernel) (by decide +kernel)
set_option maxRecDepth 20000 in
theorem gX12_toleranceFor_X12_in : GoodIn wsX12_toleranceFor (va_wsS RX12 111 yX12_in wsX12_in) := goodIn_app (goodIn_of _ (by decide +kernel)) ggX12_toleranceFor_X12_in
set_option maxRecDepth 20000 in
theorem ggX12_toleranceFor_X12_refused : GoodIn wsX12_toleranceFor wsX12_refused := goodIn_r _ [12, 13, 39, 40, 41, 42, 43, 44, 45, 46, 47, 48, 49, 50, 51, 52, 53] (by decide +kernel) (by decide +kernel)
set_option maxRecDepth 20000 in
theorem gX12_toleranceFor_X12_refused : GoodIn wsX12_toleranceFor (wsV RX12 118 RX12 yX12_refused wsX12_refused) := goodIn_app (goodIn_of _ (by decide +kernel)) ggX12_toleranceFor_X12_refused
set_option maxRecDepth 20000 in
theorem ggX12_toleranceFor_X12_copyPage : GoodIn wsX12_toleranceFor wsX12_copyPage := goodIn_r _ [16] (by decide +kernel) (by decide +kernel)
set_option maxRecDepth 20000 in
theorem gX12_toleranceFor_X12_copyPage : GoodIn wsX12_toleranceFor (va_wsS RX12 141 yX12_copyPage wsX12_copyPage) := goodIn_app (goodIn_of _ (by decide +kernel)) ggX12_toleranceFor_X12_copyPage
set_option maxRecDepth 20000 in
theorem ggX12_toleranceFor_X12_goodOf : GoodIn wsX12_toleranceFor wsX12_goodOf := goodIn_r _ [20, 21, 22, 23, 7, 24, 25, 26, 27, 28, 29, 4, 30, 31, 32, 33, 34, 35, 36, 37, 38, 39, 40, 41, 42, 43, 44, 45, 46, 47, 48, 49, 50, 51, 52, 53] (by decide +kernel) (by decide +kernel)
set_option maxRecDepth 20000 in
theorem gX12_toleranceFor_X12_goodOf : GoodIn wsX12_toleranceFor (wsV RX12 103 RX12 yX12_goodOf wsX12_goodOf) := goodIn_app (goodIn_of _ (by decide +kernel)) ggX12_toleranceFor_X12_goodOf
theorem dX12_toleranceFor_0 : decode cX12_toleranceFor 0 = .ok (.aload_n 0, 1) := by decide +kernel
theorem dX12_toleranceFor_1 : decode cX12_toleranceFor 1 = .ok (.iload_n 1, 1) := by decide +kernel
theorem dX12_toleranceFor_2 : decode cX12_toleranceFor 2 = .ok (.i2l, 1) := by decide +kernel
theorem dX12_toleranceFor_3 : decode cX12_toleranceFor 3 = .ok (.lconst 1, 1) := by decide +kernel
theorem dX12_toleranceFor_4 : decode cX12_toleranceFor 4 = .ok (.ldc2_w 172, 3) := by decide +kernel
theorem dX12_toleranceFor_7 : decode cX12_toleranceFor 7 = .ok (.invokestatic 111, 3) := by decide +kernel
theorem dX12_toleranceFor_10 : decode cX12_toleranceFor 10 = .ok (.ifCond .eq 7, 3) := by decide +kernel
theorem dX12_toleranceFor_13 : decode cX12_toleranceFor 13 = .ok (.iconst 0, 1) := by decide +kernel
theorem dX12_toleranceFor_14 : decode cX12_toleranceFor 14 = .ok (.goto 4, 3) := by decide +kernel
theorem dX12_toleranceFor_17 : decode cX12_toleranceFor 17 = .ok (.iconst 1, 1) := by decide +kernel
theorem dX12_toleranceFor_18 : decode cX12_toleranceFor 18 = .ok (.invokevirtual 118, 3) := by decide +kernel
theorem dX12_toleranceFor_21 : decode cX12_toleranceFor 21 = .ok (.ifCond .eq 5, 3) := by decide +kernel
theorem dX12_toleranceFor_24 : decode cX12_toleranceFor 24 = .ok (.iconst 0, 1) := by decide +kernel
theorem dX12_toleranceFor_25 : decode cX12_toleranceFor 25 = .ok (.ireturn, 1) := by decide +kernel
theorem dX12_toleranceFor_26 : decode cX12_toleranceFor 26 = .ok (.aload_n 0, 1) := by decide +kernel
theorem dX12_toleranceFor_27 : decode cX12_toleranceFor 27 = .ok (.getfield 16, 3) := by decide +kernel
theorem dX12_toleranceFor_30 : decode cX12_toleranceFor 30 = .ok (.iconst 0, 1) := by decide +kernel
theorem dX12_toleranceFor_31 : decode cX12_toleranceFor 31 = .ok (.aload_n 0, 1) := by decide +kernel
theorem dX12_toleranceFor_32 : decode cX12_toleranceFor 32 = .ok (.getfield 19, 3) := by decide +kernel
theorem dX12_toleranceFor_35 : decode cX12_toleranceFor 35 = .ok (.iconst 0, 1) := by decide +kernel
theorem dX12_toleranceFor_36 : decode cX12_toleranceFor 36 = .ok (.invokestatic 141, 3) := by decide +kernel
theorem dX12_toleranceFor_39 : decode cX12_toleranceFor 39 = .ok (.iconst 0, 1) := by decide +kernel
theorem dX12_toleranceFor_40 : decode cX12_toleranceFor 40 = .ok (.istore_n 2, 1) := by decide +kernel
theorem dX12_toleranceFor_41 : decode cX12_toleranceFor 41 = .ok (.iload_n 2, 1) := by decide +kernel
theorem dX12_toleranceFor_42 : decode cX12_toleranceFor 42 = .ok (.bipush 100, 2) := by decide +kernel
theorem dX12_toleranceFor_44 : decode cX12_toleranceFor 44 = .ok (.if_icmp .ge 31, 3) := by decide +kernel
theorem dX12_toleranceFor_47 : decode cX12_toleranceFor 47 = .ok (.aload_n 0, 1) := by decide +kernel
theorem dX12_toleranceFor_48 : decode cX12_toleranceFor 48 = .ok (.getfield 19, 3) := by decide +kernel
theorem dX12_toleranceFor_51 : decode cX12_toleranceFor 51 = .ok (.bipush 7, 2) := by decide +kernel
theorem dX12_toleranceFor_53 : decode cX12_toleranceFor 53 = .ok (.iload_n 2, 1) := by decide +kernel
theorem dX12_toleranceFor_54 : decode cX12_toleranceFor 54 = .ok (.iastore, 1) := by decide +kernel
theorem dX12_toleranceFor_55 : decode cX12_toleranceFor 55 = .ok (.aload_n 0, 1) := by decide +kernel
theorem dX12_toleranceFor_56 : decode cX12_toleranceFor 56 = .ok (.aload_n 0, 1) := by decide +kernel
theorem dX12_toleranceFor_57 : decode cX12_toleranceFor 57 = .ok (.getfield 19, 3) := by decide +kernel
theorem dX12_toleranceFor_60 : decode cX12_toleranceFor 60 = .ok (.invokevirtual 103, 3) := by decide +kernel
theorem dX12_toleranceFor_63 : decode cX12_toleranceFor 63 = .ok (.iload_n 1, 1) := by decide +kernel
theorem dX12_toleranceFor_64 : decode cX12_toleranceFor 64 = .ok (.if_icmp .lt 5, 3) := by decide +kernel
theorem dX12_toleranceFor_67 : decode cX12_toleranceFor 67 = .ok (.iload_n 2, 1) := by decide +kernel
theorem dX12_toleranceFor_68 : decode cX12_toleranceFor 68 = .ok (.ireturn, 1) := by decide +kernel
theorem dX12_toleranceFor_69 : decode cX12_toleranceFor 69 = .ok (.iinc 2 1, 3) := by decide +kernel
theorem dX12_toleranceFor_72 : decode cX12_toleranceFor 72 = .ok (.goto (-31), 3) := by decide +kernel
theorem dX12_toleranceFor_75 : decode cX12_toleranceFor 75 = .ok (.ldc 74, 2) := by decide +kernel
theorem dX12_toleranceFor_77 : decode cX12_toleranceFor 77 = .ok (.ireturn, 1) := by decide +kernel
set_option maxRecDepth 20000 in
theorem ggX12_look_X12_tickOn : GoodIn wsX12_look wsX12_tickOn := goodIn_r _ [9, 10, 11, 8, 12, 13, 14, 15, 16, 17, 18, 19, 20, 21, 22, 23, 24, 25, 26, 27, 28, 29, 30] (by decide +kernel) (by decide +kernel)
set_option maxRecDepth 20000 in
theorem gX12_look_X12_tickOn : GoodIn wsX12_look (va_wsS RX12 67 yX12_tickOn wsX12_tickOn) := goodIn_app (goodIn_of _ (by decide +kernel)) ggX12_look_X12_tickOn
set_option maxRecDepth 20000 in
theorem ggX12_look_X12_size : GoodIn wsX12_look wsX12_size := goodIn_r _ [33] (by decide +kernel) (by decide +kernel)
set_option maxRecDepth 20000 in
theorem gX12_look_X12_size : GoodIn wsX12_look (va_wsS RX12 75 yX12_size wsX12_size) := goodIn_app (goodIn_of _ (by decide +kernel)) ggX12_look_X12_size
theorem dX12_look_0 : decode cX12_look 0 = .ok (.aload_n 0, 1) := by decide +kernel
theorem dX12_look_1 : decode cX12_look 1 = .ok (.iconst 0, 1) := by decide +kernel
theorem dX12_look_2 : decode cX12_look 2 = .ok (.putfield 208, 3) := by decide +kernel
theorem dX12_look_5 : decode cX12_look 5 = .ok (.aload_n 0, 1) := by decide +kernel
theorem dX12_look_6 : decode cX12_look 6 = .ok (.ldc 74, 2) := by decide +kernel
theorem dX12_look_8 : decode cX12_look 8 = .ok (.putfield 211, 3) := by decide +kernel
theorem dX12_look_11 : decode cX12_look 11 = .ok (.aload_n 0, 1) := by decide +kernel
theorem dX12_look_12 : decode cX12_look 12 = .ok (.iconst 0, 1) := by decide +kernel
theorem dX12_look_13 : decode cX12_look 13 = .ok (.putfield 214, 3) := by decide +kernel
theorem dX12_look_16 : decode cX12_look 16 = .ok (.iconst 0, 1) := by decide +kernel
theorem dX12_look_17 : decode cX12_look 17 = .ok (.istore_n 2, 1) := by decide +kernel
theorem dX12_look_18 : decode cX12_look 18 = .ok (.iload_n 2, 1) := by decide +kernel
theorem dX12_look_19 : decode cX12_look 19 = .ok (.iload_n 1, 1) := by decide +kernel
theorem dX12_look_20 : decode cX12_look 20 = .ok (.if_icmp .ge 90, 3) := by decide +kernel
theorem dX12_look_23 : decode cX12_look 23 = .ok (.aload_n 0, 1) := by decide +kernel
theorem dX12_look_24 : decode cX12_look 24 = .ok (.getfield 19, 3) := by decide +kernel
theorem dX12_look_27 : decode cX12_look 27 = .ok (.invokestatic 67, 3) := by decide +kernel
theorem dX12_look_30 : decode cX12_look 30 = .ok (.aload_n 0, 1) := by decide +kernel
theorem dX12_look_31 : decode cX12_look 31 = .ok (.dup, 1) := by decide +kernel
theorem dX12_look_32 : decode cX12_look 32 = .ok (.getfield 208, 3) := by decide +kernel
theorem dX12_look_35 : decode cX12_look 35 = .ok (.aload_n 0, 1) := by decide +kernel
theorem dX12_look_36 : decode cX12_look 36 = .ok (.getfield 19, 3) := by decide +kernel
theorem dX12_look_39 : decode cX12_look 39 = .ok (.bipush 18, 2) := by decide +kernel
theorem dX12_look_41 : decode cX12_look 41 = .ok (.iaload, 1) := by decide +kernel
theorem dX12_look_42 : decode cX12_look 42 = .ok (.iadd, 1) := by decide +kernel
theorem dX12_look_43 : decode cX12_look 43 = .ok (.putfield 208, 3) := by decide +kernel
theorem dX12_look_46 : decode cX12_look 46 = .ok (.aload_n 0, 1) := by decide +kernel
theorem dX12_look_47 : decode cX12_look 47 = .ok (.aload_n 0, 1) := by decide +kernel
theorem dX12_look_48 : decode cX12_look 48 = .ok (.getfield 19, 3) := by decide +kernel
theorem dX12_look_51 : decode cX12_look 51 = .ok (.bipush 12, 2) := by decide +kernel
theorem dX12_look_53 : decode cX12_look 53 = .ok (.iaload, 1) := by decide +kernel
theorem dX12_look_54 : decode cX12_look 54 = .ok (.aload_n 0, 1) := by decide +kernel
theorem dX12_look_55 : decode cX12_look 55 = .ok (.getfield 211, 3) := by decide +kernel
theorem dX12_look_58 : decode cX12_look 58 = .ok (.if_icmp .le 13, 3) := by decide +kernel
theorem dX12_look_61 : decode cX12_look 61 = .ok (.aload_n 0, 1) := by decide +kernel
theorem dX12_look_62 : decode cX12_look 62 = .ok (.getfield 19, 3) := by decide +kernel
theorem dX12_look_65 : decode cX12_look 65 = .ok (.bipush 12, 2) := by decide +kernel
theorem dX12_look_67 : decode cX12_look 67 = .ok (.iaload, 1) := by decide +kernel
theorem dX12_look_68 : decode cX12_look 68 = .ok (.goto 7, 3) := by decide +kernel
theorem dX12_look_71 : decode cX12_look 71 = .ok (.aload_n 0, 1) := by decide +kernel
theorem dX12_look_72 : decode cX12_look 72 = .ok (.getfield 211, 3) := by decide +kernel
theorem dX12_look_75 : decode cX12_look 75 = .ok (.putfield 211, 3) := by decide +kernel
theorem dX12_look_78 : decode cX12_look 78 = .ok (.aload_n 0, 1) := by decide +kernel
theorem dX12_look_79 : decode cX12_look 79 = .ok (.dup, 1) := by decide +kernel
theorem dX12_look_80 : decode cX12_look 80 = .ok (.getfield 214, 3) := by decide +kernel
theorem dX12_look_83 : decode cX12_look 83 = .ok (.aload_n 0, 1) := by decide +kernel
theorem dX12_look_84 : decode cX12_look 84 = .ok (.getfield 19, 3) := by decide +kernel
theorem dX12_look_87 : decode cX12_look 87 = .ok (.iconst 5, 1) := by decide +kernel
theorem dX12_look_88 : decode cX12_look 88 = .ok (.iaload, 1) := by decide +kernel
theorem dX12_look_89 : decode cX12_look 89 = .ok (.aload_n 0, 1) := by decide +kernel
theorem dX12_look_90 : decode cX12_look 90 = .ok (.getfield 19, 3) := by decide +kernel
theorem dX12_look_93 : decode cX12_look 93 = .ok (.bipush 12, 2) := by decide +kernel
theorem dX12_look_95 : decode cX12_look 95 = .ok (.iaload, 1) := by decide +kernel
theorem dX12_look_96 : decode cX12_look 96 = .ok (.isub, 1) := by decide +kernel
theorem dX12_look_97 : decode cX12_look 97 = .ok (.invokestatic 75, 3) := by decide +kernel
theorem dX12_look_100 : decode cX12_look 100 = .ok (.iadd, 1) := by decide +kernel
theorem dX12_look_101 : decode cX12_look 101 = .ok (.putfield 214, 3) := by decide +kernel
theorem dX12_look_104 : decode cX12_look 104 = .ok (.iinc 2 1, 3) := by decide +kernel
theorem dX12_look_107 : decode cX12_look 107 = .ok (.goto (-89), 3) := by decide +kernel
theorem dX12_look_110 : decode cX12_look 110 = .ok (.return_, 1) := by decide +kernel
theorem dX12_told_0 : decode cX12_told 0 = .ok (.iload_n 1, 1) := by decide +kernel
theorem dX12_told_1 : decode cX12_told 1 = .ok (.ifCond .ne 13, 3) := by decide +kernel
theorem dX12_told_4 : decode cX12_told 4 = .ok (.aload_n 0, 1) := by decide +kernel
theorem dX12_told_5 : decode cX12_told 5 = .ok (.getfield 19, 3) := by decide +kernel
theorem dX12_told_8 : decode cX12_told 8 = .ok (.bipush 12, 2) := by decide +kernel
theorem dX12_told_10 : decode cX12_told 10 = .ok (.iaload, 1) := by decide +kernel
theorem dX12_told_11 : decode cX12_told 11 = .ok (.goto 46, 3) := by decide +kernel
theorem dX12_told_14 : decode cX12_told 14 = .ok (.iload_n 1, 1) := by decide +kernel
theorem dX12_told_15 : decode cX12_told 15 = .ok (.iconst 1, 1) := by decide +kernel
theorem dX12_told_16 : decode cX12_told 16 = .ok (.if_icmp .ne 10, 3) := by decide +kernel
theorem dX12_told_19 : decode cX12_told 19 = .ok (.aload_n 0, 1) := by decide +kernel
theorem dX12_told_20 : decode cX12_told 20 = .ok (.getfield 208, 3) := by decide +kernel
theorem dX12_told_23 : decode cX12_told 23 = .ok (.goto 34, 3) := by decide +kernel
theorem dX12_told_26 : decode cX12_told 26 = .ok (.iload_n 1, 1) := by decide +kernel
theorem dX12_told_27 : decode cX12_told 27 = .ok (.iconst 2, 1) := by decide +kernel
theorem dX12_told_28 : decode cX12_told 28 = .ok (.if_icmp .ne 10, 3) := by decide +kernel
theorem dX12_told_31 : decode cX12_told 31 = .ok (.aload_n 0, 1) := by decide +kernel
theorem dX12_told_32 : decode cX12_told 32 = .ok (.getfield 211, 3) := by decide +kernel
theorem dX12_told_35 : decode cX12_told 35 = .ok (.goto 22, 3) := by decide +kernel
theorem dX12_told_38 : decode cX12_told 38 = .ok (.iload_n 1, 1) := by decide +kernel
theorem dX12_told_39 : decode cX12_told 39 = .ok (.iconst 3, 1) := by decide +kernel
theorem dX12_told_40 : decode cX12_told 40 = .ok (.if_icmp .ne 13, 3) := by decide +kernel
theorem dX12_told_43 : decode cX12_told 43 = .ok (.aload_n 0, 1) := by decide +kernel
theorem dX12_told_44 : decode cX12_told 44 = .ok (.getfield 19, 3) := by decide +kernel
theorem dX12_told_47 : decode cX12_told 47 = .ok (.bipush 16, 2) := by decide +kernel
theorem dX12_told_49 : decode cX12_told 49 = .ok (.iaload, 1) := by decide +kernel
theorem dX12_told_50 : decode cX12_told 50 = .ok (.goto 7, 3) := by decide +kernel
theorem dX12_told_53 : decode cX12_told 53 = .ok (.aload_n 0, 1) := by decide +kernel
theorem dX12_told_54 : decode cX12_told 54 = .ok (.getfield 214, 3) := by decide +kernel
theorem dX12_told_57 : decode cX12_told 57 = .ok (.ireturn, 1) := by decide +kernel
set_option maxRecDepth 20000 in
theorem ggX12_ahead_X12_in : GoodIn wsX12_ahead wsX12_in := goodIn_r _ [8] (by decide +kernel) (by decide +kernel)
set_option maxRecDepth 20000 in
theorem gX12_ahead_X12_in : GoodIn wsX12_ahead (va_wsS RX12 111 yX12_in wsX12_in) := goodIn_app (goodIn_of _ (by decide +kernel)) ggX12_ahead_X12_in
set_option maxRecDepth 20000 in
theorem ggX12_ahead_X12_refused : GoodIn wsX12_ahead wsX12_refused := goodIn_r _ [12, 13, 56, 57, 58, 59, 60, 61, 62, 63, 64, 65, 66, 67, 68, 69, 70] (by decide +kernel) (by decide +kernel)
set_option maxRecDepth 20000 in
theorem gX12_ahead_X12_refused : GoodIn wsX12_ahead (wsV RX12 118 RX12 yX12_refused wsX12_refused) := goodIn_app (goodIn_of _ (by decide +kernel)) ggX12_ahead_X12_refused
set_option maxRecDepth 20000 in
theorem ggX12_ahead_X12_copyPage : GoodIn wsX12_ahead wsX12_copyPage := goodIn_r _ [16] (by decide +kernel) (by decide +kernel)
set_option maxRecDepth 20000 in
theorem gX12_ahead_X12_copyPage : GoodIn wsX12_ahead (va_wsS RX12 141 yX12_copyPage wsX12_copyPage) := goodIn_app (goodIn_of _ (by decide +kernel)) ggX12_ahead_X12_copyPage
set_option maxRecDepth 20000 in
theorem ggX12_ahead_X12_look : GoodIn wsX12_ahead wsX12_look := goodIn_r _ [20, 21, 22, 23, 24, 4, 25, 26, 7, 27, 28, 29, 30, 31, 32, 33, 34, 35, 36, 37, 38, 39, 40, 41, 42, 43, 44, 45, 46, 47, 48, 49, 50, 51, 56, 57, 58, 59, 60, 61, 62, 63, 64, 65, 66, 67, 68, 69, 70] (by decide +kernel) (by decide +kernel)
set_option maxRecDepth 20000 in
theorem gX12_ahead_X12_look : GoodIn wsX12_ahead (wsV RX12 217 RX12 yX12_look wsX12_look) := goodIn_app (goodIn_of _ (by decide +kernel)) ggX12_ahead_X12_look
set_option maxRecDepth 20000 in
theorem ggX12_ahead_X12_told : GoodIn wsX12_ahead wsX12_told := goodIn_r _ [55, 4, 21, 23, 24, 56, 57, 58, 59, 60, 61, 62, 63, 64, 65, 66, 67, 68, 69, 70] (by decide +kernel) (by decide +kernel)
set_option maxRecDepth 20000 in
theorem gX12_ahead_X12_told : GoodIn wsX12_ahead (wsV RX12 221 RX12 yX12_told wsX12_told) := goodIn_app (goodIn_of _ (by decide +kernel)) ggX12_ahead_X12_told
theorem dX12_ahead_0 : decode cX12_ahead 0 = .ok (.aload_n 0, 1) := by decide +kernel
theorem dX12_ahead_1 : decode cX12_ahead 1 = .ok (.iload_n 1, 1) := by decide +kernel
theorem dX12_ahead_2 : decode cX12_ahead 2 = .ok (.i2l, 1) := by decide +kernel
theorem dX12_ahead_3 : decode cX12_ahead 3 = .ok (.lconst 0, 1) := by decide +kernel
theorem dX12_ahead_4 : decode cX12_ahead 4 = .ok (.ldc2_w 157, 3) := by decide +kernel
theorem dX12_ahead_7 : decode cX12_ahead 7 = .ok (.invokestatic 111, 3) := by decide +kernel
theorem dX12_ahead_10 : decode cX12_ahead 10 = .ok (.ifCond .eq 19, 3) := by decide +kernel
theorem dX12_ahead_13 : decode cX12_ahead 13 = .ok (.iload_n 2, 1) := by decide +kernel
theorem dX12_ahead_14 : decode cX12_ahead 14 = .ok (.i2l, 1) := by decide +kernel
theorem dX12_ahead_15 : decode cX12_ahead 15 = .ok (.lconst 0, 1) := by decide +kernel
theorem dX12_ahead_16 : decode cX12_ahead 16 = .ok (.ldc2_w 153, 3) := by decide +kernel
theorem dX12_ahead_19 : decode cX12_ahead 19 = .ok (.invokestatic 111, 3) := by decide +kernel
theorem dX12_ahead_22 : decode cX12_ahead 22 = .ok (.ifCond .eq 7, 3) := by decide +kernel
theorem dX12_ahead_25 : decode cX12_ahead 25 = .ok (.iconst 0, 1) := by decide +kernel
theorem dX12_ahead_26 : decode cX12_ahead 26 = .ok (.goto 4, 3) := by decide +kernel
theorem dX12_ahead_29 : decode cX12_ahead 29 = .ok (.iconst 1, 1) := by decide +kernel
theorem dX12_ahead_30 : decode cX12_ahead 30 = .ok (.invokevirtual 118, 3) := by decide +kernel
theorem dX12_ahead_33 : decode cX12_ahead 33 = .ok (.ifCond .eq 5, 3) := by decide +kernel
theorem dX12_ahead_36 : decode cX12_ahead 36 = .ok (.iconst 0, 1) := by decide +kernel
theorem dX12_ahead_37 : decode cX12_ahead 37 = .ok (.ireturn, 1) := by decide +kernel
theorem dX12_ahead_38 : decode cX12_ahead 38 = .ok (.aload_n 0, 1) := by decide +kernel
theorem dX12_ahead_39 : decode cX12_ahead 39 = .ok (.getfield 16, 3) := by decide +kernel
theorem dX12_ahead_42 : decode cX12_ahead 42 = .ok (.iconst 0, 1) := by decide +kernel
theorem dX12_ahead_43 : decode cX12_ahead 43 = .ok (.aload_n 0, 1) := by decide +kernel
theorem dX12_ahead_44 : decode cX12_ahead 44 = .ok (.getfield 19, 3) := by decide +kernel
theorem dX12_ahead_47 : decode cX12_ahead 47 = .ok (.iconst 0, 1) := by decide +kernel
theorem dX12_ahead_48 : decode cX12_ahead 48 = .ok (.invokestatic 141, 3) := by decide +kernel
theorem dX12_ahead_51 : decode cX12_ahead 51 = .ok (.aload_n 0, 1) := by decide +kernel
theorem dX12_ahead_52 : decode cX12_ahead 52 = .ok (.iload_n 1, 1) := by decide +kernel
theorem dX12_ahead_53 : decode cX12_ahead 53 = .ok (.invokevirtual 217, 3) := by decide +kernel
theorem dX12_ahead_56 : decode cX12_ahead 56 = .ok (.aload_n 0, 1) := by decide +kernel
theorem dX12_ahead_57 : decode cX12_ahead 57 = .ok (.iload_n 2, 1) := by decide +kernel
theorem dX12_ahead_58 : decode cX12_ahead 58 = .ok (.invokevirtual 221, 3) := by decide +kernel
theorem dX12_ahead_61 : decode cX12_ahead 61 = .ok (.ireturn, 1) := by decide +kernel
set_option maxRecDepth 20000 in
theorem ggX12_outcomeOf_X12_copyPage : GoodIn wsX12_outcomeOf wsX12_copyPage := goodIn_r _ [6] (by decide +kernel) (by decide +kernel)
set_option maxRecDepth 20000 in
theorem gX12_outcomeOf_X12_copyPage : GoodIn wsX12_outcomeOf (va_wsS RX12 141 yX12_copyPage wsX12_copyPage) := goodIn_app (goodIn_of _ (by decide +kernel)) ggX12_outcomeOf_X12_copyPage
set_option maxRecDepth 20000 in
theorem ggX12_outcomeOf_X12_ruleOn : GoodIn wsX12_outcomeOf wsX12_ruleOn := goodIn_r _ [10, 11, 12, 13, 5, 14, 15, 16, 17, 18, 19, 20, 21, 22, 23, 24, 25, 26, 27, 28, 29, 30, 31, 32, 33, 34, 35, 36, 37, 38, 39, 40, 41, 42, 43, 79, 80, 81, 82, 83, 84, 85, 86, 87, 88, 89, 90, 91, 92, 93] (by decide +kernel) (by decide +kernel)
set_option maxRecDepth 20000 in
theorem gX12_outcomeOf_X12_ruleOn : GoodIn wsX12_outcomeOf (wsV RX12 106 RX12 yX12_ruleOn wsX12_ruleOn) := goodIn_app (goodIn_of _ (by decide +kernel)) ggX12_outcomeOf_X12_ruleOn
set_option maxRecDepth 20000 in
theorem ggX12_outcomeOf_X12_look : GoodIn wsX12_outcomeOf wsX12_look := goodIn_r _ [47, 48, 28, 49, 50, 2, 51, 52, 5, 53, 54, 55, 56, 57, 58, 59, 60, 61, 62, 63, 64, 65, 66, 67, 68, 69, 70, 71, 72, 73, 74, 35, 36, 37, 79, 80, 81, 82, 83, 84, 85, 86, 87, 88, 89, 90, 91, 92, 93] (by decide +kernel) (by decide +kernel)
set_option maxRecDepth 20000 in
theorem gX12_outcomeOf_X12_look : GoodIn wsX12_outcomeOf (wsV RX12 217 RX12 yX12_look wsX12_look) := goodIn_app (goodIn_of _ (by decide +kernel)) ggX12_outcomeOf_X12_look
set_option maxRecDepth 20000 in
theorem ggX12_outcomeOf_X12_told : GoodIn wsX12_outcomeOf wsX12_told := goodIn_r _ [78, 2, 48, 49, 50, 79, 80, 81, 82, 83, 84, 85, 86, 87, 88, 89, 90, 91, 92, 93] (by decide +kernel) (by decide +kernel)
set_option maxRecDepth 20000 in
theorem gX12_outcomeOf_X12_told : GoodIn wsX12_outcomeOf (wsV RX12 221 RX12 yX12_told wsX12_told) := goodIn_app (goodIn_of _ (by decide +kernel)) ggX12_outcomeOf_X12_told
theorem dX12_outcomeOf_0 : decode cX12_outcomeOf 0 = .ok (.aload_n 0, 1) := by decide +kernel
theorem dX12_outcomeOf_1 : decode cX12_outcomeOf 1 = .ok (.getfield 16, 3) := by decide +kernel
theorem dX12_outcomeOf_4 : decode cX12_outcomeOf 4 = .ok (.iconst 0, 1) := by decide +kernel
theorem dX12_outcomeOf_5 : decode cX12_outcomeOf 5 = .ok (.aload_n 0, 1) := by decide +kernel
theorem dX12_outcomeOf_6 : decode cX12_outcomeOf 6 = .ok (.getfield 19, 3) := by decide +kernel
theorem dX12_outcomeOf_9 : decode cX12_outcomeOf 9 = .ok (.iconst 0, 1) := by decide +kernel
theorem dX12_outcomeOf_10 : decode cX12_outcomeOf 10 = .ok (.invokestatic 141, 3) := by decide +kernel
theorem dX12_outcomeOf_13 : decode cX12_outcomeOf 13 = .ok (.aload_n 0, 1) := by decide +kernel
theorem dX12_outcomeOf_14 : decode cX12_outcomeOf 14 = .ok (.aload_n 0, 1) := by decide +kernel
theorem dX12_outcomeOf_15 : decode cX12_outcomeOf 15 = .ok (.getfield 19, 3) := by decide +kernel
theorem dX12_outcomeOf_18 : decode cX12_outcomeOf 18 = .ok (.iload_n 1, 1) := by decide +kernel
theorem dX12_outcomeOf_19 : decode cX12_outcomeOf 19 = .ok (.invokevirtual 106, 3) := by decide +kernel
theorem dX12_outcomeOf_22 : decode cX12_outcomeOf 22 = .ok (.aload_n 0, 1) := by decide +kernel
theorem dX12_outcomeOf_23 : decode cX12_outcomeOf 23 = .ok (.iload_n 2, 1) := by decide +kernel
theorem dX12_outcomeOf_24 : decode cX12_outcomeOf 24 = .ok (.invokevirtual 217, 3) := by decide +kernel
theorem dX12_outcomeOf_27 : decode cX12_outcomeOf 27 = .ok (.aload_n 0, 1) := by decide +kernel
theorem dX12_outcomeOf_28 : decode cX12_outcomeOf 28 = .ok (.iload_n 3, 1) := by decide +kernel
theorem dX12_outcomeOf_29 : decode cX12_outcomeOf 29 = .ok (.invokevirtual 221, 3) := by decide +kernel
theorem dX12_outcomeOf_32 : decode cX12_outcomeOf 32 = .ok (.ireturn, 1) := by decide +kernel
set_option maxRecDepth 20000 in
theorem ggX12_outcome_X12_isRule : GoodIn wsX12_outcome wsX12_isRule := goodIn_r _ [8, 9, 10, 11, 7, 12] (by decide +kernel) (by decide +kernel)
set_option maxRecDepth 20000 in
theorem gX12_outcome_X12_isRule : GoodIn wsX12_outcome (va_wsS RX12 195 yX12_isRule wsX12_isRule) := goodIn_app (goodIn_of _ (by decide +kernel)) ggX12_outcome_X12_isRule
set_option maxRecDepth 20000 in
theorem ggX12_outcome_X12_in : GoodIn wsX12_outcome wsX12_in := goodIn_r _ [12] (by decide +kernel) (by decide +kernel)
set_option maxRecDepth 20000 in
theorem gX12_outcome_X12_in : GoodIn wsX12_outcome (va_wsS RX12 111 yX12_in wsX12_in) := goodIn_app (goodIn_of _ (by decide +kernel)) ggX12_outcome_X12_in
set_option maxRecDepth 20000 in
theorem ggX12_outcome_X12_refused : GoodIn wsX12_outcome wsX12_refused := goodIn_r _ [16, 17, 101, 102, 103, 104, 105, 106, 107, 108, 109, 110, 111, 112, 113, 114, 115] (by decide +kernel) (by decide +kernel)
set_option maxRecDepth 20000 in
theorem gX12_outcome_X12_refused : GoodIn wsX12_outcome (wsV RX12 118 RX12 yX12_refused wsX12_refused) := goodIn_app (goodIn_of _ (by decide +kernel)) ggX12_outcome_X12_refused
set_option maxRecDepth 20000 in
theorem ggX12_outcome_X12_goodOf : GoodIn wsX12_outcome wsX12_goodOf := goodIn_r _ [21, 22, 23, 24, 7, 25, 26, 27, 28, 29, 30, 4, 31, 32, 33, 34, 35, 36, 37, 38, 39, 101, 102, 103, 104, 105, 106, 107, 108, 109, 110, 111, 112, 113, 114, 115] (by decide +kernel) (by decide +kernel)
set_option maxRecDepth 20000 in
theorem gX12_outcome_X12_goodOf : GoodIn wsX12_outcome (wsV RX12 103 RX12 yX12_goodOf wsX12_goodOf) := goodIn_app (goodIn_of _ (by decide +kernel)) ggX12_outcome_X12_goodOf
set_option maxRecDepth 20000 in
theorem ggX12_outcome_X12_outcomeOf : GoodIn wsX12_outcome wsX12_outcomeOf := goodIn_r _ [43, 3, 44, 45, 46, 7, 47, 48, 49, 50, 51, 52, 53, 54, 55, 56, 57, 58, 59, 22, 23, 24, 25, 26, 27, 28, 29, 30, 4, 31, 32, 33, 34, 35, 36, 37, 38, 39, 60, 61, 62, 63, 64, 65, 66, 67, 68, 69, 70, 71, 72, 73, 74, 75, 76, 77, 78, 79, 80, 81, 82, 83, 84, 85, 86, 87, 88, 89, 90, 91, 92, 93, 94, 95, 96, 97, 98, 99, 100, 101, 102, 103, 104, 105, 106, 107, 108, 109, 110, 111, 112, 113, 114, 115] (by decide +kernel) (by decide +kernel)
set_option maxRecDepth 20000 in
theorem gX12_outcome_X12_outcomeOf : GoodIn wsX12_outcome (wsV RX12 224 RX12 yX12_outcomeOf wsX12_outcomeOf) := goodIn_app (goodIn_of _ (by decide +kernel)) ggX12_outcome_X12_outcomeOf
theorem dX12_outcome_0 : decode cX12_outcome 0 = .ok (.aload_n 0, 1) := by decide +kernel
theorem dX12_outcome_1 : decode cX12_outcome 1 = .ok (.iload_n 1, 1) := by decide +kernel
theorem dX12_outcome_2 : decode cX12_outcome 2 = .ok (.invokestatic 195, 3) := by decide +kernel
theorem dX12_outcome_5 : decode cX12_outcome 5 = .ok (.ifCond .ne 7, 3) := by decide +kernel
theorem dX12_outcome_8 : decode cX12_outcome 8 = .ok (.iconst 1, 1) := by decide +kernel
theorem dX12_outcome_9 : decode cX12_outcome 9 = .ok (.goto 32, 3) := by decide +kernel
theorem dX12_outcome_12 : decode cX12_outcome 12 = .ok (.iload_n 2, 1) := by decide +kernel
theorem dX12_outcome_13 : decode cX12_outcome 13 = .ok (.i2l, 1) := by decide +kernel
theorem dX12_outcome_14 : decode cX12_outcome 14 = .ok (.lconst 1, 1) := by decide +kernel
theorem dX12_outcome_15 : decode cX12_outcome 15 = .ok (.ldc2_w 157, 3) := by decide +kernel
theorem dX12_outcome_18 : decode cX12_outcome 18 = .ok (.invokestatic 111, 3) := by decide +kernel
theorem dX12_outcome_21 : decode cX12_outcome 21 = .ok (.ifCond .eq 15, 3) := by decide +kernel
theorem dX12_outcome_24 : decode cX12_outcome 24 = .ok (.iload_n 3, 1) := by decide +kernel
theorem dX12_outcome_25 : decode cX12_outcome 25 = .ok (.i2l, 1) := by decide +kernel
theorem dX12_outcome_26 : decode cX12_outcome 26 = .ok (.lconst 0, 1) := by decide +kernel
theorem dX12_outcome_27 : decode cX12_outcome 27 = .ok (.ldc2_w 153, 3) := by decide +kernel
theorem dX12_outcome_30 : decode cX12_outcome 30 = .ok (.invokestatic 111, 3) := by decide +kernel
theorem dX12_outcome_33 : decode cX12_outcome 33 = .ok (.ifCond .ne 7, 3) := by decide +kernel
theorem dX12_outcome_36 : decode cX12_outcome 36 = .ok (.iconst 2, 1) := by decide +kernel
theorem dX12_outcome_37 : decode cX12_outcome 37 = .ok (.goto 4, 3) := by decide +kernel
theorem dX12_outcome_40 : decode cX12_outcome 40 = .ok (.iconst 0, 1) := by decide +kernel
theorem dX12_outcome_41 : decode cX12_outcome 41 = .ok (.invokevirtual 118, 3) := by decide +kernel
theorem dX12_outcome_44 : decode cX12_outcome 44 = .ok (.ifCond .eq 5, 3) := by decide +kernel
theorem dX12_outcome_47 : decode cX12_outcome 47 = .ok (.iconst 0, 1) := by decide +kernel
theorem dX12_outcome_48 : decode cX12_outcome 48 = .ok (.ireturn, 1) := by decide +kernel
theorem dX12_outcome_49 : decode cX12_outcome 49 = .ok (.aload_n 0, 1) := by decide +kernel
theorem dX12_outcome_50 : decode cX12_outcome 50 = .ok (.aload_n 0, 1) := by decide +kernel
theorem dX12_outcome_51 : decode cX12_outcome 51 = .ok (.getfield 16, 3) := by decide +kernel
theorem dX12_outcome_54 : decode cX12_outcome 54 = .ok (.invokevirtual 103, 3) := by decide +kernel
theorem dX12_outcome_57 : decode cX12_outcome 57 = .ok (.ifCond .ne 8, 3) := by decide +kernel
theorem dX12_outcome_60 : decode cX12_outcome 60 = .ok (.ldc 74, 2) := by decide +kernel
theorem dX12_outcome_62 : decode cX12_outcome 62 = .ok (.goto 10, 3) := by decide +kernel
theorem dX12_outcome_65 : decode cX12_outcome 65 = .ok (.aload_n 0, 1) := by decide +kernel
theorem dX12_outcome_66 : decode cX12_outcome 66 = .ok (.iload_n 1, 1) := by decide +kernel
theorem dX12_outcome_67 : decode cX12_outcome 67 = .ok (.iload_n 2, 1) := by decide +kernel
theorem dX12_outcome_68 : decode cX12_outcome 68 = .ok (.iload_n 3, 1) := by decide +kernel
theorem dX12_outcome_69 : decode cX12_outcome 69 = .ok (.invokevirtual 224, 3) := by decide +kernel
theorem dX12_outcome_72 : decode cX12_outcome 72 = .ok (.ireturn, 1) := by decide +kernel
set_option maxRecDepth 20000 in
theorem ggX12_bestRule_X12_in : GoodIn wsX12_bestRule wsX12_in := goodIn_r _ [7] (by decide +kernel) (by decide +kernel)
set_option maxRecDepth 20000 in
theorem gX12_bestRule_X12_in : GoodIn wsX12_bestRule (va_wsS RX12 111 yX12_in wsX12_in) := goodIn_app (goodIn_of _ (by decide +kernel)) ggX12_bestRule_X12_in
set_option maxRecDepth 20000 in
theorem ggX12_bestRule_X12_refused : GoodIn wsX12_bestRule wsX12_refused := goodIn_r _ [11, 12, 96, 97, 98, 99, 100, 101, 102, 103, 104, 105, 106, 107, 108, 109, 110] (by decide +kernel) (by decide +kernel)
set_option maxRecDepth 20000 in
theorem gX12_bestRule_X12_refused : GoodIn wsX12_bestRule (wsV RX12 118 RX12 yX12_refused wsX12_refused) := goodIn_app (goodIn_of _ (by decide +kernel)) ggX12_bestRule_X12_refused
set_option maxRecDepth 20000 in
theorem ggX12_bestRule_X12_goodOf : GoodIn wsX12_bestRule wsX12_goodOf := goodIn_r _ [16, 17, 18, 19, 6, 20, 21, 22, 23, 24, 25, 2, 26, 27, 28, 29, 30, 31, 32, 33, 34, 96, 97, 98, 99, 100, 101, 102, 103, 104, 105, 106, 107, 108, 109, 110] (by decide +kernel) (by decide +kernel)
set_option maxRecDepth 20000 in
theorem gX12_bestRule_X12_goodOf : GoodIn wsX12_bestRule (wsV RX12 103 RX12 yX12_goodOf wsX12_goodOf) := goodIn_app (goodIn_of _ (by decide +kernel)) ggX12_bestRule_X12_goodOf
set_option maxRecDepth 20000 in
theorem ggX12_bestRule_X12_outcomeOf : GoodIn wsX12_bestRule wsX12_outcomeOf := goodIn_r _ [38, 3, 39, 40, 41, 6, 42, 43, 44, 45, 46, 47, 48, 49, 50, 51, 52, 53, 54, 17, 18, 19, 20, 21, 22, 23, 24, 25, 2, 26, 27, 28, 29, 30, 31, 32, 33, 34, 55, 56, 57, 58, 59, 60, 61, 62, 63, 64, 65, 66, 67, 68, 69, 70, 71, 72, 73, 74, 75, 76, 77, 78, 79, 80, 81, 82, 83, 84, 85, 86, 87, 88, 89, 90, 91, 92, 93, 94, 95, 96, 97, 98, 99, 100, 101, 102, 103, 104, 105, 106, 107, 108, 109, 110] (by decide +kernel) (by decide +kernel)
set_option maxRecDepth 20000 in
theorem gX12_bestRule_X12_outcomeOf : GoodIn wsX12_bestRule (wsV RX12 224 RX12 yX12_outcomeOf wsX12_outcomeOf) := goodIn_app (goodIn_of _ (by decide +kernel)) ggX12_bestRule_X12_outcomeOf
theorem dX12_bestRule_0 : decode cX12_bestRule 0 = .ok (.aload_n 0, 1) := by decide +kernel
theorem dX12_bestRule_1 : decode cX12_bestRule 1 = .ok (.iload_n 1, 1) := by decide +kernel
theorem dX12_bestRule_2 : decode cX12_bestRule 2 = .ok (.i2l, 1) := by decide +kernel
theorem dX12_bestRule_3 : decode cX12_bestRule 3 = .ok (.lconst 1, 1) := by decide +kernel
theorem dX12_bestRule_4 : decode cX12_bestRule 4 = .ok (.ldc2_w 157, 3) := by decide +kernel
theorem dX12_bestRule_7 : decode cX12_bestRule 7 = .ok (.invokestatic 111, 3) := by decide +kernel
theorem dX12_bestRule_10 : decode cX12_bestRule 10 = .ok (.ifCond .eq 7, 3) := by decide +kernel
theorem dX12_bestRule_13 : decode cX12_bestRule 13 = .ok (.iconst 0, 1) := by decide +kernel
theorem dX12_bestRule_14 : decode cX12_bestRule 14 = .ok (.goto 4, 3) := by decide +kernel
theorem dX12_bestRule_17 : decode cX12_bestRule 17 = .ok (.iconst 1, 1) := by decide +kernel
theorem dX12_bestRule_18 : decode cX12_bestRule 18 = .ok (.invokevirtual 118, 3) := by decide +kernel
theorem dX12_bestRule_21 : decode cX12_bestRule 21 = .ok (.ifCond .eq 5, 3) := by decide +kernel
theorem dX12_bestRule_24 : decode cX12_bestRule 24 = .ok (.iconst 0, 1) := by decide +kernel
theorem dX12_bestRule_25 : decode cX12_bestRule 25 = .ok (.ireturn, 1) := by decide +kernel
theorem dX12_bestRule_26 : decode cX12_bestRule 26 = .ok (.ldc 74, 2) := by decide +kernel
theorem dX12_bestRule_28 : decode cX12_bestRule 28 = .ok (.istore_n 2, 1) := by decide +kernel
theorem dX12_bestRule_29 : decode cX12_bestRule 29 = .ok (.iconst 0, 1) := by decide +kernel
theorem dX12_bestRule_30 : decode cX12_bestRule 30 = .ok (.istore_n 3, 1) := by decide +kernel
theorem dX12_bestRule_31 : decode cX12_bestRule 31 = .ok (.iconst 0, 1) := by decide +kernel
theorem dX12_bestRule_32 : decode cX12_bestRule 32 = .ok (.istore 4, 2) := by decide +kernel
theorem dX12_bestRule_34 : decode cX12_bestRule 34 = .ok (.iload 4, 2) := by decide +kernel
theorem dX12_bestRule_36 : decode cX12_bestRule 36 = .ok (.iconst 4, 1) := by decide +kernel
theorem dX12_bestRule_37 : decode cX12_bestRule 37 = .ok (.if_icmp .ge 73, 3) := by decide +kernel
theorem dX12_bestRule_40 : decode cX12_bestRule 40 = .ok (.aload_n 0, 1) := by decide +kernel
theorem dX12_bestRule_41 : decode cX12_bestRule 41 = .ok (.aload_n 0, 1) := by decide +kernel
theorem dX12_bestRule_42 : decode cX12_bestRule 42 = .ok (.getfield 16, 3) := by decide +kernel
theorem dX12_bestRule_45 : decode cX12_bestRule 45 = .ok (.invokevirtual 103, 3) := by decide +kernel
theorem dX12_bestRule_48 : decode cX12_bestRule 48 = .ok (.ifCond .le 62, 3) := by decide +kernel
theorem dX12_bestRule_51 : decode cX12_bestRule 51 = .ok (.aload_n 0, 1) := by decide +kernel
theorem dX12_bestRule_52 : decode cX12_bestRule 52 = .ok (.iload 4, 2) := by decide +kernel
theorem dX12_bestRule_54 : decode cX12_bestRule 54 = .ok (.iload_n 1, 1) := by decide +kernel
theorem dX12_bestRule_55 : decode cX12_bestRule 55 = .ok (.iconst 4, 1) := by decide +kernel
theorem dX12_bestRule_56 : decode cX12_bestRule 56 = .ok (.invokevirtual 224, 3) := by decide +kernel
theorem dX12_bestRule_59 : decode cX12_bestRule 59 = .ok (.istore 5, 2) := by decide +kernel
theorem dX12_bestRule_61 : decode cX12_bestRule 61 = .ok (.iload_n 2, 1) := by decide +kernel
theorem dX12_bestRule_62 : decode cX12_bestRule 62 = .ok (.ldc 74, 2) := by decide +kernel
theorem dX12_bestRule_64 : decode cX12_bestRule 64 = .ok (.if_icmp .eq 9, 3) := by decide +kernel
theorem dX12_bestRule_67 : decode cX12_bestRule 67 = .ok (.iload 5, 2) := by decide +kernel
theorem dX12_bestRule_69 : decode cX12_bestRule 69 = .ok (.iload_n 3, 1) := by decide +kernel
theorem dX12_bestRule_70 : decode cX12_bestRule 70 = .ok (.if_icmp .ge 7, 3) := by decide +kernel
theorem dX12_bestRule_73 : decode cX12_bestRule 73 = .ok (.iconst 1, 1) := by decide +kernel
theorem dX12_bestRule_74 : decode cX12_bestRule 74 = .ok (.goto 4, 3) := by decide +kernel
theorem dX12_bestRule_77 : decode cX12_bestRule 77 = .ok (.iconst 0, 1) := by decide +kernel
theorem dX12_bestRule_78 : decode cX12_bestRule 78 = .ok (.istore 6, 2) := by decide +kernel
theorem dX12_bestRule_80 : decode cX12_bestRule 80 = .ok (.iload 6, 2) := by decide +kernel
theorem dX12_bestRule_82 : decode cX12_bestRule 82 = .ok (.ifCond .eq 8, 3) := by decide +kernel
theorem dX12_bestRule_85 : decode cX12_bestRule 85 = .ok (.iload 4, 2) := by decide +kernel
theorem dX12_bestRule_87 : decode cX12_bestRule 87 = .ok (.goto 4, 3) := by decide +kernel
theorem dX12_bestRule_90 : decode cX12_bestRule 90 = .ok (.iload_n 2, 1) := by decide +kernel
theorem dX12_bestRule_91 : decode cX12_bestRule 91 = .ok (.istore_n 2, 1) := by decide +kernel
theorem dX12_bestRule_92 : decode cX12_bestRule 92 = .ok (.iload 6, 2) := by decide +kernel
theorem dX12_bestRule_94 : decode cX12_bestRule 94 = .ok (.ifCond .eq 8, 3) := by decide +kernel
theorem dX12_bestRule_97 : decode cX12_bestRule 97 = .ok (.iload 5, 2) := by decide +kernel
theorem dX12_bestRule_99 : decode cX12_bestRule 99 = .ok (.goto 4, 3) := by decide +kernel
theorem dX12_bestRule_102 : decode cX12_bestRule 102 = .ok (.iload_n 3, 1) := by decide +kernel
theorem dX12_bestRule_103 : decode cX12_bestRule 103 = .ok (.istore_n 3, 1) := by decide +kernel
theorem dX12_bestRule_104 : decode cX12_bestRule 104 = .ok (.iinc 4 1, 3) := by decide +kernel
theorem dX12_bestRule_107 : decode cX12_bestRule 107 = .ok (.goto (-73), 3) := by decide +kernel
theorem dX12_bestRule_110 : decode cX12_bestRule 110 = .ok (.iload_n 2, 1) := by decide +kernel
theorem dX12_bestRule_111 : decode cX12_bestRule 111 = .ok (.ireturn, 1) := by decide +kernel
set_option maxRecDepth 20000 in
theorem ggX12_settlesAfter_X12_in : GoodIn wsX12_settlesAfter wsX12_in := goodIn_r _ [8] (by decide +kernel) (by decide +kernel)
set_option maxRecDepth 20000 in
theorem gX12_settlesAfter_X12_in : GoodIn wsX12_settlesAfter (va_wsS RX12 111 yX12_in wsX12_in) := goodIn_app (goodIn_of _ (by decide +kernel)) ggX12_settlesAfter_X12_in
set_option maxRecDepth 20000 in
theorem ggX12_settlesAfter_X12_refused : GoodIn wsX12_settlesAfter wsX12_refused := goodIn_r _ [12, 13, 44, 45, 46, 47, 48, 49, 50, 51, 52, 53, 54, 55, 56, 57, 58] (by decide +kernel) (by decide +kernel)
set_option maxRecDepth 20000 in
theorem gX12_settlesAfter_X12_refused : GoodIn wsX12_settlesAfter (wsV RX12 118 RX12 yX12_refused wsX12_refused) := goodIn_app (goodIn_of _ (by decide +kernel)) ggX12_settlesAfter_X12_refused
set_option maxRecDepth 20000 in
theorem ggX12_settlesAfter_X12_copyPage : GoodIn wsX12_settlesAfter wsX12_copyPage := goodIn_r _ [16] (by decide +kernel) (by decide +kernel)
set_option maxRecDepth 20000 in
theorem gX12_settlesAfter_X12_copyPage : GoodIn wsX12_settlesAfter (va_wsS RX12 141 yX12_copyPage wsX12_copyPage) := goodIn_app (goodIn_of _ (by decide +kernel)) ggX12_settlesAfter_X12_copyPage
set_option maxRecDepth 20000 in
theorem ggX12_settlesAfter_X12_size : GoodIn wsX12_settlesAfter wsX12_size := goodIn_r _ [19] (by decide +kernel) (by decide +kernel)
set_option maxRecDepth 20000 in
theorem gX12_settlesAfter_X12_size : GoodIn wsX12_settlesAfter (va_wsS RX12 75 yX12_size wsX12_size) := goodIn_app (goodIn_of _ (by decide +kernel)) ggX12_settlesAfter_X12_size
set_option maxRecDepth 20000 in
theorem ggX12_settlesAfter_X12_tickOn : GoodIn wsX12_settlesAfter wsX12_tickOn := goodIn_r _ [22, 23, 24, 7, 25, 26, 27, 28, 29, 30, 31, 32, 33, 34, 35, 36, 37, 38, 39, 40, 41, 42, 43] (by decide +kernel) (by decide +kernel)
set_option maxRecDepth 20000 in
theorem gX12_settlesAfter_X12_tickOn : GoodIn wsX12_settlesAfter (va_wsS RX12 67 yX12_tickOn wsX12_tickOn) := goodIn_app (goodIn_of _ (by decide +kernel)) ggX12_settlesAfter_X12_tickOn
theorem dX12_settlesAfter_0 : decode cX12_settlesAfter 0 = .ok (.aload_n 0, 1) := by decide +kernel
theorem dX12_settlesAfter_1 : decode cX12_settlesAfter 1 = .ok (.iload_n 1, 1) := by decide +kernel
theorem dX12_settlesAfter_2 : decode cX12_settlesAfter 2 = .ok (.i2l, 1) := by decide +kernel
theorem dX12_settlesAfter_3 : decode cX12_settlesAfter 3 = .ok (.lconst 0, 1) := by decide +kernel
theorem dX12_settlesAfter_4 : decode cX12_settlesAfter 4 = .ok (.ldc2_w 174, 3) := by decide +kernel
theorem dX12_settlesAfter_7 : decode cX12_settlesAfter 7 = .ok (.invokestatic 111, 3) := by decide +kernel
theorem dX12_settlesAfter_10 : decode cX12_settlesAfter 10 = .ok (.ifCond .eq 7, 3) := by decide +kernel
theorem dX12_settlesAfter_13 : decode cX12_settlesAfter 13 = .ok (.iconst 0, 1) := by decide +kernel
theorem dX12_settlesAfter_14 : decode cX12_settlesAfter 14 = .ok (.goto 4, 3) := by decide +kernel
theorem dX12_settlesAfter_17 : decode cX12_settlesAfter 17 = .ok (.iconst 1, 1) := by decide +kernel
theorem dX12_settlesAfter_18 : decode cX12_settlesAfter 18 = .ok (.invokevirtual 118, 3) := by decide +kernel
theorem dX12_settlesAfter_21 : decode cX12_settlesAfter 21 = .ok (.ifCond .eq 5, 3) := by decide +kernel
theorem dX12_settlesAfter_24 : decode cX12_settlesAfter 24 = .ok (.iconst 0, 1) := by decide +kernel
theorem dX12_settlesAfter_25 : decode cX12_settlesAfter 25 = .ok (.ireturn, 1) := by decide +kernel
theorem dX12_settlesAfter_26 : decode cX12_settlesAfter 26 = .ok (.aload_n 0, 1) := by decide +kernel
theorem dX12_settlesAfter_27 : decode cX12_settlesAfter 27 = .ok (.getfield 16, 3) := by decide +kernel
theorem dX12_settlesAfter_30 : decode cX12_settlesAfter 30 = .ok (.iconst 0, 1) := by decide +kernel
theorem dX12_settlesAfter_31 : decode cX12_settlesAfter 31 = .ok (.aload_n 0, 1) := by decide +kernel
theorem dX12_settlesAfter_32 : decode cX12_settlesAfter 32 = .ok (.getfield 19, 3) := by decide +kernel
theorem dX12_settlesAfter_35 : decode cX12_settlesAfter 35 = .ok (.iconst 0, 1) := by decide +kernel
theorem dX12_settlesAfter_36 : decode cX12_settlesAfter 36 = .ok (.invokestatic 141, 3) := by decide +kernel
theorem dX12_settlesAfter_39 : decode cX12_settlesAfter 39 = .ok (.ldc 74, 2) := by decide +kernel
theorem dX12_settlesAfter_41 : decode cX12_settlesAfter 41 = .ok (.istore_n 2, 1) := by decide +kernel
theorem dX12_settlesAfter_42 : decode cX12_settlesAfter 42 = .ok (.iconst 0, 1) := by decide +kernel
theorem dX12_settlesAfter_43 : decode cX12_settlesAfter 43 = .ok (.istore_n 3, 1) := by decide +kernel
theorem dX12_settlesAfter_44 : decode cX12_settlesAfter 44 = .ok (.iload_n 3, 1) := by decide +kernel
theorem dX12_settlesAfter_45 : decode cX12_settlesAfter 45 = .ok (.sipush 200, 3) := by decide +kernel
theorem dX12_settlesAfter_48 : decode cX12_settlesAfter 48 = .ok (.if_icmp .gt 66, 3) := by decide +kernel
theorem dX12_settlesAfter_51 : decode cX12_settlesAfter 51 = .ok (.aload_n 0, 1) := by decide +kernel
theorem dX12_settlesAfter_52 : decode cX12_settlesAfter 52 = .ok (.getfield 19, 3) := by decide +kernel
theorem dX12_settlesAfter_55 : decode cX12_settlesAfter 55 = .ok (.iconst 5, 1) := by decide +kernel
theorem dX12_settlesAfter_56 : decode cX12_settlesAfter 56 = .ok (.iaload, 1) := by decide +kernel
theorem dX12_settlesAfter_57 : decode cX12_settlesAfter 57 = .ok (.aload_n 0, 1) := by decide +kernel
theorem dX12_settlesAfter_58 : decode cX12_settlesAfter 58 = .ok (.getfield 19, 3) := by decide +kernel
theorem dX12_settlesAfter_61 : decode cX12_settlesAfter 61 = .ok (.bipush 12, 2) := by decide +kernel
theorem dX12_settlesAfter_63 : decode cX12_settlesAfter 63 = .ok (.iaload, 1) := by decide +kernel
theorem dX12_settlesAfter_64 : decode cX12_settlesAfter 64 = .ok (.isub, 1) := by decide +kernel
theorem dX12_settlesAfter_65 : decode cX12_settlesAfter 65 = .ok (.invokestatic 75, 3) := by decide +kernel
theorem dX12_settlesAfter_68 : decode cX12_settlesAfter 68 = .ok (.iload_n 1, 1) := by decide +kernel
theorem dX12_settlesAfter_69 : decode cX12_settlesAfter 69 = .ok (.if_icmp .gt 7, 3) := by decide +kernel
theorem dX12_settlesAfter_72 : decode cX12_settlesAfter 72 = .ok (.iconst 1, 1) := by decide +kernel
theorem dX12_settlesAfter_73 : decode cX12_settlesAfter 73 = .ok (.goto 4, 3) := by decide +kernel
theorem dX12_settlesAfter_76 : decode cX12_settlesAfter 76 = .ok (.iconst 0, 1) := by decide +kernel
theorem dX12_settlesAfter_77 : decode cX12_settlesAfter 77 = .ok (.istore 4, 2) := by decide +kernel
theorem dX12_settlesAfter_79 : decode cX12_settlesAfter 79 = .ok (.iload 4, 2) := by decide +kernel
theorem dX12_settlesAfter_81 : decode cX12_settlesAfter 81 = .ok (.ifCond .ne 8, 3) := by decide +kernel
theorem dX12_settlesAfter_84 : decode cX12_settlesAfter 84 = .ok (.ldc 74, 2) := by decide +kernel
theorem dX12_settlesAfter_86 : decode cX12_settlesAfter 86 = .ok (.goto 14, 3) := by decide +kernel
theorem dX12_settlesAfter_89 : decode cX12_settlesAfter 89 = .ok (.iload_n 2, 1) := by decide +kernel
theorem dX12_settlesAfter_90 : decode cX12_settlesAfter 90 = .ok (.ldc 74, 2) := by decide +kernel
theorem dX12_settlesAfter_92 : decode cX12_settlesAfter 92 = .ok (.if_icmp .ne 7, 3) := by decide +kernel
theorem dX12_settlesAfter_95 : decode cX12_settlesAfter 95 = .ok (.iload_n 3, 1) := by decide +kernel
theorem dX12_settlesAfter_96 : decode cX12_settlesAfter 96 = .ok (.goto 4, 3) := by decide +kernel
theorem dX12_settlesAfter_99 : decode cX12_settlesAfter 99 = .ok (.iload_n 2, 1) := by decide +kernel
theorem dX12_settlesAfter_100 : decode cX12_settlesAfter 100 = .ok (.istore_n 2, 1) := by decide +kernel
theorem dX12_settlesAfter_101 : decode cX12_settlesAfter 101 = .ok (.aload_n 0, 1) := by decide +kernel
theorem dX12_settlesAfter_102 : decode cX12_settlesAfter 102 = .ok (.getfield 19, 3) := by decide +kernel
theorem dX12_settlesAfter_105 : decode cX12_settlesAfter 105 = .ok (.invokestatic 67, 3) := by decide +kernel
theorem dX12_settlesAfter_108 : decode cX12_settlesAfter 108 = .ok (.iinc 3 1, 3) := by decide +kernel
theorem dX12_settlesAfter_111 : decode cX12_settlesAfter 111 = .ok (.goto (-67), 3) := by decide +kernel
theorem dX12_settlesAfter_114 : decode cX12_settlesAfter 114 = .ok (.iload_n 2, 1) := by decide +kernel
theorem dX12_settlesAfter_115 : decode cX12_settlesAfter 115 = .ok (.ireturn, 1) := by decide +kernel
set_option maxRecDepth 20000 in
theorem ggX12_does_X12_in : GoodIn wsX12_does wsX12_in := goodIn_r _ [6] (by decide +kernel) (by decide +kernel)
set_option maxRecDepth 20000 in
theorem gX12_does_X12_in : GoodIn wsX12_does (va_wsS RX12 111 yX12_in wsX12_in) := goodIn_app (goodIn_of _ (by decide +kernel)) ggX12_does_X12_in
set_option maxRecDepth 20000 in
theorem ggX12_does_X12_ticksOn : GoodIn wsX12_does wsX12_ticksOn := goodIn_r _ [9, 10, 11, 5, 12, 13, 14, 15, 16, 17, 18, 19, 20, 21, 22, 23, 24, 25, 26, 27, 28, 29, 30, 31, 32, 33] (by decide +kernel) (by decide +kernel)
set_option maxRecDepth 20000 in
theorem gX12_does_X12_ticksOn : GoodIn wsX12_does (va_wsS RX12 162 yX12_ticksOn wsX12_ticksOn) := goodIn_app (goodIn_of _ (by decide +kernel)) ggX12_does_X12_ticksOn
set_option maxRecDepth 20000 in
theorem ggX12_does_X12_isMode : GoodIn wsX12_does wsX12_isMode := goodIn_r _ [36, 37, 3, 4, 5, 6] (by decide +kernel) (by decide +kernel)
set_option maxRecDepth 20000 in
theorem gX12_does_X12_isMode : GoodIn wsX12_does (va_wsS RX12 167 yX12_isMode wsX12_isMode) := goodIn_app (goodIn_of _ (by decide +kernel)) ggX12_does_X12_isMode
set_option maxRecDepth 20000 in
theorem ggX12_does_X12_modeOn : GoodIn wsX12_does wsX12_modeOn := goodIn_r _ [40] (by decide +kernel) (by decide +kernel)
set_option maxRecDepth 20000 in
theorem gX12_does_X12_modeOn : GoodIn wsX12_does (va_wsS RX12 100 yX12_modeOn wsX12_modeOn) := goodIn_app (goodIn_of _ (by decide +kernel)) ggX12_does_X12_modeOn
set_option maxRecDepth 20000 in
theorem ggX12_does_X12_disturbOn : GoodIn wsX12_does wsX12_disturbOn := goodIn_r _ [43, 19, 20, 5, 21] (by decide +kernel) (by decide +kernel)
set_option maxRecDepth 20000 in
theorem gX12_does_X12_disturbOn : GoodIn wsX12_does (va_wsS RX12 190 yX12_disturbOn wsX12_disturbOn) := goodIn_app (goodIn_of _ (by decide +kernel)) ggX12_does_X12_disturbOn
set_option maxRecDepth 20000 in
theorem ggX12_does_X12_isSetting : GoodIn wsX12_does wsX12_isSetting := goodIn_r _ [46, 47, 48, 49, 50, 51, 52, 3, 4, 5, 6] (by decide +kernel) (by decide +kernel)
set_option maxRecDepth 20000 in
theorem gX12_does_X12_isSetting : GoodIn wsX12_does (va_wsS RX12 182 yX12_isSetting wsX12_isSetting) := goodIn_app (goodIn_of _ (by decide +kernel)) ggX12_does_X12_isSetting
set_option maxRecDepth 20000 in
theorem ggX12_does_X12_isRule : GoodIn wsX12_does wsX12_isRule := goodIn_r _ [55, 56, 3, 4, 5, 6] (by decide +kernel) (by decide +kernel)
set_option maxRecDepth 20000 in
theorem gX12_does_X12_isRule : GoodIn wsX12_does (va_wsS RX12 195 yX12_isRule wsX12_isRule) := goodIn_app (goodIn_of _ (by decide +kernel)) ggX12_does_X12_isRule
set_option maxRecDepth 20000 in
theorem ggX12_does_X12_canTry : GoodIn wsX12_does wsX12_canTry := goodIn_r _ [60, 61, 62, 63, 5, 64, 65, 66, 67, 68, 69, 70, 71, 72, 73, 74, 75, 76, 77, 78, 79, 80, 81, 82, 83, 106, 107, 108, 109, 110, 111, 112, 113, 114, 115, 116, 117, 118, 119, 120] (by decide +kernel) (by decide +kernel)
set_option maxRecDepth 20000 in
theorem gX12_does_X12_canTry : GoodIn wsX12_does (wsV RX12 198 RX12 yX12_canTry wsX12_canTry) := goodIn_app (goodIn_of _ (by decide +kernel)) ggX12_does_X12_canTry
set_option maxRecDepth 20000 in
theorem ggX12_does_X12_tryOn : GoodIn wsX12_does wsX12_tryOn := goodIn_r _ [87, 88, 89, 90, 5, 91, 92, 93, 94, 95, 96, 97, 98, 99, 65, 66, 67, 68, 69, 70, 71, 72, 73, 74, 75, 76, 77, 78, 79, 80, 81, 82, 83, 100, 101, 102, 38, 39, 40, 106, 107, 108, 109, 110, 111, 112, 113, 114, 115, 116, 117, 118, 119, 120] (by decide +kernel) (by decide +kernel)
set_option maxRecDepth 20000 in
theorem gX12_does_X12_tryOn : GoodIn wsX12_does (wsV RX12 202 RX12 yX12_tryOn wsX12_tryOn) := goodIn_app (goodIn_of _ (by decide +kernel)) ggX12_does_X12_tryOn
set_option maxRecDepth 20000 in
theorem ggX12_does_X12_takeBackOn : GoodIn wsX12_does wsX12_takeBackOn := goodIn_r _ [105, 38, 39, 5, 40] (by decide +kernel) (by decide +kernel)
set_option maxRecDepth 20000 in
theorem gX12_does_X12_takeBackOn : GoodIn wsX12_does (va_wsS RX12 205 yX12_takeBackOn wsX12_takeBackOn) := goodIn_app (goodIn_of _ (by decide +kernel)) ggX12_does_X12_takeBackOn
set_option maxRecDepth 20000 in
theorem ggX12_does_X12_goodOf : GoodIn wsX12_does wsX12_goodOf := goodIn_r _ [64, 65, 66, 67, 5, 68, 69, 70, 71, 72, 73, 74, 75, 76, 77, 78, 79, 80, 81, 82, 83, 106, 107, 108, 109, 110, 111, 112, 113, 114, 115, 116, 117, 118, 119, 120] (by decide +kernel) (by decide +kernel)
set_option maxRecDepth 20000 in
theorem gX12_does_X12_goodOf : GoodIn wsX12_does (wsV RX12 103 RX12 yX12_goodOf wsX12_goodOf) := goodIn_app (goodIn_of _ (by decide +kernel)) ggX12_does_X12_goodOf
theorem dX12_does_0 : decode cX12_does 0 = .ok (.iload_n 1, 1) := by decide +kernel
theorem dX12_does_1 : decode cX12_does 1 = .ok (.tableswitch 304 1 9 #[51, 79, 102, 135, 154, 189, 218, 249, 277], 51) := by decide +kernel
theorem dX12_does_52 : decode cX12_does 52 = .ok (.iload_n 2, 1) := by decide +kernel
theorem dX12_does_53 : decode cX12_does 53 = .ok (.ifCond .ne 15, 3) := by decide +kernel
theorem dX12_does_56 : decode cX12_does 56 = .ok (.iload_n 3, 1) := by decide +kernel
theorem dX12_does_57 : decode cX12_does 57 = .ok (.i2l, 1) := by decide +kernel
theorem dX12_does_58 : decode cX12_does 58 = .ok (.lconst 1, 1) := by decide +kernel
theorem dX12_does_59 : decode cX12_does 59 = .ok (.ldc2_w 157, 3) := by decide +kernel
theorem dX12_does_62 : decode cX12_does 62 = .ok (.invokestatic 111, 3) := by decide +kernel
theorem dX12_does_65 : decode cX12_does 65 = .ok (.ifCond .ne 5, 3) := by decide +kernel
theorem dX12_does_68 : decode cX12_does 68 = .ok (.iconst 0, 1) := by decide +kernel
theorem dX12_does_69 : decode cX12_does 69 = .ok (.ireturn, 1) := by decide +kernel
theorem dX12_does_70 : decode cX12_does 70 = .ok (.aload_n 0, 1) := by decide +kernel
theorem dX12_does_71 : decode cX12_does 71 = .ok (.getfield 19, 3) := by decide +kernel
theorem dX12_does_74 : decode cX12_does 74 = .ok (.iload_n 3, 1) := by decide +kernel
theorem dX12_does_75 : decode cX12_does 75 = .ok (.invokestatic 162, 3) := by decide +kernel
theorem dX12_does_78 : decode cX12_does 78 = .ok (.iconst 1, 1) := by decide +kernel
theorem dX12_does_79 : decode cX12_does 79 = .ok (.ireturn, 1) := by decide +kernel
theorem dX12_does_80 : decode cX12_does 80 = .ok (.iload_n 2, 1) := by decide +kernel
theorem dX12_does_81 : decode cX12_does 81 = .ok (.ifCond .ne 10, 3) := by decide +kernel
theorem dX12_does_84 : decode cX12_does 84 = .ok (.iload_n 3, 1) := by decide +kernel
theorem dX12_does_85 : decode cX12_does 85 = .ok (.invokestatic 167, 3) := by decide +kernel
theorem dX12_does_88 : decode cX12_does 88 = .ok (.ifCond .ne 5, 3) := by decide +kernel
theorem dX12_does_91 : decode cX12_does 91 = .ok (.iconst 0, 1) := by decide +kernel
theorem dX12_does_92 : decode cX12_does 92 = .ok (.ireturn, 1) := by decide +kernel
theorem dX12_does_93 : decode cX12_does 93 = .ok (.aload_n 0, 1) := by decide +kernel
theorem dX12_does_94 : decode cX12_does 94 = .ok (.getfield 19, 3) := by decide +kernel
theorem dX12_does_97 : decode cX12_does 97 = .ok (.iload_n 3, 1) := by decide +kernel
theorem dX12_does_98 : decode cX12_does 98 = .ok (.invokestatic 100, 3) := by decide +kernel
theorem dX12_does_101 : decode cX12_does 101 = .ok (.iconst 1, 1) := by decide +kernel
theorem dX12_does_102 : decode cX12_does 102 = .ok (.ireturn, 1) := by decide +kernel
theorem dX12_does_103 : decode cX12_does 103 = .ok (.iload_n 2, 1) := by decide +kernel
theorem dX12_does_104 : decode cX12_does 104 = .ok (.iconst 1, 1) := by decide +kernel
theorem dX12_does_105 : decode cX12_does 105 = .ok (.if_icmp .gt 10, 3) := by decide +kernel
theorem dX12_does_108 : decode cX12_does 108 = .ok (.iload_n 3, 1) := by decide +kernel
theorem dX12_does_109 : decode cX12_does 109 = .ok (.sipush 500, 3) := by decide +kernel
theorem dX12_does_112 : decode cX12_does 112 = .ok (.if_icmp .le 5, 3) := by decide +kernel
theorem dX12_does_115 : decode cX12_does 115 = .ok (.iconst 0, 1) := by decide +kernel
theorem dX12_does_116 : decode cX12_does 116 = .ok (.ireturn, 1) := by decide +kernel
theorem dX12_does_117 : decode cX12_does 117 = .ok (.aload_n 0, 1) := by decide +kernel
theorem dX12_does_118 : decode cX12_does 118 = .ok (.getfield 19, 3) := by decide +kernel
theorem dX12_does_121 : decode cX12_does 121 = .ok (.iload_n 2, 1) := by decide +kernel
theorem dX12_does_122 : decode cX12_does 122 = .ok (.ifCond .ne 7, 3) := by decide +kernel
theorem dX12_does_125 : decode cX12_does 125 = .ok (.iload_n 3, 1) := by decide +kernel
theorem dX12_does_126 : decode cX12_does 126 = .ok (.goto 5, 3) := by decide +kernel
theorem dX12_does_129 : decode cX12_does 129 = .ok (.iload_n 3, 1) := by decide +kernel
theorem dX12_does_130 : decode cX12_does 130 = .ok (.ineg, 1) := by decide +kernel
theorem dX12_does_131 : decode cX12_does 131 = .ok (.invokestatic 190, 3) := by decide +kernel
theorem dX12_does_134 : decode cX12_does 134 = .ok (.iconst 1, 1) := by decide +kernel
theorem dX12_does_135 : decode cX12_does 135 = .ok (.ireturn, 1) := by decide +kernel
theorem dX12_does_136 : decode cX12_does 136 = .ok (.iload_n 2, 1) := by decide +kernel
theorem dX12_does_137 : decode cX12_does 137 = .ok (.iload_n 3, 1) := by decide +kernel
theorem dX12_does_138 : decode cX12_does 138 = .ok (.invokestatic 182, 3) := by decide +kernel
theorem dX12_does_141 : decode cX12_does 141 = .ok (.ifCond .ne 5, 3) := by decide +kernel
theorem dX12_does_144 : decode cX12_does 144 = .ok (.iconst 0, 1) := by decide +kernel
theorem dX12_does_145 : decode cX12_does 145 = .ok (.ireturn, 1) := by decide +kernel
theorem dX12_does_146 : decode cX12_does 146 = .ok (.aload_n 0, 1) := by decide +kernel
theorem dX12_does_147 : decode cX12_does 147 = .ok (.getfield 19, 3) := by decide +kernel
theorem dX12_does_150 : decode cX12_does 150 = .ok (.iload_n 2, 1) := by decide +kernel
theorem dX12_does_151 : decode cX12_does 151 = .ok (.iload_n 3, 1) := by decide +kernel
theorem dX12_does_152 : decode cX12_does 152 = .ok (.iastore, 1) := by decide +kernel
theorem dX12_does_153 : decode cX12_does 153 = .ok (.iconst 1, 1) := by decide +kernel
theorem dX12_does_154 : decode cX12_does 154 = .ok (.ireturn, 1) := by decide +kernel
theorem dX12_does_155 : decode cX12_does 155 = .ok (.iload_n 2, 1) := by decide +kernel
theorem dX12_does_156 : decode cX12_does 156 = .ok (.ifCond .ne 21, 3) := by decide +kernel
theorem dX12_does_159 : decode cX12_does 159 = .ok (.iload_n 3, 1) := by decide +kernel
theorem dX12_does_160 : decode cX12_does 160 = .ok (.invokestatic 195, 3) := by decide +kernel
theorem dX12_does_163 : decode cX12_does 163 = .ok (.ifCond .eq 14, 3) := by decide +kernel
theorem dX12_does_166 : decode cX12_does 166 = .ok (.aload_n 0, 1) := by decide +kernel
theorem dX12_does_167 : decode cX12_does 167 = .ok (.aload_n 0, 1) := by decide +kernel
theorem dX12_does_168 : decode cX12_does 168 = .ok (.getfield 19, 3) := by decide +kernel
theorem dX12_does_171 : decode cX12_does 171 = .ok (.invokevirtual 198, 3) := by decide +kernel
theorem dX12_does_174 : decode cX12_does 174 = .ok (.ifCond .ne 5, 3) := by decide +kernel
theorem dX12_does_177 : decode cX12_does 177 = .ok (.iconst 0, 1) := by decide +kernel
theorem dX12_does_178 : decode cX12_does 178 = .ok (.ireturn, 1) := by decide +kernel
theorem dX12_does_179 : decode cX12_does 179 = .ok (.aload_n 0, 1) := by decide +kernel
theorem dX12_does_180 : decode cX12_does 180 = .ok (.aload_n 0, 1) := by decide +kernel
theorem dX12_does_181 : decode cX12_does 181 = .ok (.getfield 19, 3) := by decide +kernel
theorem dX12_does_184 : decode cX12_does 184 = .ok (.iload_n 3, 1) := by decide +kernel
theorem dX12_does_185 : decode cX12_does 185 = .ok (.invokevirtual 202, 3) := by decide +kernel
theorem dX12_does_188 : decode cX12_does 188 = .ok (.iconst 1, 1) := by decide +kernel
theorem dX12_does_189 : decode cX12_does 189 = .ok (.ireturn, 1) := by decide +kernel
theorem dX12_does_190 : decode cX12_does 190 = .ok (.iload_n 2, 1) := by decide +kernel
theorem dX12_does_191 : decode cX12_does 191 = .ok (.ifCond .ne 17, 3) := by decide +kernel
theorem dX12_does_194 : decode cX12_does 194 = .ok (.iload_n 3, 1) := by decide +kernel
theorem dX12_does_195 : decode cX12_does 195 = .ok (.ifCond .ne 13, 3) := by decide +kernel
theorem dX12_does_198 : decode cX12_does 198 = .ok (.aload_n 0, 1) := by decide +kernel
theorem dX12_does_199 : decode cX12_does 199 = .ok (.getfield 19, 3) := by decide +kernel
theorem dX12_does_202 : decode cX12_does 202 = .ok (.bipush 17, 2) := by decide +kernel
theorem dX12_does_204 : decode cX12_does 204 = .ok (.iaload, 1) := by decide +kernel
theorem dX12_does_205 : decode cX12_does 205 = .ok (.ifCond .ne 5, 3) := by decide +kernel
theorem dX12_does_208 : decode cX12_does 208 = .ok (.iconst 0, 1) := by decide +kernel
theorem dX12_does_209 : decode cX12_does 209 = .ok (.ireturn, 1) := by decide +kernel
theorem dX12_does_210 : decode cX12_does 210 = .ok (.aload_n 0, 1) := by decide +kernel
theorem dX12_does_211 : decode cX12_does 211 = .ok (.getfield 19, 3) := by decide +kernel
theorem dX12_does_214 : decode cX12_does 214 = .ok (.invokestatic 205, 3) := by decide +kernel
theorem dX12_does_217 : decode cX12_does 217 = .ok (.iconst 1, 1) := by decide +kernel
theorem dX12_does_218 : decode cX12_does 218 = .ok (.ireturn, 1) := by decide +kernel
theorem dX12_does_219 : decode cX12_does 219 = .ok (.iload_n 2, 1) := by decide +kernel
theorem dX12_does_220 : decode cX12_does 220 = .ok (.iconst 2, 1) := by decide +kernel
theorem dX12_does_221 : decode cX12_does 221 = .ok (.if_icmp .ge 27, 3) := by decide +kernel
theorem dX12_does_224 : decode cX12_does 224 = .ok (.aload_n 0, 1) := by decide +kernel
theorem dX12_does_225 : decode cX12_does 225 = .ok (.getfield 19, 3) := by decide +kernel
theorem dX12_does_228 : decode cX12_does 228 = .ok (.bipush 12, 2) := by decide +kernel
theorem dX12_does_230 : decode cX12_does 230 = .ok (.iaload, 1) := by decide +kernel
theorem dX12_does_231 : decode cX12_does 231 = .ok (.iload_n 2, 1) := by decide +kernel
theorem dX12_does_232 : decode cX12_does 232 = .ok (.ifCond .ne 7, 3) := by decide +kernel
theorem dX12_does_235 : decode cX12_does 235 = .ok (.iload_n 3, 1) := by decide +kernel
theorem dX12_does_236 : decode cX12_does 236 = .ok (.goto 5, 3) := by decide +kernel
theorem dX12_does_239 : decode cX12_does 239 = .ok (.iload_n 3, 1) := by decide +kernel
theorem dX12_does_240 : decode cX12_does 240 = .ok (.ineg, 1) := by decide +kernel
theorem dX12_does_241 : decode cX12_does 241 = .ok (.if_icmp .lt 7, 3) := by decide +kernel
theorem dX12_does_244 : decode cX12_does 244 = .ok (.iconst 1, 1) := by decide +kernel
theorem dX12_does_245 : decode cX12_does 245 = .ok (.goto 4, 3) := by decide +kernel
theorem dX12_does_248 : decode cX12_does 248 = .ok (.iconst 0, 1) := by decide +kernel
theorem dX12_does_249 : decode cX12_does 249 = .ok (.ireturn, 1) := by decide +kernel
theorem dX12_does_250 : decode cX12_does 250 = .ok (.iload_n 2, 1) := by decide +kernel
theorem dX12_does_251 : decode cX12_does 251 = .ok (.ifCond .ne 25, 3) := by decide +kernel
theorem dX12_does_254 : decode cX12_does 254 = .ok (.iload_n 3, 1) := by decide +kernel
theorem dX12_does_255 : decode cX12_does 255 = .ok (.bipush 100, 2) := by decide +kernel
theorem dX12_does_257 : decode cX12_does 257 = .ok (.if_icmp .ge 19, 3) := by decide +kernel
theorem dX12_does_260 : decode cX12_does 260 = .ok (.aload_n 0, 1) := by decide +kernel
theorem dX12_does_261 : decode cX12_does 261 = .ok (.aload_n 0, 1) := by decide +kernel
theorem dX12_does_262 : decode cX12_does 262 = .ok (.getfield 19, 3) := by decide +kernel
theorem dX12_does_265 : decode cX12_does 265 = .ok (.invokevirtual 103, 3) := by decide +kernel
theorem dX12_does_268 : decode cX12_does 268 = .ok (.iload_n 3, 1) := by decide +kernel
theorem dX12_does_269 : decode cX12_does 269 = .ok (.if_icmp .lt 7, 3) := by decide +kernel
theorem dX12_does_272 : decode cX12_does 272 = .ok (.iconst 1, 1) := by decide +kernel
theorem dX12_does_273 : decode cX12_does 273 = .ok (.goto 4, 3) := by decide +kernel
theorem dX12_does_276 : decode cX12_does 276 = .ok (.iconst 0, 1) := by decide +kernel
theorem dX12_does_277 : decode cX12_does 277 = .ok (.ireturn, 1) := by decide +kernel
theorem dX12_does_278 : decode cX12_does 278 = .ok (.iload_n 2, 1) := by decide +kernel
theorem dX12_does_279 : decode cX12_does 279 = .ok (.ifCond .ne 24, 3) := by decide +kernel
theorem dX12_does_282 : decode cX12_does 282 = .ok (.iload_n 3, 1) := by decide +kernel
theorem dX12_does_283 : decode cX12_does 283 = .ok (.bipush 10, 2) := by decide +kernel
theorem dX12_does_285 : decode cX12_does 285 = .ok (.if_icmp .ge 18, 3) := by decide +kernel
theorem dX12_does_288 : decode cX12_does 288 = .ok (.aload_n 0, 1) := by decide +kernel
theorem dX12_does_289 : decode cX12_does 289 = .ok (.getfield 19, 3) := by decide +kernel
theorem dX12_does_292 : decode cX12_does 292 = .ok (.bipush 17, 2) := by decide +kernel
theorem dX12_does_294 : decode cX12_does 294 = .ok (.iaload, 1) := by decide +kernel
theorem dX12_does_295 : decode cX12_does 295 = .ok (.iload_n 3, 1) := by decide +kernel
theorem dX12_does_296 : decode cX12_does 296 = .ok (.if_icmp .ne 7, 3) := by decide +kernel
theorem dX12_does_299 : decode cX12_does 299 = .ok (.iconst 1, 1) := by decide +kernel
theorem dX12_does_300 : decode cX12_does 300 = .ok (.goto 4, 3) := by decide +kernel
theorem dX12_does_303 : decode cX12_does 303 = .ok (.iconst 0, 1) := by decide +kernel
theorem dX12_does_304 : decode cX12_does 304 = .ok (.ireturn, 1) := by decide +kernel
theorem dX12_does_305 : decode cX12_does 305 = .ok (.iconst 0, 1) := by decide +kernel
theorem dX12_does_306 : decode cX12_does 306 = .ok (.ireturn, 1) := by decide +kernel
set_option maxRecDepth 20000 in
theorem ggX12_runScript_X12_in : GoodIn wsX12_runScript wsX12_in := goodIn_r _ [11] (by decide +kernel) (by decide +kernel)
set_option maxRecDepth 20000 in
theorem gX12_runScript_X12_in : GoodIn wsX12_runScript (va_wsS RX12 111 yX12_in wsX12_in) := goodIn_app (goodIn_of _ (by decide +kernel)) ggX12_runScript_X12_in
set_option maxRecDepth 20000 in
theorem ggX12_runScript_X12_refused : GoodIn wsX12_runScript wsX12_refused := goodIn_r _ [15, 16, 122, 123, 124, 125, 126, 127, 128, 129, 130, 131, 132, 133, 134, 135, 136] (by decide +kernel) (by decide +kernel)
set_option maxRecDepth 20000 in
theorem gX12_runScript_X12_refused : GoodIn wsX12_runScript (wsV RX12 118 RX12 yX12_refused wsX12_refused) := goodIn_app (goodIn_of _ (by decide +kernel)) ggX12_runScript_X12_refused
set_option maxRecDepth 20000 in
theorem ggX12_runScript_X12_copyPage : GoodIn wsX12_runScript wsX12_copyPage := goodIn_r _ [19] (by decide +kernel) (by decide +kernel)
set_option maxRecDepth 20000 in
theorem gX12_runScript_X12_copyPage : GoodIn wsX12_runScript (va_wsS RX12 141 yX12_copyPage wsX12_copyPage) := goodIn_app (goodIn_of _ (by decide +kernel)) ggX12_runScript_X12_copyPage
set_option maxRecDepth 20000 in
theorem ggX12_runScript_X12_does : GoodIn wsX12_runScript wsX12_does := goodIn_r _ [23, 24, 6, 8, 9, 10, 11, 25, 26, 27, 28, 29, 30, 31, 32, 33, 34, 35, 36, 37, 38, 39, 40, 41, 42, 43, 44, 45, 46, 47, 48, 49, 50, 51, 52, 53, 54, 55, 56, 57, 58, 59, 60, 61, 62, 63, 64, 65, 66, 67, 68, 69, 70, 71, 72, 73, 4, 74, 75, 76, 77, 78, 79, 80, 81, 82, 83, 84, 85, 86, 87, 88, 89, 90, 7, 91, 92, 93, 94, 95, 96, 97, 98, 99, 100, 101, 102, 103, 104, 105, 106, 107, 108, 109, 110, 111, 112, 113, 114, 115, 116, 117, 118, 119, 120, 121, 122, 123, 124, 125, 126, 127, 128, 129, 130, 131, 132, 133, 134, 135, 136] (by decide +kernel) (by decide +kernel)
set_option maxRecDepth 20000 in
theorem gX12_runScript_X12_does : GoodIn wsX12_runScript (wsV RX12 233 RX12 yX12_does wsX12_does) := goodIn_app (goodIn_of _ (by decide +kernel)) ggX12_runScript_X12_does
theorem dX12_runScript_0 : decode cX12_runScript 0 = .ok (.iload_n 1, 1) := by decide +kernel
theorem dX12_runScript_1 : decode cX12_runScript 1 = .ok (.iconst 1, 1) := by decide +kernel
theorem dX12_runScript_2 : decode cX12_runScript 2 = .ok (.if_icmp .ne 9, 3) := by decide +kernel
theorem dX12_runScript_5 : decode cX12_runScript 5 = .ok (.ldc2_w 227, 3) := by decide +kernel
theorem dX12_runScript_8 : decode cX12_runScript 8 = .ok (.goto 17, 3) := by decide +kernel
theorem dX12_runScript_11 : decode cX12_runScript 11 = .ok (.iload_n 1, 1) := by decide +kernel
theorem dX12_runScript_12 : decode cX12_runScript 12 = .ok (.iconst 2, 1) := by decide +kernel
theorem dX12_runScript_13 : decode cX12_runScript 13 = .ok (.if_icmp .ne 9, 3) := by decide +kernel
theorem dX12_runScript_16 : decode cX12_runScript 16 = .ok (.ldc2_w 229, 3) := by decide +kernel
theorem dX12_runScript_19 : decode cX12_runScript 19 = .ok (.goto 6, 3) := by decide +kernel
theorem dX12_runScript_22 : decode cX12_runScript 22 = .ok (.ldc2_w 231, 3) := by decide +kernel
theorem dX12_runScript_25 : decode cX12_runScript 25 = .ok (.lstore 4, 2) := by decide +kernel
theorem dX12_runScript_27 : decode cX12_runScript 27 = .ok (.aload_n 0, 1) := by decide +kernel
theorem dX12_runScript_28 : decode cX12_runScript 28 = .ok (.iload_n 1, 1) := by decide +kernel
theorem dX12_runScript_29 : decode cX12_runScript 29 = .ok (.i2l, 1) := by decide +kernel
theorem dX12_runScript_30 : decode cX12_runScript 30 = .ok (.lconst 1, 1) := by decide +kernel
theorem dX12_runScript_31 : decode cX12_runScript 31 = .ok (.ldc2_w 193, 3) := by decide +kernel
theorem dX12_runScript_34 : decode cX12_runScript 34 = .ok (.invokestatic 111, 3) := by decide +kernel
theorem dX12_runScript_37 : decode cX12_runScript 37 = .ok (.ifCond .eq 19, 3) := by decide +kernel
theorem dX12_runScript_40 : decode cX12_runScript 40 = .ok (.lload_n 2, 1) := by decide +kernel
theorem dX12_runScript_41 : decode cX12_runScript 41 = .ok (.lconst 0, 1) := by decide +kernel
theorem dX12_runScript_42 : decode cX12_runScript 42 = .ok (.lload 4, 2) := by decide +kernel
theorem dX12_runScript_44 : decode cX12_runScript 44 = .ok (.lconst 1, 1) := by decide +kernel
theorem dX12_runScript_45 : decode cX12_runScript 45 = .ok (.lsub, 1) := by decide +kernel
theorem dX12_runScript_46 : decode cX12_runScript 46 = .ok (.invokestatic 111, 3) := by decide +kernel
theorem dX12_runScript_49 : decode cX12_runScript 49 = .ok (.ifCond .eq 7, 3) := by decide +kernel
theorem dX12_runScript_52 : decode cX12_runScript 52 = .ok (.iconst 0, 1) := by decide +kernel
theorem dX12_runScript_53 : decode cX12_runScript 53 = .ok (.goto 4, 3) := by decide +kernel
theorem dX12_runScript_56 : decode cX12_runScript 56 = .ok (.iconst 1, 1) := by decide +kernel
theorem dX12_runScript_57 : decode cX12_runScript 57 = .ok (.invokevirtual 118, 3) := by decide +kernel
theorem dX12_runScript_60 : decode cX12_runScript 60 = .ok (.ifCond .eq 5, 3) := by decide +kernel
theorem dX12_runScript_63 : decode cX12_runScript 63 = .ok (.iconst 0, 1) := by decide +kernel
theorem dX12_runScript_64 : decode cX12_runScript 64 = .ok (.ireturn, 1) := by decide +kernel
theorem dX12_runScript_65 : decode cX12_runScript 65 = .ok (.aload_n 0, 1) := by decide +kernel
theorem dX12_runScript_66 : decode cX12_runScript 66 = .ok (.getfield 16, 3) := by decide +kernel
theorem dX12_runScript_69 : decode cX12_runScript 69 = .ok (.iconst 0, 1) := by decide +kernel
theorem dX12_runScript_70 : decode cX12_runScript 70 = .ok (.aload_n 0, 1) := by decide +kernel
theorem dX12_runScript_71 : decode cX12_runScript 71 = .ok (.getfield 19, 3) := by decide +kernel
theorem dX12_runScript_74 : decode cX12_runScript 74 = .ok (.iconst 0, 1) := by decide +kernel
theorem dX12_runScript_75 : decode cX12_runScript 75 = .ok (.invokestatic 141, 3) := by decide +kernel
theorem dX12_runScript_78 : decode cX12_runScript 78 = .ok (.lload_n 2, 1) := by decide +kernel
theorem dX12_runScript_79 : decode cX12_runScript 79 = .ok (.lstore 6, 2) := by decide +kernel
theorem dX12_runScript_81 : decode cX12_runScript 81 = .ok (.iconst 0, 1) := by decide +kernel
theorem dX12_runScript_82 : decode cX12_runScript 82 = .ok (.istore 8, 2) := by decide +kernel
theorem dX12_runScript_84 : decode cX12_runScript 84 = .ok (.iload 8, 2) := by decide +kernel
theorem dX12_runScript_86 : decode cX12_runScript 86 = .ok (.iload_n 1, 1) := by decide +kernel
theorem dX12_runScript_87 : decode cX12_runScript 87 = .ok (.if_icmp .ge 63, 3) := by decide +kernel
theorem dX12_runScript_90 : decode cX12_runScript 90 = .ok (.lload 4, 2) := by decide +kernel
theorem dX12_runScript_92 : decode cX12_runScript 92 = .ok (.ldc2_w 227, 3) := by decide +kernel
theorem dX12_runScript_95 : decode cX12_runScript 95 = .ok (.ldiv, 1) := by decide +kernel
theorem dX12_runScript_96 : decode cX12_runScript 96 = .ok (.lstore 4, 2) := by decide +kernel
theorem dX12_runScript_98 : decode cX12_runScript 98 = .ok (.lload 6, 2) := by decide +kernel
theorem dX12_runScript_100 : decode cX12_runScript 100 = .ok (.lload 4, 2) := by decide +kernel
theorem dX12_runScript_102 : decode cX12_runScript 102 = .ok (.ldiv, 1) := by decide +kernel
theorem dX12_runScript_103 : decode cX12_runScript 103 = .ok (.l2i, 1) := by decide +kernel
theorem dX12_runScript_104 : decode cX12_runScript 104 = .ok (.istore 9, 2) := by decide +kernel
theorem dX12_runScript_106 : decode cX12_runScript 106 = .ok (.lload 6, 2) := by decide +kernel
theorem dX12_runScript_108 : decode cX12_runScript 108 = .ok (.lload 4, 2) := by decide +kernel
theorem dX12_runScript_110 : decode cX12_runScript 110 = .ok (.lrem, 1) := by decide +kernel
theorem dX12_runScript_111 : decode cX12_runScript 111 = .ok (.lstore 6, 2) := by decide +kernel
theorem dX12_runScript_113 : decode cX12_runScript 113 = .ok (.aload_n 0, 1) := by decide +kernel
theorem dX12_runScript_114 : decode cX12_runScript 114 = .ok (.iload 9, 2) := by decide +kernel
theorem dX12_runScript_116 : decode cX12_runScript 116 = .ok (.sipush 10000, 3) := by decide +kernel
theorem dX12_runScript_119 : decode cX12_runScript 119 = .ok (.idiv, 1) := by decide +kernel
theorem dX12_runScript_120 : decode cX12_runScript 120 = .ok (.iload 9, 2) := by decide +kernel
theorem dX12_runScript_122 : decode cX12_runScript 122 = .ok (.sipush 1000, 3) := by decide +kernel
theorem dX12_runScript_125 : decode cX12_runScript 125 = .ok (.idiv, 1) := by decide +kernel
theorem dX12_runScript_126 : decode cX12_runScript 126 = .ok (.bipush 10, 2) := by decide +kernel
theorem dX12_runScript_128 : decode cX12_runScript 128 = .ok (.irem, 1) := by decide +kernel
theorem dX12_runScript_129 : decode cX12_runScript 129 = .ok (.iload 9, 2) := by decide +kernel
theorem dX12_runScript_131 : decode cX12_runScript 131 = .ok (.sipush 1000, 3) := by decide +kernel
theorem dX12_runScript_134 : decode cX12_runScript 134 = .ok (.irem, 1) := by decide +kernel
theorem dX12_runScript_135 : decode cX12_runScript 135 = .ok (.invokevirtual 233, 3) := by decide +kernel
theorem dX12_runScript_138 : decode cX12_runScript 138 = .ok (.ifCond .ne 6, 3) := by decide +kernel
theorem dX12_runScript_141 : decode cX12_runScript 141 = .ok (.iload 8, 2) := by decide +kernel
theorem dX12_runScript_143 : decode cX12_runScript 143 = .ok (.ireturn, 1) := by decide +kernel
theorem dX12_runScript_144 : decode cX12_runScript 144 = .ok (.iinc 8 1, 3) := by decide +kernel
theorem dX12_runScript_147 : decode cX12_runScript 147 = .ok (.goto (-63), 3) := by decide +kernel
theorem dX12_runScript_150 : decode cX12_runScript 150 = .ok (.ldc 74, 2) := by decide +kernel
theorem dX12_runScript_152 : decode cX12_runScript 152 = .ok (.ireturn, 1) := by decide +kernel
set_option maxRecDepth 20000 in
theorem ggX12_simulate_X12_in : GoodIn wsX12_simulate wsX12_in := goodIn_r _ [10] (by decide +kernel) (by decide +kernel)
set_option maxRecDepth 20000 in
theorem gX12_simulate_X12_in : GoodIn wsX12_simulate (va_wsS RX12 111 yX12_in wsX12_in) := goodIn_app (goodIn_of _ (by decide +kernel)) ggX12_simulate_X12_in
set_option maxRecDepth 20000 in
theorem ggX12_simulate_X12_refused : GoodIn wsX12_simulate wsX12_refused := goodIn_r _ [14, 15, 72, 73, 74, 75, 76, 77, 78, 79, 80, 81, 82, 83, 84, 85, 86] (by decide +kernel) (by decide +kernel)
set_option maxRecDepth 20000 in
theorem gX12_simulate_X12_refused : GoodIn wsX12_simulate (wsV RX12 118 RX12 yX12_refused wsX12_refused) := goodIn_app (goodIn_of _ (by decide +kernel)) ggX12_simulate_X12_refused
set_option maxRecDepth 20000 in
theorem ggX12_simulate_X12_copyPage : GoodIn wsX12_simulate wsX12_copyPage := goodIn_r _ [18] (by decide +kernel) (by decide +kernel)
set_option maxRecDepth 20000 in
theorem gX12_simulate_X12_copyPage : GoodIn wsX12_simulate (va_wsS RX12 141 yX12_copyPage wsX12_copyPage) := goodIn_app (goodIn_of _ (by decide +kernel)) ggX12_simulate_X12_copyPage
set_option maxRecDepth 20000 in
theorem ggX12_simulate_X12_disturbOn : GoodIn wsX12_simulate wsX12_disturbOn := goodIn_r _ [21, 22, 23, 9, 24] (by decide +kernel) (by decide +kernel)
set_option maxRecDepth 20000 in
theorem gX12_simulate_X12_disturbOn : GoodIn wsX12_simulate (va_wsS RX12 190 yX12_disturbOn wsX12_disturbOn) := goodIn_app (goodIn_of _ (by decide +kernel)) ggX12_simulate_X12_disturbOn
set_option maxRecDepth 20000 in
theorem ggX12_simulate_X12_ticksOn : GoodIn wsX12_simulate wsX12_ticksOn := goodIn_r _ [27, 28, 29, 9, 30, 31, 32, 33, 34, 35, 36, 22, 23, 24, 37, 38, 39, 40, 41, 42, 43, 44, 45, 46, 47, 48] (by decide +kernel) (by decide +kernel)
set_option maxRecDepth 20000 in
theorem gX12_simulate_X12_ticksOn : GoodIn wsX12_simulate (va_wsS RX12 162 yX12_ticksOn wsX12_ticksOn) := goodIn_app (goodIn_of _ (by decide +kernel)) ggX12_simulate_X12_ticksOn
set_option maxRecDepth 20000 in
theorem ggX12_simulate_X12_goodOf : GoodIn wsX12_simulate wsX12_goodOf := goodIn_r _ [52, 53, 54, 55, 9, 56, 57, 58, 59, 60, 61, 62, 63, 64, 65, 66, 67, 68, 69, 70, 71, 72, 73, 74, 75, 76, 77, 78, 79, 80, 81, 82, 83, 84, 85, 86] (by decide +kernel) (by decide +kernel)
set_option maxRecDepth 20000 in
theorem gX12_simulate_X12_goodOf : GoodIn wsX12_simulate (wsV RX12 103 RX12 yX12_goodOf wsX12_goodOf) := goodIn_app (goodIn_of _ (by decide +kernel)) ggX12_simulate_X12_goodOf
theorem dX12_simulate_0 : decode cX12_simulate 0 = .ok (.aload_n 0, 1) := by decide +kernel
theorem dX12_simulate_1 : decode cX12_simulate 1 = .ok (.iload_n 3, 1) := by decide +kernel
theorem dX12_simulate_2 : decode cX12_simulate 2 = .ok (.i2l, 1) := by decide +kernel
theorem dX12_simulate_3 : decode cX12_simulate 3 = .ok (.lconst 1, 1) := by decide +kernel
theorem dX12_simulate_4 : decode cX12_simulate 4 = .ok (.ldc2_w 236, 3) := by decide +kernel
theorem dX12_simulate_7 : decode cX12_simulate 7 = .ok (.invokestatic 111, 3) := by decide +kernel
theorem dX12_simulate_10 : decode cX12_simulate 10 = .ok (.ifCond .eq 7, 3) := by decide +kernel
theorem dX12_simulate_13 : decode cX12_simulate 13 = .ok (.iconst 0, 1) := by decide +kernel
theorem dX12_simulate_14 : decode cX12_simulate 14 = .ok (.goto 4, 3) := by decide +kernel
theorem dX12_simulate_17 : decode cX12_simulate 17 = .ok (.iconst 1, 1) := by decide +kernel
theorem dX12_simulate_18 : decode cX12_simulate 18 = .ok (.invokevirtual 118, 3) := by decide +kernel
theorem dX12_simulate_21 : decode cX12_simulate 21 = .ok (.ifCond .eq 5, 3) := by decide +kernel
theorem dX12_simulate_24 : decode cX12_simulate 24 = .ok (.iconst 0, 1) := by decide +kernel
theorem dX12_simulate_25 : decode cX12_simulate 25 = .ok (.ireturn, 1) := by decide +kernel
theorem dX12_simulate_26 : decode cX12_simulate 26 = .ok (.aload_n 0, 1) := by decide +kernel
theorem dX12_simulate_27 : decode cX12_simulate 27 = .ok (.getfield 16, 3) := by decide +kernel
theorem dX12_simulate_30 : decode cX12_simulate 30 = .ok (.iconst 0, 1) := by decide +kernel
theorem dX12_simulate_31 : decode cX12_simulate 31 = .ok (.aload_n 0, 1) := by decide +kernel
theorem dX12_simulate_32 : decode cX12_simulate 32 = .ok (.getfield 19, 3) := by decide +kernel
theorem dX12_simulate_35 : decode cX12_simulate 35 = .ok (.iconst 0, 1) := by decide +kernel
theorem dX12_simulate_36 : decode cX12_simulate 36 = .ok (.invokestatic 141, 3) := by decide +kernel
theorem dX12_simulate_39 : decode cX12_simulate 39 = .ok (.lload_n 1, 1) := by decide +kernel
theorem dX12_simulate_40 : decode cX12_simulate 40 = .ok (.lstore 4, 2) := by decide +kernel
theorem dX12_simulate_42 : decode cX12_simulate 42 = .ok (.iconst 0, 1) := by decide +kernel
theorem dX12_simulate_43 : decode cX12_simulate 43 = .ok (.istore 6, 2) := by decide +kernel
theorem dX12_simulate_45 : decode cX12_simulate 45 = .ok (.iload 6, 2) := by decide +kernel
theorem dX12_simulate_47 : decode cX12_simulate 47 = .ok (.iload_n 3, 1) := by decide +kernel
theorem dX12_simulate_48 : decode cX12_simulate 48 = .ok (.if_icmp .ge 63, 3) := by decide +kernel
theorem dX12_simulate_51 : decode cX12_simulate 51 = .ok (.lload 4, 2) := by decide +kernel
theorem dX12_simulate_53 : decode cX12_simulate 53 = .ok (.ldc2_w 238, 3) := by decide +kernel
theorem dX12_simulate_56 : decode cX12_simulate 56 = .ok (.lmul, 1) := by decide +kernel
theorem dX12_simulate_57 : decode cX12_simulate 57 = .ok (.ldc2_w 240, 3) := by decide +kernel
theorem dX12_simulate_60 : decode cX12_simulate 60 = .ok (.ladd, 1) := by decide +kernel
theorem dX12_simulate_61 : decode cX12_simulate 61 = .ok (.lstore 4, 2) := by decide +kernel
theorem dX12_simulate_63 : decode cX12_simulate 63 = .ok (.lload 4, 2) := by decide +kernel
theorem dX12_simulate_65 : decode cX12_simulate 65 = .ok (.bipush 33, 2) := by decide +kernel
theorem dX12_simulate_67 : decode cX12_simulate 67 = .ok (.lushr, 1) := by decide +kernel
theorem dX12_simulate_68 : decode cX12_simulate 68 = .ok (.l2i, 1) := by decide +kernel
theorem dX12_simulate_69 : decode cX12_simulate 69 = .ok (.istore 7, 2) := by decide +kernel
theorem dX12_simulate_71 : decode cX12_simulate 71 = .ok (.iload 7, 2) := by decide +kernel
theorem dX12_simulate_73 : decode cX12_simulate 73 = .ok (.bipush 8, 2) := by decide +kernel
theorem dX12_simulate_75 : decode cX12_simulate 75 = .ok (.irem, 1) := by decide +kernel
theorem dX12_simulate_76 : decode cX12_simulate 76 = .ok (.ifCond .ne 21, 3) := by decide +kernel
theorem dX12_simulate_79 : decode cX12_simulate 79 = .ok (.aload_n 0, 1) := by decide +kernel
theorem dX12_simulate_80 : decode cX12_simulate 80 = .ok (.getfield 19, 3) := by decide +kernel
theorem dX12_simulate_83 : decode cX12_simulate 83 = .ok (.iload 7, 2) := by decide +kernel
theorem dX12_simulate_85 : decode cX12_simulate 85 = .ok (.bipush 8, 2) := by decide +kernel
theorem dX12_simulate_87 : decode cX12_simulate 87 = .ok (.idiv, 1) := by decide +kernel
theorem dX12_simulate_88 : decode cX12_simulate 88 = .ok (.bipush 81, 2) := by decide +kernel
theorem dX12_simulate_90 : decode cX12_simulate 90 = .ok (.irem, 1) := by decide +kernel
theorem dX12_simulate_91 : decode cX12_simulate 91 = .ok (.bipush 40, 2) := by decide +kernel
theorem dX12_simulate_93 : decode cX12_simulate 93 = .ok (.isub, 1) := by decide +kernel
theorem dX12_simulate_94 : decode cX12_simulate 94 = .ok (.invokestatic 190, 3) := by decide +kernel
theorem dX12_simulate_97 : decode cX12_simulate 97 = .ok (.aload_n 0, 1) := by decide +kernel
theorem dX12_simulate_98 : decode cX12_simulate 98 = .ok (.getfield 19, 3) := by decide +kernel
theorem dX12_simulate_101 : decode cX12_simulate 101 = .ok (.iconst 3, 1) := by decide +kernel
theorem dX12_simulate_102 : decode cX12_simulate 102 = .ok (.invokestatic 162, 3) := by decide +kernel
theorem dX12_simulate_105 : decode cX12_simulate 105 = .ok (.iinc 6 1, 3) := by decide +kernel
theorem dX12_simulate_108 : decode cX12_simulate 108 = .ok (.goto (-63), 3) := by decide +kernel
theorem dX12_simulate_111 : decode cX12_simulate 111 = .ok (.ldc 242, 2) := by decide +kernel
theorem dX12_simulate_113 : decode cX12_simulate 113 = .ok (.aload_n 0, 1) := by decide +kernel
theorem dX12_simulate_114 : decode cX12_simulate 114 = .ok (.aload_n 0, 1) := by decide +kernel
theorem dX12_simulate_115 : decode cX12_simulate 115 = .ok (.getfield 19, 3) := by decide +kernel
theorem dX12_simulate_118 : decode cX12_simulate 118 = .ok (.invokevirtual 103, 3) := by decide +kernel
theorem dX12_simulate_121 : decode cX12_simulate 121 = .ok (.imul, 1) := by decide +kernel
theorem dX12_simulate_122 : decode cX12_simulate 122 = .ok (.aload_n 0, 1) := by decide +kernel
theorem dX12_simulate_123 : decode cX12_simulate 123 = .ok (.getfield 19, 3) := by decide +kernel
theorem dX12_simulate_126 : decode cX12_simulate 126 = .ok (.bipush 12, 2) := by decide +kernel
theorem dX12_simulate_128 : decode cX12_simulate 128 = .ok (.iaload, 1) := by decide +kernel
theorem dX12_simulate_129 : decode cX12_simulate 129 = .ok (.iadd, 1) := by decide +kernel
theorem dX12_simulate_130 : decode cX12_simulate 130 = .ok (.ireturn, 1) := by decide +kernel
set_option maxRecDepth 20000 in
theorem ggX12_save_X12_in : GoodIn wsX12_save wsX12_in := goodIn_r _ [7] (by decide +kernel) (by decide +kernel)
set_option maxRecDepth 20000 in
theorem gX12_save_X12_in : GoodIn wsX12_save (va_wsS RX12 111 yX12_in wsX12_in) := goodIn_app (goodIn_of _ (by decide +kernel)) ggX12_save_X12_in
set_option maxRecDepth 20000 in
theorem ggX12_save_X12_refused : GoodIn wsX12_save wsX12_refused := goodIn_r _ [11, 12, 16, 17, 18, 19, 20, 21, 22, 23, 24, 25, 26, 27, 28, 29, 30] (by decide +kernel) (by decide +kernel)
set_option maxRecDepth 20000 in
theorem gX12_save_X12_refused : GoodIn wsX12_save (wsV RX12 118 RX12 yX12_refused wsX12_refused) := goodIn_app (goodIn_of _ (by decide +kernel)) ggX12_save_X12_refused
set_option maxRecDepth 20000 in
theorem ggX12_save_X12_copyPage : GoodIn wsX12_save wsX12_copyPage := goodIn_r _ [15] (by decide +kernel) (by decide +kernel)
set_option maxRecDepth 20000 in
theorem gX12_save_X12_copyPage : GoodIn wsX12_save (va_wsS RX12 141 yX12_copyPage wsX12_copyPage) := goodIn_app (goodIn_of _ (by decide +kernel)) ggX12_save_X12_copyPage
theorem dX12_save_0 : decode cX12_save 0 = .ok (.aload_n 0, 1) := by decide +kernel
theorem dX12_save_1 : decode cX12_save 1 = .ok (.iload_n 1, 1) := by decide +kernel
theorem dX12_save_2 : decode cX12_save 2 = .ok (.i2l, 1) := by decide +kernel
theorem dX12_save_3 : decode cX12_save 3 = .ok (.lconst 0, 1) := by decide +kernel
theorem dX12_save_4 : decode cX12_save 4 = .ok (.lconst 1, 1) := by decide +kernel
theorem dX12_save_5 : decode cX12_save 5 = .ok (.invokestatic 111, 3) := by decide +kernel
theorem dX12_save_8 : decode cX12_save 8 = .ok (.ifCond .eq 7, 3) := by decide +kernel
theorem dX12_save_11 : decode cX12_save 11 = .ok (.iconst 0, 1) := by decide +kernel
theorem dX12_save_12 : decode cX12_save 12 = .ok (.goto 4, 3) := by decide +kernel
theorem dX12_save_15 : decode cX12_save 15 = .ok (.iconst 1, 1) := by decide +kernel
theorem dX12_save_16 : decode cX12_save 16 = .ok (.invokevirtual 118, 3) := by decide +kernel
theorem dX12_save_19 : decode cX12_save 19 = .ok (.ifCond .eq 5, 3) := by decide +kernel
theorem dX12_save_22 : decode cX12_save 22 = .ok (.iconst 0, 1) := by decide +kernel
theorem dX12_save_23 : decode cX12_save 23 = .ok (.ireturn, 1) := by decide +kernel
theorem dX12_save_24 : decode cX12_save 24 = .ok (.aload_n 0, 1) := by decide +kernel
theorem dX12_save_25 : decode cX12_save 25 = .ok (.getfield 28, 3) := by decide +kernel
theorem dX12_save_28 : decode cX12_save 28 = .ok (.iload_n 1, 1) := by decide +kernel
theorem dX12_save_29 : decode cX12_save 29 = .ok (.iconst 1, 1) := by decide +kernel
theorem dX12_save_30 : decode cX12_save 30 = .ok (.bastore, 1) := by decide +kernel
theorem dX12_save_31 : decode cX12_save 31 = .ok (.aload_n 0, 1) := by decide +kernel
theorem dX12_save_32 : decode cX12_save 32 = .ok (.getfield 16, 3) := by decide +kernel
theorem dX12_save_35 : decode cX12_save 35 = .ok (.iconst 0, 1) := by decide +kernel
theorem dX12_save_36 : decode cX12_save 36 = .ok (.aload_n 0, 1) := by decide +kernel
theorem dX12_save_37 : decode cX12_save 37 = .ok (.getfield 25, 3) := by decide +kernel
theorem dX12_save_40 : decode cX12_save 40 = .ok (.sipush 154, 3) := by decide +kernel
theorem dX12_save_43 : decode cX12_save 43 = .ok (.iload_n 1, 1) := by decide +kernel
theorem dX12_save_44 : decode cX12_save 44 = .ok (.imul, 1) := by decide +kernel
theorem dX12_save_45 : decode cX12_save 45 = .ok (.invokestatic 141, 3) := by decide +kernel
theorem dX12_save_48 : decode cX12_save 48 = .ok (.aload_n 0, 1) := by decide +kernel
theorem dX12_save_49 : decode cX12_save 49 = .ok (.getfield 16, 3) := by decide +kernel
theorem dX12_save_52 : decode cX12_save 52 = .ok (.bipush 13, 2) := by decide +kernel
theorem dX12_save_54 : decode cX12_save 54 = .ok (.iaload, 1) := by decide +kernel
theorem dX12_save_55 : decode cX12_save 55 = .ok (.ireturn, 1) := by decide +kernel
set_option maxRecDepth 20000 in
theorem ggX12_restore_X12_in : GoodIn wsX12_restore wsX12_in := goodIn_r _ [8] (by decide +kernel) (by decide +kernel)
set_option maxRecDepth 20000 in
theorem gX12_restore_X12_in : GoodIn wsX12_restore (va_wsS RX12 111 yX12_in wsX12_in) := goodIn_app (goodIn_of _ (by decide +kernel)) ggX12_restore_X12_in
set_option maxRecDepth 20000 in
theorem ggX12_restore_X12_refused : GoodIn wsX12_restore wsX12_refused := goodIn_r _ [12, 13, 17, 18, 19, 20, 21, 22, 23, 24, 25, 26, 27, 28, 29, 30, 31] (by decide +kernel) (by decide +kernel)
set_option maxRecDepth 20000 in
theorem gX12_restore_X12_refused : GoodIn wsX12_restore (wsV RX12 118 RX12 yX12_refused wsX12_refused) := goodIn_app (goodIn_of _ (by decide +kernel)) ggX12_restore_X12_refused
set_option maxRecDepth 20000 in
theorem ggX12_restore_X12_copyPage : GoodIn wsX12_restore wsX12_copyPage := goodIn_r _ [16] (by decide +kernel) (by decide +kernel)
set_option maxRecDepth 20000 in
theorem gX12_restore_X12_copyPage : GoodIn wsX12_restore (va_wsS RX12 141 yX12_copyPage wsX12_copyPage) := goodIn_app (goodIn_of _ (by decide +kernel)) ggX12_restore_X12_copyPage
theorem dX12_restore_0 : decode cX12_restore 0 = .ok (.aload_n 0, 1) := by decide +kernel
theorem dX12_restore_1 : decode cX12_restore 1 = .ok (.iload_n 1, 1) := by decide +kernel
theorem dX12_restore_2 : decode cX12_restore 2 = .ok (.i2l, 1) := by decide +kernel
theorem dX12_restore_3 : decode cX12_restore 3 = .ok (.lconst 0, 1) := by decide +kernel
theorem dX12_restore_4 : decode cX12_restore 4 = .ok (.lconst 1, 1) := by decide +kernel
theorem dX12_restore_5 : decode cX12_restore 5 = .ok (.invokestatic 111, 3) := by decide +kernel
theorem dX12_restore_8 : decode cX12_restore 8 = .ok (.ifCond .ne 7, 3) := by decide +kernel
theorem dX12_restore_11 : decode cX12_restore 11 = .ok (.iconst 1, 1) := by decide +kernel
theorem dX12_restore_12 : decode cX12_restore 12 = .ok (.goto 17, 3) := by decide +kernel
theorem dX12_restore_15 : decode cX12_restore 15 = .ok (.aload_n 0, 1) := by decide +kernel
theorem dX12_restore_16 : decode cX12_restore 16 = .ok (.getfield 28, 3) := by decide +kernel
theorem dX12_restore_19 : decode cX12_restore 19 = .ok (.iload_n 1, 1) := by decide +kernel
theorem dX12_restore_20 : decode cX12_restore 20 = .ok (.baload, 1) := by decide +kernel
theorem dX12_restore_21 : decode cX12_restore 21 = .ok (.ifCond .ne 7, 3) := by decide +kernel
theorem dX12_restore_24 : decode cX12_restore 24 = .ok (.iconst 2, 1) := by decide +kernel
theorem dX12_restore_25 : decode cX12_restore 25 = .ok (.goto 4, 3) := by decide +kernel
theorem dX12_restore_28 : decode cX12_restore 28 = .ok (.iconst 0, 1) := by decide +kernel
theorem dX12_restore_29 : decode cX12_restore 29 = .ok (.invokevirtual 118, 3) := by decide +kernel
theorem dX12_restore_32 : decode cX12_restore 32 = .ok (.ifCond .eq 5, 3) := by decide +kernel
theorem dX12_restore_35 : decode cX12_restore 35 = .ok (.iconst 0, 1) := by decide +kernel
theorem dX12_restore_36 : decode cX12_restore 36 = .ok (.ireturn, 1) := by decide +kernel
theorem dX12_restore_37 : decode cX12_restore 37 = .ok (.aload_n 0, 1) := by decide +kernel
theorem dX12_restore_38 : decode cX12_restore 38 = .ok (.getfield 25, 3) := by decide +kernel
theorem dX12_restore_41 : decode cX12_restore 41 = .ok (.sipush 154, 3) := by decide +kernel
theorem dX12_restore_44 : decode cX12_restore 44 = .ok (.iload_n 1, 1) := by decide +kernel
theorem dX12_restore_45 : decode cX12_restore 45 = .ok (.imul, 1) := by decide +kernel
theorem dX12_restore_46 : decode cX12_restore 46 = .ok (.aload_n 0, 1) := by decide +kernel
theorem dX12_restore_47 : decode cX12_restore 47 = .ok (.getfield 16, 3) := by decide +kernel
theorem dX12_restore_50 : decode cX12_restore 50 = .ok (.iconst 0, 1) := by decide +kernel
theorem dX12_restore_51 : decode cX12_restore 51 = .ok (.invokestatic 141, 3) := by decide +kernel
theorem dX12_restore_54 : decode cX12_restore 54 = .ok (.aload_n 0, 1) := by decide +kernel
theorem dX12_restore_55 : decode cX12_restore 55 = .ok (.iconst 0, 1) := by decide +kernel
theorem dX12_restore_56 : decode cX12_restore 56 = .ok (.putfield 145, 3) := by decide +kernel
theorem dX12_restore_59 : decode cX12_restore 59 = .ok (.aload_n 0, 1) := by decide +kernel
theorem dX12_restore_60 : decode cX12_restore 60 = .ok (.getfield 16, 3) := by decide +kernel
theorem dX12_restore_63 : decode cX12_restore 63 = .ok (.bipush 13, 2) := by decide +kernel
theorem dX12_restore_65 : decode cX12_restore 65 = .ok (.iaload, 1) := by decide +kernel
theorem dX12_restore_66 : decode cX12_restore 66 = .ok (.ireturn, 1) := by decide +kernel
