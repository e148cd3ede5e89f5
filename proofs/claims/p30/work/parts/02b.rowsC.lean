theorem dX0_init_0 : decode cX0_init 0 = .ok (.aload_n 0, 1) := by decide +kernel
theorem dX0_init_1 : decode cX0_init 1 = .ok (.invokespecial 1, 3) := by decide +kernel
theorem dX0_init_4 : decode cX0_init 4 = .ok (.aload_n 0, 1) := by decide +kernel
theorem dX0_init_5 : decode cX0_init 5 = .ok (.iconst 3, 1) := by decide +kernel
theorem dX0_init_6 : decode cX0_init 6 = .ok (.newarray .int, 2) := by decide +kernel
theorem dX0_init_8 : decode cX0_init 8 = .ok (.putfield 9, 3) := by decide +kernel
theorem dX0_init_11 : decode cX0_init 11 = .ok (.return_, 1) := by decide +kernel
theorem dX0_become_0 : decode cX0_become 0 = .ok (.aload_n 1, 1) := by decide +kernel
theorem dX0_become_1 : decode cX0_become 1 = .ok (.getfield 9, 3) := by decide +kernel
theorem dX0_become_4 : decode cX0_become 4 = .ok (.iconst 0, 1) := by decide +kernel
theorem dX0_become_5 : decode cX0_become 5 = .ok (.aload_n 0, 1) := by decide +kernel
theorem dX0_become_6 : decode cX0_become 6 = .ok (.getfield 9, 3) := by decide +kernel
theorem dX0_become_9 : decode cX0_become 9 = .ok (.iconst 0, 1) := by decide +kernel
theorem dX0_become_10 : decode cX0_become 10 = .ok (.iconst 3, 1) := by decide +kernel
theorem dX0_become_11 : decode cX0_become 11 = .ok (.invokestatic 13, 3) := by decide +kernel
theorem dX0_become_14 : decode cX0_become 14 = .ok (.aload_n 0, 1) := by decide +kernel
theorem dX0_become_15 : decode cX0_become 15 = .ok (.aload_n 1, 1) := by decide +kernel
theorem dX0_become_16 : decode cX0_become 16 = .ok (.getfield 19, 3) := by decide +kernel
theorem dX0_become_19 : decode cX0_become 19 = .ok (.putfield 19, 3) := by decide +kernel
theorem dX0_become_22 : decode cX0_become 22 = .ok (.aload_n 0, 1) := by decide +kernel
theorem dX0_become_23 : decode cX0_become 23 = .ok (.aload_n 1, 1) := by decide +kernel
theorem dX0_become_24 : decode cX0_become 24 = .ok (.getfield 23, 3) := by decide +kernel
theorem dX0_become_27 : decode cX0_become 27 = .ok (.putfield 23, 3) := by decide +kernel
theorem dX0_become_30 : decode cX0_become 30 = .ok (.aload_n 0, 1) := by decide +kernel
theorem dX0_become_31 : decode cX0_become 31 = .ok (.aload_n 1, 1) := by decide +kernel
theorem dX0_become_32 : decode cX0_become 32 = .ok (.getfield 26, 3) := by decide +kernel
theorem dX0_become_35 : decode cX0_become 35 = .ok (.putfield 26, 3) := by decide +kernel
theorem dX0_become_38 : decode cX0_become 38 = .ok (.aload_n 0, 1) := by decide +kernel
theorem dX0_become_39 : decode cX0_become 39 = .ok (.aload_n 1, 1) := by decide +kernel
theorem dX0_become_40 : decode cX0_become 40 = .ok (.getfield 29, 3) := by decide +kernel
theorem dX0_become_43 : decode cX0_become 43 = .ok (.putfield 29, 3) := by decide +kernel
theorem dX0_become_46 : decode cX0_become 46 = .ok (.aload_n 0, 1) := by decide +kernel
theorem dX0_become_47 : decode cX0_become 47 = .ok (.aload_n 1, 1) := by decide +kernel
theorem dX0_become_48 : decode cX0_become 48 = .ok (.getfield 32, 3) := by decide +kernel
theorem dX0_become_51 : decode cX0_become 51 = .ok (.putfield 32, 3) := by decide +kernel
theorem dX0_become_54 : decode cX0_become 54 = .ok (.return_, 1) := by decide +kernel
theorem dX0_addTick_0 : decode cX0_addTick 0 = .ok (.iload_n 1, 1) := by decide +kernel
theorem dX0_addTick_1 : decode cX0_addTick 1 = .ok (.ifCond .lt 18, 3) := by decide +kernel
theorem dX0_addTick_4 : decode cX0_addTick 4 = .ok (.iload_n 1, 1) := by decide +kernel
theorem dX0_addTick_5 : decode cX0_addTick 5 = .ok (.iconst 3, 1) := by decide +kernel
theorem dX0_addTick_6 : decode cX0_addTick 6 = .ok (.if_icmp .ge 13, 3) := by decide +kernel
theorem dX0_addTick_9 : decode cX0_addTick 9 = .ok (.aload_n 0, 1) := by decide +kernel
theorem dX0_addTick_10 : decode cX0_addTick 10 = .ok (.getfield 9, 3) := by decide +kernel
theorem dX0_addTick_13 : decode cX0_addTick 13 = .ok (.iload_n 1, 1) := by decide +kernel
theorem dX0_addTick_14 : decode cX0_addTick 14 = .ok (.dup2, 1) := by decide +kernel
theorem dX0_addTick_15 : decode cX0_addTick 15 = .ok (.iaload, 1) := by decide +kernel
theorem dX0_addTick_16 : decode cX0_addTick 16 = .ok (.iconst 1, 1) := by decide +kernel
theorem dX0_addTick_17 : decode cX0_addTick 17 = .ok (.iadd, 1) := by decide +kernel
theorem dX0_addTick_18 : decode cX0_addTick 18 = .ok (.iastore, 1) := by decide +kernel
theorem dX0_addTick_19 : decode cX0_addTick 19 = .ok (.aload_n 0, 1) := by decide +kernel
theorem dX0_addTick_20 : decode cX0_addTick 20 = .ok (.dup, 1) := by decide +kernel
theorem dX0_addTick_21 : decode cX0_addTick 21 = .ok (.getfield 23, 3) := by decide +kernel
theorem dX0_addTick_24 : decode cX0_addTick 24 = .ok (.iload_n 2, 1) := by decide +kernel
theorem dX0_addTick_25 : decode cX0_addTick 25 = .ok (.iadd, 1) := by decide +kernel
theorem dX0_addTick_26 : decode cX0_addTick 26 = .ok (.putfield 23, 3) := by decide +kernel
theorem dX0_addTick_29 : decode cX0_addTick 29 = .ok (.iload_n 2, 1) := by decide +kernel
theorem dX0_addTick_30 : decode cX0_addTick 30 = .ok (.aload_n 0, 1) := by decide +kernel
theorem dX0_addTick_31 : decode cX0_addTick 31 = .ok (.getfield 19, 3) := by decide +kernel
theorem dX0_addTick_34 : decode cX0_addTick 34 = .ok (.if_icmp .eq 13, 3) := by decide +kernel
theorem dX0_addTick_37 : decode cX0_addTick 37 = .ok (.aload_n 0, 1) := by decide +kernel
theorem dX0_addTick_38 : decode cX0_addTick 38 = .ok (.dup, 1) := by decide +kernel
theorem dX0_addTick_39 : decode cX0_addTick 39 = .ok (.getfield 26, 3) := by decide +kernel
theorem dX0_addTick_42 : decode cX0_addTick 42 = .ok (.iconst 1, 1) := by decide +kernel
theorem dX0_addTick_43 : decode cX0_addTick 43 = .ok (.iadd, 1) := by decide +kernel
theorem dX0_addTick_44 : decode cX0_addTick 44 = .ok (.putfield 26, 3) := by decide +kernel
theorem dX0_addTick_47 : decode cX0_addTick 47 = .ok (.aload_n 0, 1) := by decide +kernel
theorem dX0_addTick_48 : decode cX0_addTick 48 = .ok (.iload_n 2, 1) := by decide +kernel
theorem dX0_addTick_49 : decode cX0_addTick 49 = .ok (.putfield 19, 3) := by decide +kernel
theorem dX0_addTick_52 : decode cX0_addTick 52 = .ok (.return_, 1) := by decide +kernel
theorem dX0_number_0 : decode cX0_number 0 = .ok (.iload_n 1, 1) := by decide +kernel
theorem dX0_number_1 : decode cX0_number 1 = .ok (.tableswitch 61 0 5 #[39, 39, 39, 46, 51, 56], 39) := by decide +kernel
theorem dX0_number_40 : decode cX0_number 40 = .ok (.aload_n 0, 1) := by decide +kernel
theorem dX0_number_41 : decode cX0_number 41 = .ok (.getfield 9, 3) := by decide +kernel
theorem dX0_number_44 : decode cX0_number 44 = .ok (.iload_n 1, 1) := by decide +kernel
theorem dX0_number_45 : decode cX0_number 45 = .ok (.iaload, 1) := by decide +kernel
theorem dX0_number_46 : decode cX0_number 46 = .ok (.ireturn, 1) := by decide +kernel
theorem dX0_number_47 : decode cX0_number 47 = .ok (.aload_n 0, 1) := by decide +kernel
theorem dX0_number_48 : decode cX0_number 48 = .ok (.getfield 23, 3) := by decide +kernel
theorem dX0_number_51 : decode cX0_number 51 = .ok (.ireturn, 1) := by decide +kernel
theorem dX0_number_52 : decode cX0_number 52 = .ok (.aload_n 0, 1) := by decide +kernel
theorem dX0_number_53 : decode cX0_number 53 = .ok (.getfield 26, 3) := by decide +kernel
theorem dX0_number_56 : decode cX0_number 56 = .ok (.ireturn, 1) := by decide +kernel
theorem dX0_number_57 : decode cX0_number 57 = .ok (.aload_n 0, 1) := by decide +kernel
theorem dX0_number_58 : decode cX0_number 58 = .ok (.getfield 29, 3) := by decide +kernel
theorem dX0_number_61 : decode cX0_number 61 = .ok (.ireturn, 1) := by decide +kernel
theorem dX0_number_62 : decode cX0_number 62 = .ok (.aload_n 0, 1) := by decide +kernel
theorem dX0_number_63 : decode cX0_number 63 = .ok (.getfield 32, 3) := by decide +kernel
theorem dX0_number_66 : decode cX0_number 66 = .ok (.ireturn, 1) := by decide +kernel
theorem dX1_init_0 : decode cX1_init 0 = .ok (.aload_n 0, 1) := by decide +kernel
theorem dX1_init_1 : decode cX1_init 1 = .ok (.invokespecial 3, 3) := by decide +kernel
theorem dX1_init_4 : decode cX1_init 4 = .ok (.aload_n 0, 1) := by decide +kernel
theorem dX1_init_5 : decode cX1_init 5 = .ok (.bipush 100, 2) := by decide +kernel
theorem dX1_init_7 : decode cX1_init 7 = .ok (.putfield 9, 3) := by decide +kernel
theorem dX1_init_10 : decode cX1_init 10 = .ok (.aload_n 0, 1) := by decide +kernel
theorem dX1_init_11 : decode cX1_init 11 = .ok (.iconst 3, 1) := by decide +kernel
theorem dX1_init_12 : decode cX1_init 12 = .ok (.putfield 15, 3) := by decide +kernel
theorem dX1_init_15 : decode cX1_init 15 = .ok (.aload_n 0, 1) := by decide +kernel
theorem dX1_init_16 : decode cX1_init 16 = .ok (.bipush 20, 2) := by decide +kernel
theorem dX1_init_18 : decode cX1_init 18 = .ok (.putfield 18, 3) := by decide +kernel
theorem dX1_init_21 : decode cX1_init 21 = .ok (.aload_n 0, 1) := by decide +kernel
theorem dX1_init_22 : decode cX1_init 22 = .ok (.bipush 50, 2) := by decide +kernel
theorem dX1_init_24 : decode cX1_init 24 = .ok (.putfield 21, 3) := by decide +kernel
theorem dX1_init_27 : decode cX1_init 27 = .ok (.return_, 1) := by decide +kernel
theorem dX1_become_0 : decode cX1_become 0 = .ok (.aload_n 0, 1) := by decide +kernel
theorem dX1_become_1 : decode cX1_become 1 = .ok (.aload_n 1, 1) := by decide +kernel
theorem dX1_become_2 : decode cX1_become 2 = .ok (.getfield 9, 3) := by decide +kernel
theorem dX1_become_5 : decode cX1_become 5 = .ok (.putfield 9, 3) := by decide +kernel
theorem dX1_become_8 : decode cX1_become 8 = .ok (.aload_n 0, 1) := by decide +kernel
theorem dX1_become_9 : decode cX1_become 9 = .ok (.aload_n 1, 1) := by decide +kernel
theorem dX1_become_10 : decode cX1_become 10 = .ok (.getfield 15, 3) := by decide +kernel
theorem dX1_become_13 : decode cX1_become 13 = .ok (.putfield 15, 3) := by decide +kernel
theorem dX1_become_16 : decode cX1_become 16 = .ok (.aload_n 0, 1) := by decide +kernel
theorem dX1_become_17 : decode cX1_become 17 = .ok (.aload_n 1, 1) := by decide +kernel
theorem dX1_become_18 : decode cX1_become 18 = .ok (.getfield 18, 3) := by decide +kernel
theorem dX1_become_21 : decode cX1_become 21 = .ok (.putfield 18, 3) := by decide +kernel
theorem dX1_become_24 : decode cX1_become 24 = .ok (.aload_n 0, 1) := by decide +kernel
theorem dX1_become_25 : decode cX1_become 25 = .ok (.aload_n 1, 1) := by decide +kernel
theorem dX1_become_26 : decode cX1_become 26 = .ok (.getfield 21, 3) := by decide +kernel
theorem dX1_become_29 : decode cX1_become 29 = .ok (.putfield 21, 3) := by decide +kernel
theorem dX1_become_32 : decode cX1_become 32 = .ok (.aload_n 0, 1) := by decide +kernel
theorem dX1_become_33 : decode cX1_become 33 = .ok (.aload_n 1, 1) := by decide +kernel
theorem dX1_become_34 : decode cX1_become 34 = .ok (.getfield 24, 3) := by decide +kernel
theorem dX1_become_37 : decode cX1_become 37 = .ok (.putfield 24, 3) := by decide +kernel
theorem dX1_become_40 : decode cX1_become 40 = .ok (.aload_n 0, 1) := by decide +kernel
theorem dX1_become_41 : decode cX1_become 41 = .ok (.aload_n 1, 1) := by decide +kernel
theorem dX1_become_42 : decode cX1_become 42 = .ok (.getfield 27, 3) := by decide +kernel
theorem dX1_become_45 : decode cX1_become 45 = .ok (.putfield 27, 3) := by decide +kernel
theorem dX1_become_48 : decode cX1_become 48 = .ok (.aload_n 0, 1) := by decide +kernel
theorem dX1_become_49 : decode cX1_become 49 = .ok (.aload_n 1, 1) := by decide +kernel
theorem dX1_become_50 : decode cX1_become 50 = .ok (.getfield 30, 3) := by decide +kernel
theorem dX1_become_53 : decode cX1_become 53 = .ok (.putfield 30, 3) := by decide +kernel
theorem dX1_become_56 : decode cX1_become 56 = .ok (.aload_n 0, 1) := by decide +kernel
theorem dX1_become_57 : decode cX1_become 57 = .ok (.aload_n 1, 1) := by decide +kernel
theorem dX1_become_58 : decode cX1_become 58 = .ok (.getfield 33, 3) := by decide +kernel
theorem dX1_become_61 : decode cX1_become 61 = .ok (.putfield 33, 3) := by decide +kernel
theorem dX1_become_64 : decode cX1_become 64 = .ok (.aload_n 0, 1) := by decide +kernel
theorem dX1_become_65 : decode cX1_become 65 = .ok (.aload_n 1, 1) := by decide +kernel
theorem dX1_become_66 : decode cX1_become 66 = .ok (.getfield 37, 3) := by decide +kernel
theorem dX1_become_69 : decode cX1_become 69 = .ok (.putfield 37, 3) := by decide +kernel
theorem dX1_become_72 : decode cX1_become 72 = .ok (.aload_n 0, 1) := by decide +kernel
theorem dX1_become_73 : decode cX1_become 73 = .ok (.aload_n 1, 1) := by decide +kernel
theorem dX1_become_74 : decode cX1_become 74 = .ok (.getfield 40, 3) := by decide +kernel
theorem dX1_become_77 : decode cX1_become 77 = .ok (.putfield 40, 3) := by decide +kernel
theorem dX1_become_80 : decode cX1_become 80 = .ok (.aload_n 0, 1) := by decide +kernel
theorem dX1_become_81 : decode cX1_become 81 = .ok (.aload_n 1, 1) := by decide +kernel
theorem dX1_become_82 : decode cX1_become 82 = .ok (.getfield 43, 3) := by decide +kernel
theorem dX1_become_85 : decode cX1_become 85 = .ok (.putfield 43, 3) := by decide +kernel
theorem dX1_become_88 : decode cX1_become 88 = .ok (.return_, 1) := by decide +kernel
theorem dX1_most_0 : decode cX1_most 0 = .ok (.iload_n 0, 1) := by decide +kernel
theorem dX1_most_1 : decode cX1_most 1 = .ok (.tableswitch 37 5 7 #[27, 31, 34], 27) := by decide +kernel
theorem dX1_most_28 : decode cX1_most 28 = .ok (.sipush 999, 3) := by decide +kernel
theorem dX1_most_31 : decode cX1_most 31 = .ok (.ireturn, 1) := by decide +kernel
theorem dX1_most_32 : decode cX1_most 32 = .ok (.bipush 20, 2) := by decide +kernel
theorem dX1_most_34 : decode cX1_most 34 = .ok (.ireturn, 1) := by decide +kernel
theorem dX1_most_35 : decode cX1_most 35 = .ok (.bipush 99, 2) := by decide +kernel
theorem dX1_most_37 : decode cX1_most 37 = .ok (.ireturn, 1) := by decide +kernel
theorem dX1_most_38 : decode cX1_most 38 = .ok (.sipush 9999, 3) := by decide +kernel
theorem dX1_most_41 : decode cX1_most 41 = .ok (.ireturn, 1) := by decide +kernel
theorem dX1_number_0 : decode cX1_number 0 = .ok (.iload_n 1, 1) := by decide +kernel
theorem dX1_number_1 : decode cX1_number 1 = .ok (.tableswitch 60 5 9 #[35, 40, 45, 50, 55], 35) := by decide +kernel
theorem dX1_number_36 : decode cX1_number 36 = .ok (.aload_n 0, 1) := by decide +kernel
theorem dX1_number_37 : decode cX1_number 37 = .ok (.getfield 9, 3) := by decide +kernel
theorem dX1_number_40 : decode cX1_number 40 = .ok (.ireturn, 1) := by decide +kernel
theorem dX1_number_41 : decode cX1_number 41 = .ok (.aload_n 0, 1) := by decide +kernel
theorem dX1_number_42 : decode cX1_number 42 = .ok (.getfield 15, 3) := by decide +kernel
theorem dX1_number_45 : decode cX1_number 45 = .ok (.ireturn, 1) := by decide +kernel
theorem dX1_number_46 : decode cX1_number 46 = .ok (.aload_n 0, 1) := by decide +kernel
theorem dX1_number_47 : decode cX1_number 47 = .ok (.getfield 18, 3) := by decide +kernel
theorem dX1_number_50 : decode cX1_number 50 = .ok (.ireturn, 1) := by decide +kernel
theorem dX1_number_51 : decode cX1_number 51 = .ok (.aload_n 0, 1) := by decide +kernel
theorem dX1_number_52 : decode cX1_number 52 = .ok (.getfield 21, 3) := by decide +kernel
theorem dX1_number_55 : decode cX1_number 55 = .ok (.ireturn, 1) := by decide +kernel
theorem dX1_number_56 : decode cX1_number 56 = .ok (.aload_n 0, 1) := by decide +kernel
theorem dX1_number_57 : decode cX1_number 57 = .ok (.getfield 24, 3) := by decide +kernel
theorem dX1_number_60 : decode cX1_number 60 = .ok (.ireturn, 1) := by decide +kernel
theorem dX1_number_61 : decode cX1_number 61 = .ok (.aload_n 0, 1) := by decide +kernel
theorem dX1_number_62 : decode cX1_number 62 = .ok (.getfield 27, 3) := by decide +kernel
theorem dX1_number_65 : decode cX1_number 65 = .ok (.ireturn, 1) := by decide +kernel
theorem dX1_put_0 : decode cX1_put 0 = .ok (.iload_n 1, 1) := by decide +kernel
theorem dX1_put_1 : decode cX1_put 1 = .ok (.tableswitch 75 5 9 #[35, 43, 51, 59, 67], 35) := by decide +kernel
theorem dX1_put_36 : decode cX1_put 36 = .ok (.aload_n 0, 1) := by decide +kernel
theorem dX1_put_37 : decode cX1_put 37 = .ok (.iload_n 2, 1) := by decide +kernel
theorem dX1_put_38 : decode cX1_put 38 = .ok (.putfield 9, 3) := by decide +kernel
theorem dX1_put_41 : decode cX1_put 41 = .ok (.goto 40, 3) := by decide +kernel
theorem dX1_put_44 : decode cX1_put 44 = .ok (.aload_n 0, 1) := by decide +kernel
theorem dX1_put_45 : decode cX1_put 45 = .ok (.iload_n 2, 1) := by decide +kernel
theorem dX1_put_46 : decode cX1_put 46 = .ok (.putfield 15, 3) := by decide +kernel
theorem dX1_put_49 : decode cX1_put 49 = .ok (.goto 32, 3) := by decide +kernel
theorem dX1_put_52 : decode cX1_put 52 = .ok (.aload_n 0, 1) := by decide +kernel
theorem dX1_put_53 : decode cX1_put 53 = .ok (.iload_n 2, 1) := by decide +kernel
theorem dX1_put_54 : decode cX1_put 54 = .ok (.putfield 18, 3) := by decide +kernel
theorem dX1_put_57 : decode cX1_put 57 = .ok (.goto 24, 3) := by decide +kernel
theorem dX1_put_60 : decode cX1_put 60 = .ok (.aload_n 0, 1) := by decide +kernel
theorem dX1_put_61 : decode cX1_put 61 = .ok (.iload_n 2, 1) := by decide +kernel
theorem dX1_put_62 : decode cX1_put 62 = .ok (.putfield 21, 3) := by decide +kernel
theorem dX1_put_65 : decode cX1_put 65 = .ok (.goto 16, 3) := by decide +kernel
theorem dX1_put_68 : decode cX1_put 68 = .ok (.aload_n 0, 1) := by decide +kernel
theorem dX1_put_69 : decode cX1_put 69 = .ok (.iload_n 2, 1) := by decide +kernel
theorem dX1_put_70 : decode cX1_put 70 = .ok (.putfield 24, 3) := by decide +kernel
theorem dX1_put_73 : decode cX1_put 73 = .ok (.goto 8, 3) := by decide +kernel
theorem dX1_put_76 : decode cX1_put 76 = .ok (.aload_n 0, 1) := by decide +kernel
theorem dX1_put_77 : decode cX1_put 77 = .ok (.iload_n 2, 1) := by decide +kernel
theorem dX1_put_78 : decode cX1_put 78 = .ok (.putfield 27, 3) := by decide +kernel
theorem dX1_put_81 : decode cX1_put 81 = .ok (.return_, 1) := by decide +kernel
theorem dX1_enter_0 : decode cX1_enter 0 = .ok (.aload_n 0, 1) := by decide +kernel
theorem dX1_enter_1 : decode cX1_enter 1 = .ok (.iload_n 1, 1) := by decide +kernel
theorem dX1_enter_2 : decode cX1_enter 2 = .ok (.putfield 30, 3) := by decide +kernel
theorem dX1_enter_5 : decode cX1_enter 5 = .ok (.aload_n 0, 1) := by decide +kernel
theorem dX1_enter_6 : decode cX1_enter 6 = .ok (.iload_n 1, 1) := by decide +kernel
theorem dX1_enter_7 : decode cX1_enter 7 = .ok (.iconst 1, 1) := by decide +kernel
theorem dX1_enter_8 : decode cX1_enter 8 = .ok (.if_icmp .ne 7, 3) := by decide +kernel
theorem dX1_enter_11 : decode cX1_enter 11 = .ok (.iconst 1, 1) := by decide +kernel
theorem dX1_enter_12 : decode cX1_enter 12 = .ok (.goto 4, 3) := by decide +kernel
theorem dX1_enter_15 : decode cX1_enter 15 = .ok (.iconst 0, 1) := by decide +kernel
theorem dX1_enter_16 : decode cX1_enter 16 = .ok (.putfield 33, 3) := by decide +kernel
theorem dX1_enter_19 : decode cX1_enter 19 = .ok (.iload_n 1, 1) := by decide +kernel
theorem dX1_enter_20 : decode cX1_enter 20 = .ok (.iconst 2, 1) := by decide +kernel
theorem dX1_enter_21 : decode cX1_enter 21 = .ok (.if_icmp .ne 13, 3) := by decide +kernel
theorem dX1_enter_24 : decode cX1_enter 24 = .ok (.aload_n 0, 1) := by decide +kernel
theorem dX1_enter_25 : decode cX1_enter 25 = .ok (.iconst 0, 1) := by decide +kernel
theorem dX1_enter_26 : decode cX1_enter 26 = .ok (.putfield 37, 3) := by decide +kernel
theorem dX1_enter_29 : decode cX1_enter 29 = .ok (.aload_n 0, 1) := by decide +kernel
theorem dX1_enter_30 : decode cX1_enter 30 = .ok (.iconst 0, 1) := by decide +kernel
theorem dX1_enter_31 : decode cX1_enter 31 = .ok (.putfield 43, 3) := by decide +kernel
theorem dX1_enter_34 : decode cX1_enter 34 = .ok (.return_, 1) := by decide +kernel
set_option maxRecDepth 20000 in
theorem ggX1_outputAt_X1_relayAt : GoodIn wsX1_outputAt wsX1_relayAt := goodIn_r _ [6, 7, 8, 9, 23, 24, 25, 26, 27, 28, 29, 30, 31, 32, 33] (by decide +kernel) (by decide +kernel)
set_option maxRecDepth 20000 in
theorem gX1_outputAt_X1_relayAt : GoodIn wsX1_outputAt (wsV RX1 46 RX1 yX1_relayAt wsX1_relayAt) := goodIn_app (goodIn_of _ (by decide +kernel)) ggX1_outputAt_X1_relayAt
set_option maxRecDepth 20000 in
theorem ggX1_outputAt_X1_controlAt : GoodIn wsX1_outputAt wsX1_controlAt := goodIn_r _ [13, 7, 14, 15, 16, 17, 18, 19, 20, 21, 22, 23, 24, 25, 26, 27, 28, 29, 30, 31, 32, 33] (by decide +kernel) (by decide +kernel)
set_option maxRecDepth 20000 in
theorem gX1_outputAt_X1_controlAt : GoodIn wsX1_outputAt (wsV RX1 50 RX1 yX1_controlAt wsX1_controlAt) := goodIn_app (goodIn_of _ (by decide +kernel)) ggX1_outputAt_X1_controlAt
theorem dX1_outputAt_0 : decode cX1_outputAt 0 = .ok (.aload_n 0, 1) := by decide +kernel
theorem dX1_outputAt_1 : decode cX1_outputAt 1 = .ok (.getfield 30, 3) := by decide +kernel
theorem dX1_outputAt_4 : decode cX1_outputAt 4 = .ok (.lookupswitch 49 #[(1, 28), (2, 42)], 28) := by decide +kernel
theorem dX1_outputAt_32 : decode cX1_outputAt 32 = .ok (.aload_n 0, 1) := by decide +kernel
theorem dX1_outputAt_33 : decode cX1_outputAt 33 = .ok (.iload_n 1, 1) := by decide +kernel
theorem dX1_outputAt_34 : decode cX1_outputAt 34 = .ok (.invokevirtual 46, 3) := by decide +kernel
theorem dX1_outputAt_37 : decode cX1_outputAt 37 = .ok (.ifCond .eq 7, 3) := by decide +kernel
theorem dX1_outputAt_40 : decode cX1_outputAt 40 = .ok (.iload_n 2, 1) := by decide +kernel
theorem dX1_outputAt_41 : decode cX1_outputAt 41 = .ok (.goto 4, 3) := by decide +kernel
theorem dX1_outputAt_44 : decode cX1_outputAt 44 = .ok (.iconst 0, 1) := by decide +kernel
theorem dX1_outputAt_45 : decode cX1_outputAt 45 = .ok (.ireturn, 1) := by decide +kernel
theorem dX1_outputAt_46 : decode cX1_outputAt 46 = .ok (.aload_n 0, 1) := by decide +kernel
theorem dX1_outputAt_47 : decode cX1_outputAt 47 = .ok (.iload_n 1, 1) := by decide +kernel
theorem dX1_outputAt_48 : decode cX1_outputAt 48 = .ok (.iload_n 2, 1) := by decide +kernel
theorem dX1_outputAt_49 : decode cX1_outputAt 49 = .ok (.invokevirtual 50, 3) := by decide +kernel
theorem dX1_outputAt_52 : decode cX1_outputAt 52 = .ok (.ireturn, 1) := by decide +kernel
theorem dX1_outputAt_53 : decode cX1_outputAt 53 = .ok (.iconst 0, 1) := by decide +kernel
theorem dX1_outputAt_54 : decode cX1_outputAt 54 = .ok (.ireturn, 1) := by decide +kernel
theorem dX1_relayAt_0 : decode cX1_relayAt 0 = .ok (.iload_n 1, 1) := by decide +kernel
theorem dX1_relayAt_1 : decode cX1_relayAt 1 = .ok (.aload_n 0, 1) := by decide +kernel
theorem dX1_relayAt_2 : decode cX1_relayAt 2 = .ok (.getfield 9, 3) := by decide +kernel
theorem dX1_relayAt_5 : decode cX1_relayAt 5 = .ok (.aload_n 0, 1) := by decide +kernel
theorem dX1_relayAt_6 : decode cX1_relayAt 6 = .ok (.getfield 15, 3) := by decide +kernel
theorem dX1_relayAt_9 : decode cX1_relayAt 9 = .ok (.iadd, 1) := by decide +kernel
theorem dX1_relayAt_10 : decode cX1_relayAt 10 = .ok (.if_icmp .lt 11, 3) := by decide +kernel
theorem dX1_relayAt_13 : decode cX1_relayAt 13 = .ok (.aload_n 0, 1) := by decide +kernel
theorem dX1_relayAt_14 : decode cX1_relayAt 14 = .ok (.iconst 0, 1) := by decide +kernel
theorem dX1_relayAt_15 : decode cX1_relayAt 15 = .ok (.putfield 33, 3) := by decide +kernel
theorem dX1_relayAt_18 : decode cX1_relayAt 18 = .ok (.goto 21, 3) := by decide +kernel
theorem dX1_relayAt_21 : decode cX1_relayAt 21 = .ok (.iload_n 1, 1) := by decide +kernel
theorem dX1_relayAt_22 : decode cX1_relayAt 22 = .ok (.aload_n 0, 1) := by decide +kernel
theorem dX1_relayAt_23 : decode cX1_relayAt 23 = .ok (.getfield 9, 3) := by decide +kernel
theorem dX1_relayAt_26 : decode cX1_relayAt 26 = .ok (.aload_n 0, 1) := by decide +kernel
theorem dX1_relayAt_27 : decode cX1_relayAt 27 = .ok (.getfield 15, 3) := by decide +kernel
theorem dX1_relayAt_30 : decode cX1_relayAt 30 = .ok (.isub, 1) := by decide +kernel
theorem dX1_relayAt_31 : decode cX1_relayAt 31 = .ok (.if_icmp .gt 8, 3) := by decide +kernel
theorem dX1_relayAt_34 : decode cX1_relayAt 34 = .ok (.aload_n 0, 1) := by decide +kernel
theorem dX1_relayAt_35 : decode cX1_relayAt 35 = .ok (.iconst 1, 1) := by decide +kernel
theorem dX1_relayAt_36 : decode cX1_relayAt 36 = .ok (.putfield 33, 3) := by decide +kernel
theorem dX1_relayAt_39 : decode cX1_relayAt 39 = .ok (.aload_n 0, 1) := by decide +kernel
theorem dX1_relayAt_40 : decode cX1_relayAt 40 = .ok (.getfield 33, 3) := by decide +kernel
theorem dX1_relayAt_43 : decode cX1_relayAt 43 = .ok (.ireturn, 1) := by decide +kernel
set_option maxRecDepth 20000 in
theorem ggX1_controlAt_X11_within : GoodIn wsX1_controlAt wsX11_within := goodIn_r _ [10] (by decide +kernel) (by decide +kernel)
set_option maxRecDepth 20000 in
theorem gX1_controlAt_X11_within_n54 : GoodIn wsX1_controlAt (wsX11_within) := ggX1_controlAt_X11_within
theorem dX1_controlAt_0 : decode cX1_controlAt 0 = .ok (.aload_n 0, 1) := by decide +kernel
theorem dX1_controlAt_1 : decode cX1_controlAt 1 = .ok (.getfield 9, 3) := by decide +kernel
theorem dX1_controlAt_4 : decode cX1_controlAt 4 = .ok (.iload_n 1, 1) := by decide +kernel
theorem dX1_controlAt_5 : decode cX1_controlAt 5 = .ok (.isub, 1) := by decide +kernel
theorem dX1_controlAt_6 : decode cX1_controlAt 6 = .ok (.istore_n 3, 1) := by decide +kernel
theorem dX1_controlAt_7 : decode cX1_controlAt 7 = .ok (.aload_n 0, 1) := by decide +kernel
theorem dX1_controlAt_8 : decode cX1_controlAt 8 = .ok (.getfield 43, 3) := by decide +kernel
theorem dX1_controlAt_11 : decode cX1_controlAt 11 = .ok (.ifCond .eq 12, 3) := by decide +kernel
theorem dX1_controlAt_14 : decode cX1_controlAt 14 = .ok (.iload_n 3, 1) := by decide +kernel
theorem dX1_controlAt_15 : decode cX1_controlAt 15 = .ok (.aload_n 0, 1) := by decide +kernel
theorem dX1_controlAt_16 : decode cX1_controlAt 16 = .ok (.getfield 40, 3) := by decide +kernel
theorem dX1_controlAt_19 : decode cX1_controlAt 19 = .ok (.isub, 1) := by decide +kernel
theorem dX1_controlAt_20 : decode cX1_controlAt 20 = .ok (.goto 4, 3) := by decide +kernel
theorem dX1_controlAt_23 : decode cX1_controlAt 23 = .ok (.iconst 0, 1) := by decide +kernel
theorem dX1_controlAt_24 : decode cX1_controlAt 24 = .ok (.istore 4, 2) := by decide +kernel
theorem dX1_controlAt_26 : decode cX1_controlAt 26 = .ok (.aload_n 0, 1) := by decide +kernel
theorem dX1_controlAt_27 : decode cX1_controlAt 27 = .ok (.getfield 21, 3) := by decide +kernel
theorem dX1_controlAt_30 : decode cX1_controlAt 30 = .ok (.iload_n 3, 1) := by decide +kernel
theorem dX1_controlAt_31 : decode cX1_controlAt 31 = .ok (.imul, 1) := by decide +kernel
theorem dX1_controlAt_32 : decode cX1_controlAt 32 = .ok (.aload_n 0, 1) := by decide +kernel
theorem dX1_controlAt_33 : decode cX1_controlAt 33 = .ok (.getfield 24, 3) := by decide +kernel
theorem dX1_controlAt_36 : decode cX1_controlAt 36 = .ok (.aload_n 0, 1) := by decide +kernel
theorem dX1_controlAt_37 : decode cX1_controlAt 37 = .ok (.getfield 37, 3) := by decide +kernel
theorem dX1_controlAt_40 : decode cX1_controlAt 40 = .ok (.imul, 1) := by decide +kernel
theorem dX1_controlAt_41 : decode cX1_controlAt 41 = .ok (.iadd, 1) := by decide +kernel
theorem dX1_controlAt_42 : decode cX1_controlAt 42 = .ok (.aload_n 0, 1) := by decide +kernel
theorem dX1_controlAt_43 : decode cX1_controlAt 43 = .ok (.getfield 27, 3) := by decide +kernel
theorem dX1_controlAt_46 : decode cX1_controlAt 46 = .ok (.iload 4, 2) := by decide +kernel
theorem dX1_controlAt_48 : decode cX1_controlAt 48 = .ok (.imul, 1) := by decide +kernel
theorem dX1_controlAt_49 : decode cX1_controlAt 49 = .ok (.iadd, 1) := by decide +kernel
theorem dX1_controlAt_50 : decode cX1_controlAt 50 = .ok (.bipush 100, 2) := by decide +kernel
theorem dX1_controlAt_52 : decode cX1_controlAt 52 = .ok (.idiv, 1) := by decide +kernel
theorem dX1_controlAt_53 : decode cX1_controlAt 53 = .ok (.istore 5, 2) := by decide +kernel
theorem dX1_controlAt_55 : decode cX1_controlAt 55 = .ok (.iload 5, 2) := by decide +kernel
theorem dX1_controlAt_57 : decode cX1_controlAt 57 = .ok (.iconst 0, 1) := by decide +kernel
theorem dX1_controlAt_58 : decode cX1_controlAt 58 = .ok (.iload_n 2, 1) := by decide +kernel
theorem dX1_controlAt_59 : decode cX1_controlAt 59 = .ok (.invokestatic 54, 3) := by decide +kernel
theorem dX1_controlAt_62 : decode cX1_controlAt 62 = .ok (.istore 6, 2) := by decide +kernel
theorem dX1_controlAt_64 : decode cX1_controlAt 64 = .ok (.iload 6, 2) := by decide +kernel
theorem dX1_controlAt_66 : decode cX1_controlAt 66 = .ok (.iload 5, 2) := by decide +kernel
theorem dX1_controlAt_68 : decode cX1_controlAt 68 = .ok (.if_icmp .ne 22, 3) := by decide +kernel
theorem dX1_controlAt_71 : decode cX1_controlAt 71 = .ok (.aload_n 0, 1) := by decide +kernel
theorem dX1_controlAt_72 : decode cX1_controlAt 72 = .ok (.aload_n 0, 1) := by decide +kernel
theorem dX1_controlAt_73 : decode cX1_controlAt 73 = .ok (.getfield 37, 3) := by decide +kernel
theorem dX1_controlAt_76 : decode cX1_controlAt 76 = .ok (.iload_n 3, 1) := by decide +kernel
theorem dX1_controlAt_77 : decode cX1_controlAt 77 = .ok (.iadd, 1) := by decide +kernel
theorem dX1_controlAt_78 : decode cX1_controlAt 78 = .ok (.sipush (-9999), 3) := by decide +kernel
theorem dX1_controlAt_81 : decode cX1_controlAt 81 = .ok (.sipush 9999, 3) := by decide +kernel
theorem dX1_controlAt_84 : decode cX1_controlAt 84 = .ok (.invokestatic 54, 3) := by decide +kernel
theorem dX1_controlAt_87 : decode cX1_controlAt 87 = .ok (.putfield 37, 3) := by decide +kernel
theorem dX1_controlAt_90 : decode cX1_controlAt 90 = .ok (.aload_n 0, 1) := by decide +kernel
theorem dX1_controlAt_91 : decode cX1_controlAt 91 = .ok (.iload_n 3, 1) := by decide +kernel
theorem dX1_controlAt_92 : decode cX1_controlAt 92 = .ok (.putfield 40, 3) := by decide +kernel
theorem dX1_controlAt_95 : decode cX1_controlAt 95 = .ok (.aload_n 0, 1) := by decide +kernel
theorem dX1_controlAt_96 : decode cX1_controlAt 96 = .ok (.iconst 1, 1) := by decide +kernel
theorem dX1_controlAt_97 : decode cX1_controlAt 97 = .ok (.putfield 43, 3) := by decide +kernel
theorem dX1_controlAt_100 : decode cX1_controlAt 100 = .ok (.iload 6, 2) := by decide +kernel
theorem dX1_controlAt_102 : decode cX1_controlAt 102 = .ok (.ireturn, 1) := by decide +kernel
set_option maxRecDepth 20000 in
theorem ggX2_init_X7_init : GoodIn wsX2_init wsX7_init := goodIn_r _ [9, 10, 2, 3, 11, 12, 13, 14, 15, 16, 17, 18, 19, 20, 21, 22, 23, 24, 25, 26, 27, 28, 29, 30, 31, 32, 33, 34, 35, 36, 37, 38, 39, 40, 41, 42, 43, 44, 45, 46, 47, 48, 49, 50, 51, 52, 53, 54, 55, 56, 57, 58, 59, 60, 61, 62, 63, 64, 73, 74, 75, 76, 77, 78, 79, 80, 67, 68, 69, 70, 71, 72, 81, 82, 83, 84, 85, 86, 87, 88, 89, 90, 91, 92, 93, 94, 95, 96, 97, 98, 99, 100, 101, 102, 103, 104, 105, 106, 107, 108, 109] (by decide +kernel) (by decide +kernel)
set_option maxRecDepth 20000 in
theorem gX2_init_X7_init_n15 : GoodIn wsX2_init (wsX7_init) := ggX2_init_X7_init
theorem dX2_init_0 : decode cX2_init 0 = .ok (.aload_n 0, 1) := by decide +kernel
theorem dX2_init_1 : decode cX2_init 1 = .ok (.invokespecial 1, 3) := by decide +kernel
theorem dX2_init_4 : decode cX2_init 4 = .ok (.aload_n 0, 1) := by decide +kernel
theorem dX2_init_5 : decode cX2_init 5 = .ok (.bipush 14, 2) := by decide +kernel
theorem dX2_init_7 : decode cX2_init 7 = .ok (.anewarray 9, 3) := by decide +kernel
theorem dX2_init_10 : decode cX2_init 10 = .ok (.putfield 11, 3) := by decide +kernel
theorem dX2_init_13 : decode cX2_init 13 = .ok (.iconst 0, 1) := by decide +kernel
theorem dX2_init_14 : decode cX2_init 14 = .ok (.istore_n 1, 1) := by decide +kernel
theorem dX2_init_15 : decode cX2_init 15 = .ok (.iload_n 1, 1) := by decide +kernel
theorem dX2_init_16 : decode cX2_init 16 = .ok (.bipush 14, 2) := by decide +kernel
theorem dX2_init_18 : decode cX2_init 18 = .ok (.if_icmp .ge 22, 3) := by decide +kernel
theorem dX2_init_21 : decode cX2_init 21 = .ok (.aload_n 0, 1) := by decide +kernel
theorem dX2_init_22 : decode cX2_init 22 = .ok (.getfield 11, 3) := by decide +kernel
theorem dX2_init_25 : decode cX2_init 25 = .ok (.iload_n 1, 1) := by decide +kernel
theorem dX2_init_26 : decode cX2_init 26 = .ok (.new 9, 3) := by decide +kernel
theorem dX2_init_29 : decode cX2_init 29 = .ok (.dup, 1) := by decide +kernel
theorem dX2_init_30 : decode cX2_init 30 = .ok (.invokespecial 15, 3) := by decide +kernel
theorem dX2_init_33 : decode cX2_init 33 = .ok (.aastore, 1) := by decide +kernel
theorem dX2_init_34 : decode cX2_init 34 = .ok (.iinc 1 1, 3) := by decide +kernel
theorem dX2_init_37 : decode cX2_init 37 = .ok (.goto (-22), 3) := by decide +kernel
theorem dX2_init_40 : decode cX2_init 40 = .ok (.return_, 1) := by decide +kernel
set_option maxRecDepth 20000 in
theorem ggX2_remember_X2_forgetOldest : GoodIn wsX2_remember wsX2_forgetOldest := goodIn_r _ [7, 2, 1, 87, 88] (by decide +kernel) (by decide +kernel)
set_option maxRecDepth 20000 in
theorem gX2_remember_X2_forgetOldest : GoodIn wsX2_remember (wsV RX2 20 RX2 yX2_forgetOldest wsX2_forgetOldest) := goodIn_app (goodIn_of _ (by decide +kernel)) ggX2_remember_X2_forgetOldest
set_option maxRecDepth 20000 in
theorem ggX2_remember_X7_become : GoodIn wsX2_remember wsX7_become := goodIn_r _ [12, 13, 14, 15, 16, 17, 18, 19, 20, 21, 22, 23, 24, 25, 26, 27, 28, 29, 30, 31, 32, 33, 34, 35, 36, 37, 38, 39, 40, 41, 42, 43, 44, 45, 46, 47, 48, 49, 50, 51, 52, 53, 54, 55, 56, 57, 58, 59, 60, 61, 62, 63, 64, 65, 66, 67, 68, 69, 70, 71, 72, 73, 74, 75, 76, 77, 78, 79, 80, 81, 82, 83, 84, 85, 86, 89, 90, 91, 92, 93, 94, 95, 96, 97, 98, 99, 100, 101, 102, 103, 104, 105, 106, 107, 108, 109, 110, 111, 112, 113, 114, 115, 116, 117, 118, 119, 120, 121, 122, 123, 124, 125, 126, 127, 128, 129, 130, 131] (by decide +kernel) (by decide +kernel)
set_option maxRecDepth 20000 in
theorem gX2_remember_X7_become : GoodIn wsX2_remember (wsV RX2 23 RX7 yX7_become wsX7_become) := goodIn_app (goodIn_of _ (by decide +kernel)) ggX2_remember_X7_become
theorem dX2_remember_0 : decode cX2_remember 0 = .ok (.aload_n 0, 1) := by decide +kernel
theorem dX2_remember_1 : decode cX2_remember 1 = .ok (.getfield 16, 3) := by decide +kernel
theorem dX2_remember_4 : decode cX2_remember 4 = .ok (.bipush 14, 2) := by decide +kernel
theorem dX2_remember_6 : decode cX2_remember 6 = .ok (.if_icmp .lt 7, 3) := by decide +kernel
theorem dX2_remember_9 : decode cX2_remember 9 = .ok (.aload_n 0, 1) := by decide +kernel
theorem dX2_remember_10 : decode cX2_remember 10 = .ok (.invokevirtual 20, 3) := by decide +kernel
theorem dX2_remember_13 : decode cX2_remember 13 = .ok (.aload_n 0, 1) := by decide +kernel
theorem dX2_remember_14 : decode cX2_remember 14 = .ok (.getfield 16, 3) := by decide +kernel
theorem dX2_remember_17 : decode cX2_remember 17 = .ok (.ifCond .lt 35, 3) := by decide +kernel
theorem dX2_remember_20 : decode cX2_remember 20 = .ok (.aload_n 0, 1) := by decide +kernel
theorem dX2_remember_21 : decode cX2_remember 21 = .ok (.getfield 16, 3) := by decide +kernel
theorem dX2_remember_24 : decode cX2_remember 24 = .ok (.bipush 14, 2) := by decide +kernel
theorem dX2_remember_26 : decode cX2_remember 26 = .ok (.if_icmp .ge 26, 3) := by decide +kernel
theorem dX2_remember_29 : decode cX2_remember 29 = .ok (.aload_n 0, 1) := by decide +kernel
theorem dX2_remember_30 : decode cX2_remember 30 = .ok (.getfield 11, 3) := by decide +kernel
theorem dX2_remember_33 : decode cX2_remember 33 = .ok (.aload_n 0, 1) := by decide +kernel
theorem dX2_remember_34 : decode cX2_remember 34 = .ok (.getfield 16, 3) := by decide +kernel
theorem dX2_remember_37 : decode cX2_remember 37 = .ok (.aaload, 1) := by decide +kernel
theorem dX2_remember_38 : decode cX2_remember 38 = .ok (.aload_n 1, 1) := by decide +kernel
theorem dX2_remember_39 : decode cX2_remember 39 = .ok (.invokevirtual 23, 3) := by decide +kernel
theorem dX2_remember_42 : decode cX2_remember 42 = .ok (.aload_n 0, 1) := by decide +kernel
theorem dX2_remember_43 : decode cX2_remember 43 = .ok (.dup, 1) := by decide +kernel
theorem dX2_remember_44 : decode cX2_remember 44 = .ok (.getfield 16, 3) := by decide +kernel
theorem dX2_remember_47 : decode cX2_remember 47 = .ok (.iconst 1, 1) := by decide +kernel
theorem dX2_remember_48 : decode cX2_remember 48 = .ok (.iadd, 1) := by decide +kernel
theorem dX2_remember_49 : decode cX2_remember 49 = .ok (.putfield 16, 3) := by decide +kernel
theorem dX2_remember_52 : decode cX2_remember 52 = .ok (.return_, 1) := by decide +kernel
set_option maxRecDepth 20000 in
theorem ggX2_bringBack_X7_become : GoodIn wsX2_bringBack wsX7_become := goodIn_r _ [7, 8, 9, 10, 11, 12, 13, 14, 15, 16, 17, 18, 19, 20, 21, 22, 23, 24, 25, 26, 27, 28, 29, 30, 31, 32, 33, 34, 35, 36, 37, 38, 39, 40, 41, 42, 43, 44, 45, 46, 47, 48, 49, 50, 51, 52, 53, 54, 55, 56, 57, 58, 59, 60, 61, 62, 63, 64, 65, 66, 67, 68, 69, 70, 71, 72, 73, 74, 75, 76, 77, 78, 79, 80, 81, 84, 85, 86, 87, 88, 89, 90, 91, 92, 93, 94, 95, 96, 97, 98, 99, 100, 101, 102, 103, 104, 105, 106, 107, 108, 109, 110, 111, 112, 113, 114, 115, 116, 117, 118, 119, 120, 121, 122, 123, 124, 125, 126] (by decide +kernel) (by decide +kernel)
set_option maxRecDepth 20000 in
theorem gX2_bringBack_X7_become : GoodIn wsX2_bringBack (wsV RX2 23 RX7 yX7_become wsX7_become) := goodIn_app (goodIn_of _ (by decide +kernel)) ggX2_bringBack_X7_become
theorem dX2_bringBack_0 : decode cX2_bringBack 0 = .ok (.aload_n 0, 1) := by decide +kernel
theorem dX2_bringBack_1 : decode cX2_bringBack 1 = .ok (.getfield 16, 3) := by decide +kernel
theorem dX2_bringBack_4 : decode cX2_bringBack 4 = .ok (.ifCond .le 35, 3) := by decide +kernel
theorem dX2_bringBack_7 : decode cX2_bringBack 7 = .ok (.aload_n 0, 1) := by decide +kernel
theorem dX2_bringBack_8 : decode cX2_bringBack 8 = .ok (.getfield 16, 3) := by decide +kernel
theorem dX2_bringBack_11 : decode cX2_bringBack 11 = .ok (.bipush 14, 2) := by decide +kernel
theorem dX2_bringBack_13 : decode cX2_bringBack 13 = .ok (.if_icmp .gt 26, 3) := by decide +kernel
theorem dX2_bringBack_16 : decode cX2_bringBack 16 = .ok (.aload_n 0, 1) := by decide +kernel
theorem dX2_bringBack_17 : decode cX2_bringBack 17 = .ok (.dup, 1) := by decide +kernel
theorem dX2_bringBack_18 : decode cX2_bringBack 18 = .ok (.getfield 16, 3) := by decide +kernel
theorem dX2_bringBack_21 : decode cX2_bringBack 21 = .ok (.iconst 1, 1) := by decide +kernel
theorem dX2_bringBack_22 : decode cX2_bringBack 22 = .ok (.isub, 1) := by decide +kernel
theorem dX2_bringBack_23 : decode cX2_bringBack 23 = .ok (.putfield 16, 3) := by decide +kernel
theorem dX2_bringBack_26 : decode cX2_bringBack 26 = .ok (.aload_n 1, 1) := by decide +kernel
theorem dX2_bringBack_27 : decode cX2_bringBack 27 = .ok (.aload_n 0, 1) := by decide +kernel
theorem dX2_bringBack_28 : decode cX2_bringBack 28 = .ok (.getfield 11, 3) := by decide +kernel
theorem dX2_bringBack_31 : decode cX2_bringBack 31 = .ok (.aload_n 0, 1) := by decide +kernel
theorem dX2_bringBack_32 : decode cX2_bringBack 32 = .ok (.getfield 16, 3) := by decide +kernel
theorem dX2_bringBack_35 : decode cX2_bringBack 35 = .ok (.aaload, 1) := by decide +kernel
theorem dX2_bringBack_36 : decode cX2_bringBack 36 = .ok (.invokevirtual 23, 3) := by decide +kernel
theorem dX2_bringBack_39 : decode cX2_bringBack 39 = .ok (.return_, 1) := by decide +kernel
theorem dX2_forget_0 : decode cX2_forget 0 = .ok (.aload_n 0, 1) := by decide +kernel
theorem dX2_forget_1 : decode cX2_forget 1 = .ok (.iconst 0, 1) := by decide +kernel
theorem dX2_forget_2 : decode cX2_forget 2 = .ok (.putfield 16, 3) := by decide +kernel
theorem dX2_forget_5 : decode cX2_forget 5 = .ok (.return_, 1) := by decide +kernel
theorem dX2_forgetOldest_0 : decode cX2_forgetOldest 0 = .ok (.aload_n 0, 1) := by decide +kernel
theorem dX2_forgetOldest_1 : decode cX2_forgetOldest 1 = .ok (.getfield 11, 3) := by decide +kernel
theorem dX2_forgetOldest_4 : decode cX2_forgetOldest 4 = .ok (.iconst 0, 1) := by decide +kernel
theorem dX2_forgetOldest_5 : decode cX2_forgetOldest 5 = .ok (.aaload, 1) := by decide +kernel
theorem dX2_forgetOldest_6 : decode cX2_forgetOldest 6 = .ok (.astore_n 1, 1) := by decide +kernel
theorem dX2_forgetOldest_7 : decode cX2_forgetOldest 7 = .ok (.iconst 1, 1) := by decide +kernel
theorem dX2_forgetOldest_8 : decode cX2_forgetOldest 8 = .ok (.istore_n 2, 1) := by decide +kernel
theorem dX2_forgetOldest_9 : decode cX2_forgetOldest 9 = .ok (.iload_n 2, 1) := by decide +kernel
theorem dX2_forgetOldest_10 : decode cX2_forgetOldest 10 = .ok (.bipush 14, 2) := by decide +kernel
theorem dX2_forgetOldest_12 : decode cX2_forgetOldest 12 = .ok (.if_icmp .ge 23, 3) := by decide +kernel
theorem dX2_forgetOldest_15 : decode cX2_forgetOldest 15 = .ok (.aload_n 0, 1) := by decide +kernel
theorem dX2_forgetOldest_16 : decode cX2_forgetOldest 16 = .ok (.getfield 11, 3) := by decide +kernel
theorem dX2_forgetOldest_19 : decode cX2_forgetOldest 19 = .ok (.iload_n 2, 1) := by decide +kernel
theorem dX2_forgetOldest_20 : decode cX2_forgetOldest 20 = .ok (.iconst 1, 1) := by decide +kernel
theorem dX2_forgetOldest_21 : decode cX2_forgetOldest 21 = .ok (.isub, 1) := by decide +kernel
theorem dX2_forgetOldest_22 : decode cX2_forgetOldest 22 = .ok (.aload_n 0, 1) := by decide +kernel
theorem dX2_forgetOldest_23 : decode cX2_forgetOldest 23 = .ok (.getfield 11, 3) := by decide +kernel
theorem dX2_forgetOldest_26 : decode cX2_forgetOldest 26 = .ok (.iload_n 2, 1) := by decide +kernel
theorem dX2_forgetOldest_27 : decode cX2_forgetOldest 27 = .ok (.aaload, 1) := by decide +kernel
theorem dX2_forgetOldest_28 : decode cX2_forgetOldest 28 = .ok (.aastore, 1) := by decide +kernel
theorem dX2_forgetOldest_29 : decode cX2_forgetOldest 29 = .ok (.iinc 2 1, 3) := by decide +kernel
theorem dX2_forgetOldest_32 : decode cX2_forgetOldest 32 = .ok (.goto (-23), 3) := by decide +kernel
theorem dX2_forgetOldest_35 : decode cX2_forgetOldest 35 = .ok (.aload_n 0, 1) := by decide +kernel
theorem dX2_forgetOldest_36 : decode cX2_forgetOldest 36 = .ok (.getfield 11, 3) := by decide +kernel
theorem dX2_forgetOldest_39 : decode cX2_forgetOldest 39 = .ok (.bipush 13, 2) := by decide +kernel
theorem dX2_forgetOldest_41 : decode cX2_forgetOldest 41 = .ok (.aload_n 1, 1) := by decide +kernel
theorem dX2_forgetOldest_42 : decode cX2_forgetOldest 42 = .ok (.aastore, 1) := by decide +kernel
theorem dX2_forgetOldest_43 : decode cX2_forgetOldest 43 = .ok (.aload_n 0, 1) := by decide +kernel
theorem dX2_forgetOldest_44 : decode cX2_forgetOldest 44 = .ok (.bipush 13, 2) := by decide +kernel
theorem dX2_forgetOldest_46 : decode cX2_forgetOldest 46 = .ok (.putfield 16, 3) := by decide +kernel
theorem dX2_forgetOldest_49 : decode cX2_forgetOldest 49 = .ok (.return_, 1) := by decide +kernel
theorem dX3_init_0 : decode cX3_init 0 = .ok (.aload_n 0, 1) := by decide +kernel
theorem dX3_init_1 : decode cX3_init 1 = .ok (.invokespecial 3, 3) := by decide +kernel
theorem dX3_init_4 : decode cX3_init 4 = .ok (.aload_n 0, 1) := by decide +kernel
theorem dX3_init_5 : decode cX3_init 5 = .ok (.bipush 10, 2) := by decide +kernel
theorem dX3_init_7 : decode cX3_init 7 = .ok (.putfield 9, 3) := by decide +kernel
theorem dX3_init_10 : decode cX3_init 10 = .ok (.aload_n 0, 1) := by decide +kernel
theorem dX3_init_11 : decode cX3_init 11 = .ok (.bipush 8, 2) := by decide +kernel
theorem dX3_init_13 : decode cX3_init 13 = .ok (.putfield 15, 3) := by decide +kernel
theorem dX3_init_16 : decode cX3_init 16 = .ok (.aload_n 0, 1) := by decide +kernel
theorem dX3_init_17 : decode cX3_init 17 = .ok (.iconst 2, 1) := by decide +kernel
theorem dX3_init_18 : decode cX3_init 18 = .ok (.putfield 18, 3) := by decide +kernel
theorem dX3_init_21 : decode cX3_init 21 = .ok (.aload_n 0, 1) := by decide +kernel
theorem dX3_init_22 : decode cX3_init 22 = .ok (.bipush 20, 2) := by decide +kernel
theorem dX3_init_24 : decode cX3_init 24 = .ok (.putfield 21, 3) := by decide +kernel
theorem dX3_init_27 : decode cX3_init 27 = .ok (.aload_n 0, 1) := by decide +kernel
theorem dX3_init_28 : decode cX3_init 28 = .ok (.bipush 20, 2) := by decide +kernel
theorem dX3_init_30 : decode cX3_init 30 = .ok (.putfield 24, 3) := by decide +kernel
theorem dX3_init_33 : decode cX3_init 33 = .ok (.aload_n 0, 1) := by decide +kernel
theorem dX3_init_34 : decode cX3_init 34 = .ok (.bipush 20, 2) := by decide +kernel
theorem dX3_init_36 : decode cX3_init 36 = .ok (.putfield 27, 3) := by decide +kernel
theorem dX3_init_39 : decode cX3_init 39 = .ok (.aload_n 0, 1) := by decide +kernel
theorem dX3_init_40 : decode cX3_init 40 = .ok (.bipush 10, 2) := by decide +kernel
theorem dX3_init_42 : decode cX3_init 42 = .ok (.newarray .int, 2) := by decide +kernel
theorem dX3_init_44 : decode cX3_init 44 = .ok (.putfield 30, 3) := by decide +kernel
theorem dX3_init_47 : decode cX3_init 47 = .ok (.return_, 1) := by decide +kernel
theorem dX3_become_0 : decode cX3_become 0 = .ok (.aload_n 0, 1) := by decide +kernel
theorem dX3_become_1 : decode cX3_become 1 = .ok (.aload_n 1, 1) := by decide +kernel
theorem dX3_become_2 : decode cX3_become 2 = .ok (.getfield 9, 3) := by decide +kernel
theorem dX3_become_5 : decode cX3_become 5 = .ok (.putfield 9, 3) := by decide +kernel
theorem dX3_become_8 : decode cX3_become 8 = .ok (.aload_n 0, 1) := by decide +kernel
theorem dX3_become_9 : decode cX3_become 9 = .ok (.aload_n 1, 1) := by decide +kernel
theorem dX3_become_10 : decode cX3_become 10 = .ok (.getfield 15, 3) := by decide +kernel
theorem dX3_become_13 : decode cX3_become 13 = .ok (.putfield 15, 3) := by decide +kernel
theorem dX3_become_16 : decode cX3_become 16 = .ok (.aload_n 0, 1) := by decide +kernel
theorem dX3_become_17 : decode cX3_become 17 = .ok (.aload_n 1, 1) := by decide +kernel
theorem dX3_become_18 : decode cX3_become 18 = .ok (.getfield 18, 3) := by decide +kernel
theorem dX3_become_21 : decode cX3_become 21 = .ok (.putfield 18, 3) := by decide +kernel
theorem dX3_become_24 : decode cX3_become 24 = .ok (.aload_n 0, 1) := by decide +kernel
theorem dX3_become_25 : decode cX3_become 25 = .ok (.aload_n 1, 1) := by decide +kernel
theorem dX3_become_26 : decode cX3_become 26 = .ok (.getfield 21, 3) := by decide +kernel
theorem dX3_become_29 : decode cX3_become 29 = .ok (.putfield 21, 3) := by decide +kernel
theorem dX3_become_32 : decode cX3_become 32 = .ok (.aload_n 0, 1) := by decide +kernel
theorem dX3_become_33 : decode cX3_become 33 = .ok (.aload_n 1, 1) := by decide +kernel
theorem dX3_become_34 : decode cX3_become 34 = .ok (.getfield 24, 3) := by decide +kernel
theorem dX3_become_37 : decode cX3_become 37 = .ok (.putfield 24, 3) := by decide +kernel
theorem dX3_become_40 : decode cX3_become 40 = .ok (.aload_n 0, 1) := by decide +kernel
theorem dX3_become_41 : decode cX3_become 41 = .ok (.aload_n 1, 1) := by decide +kernel
theorem dX3_become_42 : decode cX3_become 42 = .ok (.getfield 27, 3) := by decide +kernel
theorem dX3_become_45 : decode cX3_become 45 = .ok (.putfield 27, 3) := by decide +kernel
theorem dX3_become_48 : decode cX3_become 48 = .ok (.aload_n 1, 1) := by decide +kernel
theorem dX3_become_49 : decode cX3_become 49 = .ok (.getfield 30, 3) := by decide +kernel
theorem dX3_become_52 : decode cX3_become 52 = .ok (.iconst 0, 1) := by decide +kernel
theorem dX3_become_53 : decode cX3_become 53 = .ok (.aload_n 0, 1) := by decide +kernel
theorem dX3_become_54 : decode cX3_become 54 = .ok (.getfield 30, 3) := by decide +kernel
theorem dX3_become_57 : decode cX3_become 57 = .ok (.iconst 0, 1) := by decide +kernel
theorem dX3_become_58 : decode cX3_become 58 = .ok (.bipush 10, 2) := by decide +kernel
theorem dX3_become_60 : decode cX3_become 60 = .ok (.invokestatic 34, 3) := by decide +kernel
theorem dX3_become_63 : decode cX3_become 63 = .ok (.aload_n 0, 1) := by decide +kernel
theorem dX3_become_64 : decode cX3_become 64 = .ok (.aload_n 1, 1) := by decide +kernel
theorem dX3_become_65 : decode cX3_become 65 = .ok (.getfield 40, 3) := by decide +kernel
theorem dX3_become_68 : decode cX3_become 68 = .ok (.putfield 40, 3) := by decide +kernel
theorem dX3_become_71 : decode cX3_become 71 = .ok (.return_, 1) := by decide +kernel
set_option maxRecDepth 20000 in
theorem ggX3_work_X3_power : GoodIn wsX3_work wsX3_power := goodIn_r _ [11, 1, 12, 2, 24, 25, 26, 27, 28, 29, 30, 31] (by decide +kernel) (by decide +kernel)
set_option maxRecDepth 20000 in
theorem gX3_work_X3_power : GoodIn wsX3_work (wsV RX3 43 RX3 yX3_power wsX3_power) := goodIn_app (goodIn_of _ (by decide +kernel)) ggX3_work_X3_power
set_option maxRecDepth 20000 in
theorem ggX3_work_J6_compare_7cf53 : GoodIn wsX3_work wsJ6_compare_7cf53 := goodIn_r _ [16] (by decide +kernel) (by decide +kernel)
set_option maxRecDepth 20000 in
theorem gX3_work_J6_compare_7cf53 : GoodIn wsX3_work (va_wsS RX3 47 yJ6_compare_7cf53 wsJ6_compare_7cf53) := goodIn_app (goodIn_of _ (by decide +kernel)) ggX3_work_J6_compare_7cf53
set_option maxRecDepth 20000 in
theorem ggX3_work_X3_warmBy : GoodIn wsX3_work wsX3_warmBy := goodIn_r _ [20, 6, 21, 22, 23, 24, 25, 26, 27, 28, 29, 30, 31] (by decide +kernel) (by decide +kernel)
set_option maxRecDepth 20000 in
theorem gX3_work_X3_warmBy : GoodIn wsX3_work (wsV RX3 53 RX3 yX3_warmBy wsX3_warmBy) := goodIn_app (goodIn_of _ (by decide +kernel)) ggX3_work_X3_warmBy
theorem dX3_work_0 : decode cX3_work 0 = .ok (.aload_n 0, 1) := by decide +kernel
theorem dX3_work_1 : decode cX3_work 1 = .ok (.aload_n 0, 1) := by decide +kernel
theorem dX3_work_2 : decode cX3_work 2 = .ok (.getfield 40, 3) := by decide +kernel
theorem dX3_work_5 : decode cX3_work 5 = .ok (.ifCond .lt 23, 3) := by decide +kernel
theorem dX3_work_8 : decode cX3_work 8 = .ok (.aload_n 0, 1) := by decide +kernel
theorem dX3_work_9 : decode cX3_work 9 = .ok (.getfield 40, 3) := by decide +kernel
theorem dX3_work_12 : decode cX3_work 12 = .ok (.iconst 1, 1) := by decide +kernel
theorem dX3_work_13 : decode cX3_work 13 = .ok (.iadd, 1) := by decide +kernel
theorem dX3_work_14 : decode cX3_work 14 = .ok (.bipush 10, 2) := by decide +kernel
theorem dX3_work_16 : decode cX3_work 16 = .ok (.if_icmp .ge 12, 3) := by decide +kernel
theorem dX3_work_19 : decode cX3_work 19 = .ok (.aload_n 0, 1) := by decide +kernel
theorem dX3_work_20 : decode cX3_work 20 = .ok (.getfield 40, 3) := by decide +kernel
theorem dX3_work_23 : decode cX3_work 23 = .ok (.iconst 1, 1) := by decide +kernel
theorem dX3_work_24 : decode cX3_work 24 = .ok (.iadd, 1) := by decide +kernel
theorem dX3_work_25 : decode cX3_work 25 = .ok (.goto 4, 3) := by decide +kernel
theorem dX3_work_28 : decode cX3_work 28 = .ok (.iconst 0, 1) := by decide +kernel
theorem dX3_work_29 : decode cX3_work 29 = .ok (.putfield 40, 3) := by decide +kernel
theorem dX3_work_32 : decode cX3_work 32 = .ok (.aload_n 0, 1) := by decide +kernel
theorem dX3_work_33 : decode cX3_work 33 = .ok (.getfield 30, 3) := by decide +kernel
theorem dX3_work_36 : decode cX3_work 36 = .ok (.aload_n 0, 1) := by decide +kernel
theorem dX3_work_37 : decode cX3_work 37 = .ok (.getfield 40, 3) := by decide +kernel
theorem dX3_work_40 : decode cX3_work 40 = .ok (.iload_n 1, 1) := by decide +kernel
theorem dX3_work_41 : decode cX3_work 41 = .ok (.iastore, 1) := by decide +kernel
theorem dX3_work_42 : decode cX3_work 42 = .ok (.aload_n 0, 1) := by decide +kernel
theorem dX3_work_43 : decode cX3_work 43 = .ok (.getfield 21, 3) := by decide +kernel
theorem dX3_work_46 : decode cX3_work 46 = .ok (.aload_n 0, 1) := by decide +kernel
theorem dX3_work_47 : decode cX3_work 47 = .ok (.getfield 9, 3) := by decide +kernel
theorem dX3_work_50 : decode cX3_work 50 = .ok (.aload_n 0, 1) := by decide +kernel
theorem dX3_work_51 : decode cX3_work 51 = .ok (.invokevirtual 43, 3) := by decide +kernel
theorem dX3_work_54 : decode cX3_work 54 = .ok (.imul, 1) := by decide +kernel
theorem dX3_work_55 : decode cX3_work 55 = .ok (.iadd, 1) := by decide +kernel
theorem dX3_work_56 : decode cX3_work 56 = .ok (.istore_n 2, 1) := by decide +kernel
theorem dX3_work_57 : decode cX3_work 57 = .ok (.aload_n 0, 1) := by decide +kernel
theorem dX3_work_58 : decode cX3_work 58 = .ok (.getfield 15, 3) := by decide +kernel
theorem dX3_work_61 : decode cX3_work 61 = .ok (.ifCond .le 17, 3) := by decide +kernel
theorem dX3_work_64 : decode cX3_work 64 = .ok (.iload_n 2, 1) := by decide +kernel
theorem dX3_work_65 : decode cX3_work 65 = .ok (.aload_n 0, 1) := by decide +kernel
theorem dX3_work_66 : decode cX3_work 66 = .ok (.getfield 27, 3) := by decide +kernel
theorem dX3_work_69 : decode cX3_work 69 = .ok (.isub, 1) := by decide +kernel
theorem dX3_work_70 : decode cX3_work 70 = .ok (.aload_n 0, 1) := by decide +kernel
theorem dX3_work_71 : decode cX3_work 71 = .ok (.getfield 15, 3) := by decide +kernel
theorem dX3_work_74 : decode cX3_work 74 = .ok (.idiv, 1) := by decide +kernel
theorem dX3_work_75 : decode cX3_work 75 = .ok (.goto 4, 3) := by decide +kernel
theorem dX3_work_78 : decode cX3_work 78 = .ok (.iconst 0, 1) := by decide +kernel
theorem dX3_work_79 : decode cX3_work 79 = .ok (.istore_n 3, 1) := by decide +kernel
theorem dX3_work_80 : decode cX3_work 80 = .ok (.iload_n 3, 1) := by decide +kernel
theorem dX3_work_81 : decode cX3_work 81 = .ok (.ifCond .ne 12, 3) := by decide +kernel
theorem dX3_work_84 : decode cX3_work 84 = .ok (.iload_n 2, 1) := by decide +kernel
theorem dX3_work_85 : decode cX3_work 85 = .ok (.aload_n 0, 1) := by decide +kernel
theorem dX3_work_86 : decode cX3_work 86 = .ok (.getfield 27, 3) := by decide +kernel
theorem dX3_work_89 : decode cX3_work 89 = .ok (.invokestatic 47, 3) := by decide +kernel
theorem dX3_work_92 : decode cX3_work 92 = .ok (.istore_n 3, 1) := by decide +kernel
theorem dX3_work_93 : decode cX3_work 93 = .ok (.aload_n 0, 1) := by decide +kernel
theorem dX3_work_94 : decode cX3_work 94 = .ok (.iload_n 3, 1) := by decide +kernel
theorem dX3_work_95 : decode cX3_work 95 = .ok (.invokevirtual 53, 3) := by decide +kernel
theorem dX3_work_98 : decode cX3_work 98 = .ok (.return_, 1) := by decide +kernel
set_option maxRecDepth 20000 in
theorem ggX3_warmBy_X11_within : GoodIn wsX3_warmBy wsX11_within := goodIn_r _ [4] (by decide +kernel) (by decide +kernel)
set_option maxRecDepth 20000 in
theorem gX3_warmBy_X11_within_n57 : GoodIn wsX3_warmBy (wsX11_within) := ggX3_warmBy_X11_within
theorem dX3_warmBy_0 : decode cX3_warmBy 0 = .ok (.aload_n 0, 1) := by decide +kernel
theorem dX3_warmBy_1 : decode cX3_warmBy 1 = .ok (.aload_n 0, 1) := by decide +kernel
theorem dX3_warmBy_2 : decode cX3_warmBy 2 = .ok (.getfield 27, 3) := by decide +kernel
theorem dX3_warmBy_5 : decode cX3_warmBy 5 = .ok (.iload_n 1, 1) := by decide +kernel
theorem dX3_warmBy_6 : decode cX3_warmBy 6 = .ok (.iadd, 1) := by decide +kernel
theorem dX3_warmBy_7 : decode cX3_warmBy 7 = .ok (.sipush (-9999), 3) := by decide +kernel
theorem dX3_warmBy_10 : decode cX3_warmBy 10 = .ok (.sipush 9999, 3) := by decide +kernel
theorem dX3_warmBy_13 : decode cX3_warmBy 13 = .ok (.invokestatic 57, 3) := by decide +kernel
theorem dX3_warmBy_16 : decode cX3_warmBy 16 = .ok (.putfield 27, 3) := by decide +kernel
theorem dX3_warmBy_19 : decode cX3_warmBy 19 = .ok (.return_, 1) := by decide +kernel
theorem dX3_power_0 : decode cX3_power 0 = .ok (.aload_n 0, 1) := by decide +kernel
theorem dX3_power_1 : decode cX3_power 1 = .ok (.getfield 40, 3) := by decide +kernel
theorem dX3_power_4 : decode cX3_power 4 = .ok (.aload_n 0, 1) := by decide +kernel
theorem dX3_power_5 : decode cX3_power 5 = .ok (.getfield 18, 3) := by decide +kernel
theorem dX3_power_8 : decode cX3_power 8 = .ok (.isub, 1) := by decide +kernel
theorem dX3_power_9 : decode cX3_power 9 = .ok (.istore_n 1, 1) := by decide +kernel
theorem dX3_power_10 : decode cX3_power 10 = .ok (.iload_n 1, 1) := by decide +kernel
theorem dX3_power_11 : decode cX3_power 11 = .ok (.ifCond .ge 6, 3) := by decide +kernel
theorem dX3_power_14 : decode cX3_power 14 = .ok (.iinc 1 10, 3) := by decide +kernel
theorem dX3_power_17 : decode cX3_power 17 = .ok (.iload_n 1, 1) := by decide +kernel
theorem dX3_power_18 : decode cX3_power 18 = .ok (.ifCond .lt 18, 3) := by decide +kernel
theorem dX3_power_21 : decode cX3_power 21 = .ok (.iload_n 1, 1) := by decide +kernel
theorem dX3_power_22 : decode cX3_power 22 = .ok (.bipush 10, 2) := by decide +kernel
theorem dX3_power_24 : decode cX3_power 24 = .ok (.if_icmp .ge 12, 3) := by decide +kernel
theorem dX3_power_27 : decode cX3_power 27 = .ok (.aload_n 0, 1) := by decide +kernel
theorem dX3_power_28 : decode cX3_power 28 = .ok (.getfield 30, 3) := by decide +kernel
theorem dX3_power_31 : decode cX3_power 31 = .ok (.iload_n 1, 1) := by decide +kernel
theorem dX3_power_32 : decode cX3_power 32 = .ok (.iaload, 1) := by decide +kernel
theorem dX3_power_33 : decode cX3_power 33 = .ok (.goto 4, 3) := by decide +kernel
theorem dX3_power_36 : decode cX3_power 36 = .ok (.iconst 0, 1) := by decide +kernel
theorem dX3_power_37 : decode cX3_power 37 = .ok (.ireturn, 1) := by decide +kernel
set_option maxRecDepth 20000 in
theorem ggX4_proportional_X4_atMost : GoodIn wsX4_proportional wsX4_atMost := goodIn_r _ [4] (by decide +kernel) (by decide +kernel)
set_option maxRecDepth 20000 in
theorem gX4_proportional_X4_atMost : GoodIn wsX4_proportional (va_wsS RX4 9 yX4_atMost wsX4_atMost) := goodIn_app (goodIn_of _ (by decide +kernel)) ggX4_proportional_X4_atMost
theorem dX4_proportional_0 : decode cX4_proportional 0 = .ok (.iload_n 0, 1) := by decide +kernel
theorem dX4_proportional_1 : decode cX4_proportional 1 = .ok (.tableswitch 56 0 2 #[27, 34, 45], 27) := by decide +kernel
theorem dX4_proportional_28 : decode cX4_proportional 28 = .ok (.iload_n 1, 1) := by decide +kernel
theorem dX4_proportional_29 : decode cX4_proportional 29 = .ok (.iconst 2, 1) := by decide +kernel
theorem dX4_proportional_30 : decode cX4_proportional 30 = .ok (.idiv, 1) := by decide +kernel
theorem dX4_proportional_31 : decode cX4_proportional 31 = .ok (.invokestatic 9, 3) := by decide +kernel
theorem dX4_proportional_34 : decode cX4_proportional 34 = .ok (.ireturn, 1) := by decide +kernel
theorem dX4_proportional_35 : decode cX4_proportional 35 = .ok (.iload_n 1, 1) := by decide +kernel
theorem dX4_proportional_36 : decode cX4_proportional 36 = .ok (.bipush 45, 2) := by decide +kernel
theorem dX4_proportional_38 : decode cX4_proportional 38 = .ok (.imul, 1) := by decide +kernel
theorem dX4_proportional_39 : decode cX4_proportional 39 = .ok (.bipush 100, 2) := by decide +kernel
theorem dX4_proportional_41 : decode cX4_proportional 41 = .ok (.idiv, 1) := by decide +kernel
theorem dX4_proportional_42 : decode cX4_proportional 42 = .ok (.invokestatic 9, 3) := by decide +kernel
theorem dX4_proportional_45 : decode cX4_proportional 45 = .ok (.ireturn, 1) := by decide +kernel
theorem dX4_proportional_46 : decode cX4_proportional 46 = .ok (.iload_n 1, 1) := by decide +kernel
theorem dX4_proportional_47 : decode cX4_proportional 47 = .ok (.bipush 6, 2) := by decide +kernel
theorem dX4_proportional_49 : decode cX4_proportional 49 = .ok (.imul, 1) := by decide +kernel
theorem dX4_proportional_50 : decode cX4_proportional 50 = .ok (.bipush 10, 2) := by decide +kernel
theorem dX4_proportional_52 : decode cX4_proportional 52 = .ok (.idiv, 1) := by decide +kernel
theorem dX4_proportional_53 : decode cX4_proportional 53 = .ok (.invokestatic 9, 3) := by decide +kernel
theorem dX4_proportional_56 : decode cX4_proportional 56 = .ok (.ireturn, 1) := by decide +kernel
theorem dX4_proportional_57 : decode cX4_proportional 57 = .ok (.iload_n 1, 1) := by decide +kernel
theorem dX4_proportional_58 : decode cX4_proportional 58 = .ok (.iconst 2, 1) := by decide +kernel
theorem dX4_proportional_59 : decode cX4_proportional 59 = .ok (.imul, 1) := by decide +kernel
theorem dX4_proportional_60 : decode cX4_proportional 60 = .ok (.bipush 10, 2) := by decide +kernel
theorem dX4_proportional_62 : decode cX4_proportional 62 = .ok (.idiv, 1) := by decide +kernel
theorem dX4_proportional_63 : decode cX4_proportional 63 = .ok (.invokestatic 9, 3) := by decide +kernel
theorem dX4_proportional_66 : decode cX4_proportional 66 = .ok (.ireturn, 1) := by decide +kernel
set_option maxRecDepth 20000 in
theorem ggX4_integral_X4_atMost : GoodIn wsX4_integral wsX4_atMost := goodIn_r _ [4] (by decide +kernel) (by decide +kernel)
set_option maxRecDepth 20000 in
theorem gX4_integral_X4_atMost : GoodIn wsX4_integral (va_wsS RX4 9 yX4_atMost wsX4_atMost) := goodIn_app (goodIn_of _ (by decide +kernel)) ggX4_integral_X4_atMost
theorem dX4_integral_0 : decode cX4_integral 0 = .ok (.iload_n 0, 1) := by decide +kernel
theorem dX4_integral_1 : decode cX4_integral 1 = .ok (.ifCond .eq 8, 3) := by decide +kernel
theorem dX4_integral_4 : decode cX4_integral 4 = .ok (.iload_n 2, 1) := by decide +kernel
theorem dX4_integral_5 : decode cX4_integral 5 = .ok (.iconst 1, 1) := by decide +kernel
theorem dX4_integral_6 : decode cX4_integral 6 = .ok (.if_icmp .ge 5, 3) := by decide +kernel
theorem dX4_integral_9 : decode cX4_integral 9 = .ok (.iconst 0, 1) := by decide +kernel
theorem dX4_integral_10 : decode cX4_integral 10 = .ok (.ireturn, 1) := by decide +kernel
theorem dX4_integral_11 : decode cX4_integral 11 = .ok (.iload_n 0, 1) := by decide +kernel
theorem dX4_integral_12 : decode cX4_integral 12 = .ok (.iconst 1, 1) := by decide +kernel
theorem dX4_integral_13 : decode cX4_integral 13 = .ok (.if_icmp .ne 18, 3) := by decide +kernel
theorem dX4_integral_16 : decode cX4_integral 16 = .ok (.iload_n 1, 1) := by decide +kernel
theorem dX4_integral_17 : decode cX4_integral 17 = .ok (.bipush 12, 2) := by decide +kernel
theorem dX4_integral_19 : decode cX4_integral 19 = .ok (.imul, 1) := by decide +kernel
theorem dX4_integral_20 : decode cX4_integral 20 = .ok (.bipush 10, 2) := by decide +kernel
theorem dX4_integral_22 : decode cX4_integral 22 = .ok (.iload_n 2, 1) := by decide +kernel
theorem dX4_integral_23 : decode cX4_integral 23 = .ok (.imul, 1) := by decide +kernel
theorem dX4_integral_24 : decode cX4_integral 24 = .ok (.idiv, 1) := by decide +kernel
theorem dX4_integral_25 : decode cX4_integral 25 = .ok (.invokestatic 9, 3) := by decide +kernel
theorem dX4_integral_28 : decode cX4_integral 28 = .ok (.goto 11, 3) := by decide +kernel
theorem dX4_integral_31 : decode cX4_integral 31 = .ok (.iload_n 1, 1) := by decide +kernel
theorem dX4_integral_32 : decode cX4_integral 32 = .ok (.iconst 2, 1) := by decide +kernel
theorem dX4_integral_33 : decode cX4_integral 33 = .ok (.imul, 1) := by decide +kernel
theorem dX4_integral_34 : decode cX4_integral 34 = .ok (.iload_n 2, 1) := by decide +kernel
theorem dX4_integral_35 : decode cX4_integral 35 = .ok (.idiv, 1) := by decide +kernel
theorem dX4_integral_36 : decode cX4_integral 36 = .ok (.invokestatic 9, 3) := by decide +kernel
theorem dX4_integral_39 : decode cX4_integral 39 = .ok (.ireturn, 1) := by decide +kernel
set_option maxRecDepth 20000 in
theorem ggX4_derivative_X4_atMost : GoodIn wsX4_derivative wsX4_atMost := goodIn_r _ [4] (by decide +kernel) (by decide +kernel)
set_option maxRecDepth 20000 in
theorem gX4_derivative_X4_atMost : GoodIn wsX4_derivative (va_wsS RX4 9 yX4_atMost wsX4_atMost) := goodIn_app (goodIn_of _ (by decide +kernel)) ggX4_derivative_X4_atMost
theorem dX4_derivative_0 : decode cX4_derivative 0 = .ok (.iload_n 0, 1) := by decide +kernel
theorem dX4_derivative_1 : decode cX4_derivative 1 = .ok (.lookupswitch 46 #[(2, 27), (3, 37)], 27) := by decide +kernel
theorem dX4_derivative_28 : decode cX4_derivative 28 = .ok (.iload_n 1, 1) := by decide +kernel
theorem dX4_derivative_29 : decode cX4_derivative 29 = .ok (.iload_n 2, 1) := by decide +kernel
theorem dX4_derivative_30 : decode cX4_derivative 30 = .ok (.imul, 1) := by decide +kernel
theorem dX4_derivative_31 : decode cX4_derivative 31 = .ok (.bipush 8, 2) := by decide +kernel
theorem dX4_derivative_33 : decode cX4_derivative 33 = .ok (.idiv, 1) := by decide +kernel
theorem dX4_derivative_34 : decode cX4_derivative 34 = .ok (.invokestatic 9, 3) := by decide +kernel
theorem dX4_derivative_37 : decode cX4_derivative 37 = .ok (.ireturn, 1) := by decide +kernel
theorem dX4_derivative_38 : decode cX4_derivative 38 = .ok (.iload_n 1, 1) := by decide +kernel
theorem dX4_derivative_39 : decode cX4_derivative 39 = .ok (.iload_n 2, 1) := by decide +kernel
theorem dX4_derivative_40 : decode cX4_derivative 40 = .ok (.imul, 1) := by decide +kernel
theorem dX4_derivative_41 : decode cX4_derivative 41 = .ok (.iconst 3, 1) := by decide +kernel
theorem dX4_derivative_42 : decode cX4_derivative 42 = .ok (.idiv, 1) := by decide +kernel
theorem dX4_derivative_43 : decode cX4_derivative 43 = .ok (.invokestatic 9, 3) := by decide +kernel
theorem dX4_derivative_46 : decode cX4_derivative 46 = .ok (.ireturn, 1) := by decide +kernel
theorem dX4_derivative_47 : decode cX4_derivative 47 = .ok (.iconst 0, 1) := by decide +kernel
theorem dX4_derivative_48 : decode cX4_derivative 48 = .ok (.ireturn, 1) := by decide +kernel
theorem dX4_atMost_0 : decode cX4_atMost 0 = .ok (.iload_n 0, 1) := by decide +kernel
theorem dX4_atMost_1 : decode cX4_atMost 1 = .ok (.sipush 9999, 3) := by decide +kernel
theorem dX4_atMost_4 : decode cX4_atMost 4 = .ok (.if_icmp .le 9, 3) := by decide +kernel
theorem dX4_atMost_7 : decode cX4_atMost 7 = .ok (.sipush 9999, 3) := by decide +kernel
theorem dX4_atMost_10 : decode cX4_atMost 10 = .ok (.goto 4, 3) := by decide +kernel
theorem dX4_atMost_13 : decode cX4_atMost 13 = .ok (.iload_n 0, 1) := by decide +kernel
theorem dX4_atMost_14 : decode cX4_atMost 14 = .ok (.ireturn, 1) := by decide +kernel
theorem dX5_behind_0 : decode cX5_behind 0 = .ok (.lload_n 0, 1) := by decide +kernel
theorem dX5_behind_1 : decode cX5_behind 1 = .ok (.lstore_n 3, 1) := by decide +kernel
theorem dX5_behind_2 : decode cX5_behind 2 = .ok (.iconst 0, 1) := by decide +kernel
theorem dX5_behind_3 : decode cX5_behind 3 = .ok (.istore 5, 2) := by decide +kernel
theorem dX5_behind_5 : decode cX5_behind 5 = .ok (.iload 5, 2) := by decide +kernel
theorem dX5_behind_7 : decode cX5_behind 7 = .ok (.iload_n 2, 1) := by decide +kernel
theorem dX5_behind_8 : decode cX5_behind 8 = .ok (.if_icmp .ge 15, 3) := by decide +kernel
theorem dX5_behind_11 : decode cX5_behind 11 = .ok (.lload_n 3, 1) := by decide +kernel
theorem dX5_behind_12 : decode cX5_behind 12 = .ok (.ldc2_w 9, 3) := by decide +kernel
theorem dX5_behind_15 : decode cX5_behind 15 = .ok (.ldiv, 1) := by decide +kernel
theorem dX5_behind_16 : decode cX5_behind 16 = .ok (.lstore_n 3, 1) := by decide +kernel
theorem dX5_behind_17 : decode cX5_behind 17 = .ok (.iinc 5 1, 3) := by decide +kernel
theorem dX5_behind_20 : decode cX5_behind 20 = .ok (.goto (-15), 3) := by decide +kernel
theorem dX5_behind_23 : decode cX5_behind 23 = .ok (.lload_n 3, 1) := by decide +kernel
theorem dX5_behind_24 : decode cX5_behind 24 = .ok (.lreturn, 1) := by decide +kernel
set_option maxRecDepth 20000 in
theorem ggX5_succeeds_X7_pass : GoodIn wsX5_succeeds wsX7_pass := goodIn_r _ [5, 6, 7, 8, 9, 10, 11, 4, 12, 13, 14, 15, 16, 17, 18, 19, 20, 21, 22, 23, 24, 25, 26, 27, 28, 29, 30, 31, 32, 33, 34, 35, 36, 37, 38, 39, 40, 41, 42, 43, 44, 45, 46, 47, 48, 49, 50, 51, 52, 53, 54, 55, 56, 57, 58, 59, 60, 61, 62, 63, 64, 65, 66, 67, 68, 69, 70, 71, 72, 73, 74, 75, 76, 77, 78, 79, 80, 81, 82, 83, 84, 85, 86, 87, 88, 89, 90, 91, 92, 93, 94, 95, 96, 97, 98, 99, 100, 101, 102, 103, 104, 225, 226, 227, 228, 229, 230, 231, 232, 233, 234, 235, 236, 237, 238, 241, 242, 243, 244, 245, 246, 247, 248, 249, 250, 251, 252, 253, 254, 255, 256, 257, 258, 259, 260, 261, 262, 263, 264, 265, 266, 267] (by decide +kernel) (by decide +kernel)
set_option maxRecDepth 20000 in
theorem gX5_succeeds_X7_pass : GoodIn wsX5_succeeds (wsV RX5 11 RX7 yX7_pass wsX7_pass) := goodIn_app (goodIn_of _ (by decide +kernel)) ggX5_succeeds_X7_pass
set_option maxRecDepth 20000 in
theorem ggX5_succeeds_X7_changeMode : GoodIn wsX5_succeeds wsX7_changeMode := goodIn_r _ [108, 14, 17, 109, 7, 110, 111, 112, 113, 21, 114, 23, 30, 39, 35, 115, 116, 117, 79, 118, 90, 225, 226, 227, 228, 229, 230, 241, 242, 243, 244, 245, 246, 247, 248, 249, 250, 251, 258, 259, 260, 261, 262, 263, 264, 265, 266, 267] (by decide +kernel) (by decide +kernel)
set_option maxRecDepth 20000 in
theorem gX5_succeeds_X7_changeMode : GoodIn wsX5_succeeds (wsV RX5 17 RX7 yX7_changeMode wsX7_changeMode) := goodIn_app (goodIn_of _ (by decide +kernel)) ggX5_succeeds_X7_changeMode
set_option maxRecDepth 20000 in
theorem ggX5_succeeds_X5_hasSign : GoodIn wsX5_succeeds wsX5_hasSign := goodIn_r _ [122] (by decide +kernel) (by decide +kernel)
set_option maxRecDepth 20000 in
theorem gX5_succeeds_X5_hasSign : GoodIn wsX5_succeeds (va_wsS RX5 20 yX5_hasSign wsX5_hasSign) := goodIn_app (goodIn_of _ (by decide +kernel)) ggX5_succeeds_X5_hasSign
set_option maxRecDepth 20000 in
theorem ggX5_succeeds_X5_signed : GoodIn wsX5_succeeds wsX5_signed := goodIn_r _ [125] (by decide +kernel) (by decide +kernel)
set_option maxRecDepth 20000 in
theorem gX5_succeeds_X5_signed : GoodIn wsX5_succeeds (va_wsS RX5 23 yX5_signed wsX5_signed) := goodIn_app (goodIn_of _ (by decide +kernel)) ggX5_succeeds_X5_signed
set_option maxRecDepth 20000 in
theorem ggX5_succeeds_X7_push : GoodIn wsX5_succeeds wsX7_push := goodIn_r _ [129, 13, 16, 130, 7, 131, 132, 64, 65, 46, 66, 53, 41, 42, 225, 226, 227, 228, 229, 230, 252, 253, 254, 255, 256, 257, 231, 232, 233, 234, 235, 236, 237, 238] (by decide +kernel) (by decide +kernel)
set_option maxRecDepth 20000 in
theorem gX5_succeeds_X7_push : GoodIn wsX5_succeeds (wsV RX5 27 RX7 yX7_push wsX7_push) := goodIn_app (goodIn_of _ (by decide +kernel)) ggX5_succeeds_X7_push
set_option maxRecDepth 20000 in
theorem ggX5_succeeds_X7_put : GoodIn wsX5_succeeds wsX7_put := goodIn_r _ [136, 14, 137, 7, 138, 139, 140, 21, 141, 142, 143, 144, 145, 28, 29, 146, 37, 38, 40, 225, 226, 227, 228, 229, 230, 241, 242, 243, 244, 245, 246, 247, 248, 249, 250, 251] (by decide +kernel) (by decide +kernel)
set_option maxRecDepth 20000 in
theorem gX5_succeeds_X7_put : GoodIn wsX5_succeeds (wsV RX5 30 RX7 yX7_put wsX7_put) := goodIn_app (goodIn_of _ (by decide +kernel)) ggX5_succeeds_X7_put
set_option maxRecDepth 20000 in
theorem ggX5_succeeds_X7_beginTrial : GoodIn wsX5_succeeds wsX7_beginTrial := goodIn_r _ [150, 151, 14, 152, 7, 153, 154, 155, 156, 4, 157, 17, 158, 159, 160, 79, 161, 162, 163, 164, 165, 96, 98, 99, 97, 166, 167, 168, 169, 170, 171, 172, 173, 174, 175, 176, 177, 84, 178, 179, 180, 181, 182, 183, 184, 185, 186, 187, 188, 189, 190, 191, 192, 193, 194, 13, 195, 196, 197, 198, 82, 83, 85, 199, 200, 201, 202, 203, 204, 205, 206, 207, 208, 209, 210, 211, 212, 106, 107, 108, 109, 110, 111, 112, 113, 21, 114, 23, 30, 39, 35, 115, 116, 117, 118, 90, 225, 226, 227, 228, 229, 230, 239, 240, 241, 242, 243, 244, 245, 246, 247, 248, 249, 250, 251, 258, 259, 260, 261, 262, 263, 264, 265, 266, 267, 231, 232, 233, 234, 235, 236, 237, 238] (by decide +kernel) (by decide +kernel)
set_option maxRecDepth 20000 in
theorem gX5_succeeds_X7_beginTrial : GoodIn wsX5_succeeds (wsV RX5 34 RX7 yX7_beginTrial wsX7_beginTrial) := goodIn_app (goodIn_of _ (by decide +kernel)) ggX5_succeeds_X7_beginTrial
set_option maxRecDepth 20000 in
theorem ggX5_succeeds_X7_endTrial : GoodIn wsX5_succeeds wsX7_endTrial := goodIn_r _ [216, 151, 14, 217, 218, 219, 182, 220, 184, 185, 212, 106, 107, 4, 108, 17, 109, 7, 110, 111, 112, 113, 21, 114, 23, 30, 39, 35, 115, 116, 117, 79, 118, 90, 225, 226, 227, 228, 229, 230, 239, 240, 241, 242, 243, 244, 245, 246, 247, 248, 249, 250, 251, 258, 259, 260, 261, 262, 263, 264, 265, 266, 267] (by decide +kernel) (by decide +kernel)
set_option maxRecDepth 20000 in
theorem gX5_succeeds_X7_endTrial : GoodIn wsX5_succeeds (wsV RX5 37 RX7 yX7_endTrial wsX7_endTrial) := goodIn_app (goodIn_of _ (by decide +kernel)) ggX5_succeeds_X7_endTrial
set_option maxRecDepth 20000 in
theorem ggX5_succeeds_X7_goodCount : GoodIn wsX5_succeeds wsX7_goodCount := goodIn_r _ [224, 17, 14, 158, 159, 160, 79, 161, 162, 163, 164, 165, 96, 98, 99, 97, 166, 167, 168, 169, 170, 171, 172, 173, 174, 175, 176, 177, 84, 178, 225, 226, 227, 228, 229, 230, 241, 242, 243, 244, 245, 246, 247, 248, 249, 250, 251, 258, 259, 260, 261, 262, 263, 264, 265, 266, 267] (by decide +kernel) (by decide +kernel)
set_option maxRecDepth 20000 in
theorem gX5_succeeds_X7_goodCount : GoodIn wsX5_succeeds (wsV RX5 51 RX7 yX7_goodCount wsX7_goodCount) := goodIn_app (goodIn_of _ (by decide +kernel)) ggX5_succeeds_X7_goodCount
theorem dX5_succeeds_0 : decode cX5_succeeds 0 = .ok (.iload_n 1, 1) := by decide +kernel
theorem dX5_succeeds_1 : decode cX5_succeeds 1 = .ok (.sipush 10000, 3) := by decide +kernel
theorem dX5_succeeds_4 : decode cX5_succeeds 4 = .ok (.idiv, 1) := by decide +kernel
theorem dX5_succeeds_5 : decode cX5_succeeds 5 = .ok (.istore_n 2, 1) := by decide +kernel
theorem dX5_succeeds_6 : decode cX5_succeeds 6 = .ok (.iload_n 1, 1) := by decide +kernel
theorem dX5_succeeds_7 : decode cX5_succeeds 7 = .ok (.sipush 10000, 3) := by decide +kernel
theorem dX5_succeeds_10 : decode cX5_succeeds 10 = .ok (.irem, 1) := by decide +kernel
theorem dX5_succeeds_11 : decode cX5_succeeds 11 = .ok (.istore_n 3, 1) := by decide +kernel
theorem dX5_succeeds_12 : decode cX5_succeeds 12 = .ok (.iload_n 2, 1) := by decide +kernel
theorem dX5_succeeds_13 : decode cX5_succeeds 13 = .ok (.tableswitch 195 1 9 #[51, 57, 63, 87, 102, 108, 125, 152, 172], 51) := by decide +kernel
theorem dX5_succeeds_64 : decode cX5_succeeds 64 = .ok (.aload_n 0, 1) := by decide +kernel
theorem dX5_succeeds_65 : decode cX5_succeeds 65 = .ok (.iload_n 3, 1) := by decide +kernel
theorem dX5_succeeds_66 : decode cX5_succeeds 66 = .ok (.invokevirtual 11, 3) := by decide +kernel
theorem dX5_succeeds_69 : decode cX5_succeeds 69 = .ok (.ireturn, 1) := by decide +kernel
theorem dX5_succeeds_70 : decode cX5_succeeds 70 = .ok (.aload_n 0, 1) := by decide +kernel
theorem dX5_succeeds_71 : decode cX5_succeeds 71 = .ok (.iload_n 3, 1) := by decide +kernel
theorem dX5_succeeds_72 : decode cX5_succeeds 72 = .ok (.invokevirtual 17, 3) := by decide +kernel
theorem dX5_succeeds_75 : decode cX5_succeeds 75 = .ok (.ireturn, 1) := by decide +kernel
theorem dX5_succeeds_76 : decode cX5_succeeds 76 = .ok (.iload_n 3, 1) := by decide +kernel
theorem dX5_succeeds_77 : decode cX5_succeeds 77 = .ok (.invokestatic 20, 3) := by decide +kernel
theorem dX5_succeeds_80 : decode cX5_succeeds 80 = .ok (.ifCond .eq 18, 3) := by decide +kernel
theorem dX5_succeeds_83 : decode cX5_succeeds 83 = .ok (.aload_n 0, 1) := by decide +kernel
theorem dX5_succeeds_84 : decode cX5_succeeds 84 = .ok (.iload_n 3, 1) := by decide +kernel
theorem dX5_succeeds_85 : decode cX5_succeeds 85 = .ok (.invokestatic 23, 3) := by decide +kernel
theorem dX5_succeeds_88 : decode cX5_succeeds 88 = .ok (.invokevirtual 27, 3) := by decide +kernel
theorem dX5_succeeds_91 : decode cX5_succeeds 91 = .ok (.ifCond .eq 7, 3) := by decide +kernel
theorem dX5_succeeds_94 : decode cX5_succeeds 94 = .ok (.iconst 1, 1) := by decide +kernel
theorem dX5_succeeds_95 : decode cX5_succeeds 95 = .ok (.goto 4, 3) := by decide +kernel
theorem dX5_succeeds_98 : decode cX5_succeeds 98 = .ok (.iconst 0, 1) := by decide +kernel
theorem dX5_succeeds_99 : decode cX5_succeeds 99 = .ok (.ireturn, 1) := by decide +kernel
theorem dX5_succeeds_100 : decode cX5_succeeds 100 = .ok (.aload_n 0, 1) := by decide +kernel
theorem dX5_succeeds_101 : decode cX5_succeeds 101 = .ok (.iload_n 3, 1) := by decide +kernel
theorem dX5_succeeds_102 : decode cX5_succeeds 102 = .ok (.sipush 1000, 3) := by decide +kernel
theorem dX5_succeeds_105 : decode cX5_succeeds 105 = .ok (.idiv, 1) := by decide +kernel
theorem dX5_succeeds_106 : decode cX5_succeeds 106 = .ok (.iload_n 3, 1) := by decide +kernel
theorem dX5_succeeds_107 : decode cX5_succeeds 107 = .ok (.sipush 1000, 3) := by decide +kernel
theorem dX5_succeeds_110 : decode cX5_succeeds 110 = .ok (.irem, 1) := by decide +kernel
theorem dX5_succeeds_111 : decode cX5_succeeds 111 = .ok (.invokevirtual 30, 3) := by decide +kernel
theorem dX5_succeeds_114 : decode cX5_succeeds 114 = .ok (.ireturn, 1) := by decide +kernel
theorem dX5_succeeds_115 : decode cX5_succeeds 115 = .ok (.aload_n 0, 1) := by decide +kernel
theorem dX5_succeeds_116 : decode cX5_succeeds 116 = .ok (.iload_n 3, 1) := by decide +kernel
theorem dX5_succeeds_117 : decode cX5_succeeds 117 = .ok (.invokevirtual 34, 3) := by decide +kernel
theorem dX5_succeeds_120 : decode cX5_succeeds 120 = .ok (.ireturn, 1) := by decide +kernel
theorem dX5_succeeds_121 : decode cX5_succeeds 121 = .ok (.iload_n 3, 1) := by decide +kernel
theorem dX5_succeeds_122 : decode cX5_succeeds 122 = .ok (.ifCond .ne 14, 3) := by decide +kernel
theorem dX5_succeeds_125 : decode cX5_succeeds 125 = .ok (.aload_n 0, 1) := by decide +kernel
theorem dX5_succeeds_126 : decode cX5_succeeds 126 = .ok (.invokevirtual 37, 3) := by decide +kernel
theorem dX5_succeeds_129 : decode cX5_succeeds 129 = .ok (.ifCond .eq 7, 3) := by decide +kernel
theorem dX5_succeeds_132 : decode cX5_succeeds 132 = .ok (.iconst 1, 1) := by decide +kernel
theorem dX5_succeeds_133 : decode cX5_succeeds 133 = .ok (.goto 4, 3) := by decide +kernel
theorem dX5_succeeds_136 : decode cX5_succeeds 136 = .ok (.iconst 0, 1) := by decide +kernel
theorem dX5_succeeds_137 : decode cX5_succeeds 137 = .ok (.ireturn, 1) := by decide +kernel
theorem dX5_succeeds_138 : decode cX5_succeeds 138 = .ok (.iload_n 3, 1) := by decide +kernel
theorem dX5_succeeds_139 : decode cX5_succeeds 139 = .ok (.invokestatic 20, 3) := by decide +kernel
theorem dX5_succeeds_142 : decode cX5_succeeds 142 = .ok (.ifCond .eq 21, 3) := by decide +kernel
theorem dX5_succeeds_145 : decode cX5_succeeds 145 = .ok (.aload_n 0, 1) := by decide +kernel
theorem dX5_succeeds_146 : decode cX5_succeeds 146 = .ok (.getfield 41, 3) := by decide +kernel
theorem dX5_succeeds_149 : decode cX5_succeeds 149 = .ok (.getfield 45, 3) := by decide +kernel
theorem dX5_succeeds_152 : decode cX5_succeeds 152 = .ok (.iload_n 3, 1) := by decide +kernel
theorem dX5_succeeds_153 : decode cX5_succeeds 153 = .ok (.invokestatic 23, 3) := by decide +kernel
theorem dX5_succeeds_156 : decode cX5_succeeds 156 = .ok (.if_icmp .lt 7, 3) := by decide +kernel
theorem dX5_succeeds_159 : decode cX5_succeeds 159 = .ok (.iconst 1, 1) := by decide +kernel
theorem dX5_succeeds_160 : decode cX5_succeeds 160 = .ok (.goto 4, 3) := by decide +kernel
theorem dX5_succeeds_163 : decode cX5_succeeds 163 = .ok (.iconst 0, 1) := by decide +kernel
theorem dX5_succeeds_164 : decode cX5_succeeds 164 = .ok (.ireturn, 1) := by decide +kernel
theorem dX5_succeeds_165 : decode cX5_succeeds 165 = .ok (.iload_n 3, 1) := by decide +kernel
theorem dX5_succeeds_166 : decode cX5_succeeds 166 = .ok (.bipush 99, 2) := by decide +kernel
theorem dX5_succeeds_168 : decode cX5_succeeds 168 = .ok (.if_icmp .gt 15, 3) := by decide +kernel
theorem dX5_succeeds_171 : decode cX5_succeeds 171 = .ok (.aload_n 0, 1) := by decide +kernel
theorem dX5_succeeds_172 : decode cX5_succeeds 172 = .ok (.invokevirtual 51, 3) := by decide +kernel
theorem dX5_succeeds_175 : decode cX5_succeeds 175 = .ok (.iload_n 3, 1) := by decide +kernel
theorem dX5_succeeds_176 : decode cX5_succeeds 176 = .ok (.if_icmp .lt 7, 3) := by decide +kernel
theorem dX5_succeeds_179 : decode cX5_succeeds 179 = .ok (.iconst 1, 1) := by decide +kernel
theorem dX5_succeeds_180 : decode cX5_succeeds 180 = .ok (.goto 4, 3) := by decide +kernel
theorem dX5_succeeds_183 : decode cX5_succeeds 183 = .ok (.iconst 0, 1) := by decide +kernel
theorem dX5_succeeds_184 : decode cX5_succeeds 184 = .ok (.ireturn, 1) := by decide +kernel
theorem dX5_succeeds_185 : decode cX5_succeeds 185 = .ok (.iload_n 3, 1) := by decide +kernel
theorem dX5_succeeds_186 : decode cX5_succeeds 186 = .ok (.bipush 9, 2) := by decide +kernel
theorem dX5_succeeds_188 : decode cX5_succeeds 188 = .ok (.if_icmp .gt 18, 3) := by decide +kernel
theorem dX5_succeeds_191 : decode cX5_succeeds 191 = .ok (.aload_n 0, 1) := by decide +kernel
theorem dX5_succeeds_192 : decode cX5_succeeds 192 = .ok (.getfield 55, 3) := by decide +kernel
theorem dX5_succeeds_195 : decode cX5_succeeds 195 = .ok (.getfield 59, 3) := by decide +kernel
theorem dX5_succeeds_198 : decode cX5_succeeds 198 = .ok (.iload_n 3, 1) := by decide +kernel
theorem dX5_succeeds_199 : decode cX5_succeeds 199 = .ok (.if_icmp .ne 7, 3) := by decide +kernel
theorem dX5_succeeds_202 : decode cX5_succeeds 202 = .ok (.iconst 1, 1) := by decide +kernel
theorem dX5_succeeds_203 : decode cX5_succeeds 203 = .ok (.goto 4, 3) := by decide +kernel
theorem dX5_succeeds_206 : decode cX5_succeeds 206 = .ok (.iconst 0, 1) := by decide +kernel
theorem dX5_succeeds_207 : decode cX5_succeeds 207 = .ok (.ireturn, 1) := by decide +kernel
theorem dX5_succeeds_208 : decode cX5_succeeds 208 = .ok (.iconst 0, 1) := by decide +kernel
theorem dX5_succeeds_209 : decode cX5_succeeds 209 = .ok (.ireturn, 1) := by decide +kernel
theorem dX5_hasSign_0 : decode cX5_hasSign 0 = .ok (.iload_n 0, 1) := by decide +kernel
theorem dX5_hasSign_1 : decode cX5_hasSign 1 = .ok (.sipush 1000, 3) := by decide +kernel
theorem dX5_hasSign_4 : decode cX5_hasSign 4 = .ok (.idiv, 1) := by decide +kernel
theorem dX5_hasSign_5 : decode cX5_hasSign 5 = .ok (.iconst 1, 1) := by decide +kernel
theorem dX5_hasSign_6 : decode cX5_hasSign 6 = .ok (.if_icmp .gt 7, 3) := by decide +kernel
theorem dX5_hasSign_9 : decode cX5_hasSign 9 = .ok (.iconst 1, 1) := by decide +kernel
theorem dX5_hasSign_10 : decode cX5_hasSign 10 = .ok (.goto 4, 3) := by decide +kernel
theorem dX5_hasSign_13 : decode cX5_hasSign 13 = .ok (.iconst 0, 1) := by decide +kernel
theorem dX5_hasSign_14 : decode cX5_hasSign 14 = .ok (.ireturn, 1) := by decide +kernel
theorem dX5_signed_0 : decode cX5_signed 0 = .ok (.iload_n 0, 1) := by decide +kernel
theorem dX5_signed_1 : decode cX5_signed 1 = .ok (.sipush 1000, 3) := by decide +kernel
theorem dX5_signed_4 : decode cX5_signed 4 = .ok (.irem, 1) := by decide +kernel
theorem dX5_signed_5 : decode cX5_signed 5 = .ok (.istore_n 1, 1) := by decide +kernel
theorem dX5_signed_6 : decode cX5_signed 6 = .ok (.iload_n 0, 1) := by decide +kernel
theorem dX5_signed_7 : decode cX5_signed 7 = .ok (.sipush 1000, 3) := by decide +kernel
theorem dX5_signed_10 : decode cX5_signed 10 = .ok (.idiv, 1) := by decide +kernel
theorem dX5_signed_11 : decode cX5_signed 11 = .ok (.iconst 1, 1) := by decide +kernel
theorem dX5_signed_12 : decode cX5_signed 12 = .ok (.if_icmp .ne 8, 3) := by decide +kernel
theorem dX5_signed_15 : decode cX5_signed 15 = .ok (.iload_n 1, 1) := by decide +kernel
theorem dX5_signed_16 : decode cX5_signed 16 = .ok (.ineg, 1) := by decide +kernel
theorem dX5_signed_17 : decode cX5_signed 17 = .ok (.goto 4, 3) := by decide +kernel
theorem dX5_signed_20 : decode cX5_signed 20 = .ok (.iload_n 1, 1) := by decide +kernel
theorem dX5_signed_21 : decode cX5_signed 21 = .ok (.ireturn, 1) := by decide +kernel
set_option maxRecDepth 20000 in
theorem ggX6_init_X7_init : GoodIn wsX6_init wsX7_init := goodIn_r _ [11, 12, 2, 3, 13, 14, 15, 16, 17, 18, 19, 20, 21, 22, 23, 24, 25, 26, 27, 28, 29, 30, 31, 32, 33, 34, 35, 36, 37, 38, 39, 40, 41, 42, 43, 44, 45, 46, 47, 48, 49, 50, 51, 52, 53, 54, 55, 56, 57, 58, 59, 60, 61, 62, 63, 64, 65, 66, 75, 76, 77, 78, 79, 80, 81, 82, 69, 70, 71, 72, 73, 74, 83, 84, 85, 86, 87, 88, 89, 90, 91, 92, 93, 94, 95, 96, 97, 98, 99, 100, 101, 102, 103, 104, 105, 106, 107, 108, 109, 110, 111] (by decide +kernel) (by decide +kernel)
set_option maxRecDepth 20000 in
theorem gX6_init_X7_init_n21 : GoodIn wsX6_init (wsX7_init) := ggX6_init_X7_init
theorem dX6_init_0 : decode cX6_init 0 = .ok (.aload_n 0, 1) := by decide +kernel
theorem dX6_init_1 : decode cX6_init 1 = .ok (.invokespecial 3, 3) := by decide +kernel
theorem dX6_init_4 : decode cX6_init 4 = .ok (.aload_n 0, 1) := by decide +kernel
theorem dX6_init_5 : decode cX6_init 5 = .ok (.iconst 2, 1) := by decide +kernel
theorem dX6_init_6 : decode cX6_init 6 = .ok (.anewarray 9, 3) := by decide +kernel
theorem dX6_init_9 : decode cX6_init 9 = .ok (.putfield 11, 3) := by decide +kernel
theorem dX6_init_12 : decode cX6_init 12 = .ok (.aload_n 0, 1) := by decide +kernel
theorem dX6_init_13 : decode cX6_init 13 = .ok (.iconst 2, 1) := by decide +kernel
theorem dX6_init_14 : decode cX6_init 14 = .ok (.newarray .boolean, 2) := by decide +kernel
theorem dX6_init_16 : decode cX6_init 16 = .ok (.putfield 17, 3) := by decide +kernel
theorem dX6_init_19 : decode cX6_init 19 = .ok (.iconst 0, 1) := by decide +kernel
theorem dX6_init_20 : decode cX6_init 20 = .ok (.istore_n 1, 1) := by decide +kernel
theorem dX6_init_21 : decode cX6_init 21 = .ok (.iload_n 1, 1) := by decide +kernel
theorem dX6_init_22 : decode cX6_init 22 = .ok (.iconst 2, 1) := by decide +kernel
theorem dX6_init_23 : decode cX6_init 23 = .ok (.if_icmp .ge 22, 3) := by decide +kernel
theorem dX6_init_26 : decode cX6_init 26 = .ok (.aload_n 0, 1) := by decide +kernel
theorem dX6_init_27 : decode cX6_init 27 = .ok (.getfield 11, 3) := by decide +kernel
theorem dX6_init_30 : decode cX6_init 30 = .ok (.iload_n 1, 1) := by decide +kernel
theorem dX6_init_31 : decode cX6_init 31 = .ok (.new 9, 3) := by decide +kernel
theorem dX6_init_34 : decode cX6_init 34 = .ok (.dup, 1) := by decide +kernel
theorem dX6_init_35 : decode cX6_init 35 = .ok (.invokespecial 21, 3) := by decide +kernel
theorem dX6_init_38 : decode cX6_init 38 = .ok (.aastore, 1) := by decide +kernel
theorem dX6_init_39 : decode cX6_init 39 = .ok (.iinc 1 1, 3) := by decide +kernel
theorem dX6_init_42 : decode cX6_init 42 = .ok (.goto (-21), 3) := by decide +kernel
theorem dX6_init_45 : decode cX6_init 45 = .ok (.return_, 1) := by decide +kernel
set_option maxRecDepth 20000 in
theorem ggX6_isFilled_X11_isSlot : GoodIn wsX6_isFilled wsX11_isSlot := goodIn_r _ [4] (by decide +kernel) (by decide +kernel)
set_option maxRecDepth 20000 in
theorem gX6_isFilled_X11_isSlot_n22 : GoodIn wsX6_isFilled (wsX11_isSlot) := ggX6_isFilled_X11_isSlot
theorem dX6_isFilled_0 : decode cX6_isFilled 0 = .ok (.iload_n 1, 1) := by decide +kernel
theorem dX6_isFilled_1 : decode cX6_isFilled 1 = .ok (.invokestatic 22, 3) := by decide +kernel
theorem dX6_isFilled_4 : decode cX6_isFilled 4 = .ok (.ifCond .eq 16, 3) := by decide +kernel
theorem dX6_isFilled_7 : decode cX6_isFilled 7 = .ok (.aload_n 0, 1) := by decide +kernel
theorem dX6_isFilled_8 : decode cX6_isFilled 8 = .ok (.getfield 17, 3) := by decide +kernel
theorem dX6_isFilled_11 : decode cX6_isFilled 11 = .ok (.iload_n 1, 1) := by decide +kernel
theorem dX6_isFilled_12 : decode cX6_isFilled 12 = .ok (.baload, 1) := by decide +kernel
theorem dX6_isFilled_13 : decode cX6_isFilled 13 = .ok (.ifCond .eq 7, 3) := by decide +kernel
theorem dX6_isFilled_16 : decode cX6_isFilled 16 = .ok (.iconst 1, 1) := by decide +kernel
theorem dX6_isFilled_17 : decode cX6_isFilled 17 = .ok (.goto 4, 3) := by decide +kernel
theorem dX6_isFilled_20 : decode cX6_isFilled 20 = .ok (.iconst 0, 1) := by decide +kernel
theorem dX6_isFilled_21 : decode cX6_isFilled 21 = .ok (.ireturn, 1) := by decide +kernel
set_option maxRecDepth 20000 in
theorem ggX6_keep_X11_isSlot : GoodIn wsX6_keep wsX11_isSlot := goodIn_r _ [5] (by decide +kernel) (by decide +kernel)
set_option maxRecDepth 20000 in
theorem gX6_keep_X11_isSlot_n22 : GoodIn wsX6_keep (wsX11_isSlot) := ggX6_keep_X11_isSlot
set_option maxRecDepth 20000 in
theorem ggX6_keep_X7_become : GoodIn wsX6_keep wsX7_become := goodIn_r _ [10, 11, 12, 13, 14, 15, 16, 17, 18, 19, 20, 21, 22, 23, 24, 25, 26, 27, 28, 29, 30, 31, 32, 33, 34, 35, 36, 37, 38, 39, 40, 41, 42, 43, 44, 45, 46, 47, 48, 49, 50, 51, 52, 53, 54, 55, 56, 57, 58, 59, 60, 61, 62, 63, 64, 65, 66, 67, 68, 69, 70, 71, 72, 73, 74, 75, 76, 77, 78, 79, 80, 81, 82, 83, 84, 87, 88, 89, 90, 91, 92, 93, 94, 95, 96, 97, 98, 99, 100, 101, 102, 103, 104, 105, 106, 107, 108, 109, 110, 111, 112, 113, 114, 115, 116, 117, 118, 119, 120, 121, 122, 123, 124, 125, 126, 127, 128, 129] (by decide +kernel) (by decide +kernel)
set_option maxRecDepth 20000 in
theorem gX6_keep_X7_become : GoodIn wsX6_keep (wsV RX6 26 RX7 yX7_become wsX7_become) := goodIn_app (goodIn_of _ (by decide +kernel)) ggX6_keep_X7_become
theorem dX6_keep_0 : decode cX6_keep 0 = .ok (.iload_n 1, 1) := by decide +kernel
theorem dX6_keep_1 : decode cX6_keep 1 = .ok (.invokestatic 22, 3) := by decide +kernel
theorem dX6_keep_4 : decode cX6_keep 4 = .ok (.ifCond .eq 20, 3) := by decide +kernel
theorem dX6_keep_7 : decode cX6_keep 7 = .ok (.aload_n 0, 1) := by decide +kernel
theorem dX6_keep_8 : decode cX6_keep 8 = .ok (.getfield 11, 3) := by decide +kernel
theorem dX6_keep_11 : decode cX6_keep 11 = .ok (.iload_n 1, 1) := by decide +kernel
theorem dX6_keep_12 : decode cX6_keep 12 = .ok (.aaload, 1) := by decide +kernel
theorem dX6_keep_13 : decode cX6_keep 13 = .ok (.aload_n 2, 1) := by decide +kernel
theorem dX6_keep_14 : decode cX6_keep 14 = .ok (.invokevirtual 26, 3) := by decide +kernel
theorem dX6_keep_17 : decode cX6_keep 17 = .ok (.aload_n 0, 1) := by decide +kernel
theorem dX6_keep_18 : decode cX6_keep 18 = .ok (.getfield 17, 3) := by decide +kernel
theorem dX6_keep_21 : decode cX6_keep 21 = .ok (.iload_n 1, 1) := by decide +kernel
theorem dX6_keep_22 : decode cX6_keep 22 = .ok (.iconst 1, 1) := by decide +kernel
theorem dX6_keep_23 : decode cX6_keep 23 = .ok (.bastore, 1) := by decide +kernel
theorem dX6_keep_24 : decode cX6_keep 24 = .ok (.return_, 1) := by decide +kernel
set_option maxRecDepth 20000 in
theorem ggX6_giveTo_X6_isFilled : GoodIn wsX6_giveTo wsX6_isFilled := goodIn_r _ [6, 7, 8, 9, 10, 90, 91] (by decide +kernel) (by decide +kernel)
set_option maxRecDepth 20000 in
theorem gX6_giveTo_X6_isFilled : GoodIn wsX6_giveTo (wsV RX6 30 RX6 yX6_isFilled wsX6_isFilled) := goodIn_app (goodIn_of _ (by decide +kernel)) ggX6_giveTo_X6_isFilled
set_option maxRecDepth 20000 in
theorem ggX6_giveTo_X7_become : GoodIn wsX6_giveTo wsX7_become := goodIn_r _ [15, 16, 17, 18, 19, 20, 21, 22, 23, 24, 25, 26, 27, 28, 29, 30, 31, 32, 33, 34, 35, 36, 37, 38, 39, 40, 41, 42, 43, 44, 45, 46, 47, 48, 49, 50, 51, 52, 53, 54, 55, 56, 57, 58, 59, 60, 61, 62, 63, 64, 65, 66, 67, 68, 69, 70, 71, 72, 73, 74, 75, 76, 77, 78, 79, 80, 81, 82, 83, 84, 85, 86, 87, 88, 89, 92, 93, 94, 95, 96, 97, 98, 99, 100, 101, 102, 103, 104, 105, 106, 107, 108, 109, 110, 111, 112, 113, 114, 115, 116, 117, 118, 119, 120, 121, 122, 123, 124, 125, 126, 127, 128, 129, 130, 131, 132, 133, 134] (by decide +kernel) (by decide +kernel)
set_option maxRecDepth 20000 in
theorem gX6_giveTo_X7_become : GoodIn wsX6_giveTo (wsV RX6 26 RX7 yX7_become wsX7_become) := goodIn_app (goodIn_of _ (by decide +kernel)) ggX6_giveTo_X7_become
theorem dX6_giveTo_0 : decode cX6_giveTo 0 = .ok (.aload_n 0, 1) := by decide +kernel
theorem dX6_giveTo_1 : decode cX6_giveTo 1 = .ok (.iload_n 1, 1) := by decide +kernel
theorem dX6_giveTo_2 : decode cX6_giveTo 2 = .ok (.invokevirtual 30, 3) := by decide +kernel
theorem dX6_giveTo_5 : decode cX6_giveTo 5 = .ok (.ifCond .eq 13, 3) := by decide +kernel
theorem dX6_giveTo_8 : decode cX6_giveTo 8 = .ok (.aload_n 2, 1) := by decide +kernel
theorem dX6_giveTo_9 : decode cX6_giveTo 9 = .ok (.aload_n 0, 1) := by decide +kernel
theorem dX6_giveTo_10 : decode cX6_giveTo 10 = .ok (.getfield 11, 3) := by decide +kernel
theorem dX6_giveTo_13 : decode cX6_giveTo 13 = .ok (.iload_n 1, 1) := by decide +kernel
theorem dX6_giveTo_14 : decode cX6_giveTo 14 = .ok (.aaload, 1) := by decide +kernel
theorem dX6_giveTo_15 : decode cX6_giveTo 15 = .ok (.invokevirtual 26, 3) := by decide +kernel
theorem dX6_giveTo_18 : decode cX6_giveTo 18 = .ok (.return_, 1) := by decide +kernel
theorem dX6_empty_0 : decode cX6_empty 0 = .ok (.iconst 0, 1) := by decide +kernel
theorem dX6_empty_1 : decode cX6_empty 1 = .ok (.istore_n 1, 1) := by decide +kernel
theorem dX6_empty_2 : decode cX6_empty 2 = .ok (.iload_n 1, 1) := by decide +kernel
theorem dX6_empty_3 : decode cX6_empty 3 = .ok (.iconst 2, 1) := by decide +kernel
theorem dX6_empty_4 : decode cX6_empty 4 = .ok (.if_icmp .ge 16, 3) := by decide +kernel
theorem dX6_empty_7 : decode cX6_empty 7 = .ok (.aload_n 0, 1) := by decide +kernel
theorem dX6_empty_8 : decode cX6_empty 8 = .ok (.getfield 17, 3) := by decide +kernel
theorem dX6_empty_11 : decode cX6_empty 11 = .ok (.iload_n 1, 1) := by decide +kernel
theorem dX6_empty_12 : decode cX6_empty 12 = .ok (.iconst 0, 1) := by decide +kernel
theorem dX6_empty_13 : decode cX6_empty 13 = .ok (.bastore, 1) := by decide +kernel
theorem dX6_empty_14 : decode cX6_empty 14 = .ok (.iinc 1 1, 3) := by decide +kernel
theorem dX6_empty_17 : decode cX6_empty 17 = .ok (.goto (-15), 3) := by decide +kernel
theorem dX6_empty_20 : decode cX6_empty 20 = .ok (.return_, 1) := by decide +kernel
set_option maxRecDepth 20000 in
theorem ggX7_init_X3_init : GoodIn wsX7_init wsX3_init := goodIn_r _ [25, 26, 2, 3, 27, 28, 29, 30, 31, 32, 33, 34, 58, 59, 60, 61, 62, 63, 64, 65] (by decide +kernel) (by decide +kernel)
set_option maxRecDepth 20000 in
theorem gX7_init_X3_init_n11 : GoodIn wsX7_init (wsX3_init) := ggX7_init_X3_init
set_option maxRecDepth 20000 in
theorem ggX7_init_X1_init : GoodIn wsX7_init wsX1_init := goodIn_r _ [36, 37, 2, 3, 38, 39, 40, 41, 72, 73, 74, 75, 76, 77, 78, 79, 80, 81, 82] (by decide +kernel) (by decide +kernel)
set_option maxRecDepth 20000 in
theorem gX7_init_X1_init_n20 : GoodIn wsX7_init (wsX1_init) := ggX7_init_X1_init
set_option maxRecDepth 20000 in
theorem ggX7_init_X8_init : GoodIn wsX7_init wsX8_init := goodIn_r _ [43, 44, 2, 3, 33, 45, 46, 47, 48, 49, 83, 84, 85, 86, 87, 88, 89, 90, 91, 92] (by decide +kernel) (by decide +kernel)
set_option maxRecDepth 20000 in
theorem gX7_init_X8_init_n27 : GoodIn wsX7_init (wsX8_init) := ggX7_init_X8_init
set_option maxRecDepth 20000 in
theorem ggX7_init_X10_init : GoodIn wsX7_init wsX10_init := goodIn_r _ [51, 52, 2, 3, 33, 53, 93, 94] (by decide +kernel) (by decide +kernel)
set_option maxRecDepth 20000 in
theorem gX7_init_X10_init_n34 : GoodIn wsX7_init (wsX10_init) := ggX7_init_X10_init
set_option maxRecDepth 20000 in
theorem ggX7_init_X0_init : GoodIn wsX7_init wsX0_init := goodIn_r _ [55, 56, 2, 3, 33, 57, 95, 96, 97, 98, 99, 100] (by decide +kernel) (by decide +kernel)
set_option maxRecDepth 20000 in
theorem gX7_init_X0_init_n41 : GoodIn wsX7_init (wsX0_init) := ggX7_init_X0_init
theorem dX7_init_0 : decode cX7_init 0 = .ok (.aload_n 0, 1) := by decide +kernel
theorem dX7_init_1 : decode cX7_init 1 = .ok (.invokespecial 3, 3) := by decide +kernel
theorem dX7_init_4 : decode cX7_init 4 = .ok (.aload_n 0, 1) := by decide +kernel
theorem dX7_init_5 : decode cX7_init 5 = .ok (.new 9, 3) := by decide +kernel
theorem dX7_init_8 : decode cX7_init 8 = .ok (.dup, 1) := by decide +kernel
theorem dX7_init_9 : decode cX7_init 9 = .ok (.invokespecial 11, 3) := by decide +kernel
theorem dX7_init_12 : decode cX7_init 12 = .ok (.putfield 12, 3) := by decide +kernel
theorem dX7_init_15 : decode cX7_init 15 = .ok (.aload_n 0, 1) := by decide +kernel
theorem dX7_init_16 : decode cX7_init 16 = .ok (.new 18, 3) := by decide +kernel
theorem dX7_init_19 : decode cX7_init 19 = .ok (.dup, 1) := by decide +kernel
theorem dX7_init_20 : decode cX7_init 20 = .ok (.invokespecial 20, 3) := by decide +kernel
theorem dX7_init_23 : decode cX7_init 23 = .ok (.putfield 21, 3) := by decide +kernel
theorem dX7_init_26 : decode cX7_init 26 = .ok (.aload_n 0, 1) := by decide +kernel
theorem dX7_init_27 : decode cX7_init 27 = .ok (.new 25, 3) := by decide +kernel
theorem dX7_init_30 : decode cX7_init 30 = .ok (.dup, 1) := by decide +kernel
theorem dX7_init_31 : decode cX7_init 31 = .ok (.invokespecial 27, 3) := by decide +kernel
theorem dX7_init_34 : decode cX7_init 34 = .ok (.putfield 28, 3) := by decide +kernel
theorem dX7_init_37 : decode cX7_init 37 = .ok (.aload_n 0, 1) := by decide +kernel
theorem dX7_init_38 : decode cX7_init 38 = .ok (.new 32, 3) := by decide +kernel
theorem dX7_init_41 : decode cX7_init 41 = .ok (.dup, 1) := by decide +kernel
theorem dX7_init_42 : decode cX7_init 42 = .ok (.invokespecial 34, 3) := by decide +kernel
theorem dX7_init_45 : decode cX7_init 45 = .ok (.putfield 35, 3) := by decide +kernel
theorem dX7_init_48 : decode cX7_init 48 = .ok (.aload_n 0, 1) := by decide +kernel
theorem dX7_init_49 : decode cX7_init 49 = .ok (.new 39, 3) := by decide +kernel
theorem dX7_init_52 : decode cX7_init 52 = .ok (.dup, 1) := by decide +kernel
theorem dX7_init_53 : decode cX7_init 53 = .ok (.invokespecial 41, 3) := by decide +kernel
theorem dX7_init_56 : decode cX7_init 56 = .ok (.putfield 42, 3) := by decide +kernel
theorem dX7_init_59 : decode cX7_init 59 = .ok (.return_, 1) := by decide +kernel
set_option maxRecDepth 20000 in
theorem ggX7_become_X3_become : GoodIn wsX7_become wsX3_become := goodIn_r _ [11, 12, 13, 14, 15, 16, 17, 18, 19, 20, 21, 22, 23, 81, 82, 83, 84, 85, 86, 87, 88] (by decide +kernel) (by decide +kernel)
set_option maxRecDepth 20000 in
theorem gX7_become_X3_become : GoodIn wsX7_become (wsV RX7 50 RX3 yX3_become wsX3_become) := goodIn_app (goodIn_of _ (by decide +kernel)) ggX7_become_X3_become
set_option maxRecDepth 20000 in
theorem ggX7_become_X1_become : GoodIn wsX7_become wsX1_become := goodIn_r _ [28, 29, 30, 31, 32, 33, 34, 35, 36, 37, 38, 39, 89, 90, 91, 92, 93, 94, 95, 96, 97, 98, 99] (by decide +kernel) (by decide +kernel)
set_option maxRecDepth 20000 in
theorem gX7_become_X1_become : GoodIn wsX7_become (wsV RX7 54 RX1 yX1_become wsX1_become) := goodIn_app (goodIn_of _ (by decide +kernel)) ggX7_become_X1_become
set_option maxRecDepth 20000 in
theorem ggX7_become_X8_become : GoodIn wsX7_become wsX8_become := goodIn_r _ [44, 45, 46, 47, 20, 21, 22, 48, 49, 50, 51, 52, 53, 54, 100, 101, 102, 103, 104, 105, 106, 107, 108, 109] (by decide +kernel) (by decide +kernel)
set_option maxRecDepth 20000 in
theorem gX7_become_X8_become : GoodIn wsX7_become (wsV RX7 57 RX8 yX8_become wsX8_become) := goodIn_app (goodIn_of _ (by decide +kernel)) ggX7_become_X8_become
set_option maxRecDepth 20000 in
theorem ggX7_become_X10_become : GoodIn wsX7_become wsX10_become := goodIn_r _ [59, 60, 61, 62, 20, 21, 22, 110, 111] (by decide +kernel) (by decide +kernel)
set_option maxRecDepth 20000 in
theorem gX7_become_X10_become : GoodIn wsX7_become (wsV RX7 60 RX10 yX10_become wsX10_become) := goodIn_app (goodIn_of _ (by decide +kernel)) ggX7_become_X10_become
set_option maxRecDepth 20000 in
theorem ggX7_become_X0_become : GoodIn wsX7_become wsX0_become := goodIn_r _ [67, 68, 69, 20, 21, 22, 70, 71, 72, 73, 74, 112, 113, 114, 115, 116, 117] (by decide +kernel) (by decide +kernel)
set_option maxRecDepth 20000 in
theorem gX7_become_X0_become : GoodIn wsX7_become (wsV RX7 63 RX0 yX0_become wsX0_become) := goodIn_app (goodIn_of _ (by decide +kernel)) ggX7_become_X0_become
theorem dX7_become_0 : decode cX7_become 0 = .ok (.aload_n 0, 1) := by decide +kernel
theorem dX7_become_1 : decode cX7_become 1 = .ok (.aload_n 1, 1) := by decide +kernel
theorem dX7_become_2 : decode cX7_become 2 = .ok (.getfield 46, 3) := by decide +kernel
theorem dX7_become_5 : decode cX7_become 5 = .ok (.putfield 46, 3) := by decide +kernel
theorem dX7_become_8 : decode cX7_become 8 = .ok (.aload_n 0, 1) := by decide +kernel
theorem dX7_become_9 : decode cX7_become 9 = .ok (.getfield 12, 3) := by decide +kernel
theorem dX7_become_12 : decode cX7_become 12 = .ok (.aload_n 1, 1) := by decide +kernel
theorem dX7_become_13 : decode cX7_become 13 = .ok (.getfield 12, 3) := by decide +kernel
theorem dX7_become_16 : decode cX7_become 16 = .ok (.invokevirtual 50, 3) := by decide +kernel
theorem dX7_become_19 : decode cX7_become 19 = .ok (.aload_n 0, 1) := by decide +kernel
theorem dX7_become_20 : decode cX7_become 20 = .ok (.getfield 21, 3) := by decide +kernel
theorem dX7_become_23 : decode cX7_become 23 = .ok (.aload_n 1, 1) := by decide +kernel
theorem dX7_become_24 : decode cX7_become 24 = .ok (.getfield 21, 3) := by decide +kernel
theorem dX7_become_27 : decode cX7_become 27 = .ok (.invokevirtual 54, 3) := by decide +kernel
theorem dX7_become_30 : decode cX7_become 30 = .ok (.aload_n 0, 1) := by decide +kernel
theorem dX7_become_31 : decode cX7_become 31 = .ok (.getfield 28, 3) := by decide +kernel
theorem dX7_become_34 : decode cX7_become 34 = .ok (.aload_n 1, 1) := by decide +kernel
theorem dX7_become_35 : decode cX7_become 35 = .ok (.getfield 28, 3) := by decide +kernel
theorem dX7_become_38 : decode cX7_become 38 = .ok (.invokevirtual 57, 3) := by decide +kernel
theorem dX7_become_41 : decode cX7_become 41 = .ok (.aload_n 0, 1) := by decide +kernel
theorem dX7_become_42 : decode cX7_become 42 = .ok (.getfield 35, 3) := by decide +kernel
theorem dX7_become_45 : decode cX7_become 45 = .ok (.aload_n 1, 1) := by decide +kernel
theorem dX7_become_46 : decode cX7_become 46 = .ok (.getfield 35, 3) := by decide +kernel
theorem dX7_become_49 : decode cX7_become 49 = .ok (.invokevirtual 60, 3) := by decide +kernel
theorem dX7_become_52 : decode cX7_become 52 = .ok (.aload_n 0, 1) := by decide +kernel
theorem dX7_become_53 : decode cX7_become 53 = .ok (.getfield 42, 3) := by decide +kernel
theorem dX7_become_56 : decode cX7_become 56 = .ok (.aload_n 1, 1) := by decide +kernel
theorem dX7_become_57 : decode cX7_become 57 = .ok (.getfield 42, 3) := by decide +kernel
theorem dX7_become_60 : decode cX7_become 60 = .ok (.invokevirtual 63, 3) := by decide +kernel
theorem dX7_become_63 : decode cX7_become 63 = .ok (.return_, 1) := by decide +kernel
set_option maxRecDepth 20000 in
theorem ggX7_number_X1_number : GoodIn wsX7_number wsX1_number := goodIn_r _ [11, 12, 13, 14, 15, 16, 17, 64, 65, 66, 67, 68, 69, 70, 71, 72, 73, 74] (by decide +kernel) (by decide +kernel)
set_option maxRecDepth 20000 in
theorem gX7_number_X1_number : GoodIn wsX7_number (wsV RX7 81 RX1 yX1_number wsX1_number) := goodIn_app (goodIn_of _ (by decide +kernel)) ggX7_number_X1_number
set_option maxRecDepth 20000 in
theorem ggX7_number_X7_goodCount : GoodIn wsX7_number wsX7_goodCount := goodIn_r _ [22, 4, 2, 23, 24, 25, 26, 27, 28, 29, 30, 31, 32, 33, 34, 35, 36, 37, 38, 39, 40, 41, 42, 43, 44, 45, 46, 47, 48, 49, 50, 51, 52, 53, 54, 55, 64, 65, 66, 67, 68, 69, 70, 71, 72, 73, 74, 75, 76, 77, 78, 79, 80, 81, 82, 83, 84] (by decide +kernel) (by decide +kernel)
set_option maxRecDepth 20000 in
theorem gX7_number_X7_goodCount : GoodIn wsX7_number (wsV RX7 101 RX7 yX7_goodCount wsX7_goodCount) := goodIn_app (goodIn_of _ (by decide +kernel)) ggX7_number_X7_goodCount
theorem dX7_number_0 : decode cX7_number 0 = .ok (.iload_n 1, 1) := by decide +kernel
theorem dX7_number_1 : decode cX7_number 1 = .ok (.tableswitch 206 0 18 #[91, 99, 107, 115, 123, 131, 131, 131, 131, 131, 131, 140, 148, 156, 161, 177, 185, 193, 198], 91) := by decide +kernel
theorem dX7_number_92 : decode cX7_number 92 = .ok (.aload_n 0, 1) := by decide +kernel
theorem dX7_number_93 : decode cX7_number 93 = .ok (.getfield 12, 3) := by decide +kernel
theorem dX7_number_96 : decode cX7_number 96 = .ok (.getfield 66, 3) := by decide +kernel
theorem dX7_number_99 : decode cX7_number 99 = .ok (.ireturn, 1) := by decide +kernel
theorem dX7_number_100 : decode cX7_number 100 = .ok (.aload_n 0, 1) := by decide +kernel
theorem dX7_number_101 : decode cX7_number 101 = .ok (.getfield 12, 3) := by decide +kernel
theorem dX7_number_104 : decode cX7_number 104 = .ok (.getfield 69, 3) := by decide +kernel
theorem dX7_number_107 : decode cX7_number 107 = .ok (.ireturn, 1) := by decide +kernel
theorem dX7_number_108 : decode cX7_number 108 = .ok (.aload_n 0, 1) := by decide +kernel
theorem dX7_number_109 : decode cX7_number 109 = .ok (.getfield 12, 3) := by decide +kernel
theorem dX7_number_112 : decode cX7_number 112 = .ok (.getfield 72, 3) := by decide +kernel
theorem dX7_number_115 : decode cX7_number 115 = .ok (.ireturn, 1) := by decide +kernel
theorem dX7_number_116 : decode cX7_number 116 = .ok (.aload_n 0, 1) := by decide +kernel
theorem dX7_number_117 : decode cX7_number 117 = .ok (.getfield 12, 3) := by decide +kernel
theorem dX7_number_120 : decode cX7_number 120 = .ok (.getfield 75, 3) := by decide +kernel
theorem dX7_number_123 : decode cX7_number 123 = .ok (.ireturn, 1) := by decide +kernel
theorem dX7_number_124 : decode cX7_number 124 = .ok (.aload_n 0, 1) := by decide +kernel
theorem dX7_number_125 : decode cX7_number 125 = .ok (.getfield 12, 3) := by decide +kernel
theorem dX7_number_128 : decode cX7_number 128 = .ok (.getfield 78, 3) := by decide +kernel
theorem dX7_number_131 : decode cX7_number 131 = .ok (.ireturn, 1) := by decide +kernel
theorem dX7_number_132 : decode cX7_number 132 = .ok (.aload_n 0, 1) := by decide +kernel
theorem dX7_number_133 : decode cX7_number 133 = .ok (.getfield 21, 3) := by decide +kernel
theorem dX7_number_136 : decode cX7_number 136 = .ok (.iload_n 1, 1) := by decide +kernel
theorem dX7_number_137 : decode cX7_number 137 = .ok (.invokevirtual 81, 3) := by decide +kernel
theorem dX7_number_140 : decode cX7_number 140 = .ok (.ireturn, 1) := by decide +kernel
theorem dX7_number_141 : decode cX7_number 141 = .ok (.aload_n 0, 1) := by decide +kernel
theorem dX7_number_142 : decode cX7_number 142 = .ok (.getfield 21, 3) := by decide +kernel
theorem dX7_number_145 : decode cX7_number 145 = .ok (.getfield 85, 3) := by decide +kernel
theorem dX7_number_148 : decode cX7_number 148 = .ok (.ireturn, 1) := by decide +kernel
theorem dX7_number_149 : decode cX7_number 149 = .ok (.aload_n 0, 1) := by decide +kernel
theorem dX7_number_150 : decode cX7_number 150 = .ok (.getfield 12, 3) := by decide +kernel
theorem dX7_number_153 : decode cX7_number 153 = .ok (.getfield 88, 3) := by decide +kernel
theorem dX7_number_156 : decode cX7_number 156 = .ok (.ireturn, 1) := by decide +kernel
theorem dX7_number_157 : decode cX7_number 157 = .ok (.aload_n 0, 1) := by decide +kernel
theorem dX7_number_158 : decode cX7_number 158 = .ok (.getfield 46, 3) := by decide +kernel
theorem dX7_number_161 : decode cX7_number 161 = .ok (.ireturn, 1) := by decide +kernel
theorem dX7_number_162 : decode cX7_number 162 = .ok (.aload_n 0, 1) := by decide +kernel
theorem dX7_number_163 : decode cX7_number 163 = .ok (.getfield 21, 3) := by decide +kernel
theorem dX7_number_166 : decode cX7_number 166 = .ok (.getfield 91, 3) := by decide +kernel
theorem dX7_number_169 : decode cX7_number 169 = .ok (.ifCond .eq 7, 3) := by decide +kernel
theorem dX7_number_172 : decode cX7_number 172 = .ok (.iconst 1, 1) := by decide +kernel
theorem dX7_number_173 : decode cX7_number 173 = .ok (.goto 4, 3) := by decide +kernel
theorem dX7_number_176 : decode cX7_number 176 = .ok (.iconst 0, 1) := by decide +kernel
theorem dX7_number_177 : decode cX7_number 177 = .ok (.ireturn, 1) := by decide +kernel
theorem dX7_number_178 : decode cX7_number 178 = .ok (.aload_n 0, 1) := by decide +kernel
theorem dX7_number_179 : decode cX7_number 179 = .ok (.getfield 21, 3) := by decide +kernel
theorem dX7_number_182 : decode cX7_number 182 = .ok (.getfield 95, 3) := by decide +kernel
theorem dX7_number_185 : decode cX7_number 185 = .ok (.ireturn, 1) := by decide +kernel
theorem dX7_number_186 : decode cX7_number 186 = .ok (.aload_n 0, 1) := by decide +kernel
theorem dX7_number_187 : decode cX7_number 187 = .ok (.getfield 28, 3) := by decide +kernel
theorem dX7_number_190 : decode cX7_number 190 = .ok (.getfield 98, 3) := by decide +kernel
theorem dX7_number_193 : decode cX7_number 193 = .ok (.ireturn, 1) := by decide +kernel
theorem dX7_number_194 : decode cX7_number 194 = .ok (.aload_n 0, 1) := by decide +kernel
theorem dX7_number_195 : decode cX7_number 195 = .ok (.invokevirtual 101, 3) := by decide +kernel
theorem dX7_number_198 : decode cX7_number 198 = .ok (.ireturn, 1) := by decide +kernel
theorem dX7_number_199 : decode cX7_number 199 = .ok (.aload_n 0, 1) := by decide +kernel
theorem dX7_number_200 : decode cX7_number 200 = .ok (.getfield 35, 3) := by decide +kernel
theorem dX7_number_203 : decode cX7_number 203 = .ok (.getfield 105, 3) := by decide +kernel
theorem dX7_number_206 : decode cX7_number 206 = .ok (.ireturn, 1) := by decide +kernel
theorem dX7_number_207 : decode cX7_number 207 = .ok (.aload_n 0, 1) := by decide +kernel
theorem dX7_number_208 : decode cX7_number 208 = .ok (.getfield 42, 3) := by decide +kernel
theorem dX7_number_211 : decode cX7_number 211 = .ok (.getfield 106, 3) := by decide +kernel
theorem dX7_number_214 : decode cX7_number 214 = .ok (.ireturn, 1) := by decide +kernel
set_option maxRecDepth 20000 in
theorem ggX7_pass_X11_isTicks : GoodIn wsX7_pass wsX11_isTicks := goodIn_r _ [3] (by decide +kernel) (by decide +kernel)
set_option maxRecDepth 20000 in
theorem gX7_pass_X11_isTicks_n109 : GoodIn wsX7_pass (wsX11_isTicks) := ggX7_pass_X11_isTicks
set_option maxRecDepth 20000 in
theorem ggX7_pass_X7_passOne : GoodIn wsX7_pass wsX7_passOne := goodIn_r _ [8, 9, 10, 11, 12, 13, 14, 15, 16, 17, 18, 19, 20, 21, 22, 23, 24, 25, 26, 27, 28, 29, 30, 31, 32, 33, 34, 35, 36, 37, 2, 38, 39, 40, 41, 42, 43, 44, 45, 46, 47, 48, 49, 50, 51, 52, 53, 54, 55, 56, 57, 58, 59, 60, 61, 62, 63, 64, 65, 66, 67, 68, 69, 70, 71, 72, 73, 74, 75, 76, 77, 78, 79, 80, 81, 82, 83, 84, 85, 86, 87, 88, 89, 90, 91, 92, 93, 94, 95, 96, 97, 98, 99, 100, 101, 102, 103, 104, 105, 106, 107, 108, 109, 110, 111, 112, 113, 114, 115, 116, 117, 118, 119, 120, 121, 122, 123, 124, 125, 126, 127, 128, 129, 130, 131, 132, 133, 134, 135, 136, 137, 138, 139, 140, 141] (by decide +kernel) (by decide +kernel)
set_option maxRecDepth 20000 in
theorem gX7_pass_X7_passOne : GoodIn wsX7_pass (wsV RX7 113 RX7 yX7_passOne wsX7_passOne) := goodIn_app (goodIn_of _ (by decide +kernel)) ggX7_pass_X7_passOne
theorem dX7_pass_0 : decode cX7_pass 0 = .ok (.iload_n 1, 1) := by decide +kernel
theorem dX7_pass_1 : decode cX7_pass 1 = .ok (.invokestatic 109, 3) := by decide +kernel
theorem dX7_pass_4 : decode cX7_pass 4 = .ok (.ifCond .ne 5, 3) := by decide +kernel
theorem dX7_pass_7 : decode cX7_pass 7 = .ok (.iconst 0, 1) := by decide +kernel
theorem dX7_pass_8 : decode cX7_pass 8 = .ok (.ireturn, 1) := by decide +kernel
theorem dX7_pass_9 : decode cX7_pass 9 = .ok (.iconst 0, 1) := by decide +kernel
theorem dX7_pass_10 : decode cX7_pass 10 = .ok (.istore_n 2, 1) := by decide +kernel
theorem dX7_pass_11 : decode cX7_pass 11 = .ok (.iload_n 2, 1) := by decide +kernel
theorem dX7_pass_12 : decode cX7_pass 12 = .ok (.iload_n 1, 1) := by decide +kernel
theorem dX7_pass_13 : decode cX7_pass 13 = .ok (.if_icmp .ge 13, 3) := by decide +kernel
theorem dX7_pass_16 : decode cX7_pass 16 = .ok (.aload_n 0, 1) := by decide +kernel
theorem dX7_pass_17 : decode cX7_pass 17 = .ok (.invokevirtual 113, 3) := by decide +kernel
theorem dX7_pass_20 : decode cX7_pass 20 = .ok (.iinc 2 1, 3) := by decide +kernel
theorem dX7_pass_23 : decode cX7_pass 23 = .ok (.goto (-12), 3) := by decide +kernel
theorem dX7_pass_26 : decode cX7_pass 26 = .ok (.iconst 1, 1) := by decide +kernel
theorem dX7_pass_27 : decode cX7_pass 27 = .ok (.ireturn, 1) := by decide +kernel
set_option maxRecDepth 20000 in
theorem ggX7_passOne_X1_outputAt : GoodIn wsX7_passOne wsX1_outputAt := goodIn_r _ [10, 11, 12, 13, 14, 9, 15, 16, 17, 18, 19, 20, 21, 22, 23, 24, 25, 26, 27, 28, 29, 30, 31, 108, 109, 110, 111, 112, 113, 114, 115, 116, 117, 118] (by decide +kernel) (by decide +kernel)
set_option maxRecDepth 20000 in
theorem gX7_passOne_X1_outputAt : GoodIn wsX7_passOne (wsV RX7 116 RX1 yX1_outputAt wsX1_outputAt) := goodIn_app (goodIn_of _ (by decide +kernel)) ggX7_passOne_X1_outputAt
set_option maxRecDepth 20000 in
theorem ggX7_passOne_X3_work : GoodIn wsX7_passOne wsX3_work := goodIn_r _ [36, 37, 38, 39, 40, 41, 42, 43, 44, 45, 35, 46, 47, 48, 49, 50, 51, 52, 53, 54, 55, 29, 30, 31, 100, 101, 102, 103, 104, 105, 106, 107] (by decide +kernel) (by decide +kernel)
set_option maxRecDepth 20000 in
theorem gX7_passOne_X3_work : GoodIn wsX7_passOne (wsV RX7 120 RX3 yX3_work wsX3_work) := goodIn_app (goodIn_of _ (by decide +kernel)) ggX7_passOne_X3_work
set_option maxRecDepth 20000 in
theorem ggX7_passOne_X0_addTick : GoodIn wsX7_passOne wsX0_addTick := goodIn_r _ [60, 61, 62, 63, 64, 119, 120, 121, 122, 123, 124] (by decide +kernel) (by decide +kernel)
set_option maxRecDepth 20000 in
theorem gX7_passOne_X0_addTick : GoodIn wsX7_passOne (wsV RX7 124 RX0 yX0_addTick wsX0_addTick) := goodIn_app (goodIn_of _ (by decide +kernel)) ggX7_passOne_X0_addTick
set_option maxRecDepth 20000 in
theorem ggX7_passOne_X8_watch : GoodIn wsX7_passOne wsX8_watch := goodIn_r _ [69, 70, 71, 72, 73, 74, 75, 76, 77, 78, 79, 80, 81, 82, 83, 68, 84, 85, 86, 87, 88, 89, 90, 91, 92, 93, 125, 126, 127, 128, 129, 130, 131, 132, 133, 134] (by decide +kernel) (by decide +kernel)
set_option maxRecDepth 20000 in
theorem gX7_passOne_X8_watch : GoodIn wsX7_passOne (wsV RX7 131 RX8 yX8_watch wsX8_watch) := goodIn_app (goodIn_of _ (by decide +kernel)) ggX7_passOne_X8_watch
theorem dX7_passOne_0 : decode cX7_passOne 0 = .ok (.aload_n 0, 1) := by decide +kernel
theorem dX7_passOne_1 : decode cX7_passOne 1 = .ok (.getfield 12, 3) := by decide +kernel
theorem dX7_passOne_4 : decode cX7_passOne 4 = .ok (.getfield 88, 3) := by decide +kernel
theorem dX7_passOne_7 : decode cX7_passOne 7 = .ok (.istore_n 1, 1) := by decide +kernel
theorem dX7_passOne_8 : decode cX7_passOne 8 = .ok (.aload_n 0, 1) := by decide +kernel
theorem dX7_passOne_9 : decode cX7_passOne 9 = .ok (.getfield 21, 3) := by decide +kernel
theorem dX7_passOne_12 : decode cX7_passOne 12 = .ok (.iload_n 1, 1) := by decide +kernel
theorem dX7_passOne_13 : decode cX7_passOne 13 = .ok (.aload_n 0, 1) := by decide +kernel
theorem dX7_passOne_14 : decode cX7_passOne 14 = .ok (.getfield 12, 3) := by decide +kernel
theorem dX7_passOne_17 : decode cX7_passOne 17 = .ok (.getfield 78, 3) := by decide +kernel
theorem dX7_passOne_20 : decode cX7_passOne 20 = .ok (.invokevirtual 116, 3) := by decide +kernel
theorem dX7_passOne_23 : decode cX7_passOne 23 = .ok (.istore_n 2, 1) := by decide +kernel
theorem dX7_passOne_24 : decode cX7_passOne 24 = .ok (.aload_n 0, 1) := by decide +kernel
theorem dX7_passOne_25 : decode cX7_passOne 25 = .ok (.getfield 12, 3) := by decide +kernel
theorem dX7_passOne_28 : decode cX7_passOne 28 = .ok (.iload_n 2, 1) := by decide +kernel
theorem dX7_passOne_29 : decode cX7_passOne 29 = .ok (.invokevirtual 120, 3) := by decide +kernel
theorem dX7_passOne_32 : decode cX7_passOne 32 = .ok (.aload_n 0, 1) := by decide +kernel
theorem dX7_passOne_33 : decode cX7_passOne 33 = .ok (.dup, 1) := by decide +kernel
theorem dX7_passOne_34 : decode cX7_passOne 34 = .ok (.getfield 46, 3) := by decide +kernel
theorem dX7_passOne_37 : decode cX7_passOne 37 = .ok (.iconst 1, 1) := by decide +kernel
theorem dX7_passOne_38 : decode cX7_passOne 38 = .ok (.iadd, 1) := by decide +kernel
theorem dX7_passOne_39 : decode cX7_passOne 39 = .ok (.putfield 46, 3) := by decide +kernel
theorem dX7_passOne_42 : decode cX7_passOne 42 = .ok (.aload_n 0, 1) := by decide +kernel
theorem dX7_passOne_43 : decode cX7_passOne 43 = .ok (.getfield 42, 3) := by decide +kernel
theorem dX7_passOne_46 : decode cX7_passOne 46 = .ok (.aload_n 0, 1) := by decide +kernel
theorem dX7_passOne_47 : decode cX7_passOne 47 = .ok (.getfield 21, 3) := by decide +kernel
theorem dX7_passOne_50 : decode cX7_passOne 50 = .ok (.getfield 85, 3) := by decide +kernel
theorem dX7_passOne_53 : decode cX7_passOne 53 = .ok (.iload_n 2, 1) := by decide +kernel
theorem dX7_passOne_54 : decode cX7_passOne 54 = .ok (.invokevirtual 124, 3) := by decide +kernel
theorem dX7_passOne_57 : decode cX7_passOne 57 = .ok (.aload_n 0, 1) := by decide +kernel
theorem dX7_passOne_58 : decode cX7_passOne 58 = .ok (.getfield 21, 3) := by decide +kernel
theorem dX7_passOne_61 : decode cX7_passOne 61 = .ok (.getfield 85, 3) := by decide +kernel
theorem dX7_passOne_64 : decode cX7_passOne 64 = .ok (.iconst 1, 1) := by decide +kernel
theorem dX7_passOne_65 : decode cX7_passOne 65 = .ok (.if_icmp .ne 45, 3) := by decide +kernel
theorem dX7_passOne_68 : decode cX7_passOne 68 = .ok (.aload_n 0, 1) := by decide +kernel
theorem dX7_passOne_69 : decode cX7_passOne 69 = .ok (.getfield 28, 3) := by decide +kernel
theorem dX7_passOne_72 : decode cX7_passOne 72 = .ok (.iload_n 1, 1) := by decide +kernel
theorem dX7_passOne_73 : decode cX7_passOne 73 = .ok (.aload_n 0, 1) := by decide +kernel
theorem dX7_passOne_74 : decode cX7_passOne 74 = .ok (.getfield 12, 3) := by decide +kernel
theorem dX7_passOne_77 : decode cX7_passOne 77 = .ok (.getfield 88, 3) := by decide +kernel
theorem dX7_passOne_80 : decode cX7_passOne 80 = .ok (.aload_n 0, 1) := by decide +kernel
theorem dX7_passOne_81 : decode cX7_passOne 81 = .ok (.getfield 21, 3) := by decide +kernel
theorem dX7_passOne_84 : decode cX7_passOne 84 = .ok (.getfield 128, 3) := by decide +kernel
theorem dX7_passOne_87 : decode cX7_passOne 87 = .ok (.aload_n 0, 1) := by decide +kernel
theorem dX7_passOne_88 : decode cX7_passOne 88 = .ok (.getfield 46, 3) := by decide +kernel
theorem dX7_passOne_91 : decode cX7_passOne 91 = .ok (.invokevirtual 131, 3) := by decide +kernel
theorem dX7_passOne_94 : decode cX7_passOne 94 = .ok (.ifCond .eq 16, 3) := by decide +kernel
theorem dX7_passOne_97 : decode cX7_passOne 97 = .ok (.aload_n 0, 1) := by decide +kernel
theorem dX7_passOne_98 : decode cX7_passOne 98 = .ok (.getfield 42, 3) := by decide +kernel
theorem dX7_passOne_101 : decode cX7_passOne 101 = .ok (.dup, 1) := by decide +kernel
theorem dX7_passOne_102 : decode cX7_passOne 102 = .ok (.getfield 135, 3) := by decide +kernel
theorem dX7_passOne_105 : decode cX7_passOne 105 = .ok (.iconst 1, 1) := by decide +kernel
theorem dX7_passOne_106 : decode cX7_passOne 106 = .ok (.iadd, 1) := by decide +kernel
theorem dX7_passOne_107 : decode cX7_passOne 107 = .ok (.putfield 135, 3) := by decide +kernel
theorem dX7_passOne_110 : decode cX7_passOne 110 = .ok (.return_, 1) := by decide +kernel
set_option maxRecDepth 20000 in
theorem ggX7_changeMode_X11_isMode : GoodIn wsX7_changeMode wsX11_isMode := goodIn_r _ [5] (by decide +kernel) (by decide +kernel)
set_option maxRecDepth 20000 in
theorem gX7_changeMode_X11_isMode_n138 : GoodIn wsX7_changeMode (wsX11_isMode) := ggX7_changeMode_X11_isMode
set_option maxRecDepth 20000 in
theorem ggX7_changeMode_X1_enter : GoodIn wsX7_changeMode wsX1_enter := goodIn_r _ [10, 11, 12, 13, 14, 27, 28, 29, 30, 31, 32, 33, 34, 35, 36, 37] (by decide +kernel) (by decide +kernel)
set_option maxRecDepth 20000 in
theorem gX7_changeMode_X1_enter : GoodIn wsX7_changeMode (wsV RX7 141 RX1 yX1_enter wsX1_enter) := goodIn_app (goodIn_of _ (by decide +kernel)) ggX7_changeMode_X1_enter
set_option maxRecDepth 20000 in
theorem ggX7_changeMode_X8_breakOff : GoodIn wsX7_changeMode wsX8_breakOff := goodIn_r _ [19, 20, 38, 39, 40, 41, 42, 43, 44, 45, 46, 47] (by decide +kernel) (by decide +kernel)
set_option maxRecDepth 20000 in
theorem gX7_changeMode_X8_breakOff : GoodIn wsX7_changeMode (wsV RX7 144 RX8 yX8_breakOff wsX8_breakOff) := goodIn_app (goodIn_of _ (by decide +kernel)) ggX7_changeMode_X8_breakOff
theorem dX7_changeMode_0 : decode cX7_changeMode 0 = .ok (.iload_n 1, 1) := by decide +kernel
theorem dX7_changeMode_1 : decode cX7_changeMode 1 = .ok (.invokestatic 138, 3) := by decide +kernel
theorem dX7_changeMode_4 : decode cX7_changeMode 4 = .ok (.ifCond .ne 5, 3) := by decide +kernel
theorem dX7_changeMode_7 : decode cX7_changeMode 7 = .ok (.iconst 0, 1) := by decide +kernel
theorem dX7_changeMode_8 : decode cX7_changeMode 8 = .ok (.ireturn, 1) := by decide +kernel
theorem dX7_changeMode_9 : decode cX7_changeMode 9 = .ok (.iload_n 1, 1) := by decide +kernel
theorem dX7_changeMode_10 : decode cX7_changeMode 10 = .ok (.aload_n 0, 1) := by decide +kernel
theorem dX7_changeMode_11 : decode cX7_changeMode 11 = .ok (.getfield 21, 3) := by decide +kernel
theorem dX7_changeMode_14 : decode cX7_changeMode 14 = .ok (.getfield 85, 3) := by decide +kernel
theorem dX7_changeMode_17 : decode cX7_changeMode 17 = .ok (.if_icmp .eq 18, 3) := by decide +kernel
theorem dX7_changeMode_20 : decode cX7_changeMode 20 = .ok (.aload_n 0, 1) := by decide +kernel
theorem dX7_changeMode_21 : decode cX7_changeMode 21 = .ok (.getfield 21, 3) := by decide +kernel
theorem dX7_changeMode_24 : decode cX7_changeMode 24 = .ok (.iload_n 1, 1) := by decide +kernel
theorem dX7_changeMode_25 : decode cX7_changeMode 25 = .ok (.invokevirtual 141, 3) := by decide +kernel
theorem dX7_changeMode_28 : decode cX7_changeMode 28 = .ok (.aload_n 0, 1) := by decide +kernel
theorem dX7_changeMode_29 : decode cX7_changeMode 29 = .ok (.getfield 28, 3) := by decide +kernel
theorem dX7_changeMode_32 : decode cX7_changeMode 32 = .ok (.invokevirtual 144, 3) := by decide +kernel
theorem dX7_changeMode_35 : decode cX7_changeMode 35 = .ok (.iconst 1, 1) := by decide +kernel
theorem dX7_changeMode_36 : decode cX7_changeMode 36 = .ok (.ireturn, 1) := by decide +kernel
set_option maxRecDepth 20000 in
theorem ggX7_put_X11_isSetting : GoodIn wsX7_put wsX11_isSetting := goodIn_r _ [4, 5, 6, 7, 8] (by decide +kernel) (by decide +kernel)
set_option maxRecDepth 20000 in
theorem gX7_put_X11_isSetting_n147 : GoodIn wsX7_put (wsX11_isSetting) := ggX7_put_X11_isSetting
set_option maxRecDepth 20000 in
theorem ggX7_put_X1_put : GoodIn wsX7_put wsX1_put := goodIn_r _ [12, 13, 14, 15, 16, 17, 18, 25, 26, 27, 28, 29, 30, 31, 32, 33, 34, 35] (by decide +kernel) (by decide +kernel)
set_option maxRecDepth 20000 in
theorem gX7_put_X1_put : GoodIn wsX7_put (wsV RX7 151 RX1 yX1_put wsX1_put) := goodIn_app (goodIn_of _ (by decide +kernel)) ggX7_put_X1_put
theorem dX7_put_0 : decode cX7_put 0 = .ok (.iload_n 1, 1) := by decide +kernel
theorem dX7_put_1 : decode cX7_put 1 = .ok (.iload_n 2, 1) := by decide +kernel
theorem dX7_put_2 : decode cX7_put 2 = .ok (.invokestatic 147, 3) := by decide +kernel
theorem dX7_put_5 : decode cX7_put 5 = .ok (.ifCond .ne 5, 3) := by decide +kernel
theorem dX7_put_8 : decode cX7_put 8 = .ok (.iconst 0, 1) := by decide +kernel
theorem dX7_put_9 : decode cX7_put 9 = .ok (.ireturn, 1) := by decide +kernel
theorem dX7_put_10 : decode cX7_put 10 = .ok (.aload_n 0, 1) := by decide +kernel
theorem dX7_put_11 : decode cX7_put 11 = .ok (.getfield 21, 3) := by decide +kernel
theorem dX7_put_14 : decode cX7_put 14 = .ok (.iload_n 1, 1) := by decide +kernel
theorem dX7_put_15 : decode cX7_put 15 = .ok (.iload_n 2, 1) := by decide +kernel
theorem dX7_put_16 : decode cX7_put 16 = .ok (.invokevirtual 151, 3) := by decide +kernel
theorem dX7_put_19 : decode cX7_put 19 = .ok (.iconst 1, 1) := by decide +kernel
theorem dX7_put_20 : decode cX7_put 20 = .ok (.ireturn, 1) := by decide +kernel
set_option maxRecDepth 20000 in
theorem ggX7_push_X11_isDisturbance : GoodIn wsX7_push wsX11_isDisturbance := goodIn_r _ [5] (by decide +kernel) (by decide +kernel)
set_option maxRecDepth 20000 in
theorem gX7_push_X11_isDisturbance_n154 : GoodIn wsX7_push (wsX11_isDisturbance) := ggX7_push_X11_isDisturbance
set_option maxRecDepth 20000 in
theorem ggX7_push_X3_warmBy : GoodIn wsX7_push wsX3_warmBy := goodIn_r _ [10, 11, 12, 4, 13, 26, 27, 28, 29, 30, 31, 32, 33] (by decide +kernel) (by decide +kernel)
set_option maxRecDepth 20000 in
theorem gX7_push_X3_warmBy : GoodIn wsX7_push (wsV RX7 157 RX3 yX3_warmBy wsX3_warmBy) := goodIn_app (goodIn_of _ (by decide +kernel)) ggX7_push_X3_warmBy
theorem dX7_push_0 : decode cX7_push 0 = .ok (.iload_n 1, 1) := by decide +kernel
theorem dX7_push_1 : decode cX7_push 1 = .ok (.invokestatic 154, 3) := by decide +kernel
theorem dX7_push_4 : decode cX7_push 4 = .ok (.ifCond .ne 5, 3) := by decide +kernel
theorem dX7_push_7 : decode cX7_push 7 = .ok (.iconst 0, 1) := by decide +kernel
theorem dX7_push_8 : decode cX7_push 8 = .ok (.ireturn, 1) := by decide +kernel
theorem dX7_push_9 : decode cX7_push 9 = .ok (.aload_n 0, 1) := by decide +kernel
theorem dX7_push_10 : decode cX7_push 10 = .ok (.getfield 12, 3) := by decide +kernel
theorem dX7_push_13 : decode cX7_push 13 = .ok (.iload_n 1, 1) := by decide +kernel
theorem dX7_push_14 : decode cX7_push 14 = .ok (.invokevirtual 157, 3) := by decide +kernel
theorem dX7_push_17 : decode cX7_push 17 = .ok (.aload_n 0, 1) := by decide +kernel
theorem dX7_push_18 : decode cX7_push 18 = .ok (.getfield 42, 3) := by decide +kernel
theorem dX7_push_21 : decode cX7_push 21 = .ok (.dup, 1) := by decide +kernel
theorem dX7_push_22 : decode cX7_push 22 = .ok (.getfield 160, 3) := by decide +kernel
theorem dX7_push_25 : decode cX7_push 25 = .ok (.iconst 1, 1) := by decide +kernel
theorem dX7_push_26 : decode cX7_push 26 = .ok (.iadd, 1) := by decide +kernel
theorem dX7_push_27 : decode cX7_push 27 = .ok (.putfield 160, 3) := by decide +kernel
theorem dX7_push_30 : decode cX7_push 30 = .ok (.iconst 1, 1) := by decide +kernel
theorem dX7_push_31 : decode cX7_push 31 = .ok (.ireturn, 1) := by decide +kernel
theorem dX7_distance_0 : decode cX7_distance 0 = .ok (.aload_n 0, 1) := by decide +kernel
theorem dX7_distance_1 : decode cX7_distance 1 = .ok (.getfield 21, 3) := by decide +kernel
theorem dX7_distance_4 : decode cX7_distance 4 = .ok (.getfield 128, 3) := by decide +kernel
theorem dX7_distance_7 : decode cX7_distance 7 = .ok (.aload_n 0, 1) := by decide +kernel
theorem dX7_distance_8 : decode cX7_distance 8 = .ok (.getfield 12, 3) := by decide +kernel
theorem dX7_distance_11 : decode cX7_distance 11 = .ok (.getfield 88, 3) := by decide +kernel
theorem dX7_distance_14 : decode cX7_distance 14 = .ok (.isub, 1) := by decide +kernel
theorem dX7_distance_15 : decode cX7_distance 15 = .ok (.invokestatic 163, 3) := by decide +kernel
theorem dX7_distance_18 : decode cX7_distance 18 = .ok (.ireturn, 1) := by decide +kernel
set_option maxRecDepth 20000 in
theorem ggX7_goodCount_X8_goodCount : GoodIn wsX7_goodCount wsX8_goodCount := goodIn_r _ [7, 8, 9, 10, 6, 11, 12, 13, 14, 15, 16, 17, 18, 19, 20, 21, 22, 23, 24, 25, 26, 27, 28, 29, 47, 48, 49, 50, 51, 52, 53, 54, 55, 56] (by decide +kernel) (by decide +kernel)
set_option maxRecDepth 20000 in
theorem gX7_goodCount_X8_goodCount : GoodIn wsX7_goodCount (wsV RX7 171 RX8 yX8_goodCount wsX8_goodCount) := goodIn_app (goodIn_of _ (by decide +kernel)) ggX7_goodCount_X8_goodCount
theorem dX7_goodCount_0 : decode cX7_goodCount 0 = .ok (.aload_n 0, 1) := by decide +kernel
theorem dX7_goodCount_1 : decode cX7_goodCount 1 = .ok (.getfield 28, 3) := by decide +kernel
theorem dX7_goodCount_4 : decode cX7_goodCount 4 = .ok (.aload_n 0, 1) := by decide +kernel
theorem dX7_goodCount_5 : decode cX7_goodCount 5 = .ok (.getfield 21, 3) := by decide +kernel
theorem dX7_goodCount_8 : decode cX7_goodCount 8 = .ok (.getfield 168, 3) := by decide +kernel
theorem dX7_goodCount_11 : decode cX7_goodCount 11 = .ok (.invokevirtual 171, 3) := by decide +kernel
theorem dX7_goodCount_14 : decode cX7_goodCount 14 = .ok (.ireturn, 1) := by decide +kernel
set_option maxRecDepth 20000 in
theorem ggX7_canBeginTrial_X8_goodCount : GoodIn wsX7_canBeginTrial wsX8_goodCount := goodIn_r _ [8, 9, 10, 11, 7, 12, 13, 14, 15, 16, 17, 18, 19, 20, 21, 22, 23, 24, 25, 26, 27, 28, 29, 30, 50, 51, 52, 53, 54, 55, 56, 57, 58, 59] (by decide +kernel) (by decide +kernel)
set_option maxRecDepth 20000 in
theorem gX7_canBeginTrial_X8_goodCount : GoodIn wsX7_canBeginTrial (wsV RX7 171 RX8 yX8_goodCount wsX8_goodCount) := goodIn_app (goodIn_of _ (by decide +kernel)) ggX7_canBeginTrial_X8_goodCount
theorem dX7_canBeginTrial_0 : decode cX7_canBeginTrial 0 = .ok (.aload_n 0, 1) := by decide +kernel
theorem dX7_canBeginTrial_1 : decode cX7_canBeginTrial 1 = .ok (.getfield 35, 3) := by decide +kernel
theorem dX7_canBeginTrial_4 : decode cX7_canBeginTrial 4 = .ok (.getfield 105, 3) := by decide +kernel
theorem dX7_canBeginTrial_7 : decode cX7_canBeginTrial 7 = .ok (.bipush 8, 2) := by decide +kernel
theorem dX7_canBeginTrial_9 : decode cX7_canBeginTrial 9 = .ok (.if_icmp .ge 24, 3) := by decide +kernel
theorem dX7_canBeginTrial_12 : decode cX7_canBeginTrial 12 = .ok (.aload_n 0, 1) := by decide +kernel
theorem dX7_canBeginTrial_13 : decode cX7_canBeginTrial 13 = .ok (.getfield 28, 3) := by decide +kernel
theorem dX7_canBeginTrial_16 : decode cX7_canBeginTrial 16 = .ok (.aload_n 0, 1) := by decide +kernel
theorem dX7_canBeginTrial_17 : decode cX7_canBeginTrial 17 = .ok (.getfield 21, 3) := by decide +kernel
theorem dX7_canBeginTrial_20 : decode cX7_canBeginTrial 20 = .ok (.getfield 168, 3) := by decide +kernel
theorem dX7_canBeginTrial_23 : decode cX7_canBeginTrial 23 = .ok (.invokevirtual 171, 3) := by decide +kernel
theorem dX7_canBeginTrial_26 : decode cX7_canBeginTrial 26 = .ok (.ifCond .le 7, 3) := by decide +kernel
theorem dX7_canBeginTrial_29 : decode cX7_canBeginTrial 29 = .ok (.iconst 1, 1) := by decide +kernel
theorem dX7_canBeginTrial_30 : decode cX7_canBeginTrial 30 = .ok (.goto 4, 3) := by decide +kernel
theorem dX7_canBeginTrial_33 : decode cX7_canBeginTrial 33 = .ok (.iconst 0, 1) := by decide +kernel
theorem dX7_canBeginTrial_34 : decode cX7_canBeginTrial 34 = .ok (.ireturn, 1) := by decide +kernel
set_option maxRecDepth 20000 in
theorem ggX7_beginTrial_X11_isRule : GoodIn wsX7_beginTrial wsX11_isRule := goodIn_r _ [5] (by decide +kernel) (by decide +kernel)
set_option maxRecDepth 20000 in
theorem gX7_beginTrial_X11_isRule_n173 : GoodIn wsX7_beginTrial (wsX11_isRule) := ggX7_beginTrial_X11_isRule
set_option maxRecDepth 20000 in
theorem ggX7_beginTrial_X7_canBeginTrial : GoodIn wsX7_beginTrial wsX7_canBeginTrial := goodIn_r _ [10, 1, 11, 2, 12, 13, 14, 15, 16, 17, 18, 19, 20, 21, 22, 23, 24, 25, 26, 27, 28, 29, 30, 31, 32, 33, 34, 35, 36, 37, 38, 96, 97, 98, 99, 100, 101, 102, 103, 104, 105, 106, 107, 108, 109, 110, 111, 112, 113, 114, 115, 116, 117, 118, 119, 120, 121, 122, 123, 124] (by decide +kernel) (by decide +kernel)
set_option maxRecDepth 20000 in
theorem gX7_beginTrial_X7_canBeginTrial : GoodIn wsX7_beginTrial (wsV RX7 176 RX7 yX7_canBeginTrial wsX7_canBeginTrial) := goodIn_app (goodIn_of _ (by decide +kernel)) ggX7_beginTrial_X7_canBeginTrial
set_option maxRecDepth 20000 in
theorem ggX7_beginTrial_X10_open : GoodIn wsX7_beginTrial wsX10_open := goodIn_r _ [43, 44, 45, 102, 103, 104, 105, 106, 107, 108, 109, 110, 111, 112, 113, 114] (by decide +kernel) (by decide +kernel)
set_option maxRecDepth 20000 in
theorem gX7_beginTrial_X10_open : GoodIn wsX7_beginTrial (wsV RX7 180 RX10 yX10_open wsX10_open) := goodIn_app (goodIn_of _ (by decide +kernel)) ggX7_beginTrial_X10_open
set_option maxRecDepth 20000 in
theorem ggX7_beginTrial_X7_follow : GoodIn wsX7_beginTrial wsX7_follow := goodIn_r _ [49, 2, 50, 51, 52, 9, 53, 11, 54, 55, 56, 57, 58, 15, 59, 21, 22, 23, 24, 60, 61, 37, 62, 26, 17, 18, 19, 20, 25, 31, 32, 33, 34, 35, 36, 38, 63, 64, 65, 66, 67, 68, 69, 70, 71, 72, 73, 74, 75, 76, 77, 78, 79, 80, 4, 81, 82, 83, 84, 85, 86, 87, 88, 89, 90, 91, 92, 93, 94, 95, 96, 97, 98, 99, 100, 101, 104, 105, 106, 107, 108, 109, 110, 111, 112, 113, 114, 125, 126, 127, 128, 129, 130, 131, 132, 115, 116, 117, 118, 119, 120, 121, 122, 123, 124] (by decide +kernel) (by decide +kernel)
set_option maxRecDepth 20000 in
theorem gX7_beginTrial_X7_follow : GoodIn wsX7_beginTrial (wsV RX7 183 RX7 yX7_follow wsX7_follow) := goodIn_app (goodIn_of _ (by decide +kernel)) ggX7_beginTrial_X7_follow
theorem dX7_beginTrial_0 : decode cX7_beginTrial 0 = .ok (.iload_n 1, 1) := by decide +kernel
theorem dX7_beginTrial_1 : decode cX7_beginTrial 1 = .ok (.invokestatic 173, 3) := by decide +kernel
theorem dX7_beginTrial_4 : decode cX7_beginTrial 4 = .ok (.ifCond .eq 10, 3) := by decide +kernel
theorem dX7_beginTrial_7 : decode cX7_beginTrial 7 = .ok (.aload_n 0, 1) := by decide +kernel
theorem dX7_beginTrial_8 : decode cX7_beginTrial 8 = .ok (.invokevirtual 176, 3) := by decide +kernel
theorem dX7_beginTrial_11 : decode cX7_beginTrial 11 = .ok (.ifCond .ne 5, 3) := by decide +kernel
theorem dX7_beginTrial_14 : decode cX7_beginTrial 14 = .ok (.iconst 0, 1) := by decide +kernel
theorem dX7_beginTrial_15 : decode cX7_beginTrial 15 = .ok (.ireturn, 1) := by decide +kernel
theorem dX7_beginTrial_16 : decode cX7_beginTrial 16 = .ok (.aload_n 0, 1) := by decide +kernel
theorem dX7_beginTrial_17 : decode cX7_beginTrial 17 = .ok (.getfield 35, 3) := by decide +kernel
theorem dX7_beginTrial_20 : decode cX7_beginTrial 20 = .ok (.aload_n 0, 1) := by decide +kernel
theorem dX7_beginTrial_21 : decode cX7_beginTrial 21 = .ok (.getfield 21, 3) := by decide +kernel
theorem dX7_beginTrial_24 : decode cX7_beginTrial 24 = .ok (.invokevirtual 180, 3) := by decide +kernel
theorem dX7_beginTrial_27 : decode cX7_beginTrial 27 = .ok (.aload_n 0, 1) := by decide +kernel
theorem dX7_beginTrial_28 : decode cX7_beginTrial 28 = .ok (.iload_n 1, 1) := by decide +kernel
theorem dX7_beginTrial_29 : decode cX7_beginTrial 29 = .ok (.invokevirtual 183, 3) := by decide +kernel
theorem dX7_beginTrial_32 : decode cX7_beginTrial 32 = .ok (.iconst 1, 1) := by decide +kernel
theorem dX7_beginTrial_33 : decode cX7_beginTrial 33 = .ok (.ireturn, 1) := by decide +kernel
set_option maxRecDepth 20000 in
theorem ggX7_endTrial_X10_close : GoodIn wsX7_endTrial wsX10_close := goodIn_r _ [7, 8, 9, 40, 41, 42, 43, 44, 45, 46, 47, 48, 49, 50, 51, 52] (by decide +kernel) (by decide +kernel)
set_option maxRecDepth 20000 in
theorem gX7_endTrial_X10_close : GoodIn wsX7_endTrial (wsV RX7 186 RX10 yX10_close wsX10_close) := goodIn_app (goodIn_of _ (by decide +kernel)) ggX7_endTrial_X10_close
set_option maxRecDepth 20000 in
theorem ggX7_endTrial_X7_changeMode : GoodIn wsX7_endTrial wsX7_changeMode := goodIn_r _ [14, 2, 15, 16, 17, 18, 19, 20, 21, 22, 23, 24, 25, 26, 27, 28, 29, 30, 31, 32, 33, 34, 35, 36, 37, 38, 39, 42, 43, 44, 45, 46, 47, 48, 49, 50, 51, 52, 53, 54, 55, 56, 57, 58, 59, 60, 61, 62] (by decide +kernel) (by decide +kernel)
set_option maxRecDepth 20000 in
theorem gX7_endTrial_X7_changeMode : GoodIn wsX7_endTrial (wsV RX7 190 RX7 yX7_changeMode wsX7_changeMode) := goodIn_app (goodIn_of _ (by decide +kernel)) ggX7_endTrial_X7_changeMode
theorem dX7_endTrial_0 : decode cX7_endTrial 0 = .ok (.aload_n 0, 1) := by decide +kernel
theorem dX7_endTrial_1 : decode cX7_endTrial 1 = .ok (.getfield 35, 3) := by decide +kernel
theorem dX7_endTrial_4 : decode cX7_endTrial 4 = .ok (.getfield 105, 3) := by decide +kernel
theorem dX7_endTrial_7 : decode cX7_endTrial 7 = .ok (.ifCond .ne 5, 3) := by decide +kernel
theorem dX7_endTrial_10 : decode cX7_endTrial 10 = .ok (.iconst 0, 1) := by decide +kernel
theorem dX7_endTrial_11 : decode cX7_endTrial 11 = .ok (.ireturn, 1) := by decide +kernel
theorem dX7_endTrial_12 : decode cX7_endTrial 12 = .ok (.aload_n 0, 1) := by decide +kernel
theorem dX7_endTrial_13 : decode cX7_endTrial 13 = .ok (.aload_n 0, 1) := by decide +kernel
theorem dX7_endTrial_14 : decode cX7_endTrial 14 = .ok (.getfield 35, 3) := by decide +kernel
theorem dX7_endTrial_17 : decode cX7_endTrial 17 = .ok (.aload_n 0, 1) := by decide +kernel
theorem dX7_endTrial_18 : decode cX7_endTrial 18 = .ok (.getfield 21, 3) := by decide +kernel
theorem dX7_endTrial_21 : decode cX7_endTrial 21 = .ok (.invokevirtual 186, 3) := by decide +kernel
theorem dX7_endTrial_24 : decode cX7_endTrial 24 = .ok (.invokevirtual 190, 3) := by decide +kernel
theorem dX7_endTrial_27 : decode cX7_endTrial 27 = .ok (.pop, 1) := by decide +kernel
theorem dX7_endTrial_28 : decode cX7_endTrial 28 = .ok (.iconst 1, 1) := by decide +kernel
theorem dX7_endTrial_29 : decode cX7_endTrial 29 = .ok (.ireturn, 1) := by decide +kernel
set_option maxRecDepth 20000 in
theorem ggX7_follow_X7_proposed : GoodIn wsX7_follow wsX7_proposed := goodIn_r _ [6, 7, 1, 8, 9, 10, 11, 12, 13, 14, 15, 16, 17, 18, 19, 20, 21, 22, 23, 24, 25, 26, 27, 28, 29, 30, 31, 32, 33, 34, 35, 36, 37, 38, 39, 40, 41, 42, 43, 44, 45, 46, 47, 48, 70, 71, 72, 73, 74, 75, 76, 77, 78, 79, 80, 81, 82, 83, 84, 85, 86, 87, 88, 89, 90, 91, 92, 93, 94, 95, 96, 97, 98, 99, 100, 101, 102, 103, 104] (by decide +kernel) (by decide +kernel)
set_option maxRecDepth 20000 in
theorem gX7_follow_X7_proposed : GoodIn wsX7_follow (wsV RX7 193 RX7 yX7_proposed wsX7_proposed) := goodIn_app (goodIn_of _ (by decide +kernel)) ggX7_follow_X7_proposed
set_option maxRecDepth 20000 in
theorem ggX7_follow_X7_changeMode : GoodIn wsX7_follow wsX7_changeMode := goodIn_r _ [52, 1, 7, 53, 54, 55, 56, 57, 58, 59, 60, 61, 62, 63, 64, 65, 66, 67, 13, 68, 69, 70, 71, 72, 73, 74, 75, 76, 77, 78, 79, 80, 81, 82, 83, 84, 85, 86, 95, 96, 97, 98, 99, 100, 101, 102, 103, 104] (by decide +kernel) (by decide +kernel)
set_option maxRecDepth 20000 in
theorem gX7_follow_X7_changeMode : GoodIn wsX7_follow (wsV RX7 190 RX7 yX7_changeMode wsX7_changeMode) := goodIn_app (goodIn_of _ (by decide +kernel)) ggX7_follow_X7_changeMode
theorem dX7_follow_0 : decode cX7_follow 0 = .ok (.aload_n 0, 1) := by decide +kernel
theorem dX7_follow_1 : decode cX7_follow 1 = .ok (.iload_n 1, 1) := by decide +kernel
theorem dX7_follow_2 : decode cX7_follow 2 = .ok (.iconst 0, 1) := by decide +kernel
theorem dX7_follow_3 : decode cX7_follow 3 = .ok (.invokevirtual 193, 3) := by decide +kernel
theorem dX7_follow_6 : decode cX7_follow 6 = .ok (.istore_n 2, 1) := by decide +kernel
theorem dX7_follow_7 : decode cX7_follow 7 = .ok (.aload_n 0, 1) := by decide +kernel
theorem dX7_follow_8 : decode cX7_follow 8 = .ok (.iload_n 1, 1) := by decide +kernel
theorem dX7_follow_9 : decode cX7_follow 9 = .ok (.iconst 1, 1) := by decide +kernel
theorem dX7_follow_10 : decode cX7_follow 10 = .ok (.invokevirtual 193, 3) := by decide +kernel
theorem dX7_follow_13 : decode cX7_follow 13 = .ok (.istore_n 3, 1) := by decide +kernel
theorem dX7_follow_14 : decode cX7_follow 14 = .ok (.aload_n 0, 1) := by decide +kernel
theorem dX7_follow_15 : decode cX7_follow 15 = .ok (.iload_n 1, 1) := by decide +kernel
theorem dX7_follow_16 : decode cX7_follow 16 = .ok (.iconst 2, 1) := by decide +kernel
theorem dX7_follow_17 : decode cX7_follow 17 = .ok (.invokevirtual 193, 3) := by decide +kernel
theorem dX7_follow_20 : decode cX7_follow 20 = .ok (.istore 4, 2) := by decide +kernel
theorem dX7_follow_22 : decode cX7_follow 22 = .ok (.aload_n 0, 1) := by decide +kernel
theorem dX7_follow_23 : decode cX7_follow 23 = .ok (.getfield 21, 3) := by decide +kernel
theorem dX7_follow_26 : decode cX7_follow 26 = .ok (.iload_n 2, 1) := by decide +kernel
theorem dX7_follow_27 : decode cX7_follow 27 = .ok (.putfield 196, 3) := by decide +kernel
theorem dX7_follow_30 : decode cX7_follow 30 = .ok (.aload_n 0, 1) := by decide +kernel
theorem dX7_follow_31 : decode cX7_follow 31 = .ok (.getfield 21, 3) := by decide +kernel
theorem dX7_follow_34 : decode cX7_follow 34 = .ok (.iload_n 3, 1) := by decide +kernel
theorem dX7_follow_35 : decode cX7_follow 35 = .ok (.putfield 199, 3) := by decide +kernel
theorem dX7_follow_38 : decode cX7_follow 38 = .ok (.aload_n 0, 1) := by decide +kernel
theorem dX7_follow_39 : decode cX7_follow 39 = .ok (.getfield 21, 3) := by decide +kernel
theorem dX7_follow_42 : decode cX7_follow 42 = .ok (.iload 4, 2) := by decide +kernel
theorem dX7_follow_44 : decode cX7_follow 44 = .ok (.putfield 202, 3) := by decide +kernel
theorem dX7_follow_47 : decode cX7_follow 47 = .ok (.aload_n 0, 1) := by decide +kernel
theorem dX7_follow_48 : decode cX7_follow 48 = .ok (.iconst 2, 1) := by decide +kernel
theorem dX7_follow_49 : decode cX7_follow 49 = .ok (.invokevirtual 190, 3) := by decide +kernel
theorem dX7_follow_52 : decode cX7_follow 52 = .ok (.pop, 1) := by decide +kernel
theorem dX7_follow_53 : decode cX7_follow 53 = .ok (.return_, 1) := by decide +kernel
set_option maxRecDepth 20000 in
theorem ggX7_proposed_X8_average : GoodIn wsX7_proposed wsX8_average := goodIn_r _ [9, 10, 11, 12, 13, 14, 15, 16, 17, 18, 19, 20, 21, 8, 22, 23, 24, 25, 26, 27, 28, 29, 30, 69, 70, 71, 72, 73, 74, 75, 76, 77, 78] (by decide +kernel) (by decide +kernel)
set_option maxRecDepth 20000 in
theorem gX7_proposed_X8_average : GoodIn wsX7_proposed (wsV RX7 205 RX8 yX8_average wsX8_average) := goodIn_app (goodIn_of _ (by decide +kernel)) ggX7_proposed_X8_average
set_option maxRecDepth 20000 in
theorem ggX7_proposed_X4_proportional : GoodIn wsX7_proposed wsX4_proportional := goodIn_r _ [34, 35, 36, 33, 37] (by decide +kernel) (by decide +kernel)
set_option maxRecDepth 20000 in
theorem gX7_proposed_X4_proportional : GoodIn wsX7_proposed (va_wsS RX7 210 yX4_proportional wsX4_proportional) := goodIn_app (goodIn_of _ (by decide +kernel)) ggX7_proposed_X4_proportional
set_option maxRecDepth 20000 in
theorem ggX7_proposed_X4_integral : GoodIn wsX7_proposed wsX4_integral := goodIn_r _ [40, 35, 36, 33, 37] (by decide +kernel) (by decide +kernel)
set_option maxRecDepth 20000 in
theorem gX7_proposed_X4_integral : GoodIn wsX7_proposed (va_wsS RX7 215 yX4_integral wsX4_integral) := goodIn_app (goodIn_of _ (by decide +kernel)) ggX7_proposed_X4_integral
set_option maxRecDepth 20000 in
theorem ggX7_proposed_X4_derivative : GoodIn wsX7_proposed wsX4_derivative := goodIn_r _ [43, 35, 36, 33, 37] (by decide +kernel) (by decide +kernel)
set_option maxRecDepth 20000 in
theorem gX7_proposed_X4_derivative : GoodIn wsX7_proposed (va_wsS RX7 219 yX4_derivative wsX4_derivative) := goodIn_app (goodIn_of _ (by decide +kernel)) ggX7_proposed_X4_derivative
theorem dX7_proposed_0 : decode cX7_proposed 0 = .ok (.aload_n 0, 1) := by decide +kernel
theorem dX7_proposed_1 : decode cX7_proposed 1 = .ok (.getfield 28, 3) := by decide +kernel
theorem dX7_proposed_4 : decode cX7_proposed 4 = .ok (.iconst 1, 1) := by decide +kernel
theorem dX7_proposed_5 : decode cX7_proposed 5 = .ok (.aload_n 0, 1) := by decide +kernel
theorem dX7_proposed_6 : decode cX7_proposed 6 = .ok (.getfield 21, 3) := by decide +kernel
theorem dX7_proposed_9 : decode cX7_proposed 9 = .ok (.getfield 168, 3) := by decide +kernel
theorem dX7_proposed_12 : decode cX7_proposed 12 = .ok (.invokevirtual 205, 3) := by decide +kernel
theorem dX7_proposed_15 : decode cX7_proposed 15 = .ok (.istore_n 3, 1) := by decide +kernel
theorem dX7_proposed_16 : decode cX7_proposed 16 = .ok (.aload_n 0, 1) := by decide +kernel
theorem dX7_proposed_17 : decode cX7_proposed 17 = .ok (.getfield 28, 3) := by decide +kernel
theorem dX7_proposed_20 : decode cX7_proposed 20 = .ok (.iconst 0, 1) := by decide +kernel
theorem dX7_proposed_21 : decode cX7_proposed 21 = .ok (.aload_n 0, 1) := by decide +kernel
theorem dX7_proposed_22 : decode cX7_proposed 22 = .ok (.getfield 21, 3) := by decide +kernel
theorem dX7_proposed_25 : decode cX7_proposed 25 = .ok (.getfield 168, 3) := by decide +kernel
theorem dX7_proposed_28 : decode cX7_proposed 28 = .ok (.invokevirtual 205, 3) := by decide +kernel
theorem dX7_proposed_31 : decode cX7_proposed 31 = .ok (.istore 4, 2) := by decide +kernel
theorem dX7_proposed_33 : decode cX7_proposed 33 = .ok (.iload_n 3, 1) := by decide +kernel
theorem dX7_proposed_34 : decode cX7_proposed 34 = .ok (.iconst 1, 1) := by decide +kernel
theorem dX7_proposed_35 : decode cX7_proposed 35 = .ok (.if_icmp .lt 9, 3) := by decide +kernel
theorem dX7_proposed_38 : decode cX7_proposed 38 = .ok (.iload 4, 2) := by decide +kernel
theorem dX7_proposed_40 : decode cX7_proposed 40 = .ok (.iconst 1, 1) := by decide +kernel
theorem dX7_proposed_41 : decode cX7_proposed 41 = .ok (.if_icmp .ge 6, 3) := by decide +kernel
theorem dX7_proposed_44 : decode cX7_proposed 44 = .ok (.ldc 209, 2) := by decide +kernel
theorem dX7_proposed_46 : decode cX7_proposed 46 = .ok (.ireturn, 1) := by decide +kernel
theorem dX7_proposed_47 : decode cX7_proposed 47 = .ok (.iload_n 1, 1) := by decide +kernel
theorem dX7_proposed_48 : decode cX7_proposed 48 = .ok (.bipush 127, 2) := by decide +kernel
theorem dX7_proposed_50 : decode cX7_proposed 50 = .ok (.aload_n 0, 1) := by decide +kernel
theorem dX7_proposed_51 : decode cX7_proposed 51 = .ok (.getfield 12, 3) := by decide +kernel
theorem dX7_proposed_54 : decode cX7_proposed 54 = .ok (.getfield 78, 3) := by decide +kernel
theorem dX7_proposed_57 : decode cX7_proposed 57 = .ok (.imul, 1) := by decide +kernel
theorem dX7_proposed_58 : decode cX7_proposed 58 = .ok (.iload_n 3, 1) := by decide +kernel
theorem dX7_proposed_59 : decode cX7_proposed 59 = .ok (.idiv, 1) := by decide +kernel
theorem dX7_proposed_60 : decode cX7_proposed 60 = .ok (.invokestatic 210, 3) := by decide +kernel
theorem dX7_proposed_63 : decode cX7_proposed 63 = .ok (.istore 5, 2) := by decide +kernel
theorem dX7_proposed_65 : decode cX7_proposed 65 = .ok (.iload_n 2, 1) := by decide +kernel
theorem dX7_proposed_66 : decode cX7_proposed 66 = .ok (.lookupswitch 38 #[(0, 26), (1, 29)], 26) := by decide +kernel
theorem dX7_proposed_92 : decode cX7_proposed 92 = .ok (.iload 5, 2) := by decide +kernel
theorem dX7_proposed_94 : decode cX7_proposed 94 = .ok (.ireturn, 1) := by decide +kernel
theorem dX7_proposed_95 : decode cX7_proposed 95 = .ok (.iload_n 1, 1) := by decide +kernel
theorem dX7_proposed_96 : decode cX7_proposed 96 = .ok (.iload 5, 2) := by decide +kernel
theorem dX7_proposed_98 : decode cX7_proposed 98 = .ok (.iload 4, 2) := by decide +kernel
theorem dX7_proposed_100 : decode cX7_proposed 100 = .ok (.invokestatic 215, 3) := by decide +kernel
theorem dX7_proposed_103 : decode cX7_proposed 103 = .ok (.ireturn, 1) := by decide +kernel
theorem dX7_proposed_104 : decode cX7_proposed 104 = .ok (.iload_n 1, 1) := by decide +kernel
theorem dX7_proposed_105 : decode cX7_proposed 105 = .ok (.iload 5, 2) := by decide +kernel
theorem dX7_proposed_107 : decode cX7_proposed 107 = .ok (.iload 4, 2) := by decide +kernel
theorem dX7_proposed_109 : decode cX7_proposed 109 = .ok (.invokestatic 219, 3) := by decide +kernel
theorem dX7_proposed_112 : decode cX7_proposed 112 = .ok (.ireturn, 1) := by decide +kernel
theorem dX8_init_0 : decode cX8_init 0 = .ok (.aload_n 0, 1) := by decide +kernel
theorem dX8_init_1 : decode cX8_init 1 = .ok (.invokespecial 3, 3) := by decide +kernel
theorem dX8_init_4 : decode cX8_init 4 = .ok (.aload_n 0, 1) := by decide +kernel
theorem dX8_init_5 : decode cX8_init 5 = .ok (.bipush 20, 2) := by decide +kernel
theorem dX8_init_7 : decode cX8_init 7 = .ok (.newarray .int, 2) := by decide +kernel
theorem dX8_init_9 : decode cX8_init 9 = .ok (.putfield 11, 3) := by decide +kernel
theorem dX8_init_12 : decode cX8_init 12 = .ok (.aload_n 0, 1) := by decide +kernel
theorem dX8_init_13 : decode cX8_init 13 = .ok (.bipush 20, 2) := by decide +kernel
theorem dX8_init_15 : decode cX8_init 15 = .ok (.newarray .int, 2) := by decide +kernel
theorem dX8_init_17 : decode cX8_init 17 = .ok (.putfield 15, 3) := by decide +kernel
theorem dX8_init_20 : decode cX8_init 20 = .ok (.aload_n 0, 1) := by decide +kernel
theorem dX8_init_21 : decode cX8_init 21 = .ok (.bipush 20, 2) := by decide +kernel
theorem dX8_init_23 : decode cX8_init 23 = .ok (.newarray .int, 2) := by decide +kernel
theorem dX8_init_25 : decode cX8_init 25 = .ok (.putfield 18, 3) := by decide +kernel
theorem dX8_init_28 : decode cX8_init 28 = .ok (.aload_n 0, 1) := by decide +kernel
theorem dX8_init_29 : decode cX8_init 29 = .ok (.bipush 20, 2) := by decide +kernel
theorem dX8_init_31 : decode cX8_init 31 = .ok (.newarray .int, 2) := by decide +kernel
theorem dX8_init_33 : decode cX8_init 33 = .ok (.putfield 21, 3) := by decide +kernel
theorem dX8_init_36 : decode cX8_init 36 = .ok (.aload_n 0, 1) := by decide +kernel
theorem dX8_init_37 : decode cX8_init 37 = .ok (.bipush 20, 2) := by decide +kernel
theorem dX8_init_39 : decode cX8_init 39 = .ok (.newarray .int, 2) := by decide +kernel
theorem dX8_init_41 : decode cX8_init 41 = .ok (.putfield 24, 3) := by decide +kernel
theorem dX8_init_44 : decode cX8_init 44 = .ok (.return_, 1) := by decide +kernel
theorem dX8_become_0 : decode cX8_become 0 = .ok (.aload_n 0, 1) := by decide +kernel
theorem dX8_become_1 : decode cX8_become 1 = .ok (.aload_n 1, 1) := by decide +kernel
theorem dX8_become_2 : decode cX8_become 2 = .ok (.getfield 27, 3) := by decide +kernel
theorem dX8_become_5 : decode cX8_become 5 = .ok (.putfield 27, 3) := by decide +kernel
theorem dX8_become_8 : decode cX8_become 8 = .ok (.aload_n 1, 1) := by decide +kernel
theorem dX8_become_9 : decode cX8_become 9 = .ok (.getfield 11, 3) := by decide +kernel
theorem dX8_become_12 : decode cX8_become 12 = .ok (.iconst 0, 1) := by decide +kernel
theorem dX8_become_13 : decode cX8_become 13 = .ok (.aload_n 0, 1) := by decide +kernel
theorem dX8_become_14 : decode cX8_become 14 = .ok (.getfield 11, 3) := by decide +kernel
theorem dX8_become_17 : decode cX8_become 17 = .ok (.iconst 0, 1) := by decide +kernel
theorem dX8_become_18 : decode cX8_become 18 = .ok (.bipush 20, 2) := by decide +kernel
theorem dX8_become_20 : decode cX8_become 20 = .ok (.invokestatic 31, 3) := by decide +kernel
theorem dX8_become_23 : decode cX8_become 23 = .ok (.aload_n 1, 1) := by decide +kernel
theorem dX8_become_24 : decode cX8_become 24 = .ok (.getfield 15, 3) := by decide +kernel
theorem dX8_become_27 : decode cX8_become 27 = .ok (.iconst 0, 1) := by decide +kernel
theorem dX8_become_28 : decode cX8_become 28 = .ok (.aload_n 0, 1) := by decide +kernel
theorem dX8_become_29 : decode cX8_become 29 = .ok (.getfield 15, 3) := by decide +kernel
theorem dX8_become_32 : decode cX8_become 32 = .ok (.iconst 0, 1) := by decide +kernel
theorem dX8_become_33 : decode cX8_become 33 = .ok (.bipush 20, 2) := by decide +kernel
theorem dX8_become_35 : decode cX8_become 35 = .ok (.invokestatic 31, 3) := by decide +kernel
theorem dX8_become_38 : decode cX8_become 38 = .ok (.aload_n 1, 1) := by decide +kernel
theorem dX8_become_39 : decode cX8_become 39 = .ok (.getfield 18, 3) := by decide +kernel
theorem dX8_become_42 : decode cX8_become 42 = .ok (.iconst 0, 1) := by decide +kernel
theorem dX8_become_43 : decode cX8_become 43 = .ok (.aload_n 0, 1) := by decide +kernel
theorem dX8_become_44 : decode cX8_become 44 = .ok (.getfield 18, 3) := by decide +kernel
theorem dX8_become_47 : decode cX8_become 47 = .ok (.iconst 0, 1) := by decide +kernel
theorem dX8_become_48 : decode cX8_become 48 = .ok (.bipush 20, 2) := by decide +kernel
theorem dX8_become_50 : decode cX8_become 50 = .ok (.invokestatic 31, 3) := by decide +kernel
theorem dX8_become_53 : decode cX8_become 53 = .ok (.aload_n 1, 1) := by decide +kernel
theorem dX8_become_54 : decode cX8_become 54 = .ok (.getfield 21, 3) := by decide +kernel
theorem dX8_become_57 : decode cX8_become 57 = .ok (.iconst 0, 1) := by decide +kernel
theorem dX8_become_58 : decode cX8_become 58 = .ok (.aload_n 0, 1) := by decide +kernel
theorem dX8_become_59 : decode cX8_become 59 = .ok (.getfield 21, 3) := by decide +kernel
theorem dX8_become_62 : decode cX8_become 62 = .ok (.iconst 0, 1) := by decide +kernel
theorem dX8_become_63 : decode cX8_become 63 = .ok (.bipush 20, 2) := by decide +kernel
theorem dX8_become_65 : decode cX8_become 65 = .ok (.invokestatic 31, 3) := by decide +kernel
theorem dX8_become_68 : decode cX8_become 68 = .ok (.aload_n 0, 1) := by decide +kernel
theorem dX8_become_69 : decode cX8_become 69 = .ok (.aload_n 1, 1) := by decide +kernel
theorem dX8_become_70 : decode cX8_become 70 = .ok (.getfield 37, 3) := by decide +kernel
theorem dX8_become_73 : decode cX8_become 73 = .ok (.putfield 37, 3) := by decide +kernel
theorem dX8_become_76 : decode cX8_become 76 = .ok (.aload_n 0, 1) := by decide +kernel
theorem dX8_become_77 : decode cX8_become 77 = .ok (.aload_n 1, 1) := by decide +kernel
theorem dX8_become_78 : decode cX8_become 78 = .ok (.getfield 41, 3) := by decide +kernel
theorem dX8_become_81 : decode cX8_become 81 = .ok (.putfield 41, 3) := by decide +kernel
theorem dX8_become_84 : decode cX8_become 84 = .ok (.aload_n 0, 1) := by decide +kernel
theorem dX8_become_85 : decode cX8_become 85 = .ok (.aload_n 1, 1) := by decide +kernel
theorem dX8_become_86 : decode cX8_become 86 = .ok (.getfield 44, 3) := by decide +kernel
theorem dX8_become_89 : decode cX8_become 89 = .ok (.putfield 44, 3) := by decide +kernel
theorem dX8_become_92 : decode cX8_become 92 = .ok (.aload_n 0, 1) := by decide +kernel
theorem dX8_become_93 : decode cX8_become 93 = .ok (.aload_n 1, 1) := by decide +kernel
theorem dX8_become_94 : decode cX8_become 94 = .ok (.getfield 47, 3) := by decide +kernel
theorem dX8_become_97 : decode cX8_become 97 = .ok (.putfield 47, 3) := by decide +kernel
theorem dX8_become_100 : decode cX8_become 100 = .ok (.return_, 1) := by decide +kernel
theorem dX8_has_0 : decode cX8_has 0 = .ok (.iload_n 1, 1) := by decide +kernel
theorem dX8_has_1 : decode cX8_has 1 = .ok (.ifCond .lt 21, 3) := by decide +kernel
theorem dX8_has_4 : decode cX8_has 4 = .ok (.iload_n 1, 1) := by decide +kernel
theorem dX8_has_5 : decode cX8_has 5 = .ok (.aload_n 0, 1) := by decide +kernel
theorem dX8_has_6 : decode cX8_has 6 = .ok (.getfield 27, 3) := by decide +kernel
theorem dX8_has_9 : decode cX8_has 9 = .ok (.if_icmp .ge 13, 3) := by decide +kernel
theorem dX8_has_12 : decode cX8_has 12 = .ok (.iload_n 1, 1) := by decide +kernel
theorem dX8_has_13 : decode cX8_has 13 = .ok (.bipush 20, 2) := by decide +kernel
theorem dX8_has_15 : decode cX8_has 15 = .ok (.if_icmp .ge 7, 3) := by decide +kernel
theorem dX8_has_18 : decode cX8_has 18 = .ok (.iconst 1, 1) := by decide +kernel
theorem dX8_has_19 : decode cX8_has 19 = .ok (.goto 4, 3) := by decide +kernel
theorem dX8_has_22 : decode cX8_has 22 = .ok (.iconst 0, 1) := by decide +kernel
theorem dX8_has_23 : decode cX8_has 23 = .ok (.ireturn, 1) := by decide +kernel
set_option maxRecDepth 20000 in
theorem ggX8_number_X8_has : GoodIn wsX8_number wsX8_has := goodIn_r _ [10, 11, 12, 13, 14, 15, 16, 17, 18, 19, 20, 21] (by decide +kernel) (by decide +kernel)
set_option maxRecDepth 20000 in
theorem gX8_number_X8_has : GoodIn wsX8_number (wsV RX8 50 RX8 yX8_has wsX8_has) := goodIn_app (goodIn_of _ (by decide +kernel)) ggX8_number_X8_has
theorem dX8_number_0 : decode cX8_number 0 = .ok (.aload_n 0, 1) := by decide +kernel
theorem dX8_number_1 : decode cX8_number 1 = .ok (.iload_n 1, 1) := by decide +kernel
theorem dX8_number_2 : decode cX8_number 2 = .ok (.invokevirtual 50, 3) := by decide +kernel
theorem dX8_number_5 : decode cX8_number 5 = .ok (.ifCond .ne 6, 3) := by decide +kernel
theorem dX8_number_8 : decode cX8_number 8 = .ok (.ldc 54, 2) := by decide +kernel
theorem dX8_number_10 : decode cX8_number 10 = .ok (.ireturn, 1) := by decide +kernel
theorem dX8_number_11 : decode cX8_number 11 = .ok (.iload_n 2, 1) := by decide +kernel
theorem dX8_number_12 : decode cX8_number 12 = .ok (.tableswitch 49 0 2 #[28, 35, 42], 28) := by decide +kernel
theorem dX8_number_40 : decode cX8_number 40 = .ok (.aload_n 0, 1) := by decide +kernel
theorem dX8_number_41 : decode cX8_number 41 = .ok (.getfield 11, 3) := by decide +kernel
theorem dX8_number_44 : decode cX8_number 44 = .ok (.iload_n 1, 1) := by decide +kernel
theorem dX8_number_45 : decode cX8_number 45 = .ok (.iaload, 1) := by decide +kernel
theorem dX8_number_46 : decode cX8_number 46 = .ok (.ireturn, 1) := by decide +kernel
theorem dX8_number_47 : decode cX8_number 47 = .ok (.aload_n 0, 1) := by decide +kernel
theorem dX8_number_48 : decode cX8_number 48 = .ok (.getfield 15, 3) := by decide +kernel
theorem dX8_number_51 : decode cX8_number 51 = .ok (.iload_n 1, 1) := by decide +kernel
theorem dX8_number_52 : decode cX8_number 52 = .ok (.iaload, 1) := by decide +kernel
theorem dX8_number_53 : decode cX8_number 53 = .ok (.ireturn, 1) := by decide +kernel
theorem dX8_number_54 : decode cX8_number 54 = .ok (.aload_n 0, 1) := by decide +kernel
theorem dX8_number_55 : decode cX8_number 55 = .ok (.getfield 18, 3) := by decide +kernel
theorem dX8_number_58 : decode cX8_number 58 = .ok (.iload_n 1, 1) := by decide +kernel
theorem dX8_number_59 : decode cX8_number 59 = .ok (.iaload, 1) := by decide +kernel
theorem dX8_number_60 : decode cX8_number 60 = .ok (.ireturn, 1) := by decide +kernel
theorem dX8_number_61 : decode cX8_number 61 = .ok (.aload_n 0, 1) := by decide +kernel
theorem dX8_number_62 : decode cX8_number 62 = .ok (.getfield 21, 3) := by decide +kernel
theorem dX8_number_65 : decode cX8_number 65 = .ok (.iload_n 1, 1) := by decide +kernel
theorem dX8_number_66 : decode cX8_number 66 = .ok (.iaload, 1) := by decide +kernel
theorem dX8_number_67 : decode cX8_number 67 = .ok (.ireturn, 1) := by decide +kernel
theorem dX8_breakOff_0 : decode cX8_breakOff 0 = .ok (.aload_n 0, 1) := by decide +kernel
theorem dX8_breakOff_1 : decode cX8_breakOff 1 = .ok (.iconst 0, 1) := by decide +kernel
theorem dX8_breakOff_2 : decode cX8_breakOff 2 = .ok (.putfield 37, 3) := by decide +kernel
theorem dX8_breakOff_5 : decode cX8_breakOff 5 = .ok (.return_, 1) := by decide +kernel
set_option maxRecDepth 20000 in
theorem ggX8_watch_X8_add : GoodIn wsX8_watch wsX8_add := goodIn_r _ [16, 17, 18, 11, 19, 1, 20, 6, 21, 22, 23, 24, 15, 25, 26, 27, 28, 29, 30, 31, 32, 33, 34, 35] (by decide +kernel) (by decide +kernel)
set_option maxRecDepth 20000 in
theorem gX8_watch_X8_add : GoodIn wsX8_watch (wsV RX8 64 RX8 yX8_add wsX8_add) := goodIn_app (goodIn_of _ (by decide +kernel)) ggX8_watch_X8_add
theorem dX8_watch_0 : decode cX8_watch 0 = .ok (.aload_n 0, 1) := by decide +kernel
theorem dX8_watch_1 : decode cX8_watch 1 = .ok (.aload_n 0, 1) := by decide +kernel
theorem dX8_watch_2 : decode cX8_watch 2 = .ok (.getfield 44, 3) := by decide +kernel
theorem dX8_watch_5 : decode cX8_watch 5 = .ok (.iload_n 2, 1) := by decide +kernel
theorem dX8_watch_6 : decode cX8_watch 6 = .ok (.invokestatic 55, 3) := by decide +kernel
theorem dX8_watch_9 : decode cX8_watch 9 = .ok (.putfield 44, 3) := by decide +kernel
theorem dX8_watch_12 : decode cX8_watch 12 = .ok (.aload_n 0, 1) := by decide +kernel
theorem dX8_watch_13 : decode cX8_watch 13 = .ok (.aload_n 0, 1) := by decide +kernel
theorem dX8_watch_14 : decode cX8_watch 14 = .ok (.getfield 47, 3) := by decide +kernel
theorem dX8_watch_17 : decode cX8_watch 17 = .ok (.iload_n 2, 1) := by decide +kernel
theorem dX8_watch_18 : decode cX8_watch 18 = .ok (.invokestatic 61, 3) := by decide +kernel
theorem dX8_watch_21 : decode cX8_watch 21 = .ok (.putfield 47, 3) := by decide +kernel
theorem dX8_watch_24 : decode cX8_watch 24 = .ok (.iload_n 1, 1) := by decide +kernel
theorem dX8_watch_25 : decode cX8_watch 25 = .ok (.iload_n 3, 1) := by decide +kernel
theorem dX8_watch_26 : decode cX8_watch 26 = .ok (.if_icmp .ge 8, 3) := by decide +kernel
theorem dX8_watch_29 : decode cX8_watch 29 = .ok (.iload_n 2, 1) := by decide +kernel
theorem dX8_watch_30 : decode cX8_watch 30 = .ok (.iload_n 3, 1) := by decide +kernel
theorem dX8_watch_31 : decode cX8_watch 31 = .ok (.if_icmp .ge 5, 3) := by decide +kernel
theorem dX8_watch_34 : decode cX8_watch 34 = .ok (.iconst 0, 1) := by decide +kernel
theorem dX8_watch_35 : decode cX8_watch 35 = .ok (.ireturn, 1) := by decide +kernel
theorem dX8_watch_36 : decode cX8_watch 36 = .ok (.aload_n 0, 1) := by decide +kernel
theorem dX8_watch_37 : decode cX8_watch 37 = .ok (.getfield 37, 3) := by decide +kernel
theorem dX8_watch_40 : decode cX8_watch 40 = .ok (.ifCond .eq 9, 3) := by decide +kernel
theorem dX8_watch_43 : decode cX8_watch 43 = .ok (.aload_n 0, 1) := by decide +kernel
theorem dX8_watch_44 : decode cX8_watch 44 = .ok (.iload 4, 2) := by decide +kernel
theorem dX8_watch_46 : decode cX8_watch 46 = .ok (.invokevirtual 64, 3) := by decide +kernel
theorem dX8_watch_49 : decode cX8_watch 49 = .ok (.aload_n 0, 1) := by decide +kernel
theorem dX8_watch_50 : decode cX8_watch 50 = .ok (.iconst 1, 1) := by decide +kernel
theorem dX8_watch_51 : decode cX8_watch 51 = .ok (.putfield 37, 3) := by decide +kernel
theorem dX8_watch_54 : decode cX8_watch 54 = .ok (.aload_n 0, 1) := by decide +kernel
theorem dX8_watch_55 : decode cX8_watch 55 = .ok (.iload 4, 2) := by decide +kernel
theorem dX8_watch_57 : decode cX8_watch 57 = .ok (.putfield 41, 3) := by decide +kernel
theorem dX8_watch_60 : decode cX8_watch 60 = .ok (.aload_n 0, 1) := by decide +kernel
theorem dX8_watch_61 : decode cX8_watch 61 = .ok (.sipush (-9999), 3) := by decide +kernel
theorem dX8_watch_64 : decode cX8_watch 64 = .ok (.putfield 44, 3) := by decide +kernel
theorem dX8_watch_67 : decode cX8_watch 67 = .ok (.aload_n 0, 1) := by decide +kernel
theorem dX8_watch_68 : decode cX8_watch 68 = .ok (.sipush 9999, 3) := by decide +kernel
theorem dX8_watch_71 : decode cX8_watch 71 = .ok (.putfield 47, 3) := by decide +kernel
theorem dX8_watch_74 : decode cX8_watch 74 = .ok (.iconst 1, 1) := by decide +kernel
theorem dX8_watch_75 : decode cX8_watch 75 = .ok (.ireturn, 1) := by decide +kernel
set_option maxRecDepth 20000 in
theorem ggX8_add_X8_drop : GoodIn wsX8_add wsX8_drop := goodIn_r _ [13, 1, 2, 4, 6, 8, 14, 15, 16, 17, 18, 19, 20, 21, 22, 23] (by decide +kernel) (by decide +kernel)
set_option maxRecDepth 20000 in
theorem gX8_add_X8_drop : GoodIn wsX8_add (wsV RX8 68 RX8 yX8_drop wsX8_drop) := goodIn_app (goodIn_of _ (by decide +kernel)) ggX8_add_X8_drop
theorem dX8_add_0 : decode cX8_add 0 = .ok (.aload_n 0, 1) := by decide +kernel
theorem dX8_add_1 : decode cX8_add 1 = .ok (.getfield 27, 3) := by decide +kernel
theorem dX8_add_4 : decode cX8_add 4 = .ok (.bipush 20, 2) := by decide +kernel
theorem dX8_add_6 : decode cX8_add 6 = .ok (.if_icmp .lt 8, 3) := by decide +kernel
theorem dX8_add_9 : decode cX8_add 9 = .ok (.aload_n 0, 1) := by decide +kernel
theorem dX8_add_10 : decode cX8_add 10 = .ok (.iconst 0, 1) := by decide +kernel
theorem dX8_add_11 : decode cX8_add 11 = .ok (.invokevirtual 68, 3) := by decide +kernel
theorem dX8_add_14 : decode cX8_add 14 = .ok (.aload_n 0, 1) := by decide +kernel
theorem dX8_add_15 : decode cX8_add 15 = .ok (.getfield 27, 3) := by decide +kernel
theorem dX8_add_18 : decode cX8_add 18 = .ok (.ifCond .lt 73, 3) := by decide +kernel
theorem dX8_add_21 : decode cX8_add 21 = .ok (.aload_n 0, 1) := by decide +kernel
theorem dX8_add_22 : decode cX8_add 22 = .ok (.getfield 27, 3) := by decide +kernel
theorem dX8_add_25 : decode cX8_add 25 = .ok (.bipush 20, 2) := by decide +kernel
theorem dX8_add_27 : decode cX8_add 27 = .ok (.if_icmp .ge 64, 3) := by decide +kernel
theorem dX8_add_30 : decode cX8_add 30 = .ok (.aload_n 0, 1) := by decide +kernel
theorem dX8_add_31 : decode cX8_add 31 = .ok (.getfield 11, 3) := by decide +kernel
theorem dX8_add_34 : decode cX8_add 34 = .ok (.aload_n 0, 1) := by decide +kernel
theorem dX8_add_35 : decode cX8_add 35 = .ok (.getfield 27, 3) := by decide +kernel
theorem dX8_add_38 : decode cX8_add 38 = .ok (.iload_n 1, 1) := by decide +kernel
theorem dX8_add_39 : decode cX8_add 39 = .ok (.aload_n 0, 1) := by decide +kernel
theorem dX8_add_40 : decode cX8_add 40 = .ok (.getfield 41, 3) := by decide +kernel
theorem dX8_add_43 : decode cX8_add 43 = .ok (.isub, 1) := by decide +kernel
theorem dX8_add_44 : decode cX8_add 44 = .ok (.iastore, 1) := by decide +kernel
theorem dX8_add_45 : decode cX8_add 45 = .ok (.aload_n 0, 1) := by decide +kernel
theorem dX8_add_46 : decode cX8_add 46 = .ok (.getfield 15, 3) := by decide +kernel
theorem dX8_add_49 : decode cX8_add 49 = .ok (.aload_n 0, 1) := by decide +kernel
theorem dX8_add_50 : decode cX8_add 50 = .ok (.getfield 27, 3) := by decide +kernel
theorem dX8_add_53 : decode cX8_add 53 = .ok (.aload_n 0, 1) := by decide +kernel
theorem dX8_add_54 : decode cX8_add 54 = .ok (.getfield 44, 3) := by decide +kernel
theorem dX8_add_57 : decode cX8_add 57 = .ok (.iastore, 1) := by decide +kernel
theorem dX8_add_58 : decode cX8_add 58 = .ok (.aload_n 0, 1) := by decide +kernel
theorem dX8_add_59 : decode cX8_add 59 = .ok (.getfield 18, 3) := by decide +kernel
theorem dX8_add_62 : decode cX8_add 62 = .ok (.aload_n 0, 1) := by decide +kernel
theorem dX8_add_63 : decode cX8_add 63 = .ok (.getfield 27, 3) := by decide +kernel
theorem dX8_add_66 : decode cX8_add 66 = .ok (.aload_n 0, 1) := by decide +kernel
theorem dX8_add_67 : decode cX8_add 67 = .ok (.getfield 47, 3) := by decide +kernel
theorem dX8_add_70 : decode cX8_add 70 = .ok (.iastore, 1) := by decide +kernel
theorem dX8_add_71 : decode cX8_add 71 = .ok (.aload_n 0, 1) := by decide +kernel
theorem dX8_add_72 : decode cX8_add 72 = .ok (.getfield 21, 3) := by decide +kernel
theorem dX8_add_75 : decode cX8_add 75 = .ok (.aload_n 0, 1) := by decide +kernel
theorem dX8_add_76 : decode cX8_add 76 = .ok (.getfield 27, 3) := by decide +kernel
theorem dX8_add_79 : decode cX8_add 79 = .ok (.iload_n 1, 1) := by decide +kernel
theorem dX8_add_80 : decode cX8_add 80 = .ok (.iastore, 1) := by decide +kernel
theorem dX8_add_81 : decode cX8_add 81 = .ok (.aload_n 0, 1) := by decide +kernel
theorem dX8_add_82 : decode cX8_add 82 = .ok (.dup, 1) := by decide +kernel
theorem dX8_add_83 : decode cX8_add 83 = .ok (.getfield 27, 3) := by decide +kernel
theorem dX8_add_86 : decode cX8_add 86 = .ok (.iconst 1, 1) := by decide +kernel
theorem dX8_add_87 : decode cX8_add 87 = .ok (.iadd, 1) := by decide +kernel
theorem dX8_add_88 : decode cX8_add 88 = .ok (.putfield 27, 3) := by decide +kernel
theorem dX8_add_91 : decode cX8_add 91 = .ok (.return_, 1) := by decide +kernel
theorem dX8_drop_0 : decode cX8_drop 0 = .ok (.iload_n 1, 1) := by decide +kernel
theorem dX8_drop_1 : decode cX8_drop 1 = .ok (.ifCond .lt 11, 3) := by decide +kernel
theorem dX8_drop_4 : decode cX8_drop 4 = .ok (.iload_n 1, 1) := by decide +kernel
theorem dX8_drop_5 : decode cX8_drop 5 = .ok (.aload_n 0, 1) := by decide +kernel
theorem dX8_drop_6 : decode cX8_drop 6 = .ok (.getfield 27, 3) := by decide +kernel
theorem dX8_drop_9 : decode cX8_drop 9 = .ok (.if_icmp .lt 4, 3) := by decide +kernel
theorem dX8_drop_12 : decode cX8_drop 12 = .ok (.return_, 1) := by decide +kernel
theorem dX8_drop_13 : decode cX8_drop 13 = .ok (.iload_n 1, 1) := by decide +kernel
theorem dX8_drop_14 : decode cX8_drop 14 = .ok (.iconst 1, 1) := by decide +kernel
theorem dX8_drop_15 : decode cX8_drop 15 = .ok (.iadd, 1) := by decide +kernel
theorem dX8_drop_16 : decode cX8_drop 16 = .ok (.istore_n 2, 1) := by decide +kernel
theorem dX8_drop_17 : decode cX8_drop 17 = .ok (.iload_n 2, 1) := by decide +kernel
theorem dX8_drop_18 : decode cX8_drop 18 = .ok (.aload_n 0, 1) := by decide +kernel
theorem dX8_drop_19 : decode cX8_drop 19 = .ok (.getfield 27, 3) := by decide +kernel
theorem dX8_drop_22 : decode cX8_drop 22 = .ok (.if_icmp .ge 71, 3) := by decide +kernel
theorem dX8_drop_25 : decode cX8_drop 25 = .ok (.iload_n 2, 1) := by decide +kernel
theorem dX8_drop_26 : decode cX8_drop 26 = .ok (.bipush 20, 2) := by decide +kernel
theorem dX8_drop_28 : decode cX8_drop 28 = .ok (.if_icmp .ge 65, 3) := by decide +kernel
theorem dX8_drop_31 : decode cX8_drop 31 = .ok (.aload_n 0, 1) := by decide +kernel
theorem dX8_drop_32 : decode cX8_drop 32 = .ok (.getfield 11, 3) := by decide +kernel
theorem dX8_drop_35 : decode cX8_drop 35 = .ok (.iload_n 2, 1) := by decide +kernel
theorem dX8_drop_36 : decode cX8_drop 36 = .ok (.iconst 1, 1) := by decide +kernel
theorem dX8_drop_37 : decode cX8_drop 37 = .ok (.isub, 1) := by decide +kernel
theorem dX8_drop_38 : decode cX8_drop 38 = .ok (.aload_n 0, 1) := by decide +kernel
theorem dX8_drop_39 : decode cX8_drop 39 = .ok (.getfield 11, 3) := by decide +kernel
theorem dX8_drop_42 : decode cX8_drop 42 = .ok (.iload_n 2, 1) := by decide +kernel
theorem dX8_drop_43 : decode cX8_drop 43 = .ok (.iaload, 1) := by decide +kernel
theorem dX8_drop_44 : decode cX8_drop 44 = .ok (.iastore, 1) := by decide +kernel
theorem dX8_drop_45 : decode cX8_drop 45 = .ok (.aload_n 0, 1) := by decide +kernel
theorem dX8_drop_46 : decode cX8_drop 46 = .ok (.getfield 15, 3) := by decide +kernel
theorem dX8_drop_49 : decode cX8_drop 49 = .ok (.iload_n 2, 1) := by decide +kernel
theorem dX8_drop_50 : decode cX8_drop 50 = .ok (.iconst 1, 1) := by decide +kernel
theorem dX8_drop_51 : decode cX8_drop 51 = .ok (.isub, 1) := by decide +kernel
theorem dX8_drop_52 : decode cX8_drop 52 = .ok (.aload_n 0, 1) := by decide +kernel
theorem dX8_drop_53 : decode cX8_drop 53 = .ok (.getfield 15, 3) := by decide +kernel
theorem dX8_drop_56 : decode cX8_drop 56 = .ok (.iload_n 2, 1) := by decide +kernel
theorem dX8_drop_57 : decode cX8_drop 57 = .ok (.iaload, 1) := by decide +kernel
theorem dX8_drop_58 : decode cX8_drop 58 = .ok (.iastore, 1) := by decide +kernel
theorem dX8_drop_59 : decode cX8_drop 59 = .ok (.aload_n 0, 1) := by decide +kernel
theorem dX8_drop_60 : decode cX8_drop 60 = .ok (.getfield 18, 3) := by decide +kernel
theorem dX8_drop_63 : decode cX8_drop 63 = .ok (.iload_n 2, 1) := by decide +kernel
theorem dX8_drop_64 : decode cX8_drop 64 = .ok (.iconst 1, 1) := by decide +kernel
theorem dX8_drop_65 : decode cX8_drop 65 = .ok (.isub, 1) := by decide +kernel
theorem dX8_drop_66 : decode cX8_drop 66 = .ok (.aload_n 0, 1) := by decide +kernel
theorem dX8_drop_67 : decode cX8_drop 67 = .ok (.getfield 18, 3) := by decide +kernel
theorem dX8_drop_70 : decode cX8_drop 70 = .ok (.iload_n 2, 1) := by decide +kernel
theorem dX8_drop_71 : decode cX8_drop 71 = .ok (.iaload, 1) := by decide +kernel
theorem dX8_drop_72 : decode cX8_drop 72 = .ok (.iastore, 1) := by decide +kernel
theorem dX8_drop_73 : decode cX8_drop 73 = .ok (.aload_n 0, 1) := by decide +kernel
theorem dX8_drop_74 : decode cX8_drop 74 = .ok (.getfield 21, 3) := by decide +kernel
theorem dX8_drop_77 : decode cX8_drop 77 = .ok (.iload_n 2, 1) := by decide +kernel
theorem dX8_drop_78 : decode cX8_drop 78 = .ok (.iconst 1, 1) := by decide +kernel
theorem dX8_drop_79 : decode cX8_drop 79 = .ok (.isub, 1) := by decide +kernel
theorem dX8_drop_80 : decode cX8_drop 80 = .ok (.aload_n 0, 1) := by decide +kernel
theorem dX8_drop_81 : decode cX8_drop 81 = .ok (.getfield 21, 3) := by decide +kernel
theorem dX8_drop_84 : decode cX8_drop 84 = .ok (.iload_n 2, 1) := by decide +kernel
theorem dX8_drop_85 : decode cX8_drop 85 = .ok (.iaload, 1) := by decide +kernel
theorem dX8_drop_86 : decode cX8_drop 86 = .ok (.iastore, 1) := by decide +kernel
theorem dX8_drop_87 : decode cX8_drop 87 = .ok (.iinc 2 1, 3) := by decide +kernel
theorem dX8_drop_90 : decode cX8_drop 90 = .ok (.goto (-73), 3) := by decide +kernel
theorem dX8_drop_93 : decode cX8_drop 93 = .ok (.aload_n 0, 1) := by decide +kernel
theorem dX8_drop_94 : decode cX8_drop 94 = .ok (.dup, 1) := by decide +kernel
theorem dX8_drop_95 : decode cX8_drop 95 = .ok (.getfield 27, 3) := by decide +kernel
theorem dX8_drop_98 : decode cX8_drop 98 = .ok (.iconst 1, 1) := by decide +kernel
theorem dX8_drop_99 : decode cX8_drop 99 = .ok (.isub, 1) := by decide +kernel
theorem dX8_drop_100 : decode cX8_drop 100 = .ok (.putfield 27, 3) := by decide +kernel
theorem dX8_drop_103 : decode cX8_drop 103 = .ok (.return_, 1) := by decide +kernel
theorem dX8_middleOf_0 : decode cX8_middleOf 0 = .ok (.iconst 0, 1) := by decide +kernel
theorem dX8_middleOf_1 : decode cX8_middleOf 1 = .ok (.istore_n 2, 1) := by decide +kernel
theorem dX8_middleOf_2 : decode cX8_middleOf 2 = .ok (.iconst 1, 1) := by decide +kernel
theorem dX8_middleOf_3 : decode cX8_middleOf 3 = .ok (.istore_n 3, 1) := by decide +kernel
theorem dX8_middleOf_4 : decode cX8_middleOf 4 = .ok (.iload_n 3, 1) := by decide +kernel
theorem dX8_middleOf_5 : decode cX8_middleOf 5 = .ok (.aload_n 0, 1) := by decide +kernel
theorem dX8_middleOf_6 : decode cX8_middleOf 6 = .ok (.getfield 27, 3) := by decide +kernel
theorem dX8_middleOf_9 : decode cX8_middleOf 9 = .ok (.if_icmp .ge 99, 3) := by decide +kernel
theorem dX8_middleOf_12 : decode cX8_middleOf 12 = .ok (.iload_n 3, 1) := by decide +kernel
theorem dX8_middleOf_13 : decode cX8_middleOf 13 = .ok (.bipush 20, 2) := by decide +kernel
theorem dX8_middleOf_15 : decode cX8_middleOf 15 = .ok (.if_icmp .ge 93, 3) := by decide +kernel
theorem dX8_middleOf_18 : decode cX8_middleOf 18 = .ok (.iload_n 1, 1) := by decide +kernel
theorem dX8_middleOf_19 : decode cX8_middleOf 19 = .ok (.ifCond .eq 19, 3) := by decide +kernel
theorem dX8_middleOf_22 : decode cX8_middleOf 22 = .ok (.aload_n 0, 1) := by decide +kernel
theorem dX8_middleOf_23 : decode cX8_middleOf 23 = .ok (.getfield 15, 3) := by decide +kernel
theorem dX8_middleOf_26 : decode cX8_middleOf 26 = .ok (.iload_n 3, 1) := by decide +kernel
theorem dX8_middleOf_27 : decode cX8_middleOf 27 = .ok (.iaload, 1) := by decide +kernel
theorem dX8_middleOf_28 : decode cX8_middleOf 28 = .ok (.aload_n 0, 1) := by decide +kernel
theorem dX8_middleOf_29 : decode cX8_middleOf 29 = .ok (.getfield 18, 3) := by decide +kernel
theorem dX8_middleOf_32 : decode cX8_middleOf 32 = .ok (.iload_n 3, 1) := by decide +kernel
theorem dX8_middleOf_33 : decode cX8_middleOf 33 = .ok (.iaload, 1) := by decide +kernel
theorem dX8_middleOf_34 : decode cX8_middleOf 34 = .ok (.isub, 1) := by decide +kernel
theorem dX8_middleOf_35 : decode cX8_middleOf 35 = .ok (.goto 9, 3) := by decide +kernel
theorem dX8_middleOf_38 : decode cX8_middleOf 38 = .ok (.aload_n 0, 1) := by decide +kernel
theorem dX8_middleOf_39 : decode cX8_middleOf 39 = .ok (.getfield 11, 3) := by decide +kernel
theorem dX8_middleOf_42 : decode cX8_middleOf 42 = .ok (.iload_n 3, 1) := by decide +kernel
theorem dX8_middleOf_43 : decode cX8_middleOf 43 = .ok (.iaload, 1) := by decide +kernel
theorem dX8_middleOf_44 : decode cX8_middleOf 44 = .ok (.istore 4, 2) := by decide +kernel
theorem dX8_middleOf_46 : decode cX8_middleOf 46 = .ok (.iload_n 2, 1) := by decide +kernel
theorem dX8_middleOf_47 : decode cX8_middleOf 47 = .ok (.istore 5, 2) := by decide +kernel
theorem dX8_middleOf_49 : decode cX8_middleOf 49 = .ok (.iload 5, 2) := by decide +kernel
theorem dX8_middleOf_51 : decode cX8_middleOf 51 = .ok (.ifCond .le 39, 3) := by decide +kernel
theorem dX8_middleOf_54 : decode cX8_middleOf 54 = .ok (.aload_n 0, 1) := by decide +kernel
theorem dX8_middleOf_55 : decode cX8_middleOf 55 = .ok (.getfield 24, 3) := by decide +kernel
theorem dX8_middleOf_58 : decode cX8_middleOf 58 = .ok (.iload 5, 2) := by decide +kernel
theorem dX8_middleOf_60 : decode cX8_middleOf 60 = .ok (.iconst 1, 1) := by decide +kernel
theorem dX8_middleOf_61 : decode cX8_middleOf 61 = .ok (.isub, 1) := by decide +kernel
theorem dX8_middleOf_62 : decode cX8_middleOf 62 = .ok (.iaload, 1) := by decide +kernel
theorem dX8_middleOf_63 : decode cX8_middleOf 63 = .ok (.iload 4, 2) := by decide +kernel
theorem dX8_middleOf_65 : decode cX8_middleOf 65 = .ok (.if_icmp .le 25, 3) := by decide +kernel
theorem dX8_middleOf_68 : decode cX8_middleOf 68 = .ok (.aload_n 0, 1) := by decide +kernel
theorem dX8_middleOf_69 : decode cX8_middleOf 69 = .ok (.getfield 24, 3) := by decide +kernel
theorem dX8_middleOf_72 : decode cX8_middleOf 72 = .ok (.iload 5, 2) := by decide +kernel
theorem dX8_middleOf_74 : decode cX8_middleOf 74 = .ok (.aload_n 0, 1) := by decide +kernel
theorem dX8_middleOf_75 : decode cX8_middleOf 75 = .ok (.getfield 24, 3) := by decide +kernel
theorem dX8_middleOf_78 : decode cX8_middleOf 78 = .ok (.iload 5, 2) := by decide +kernel
theorem dX8_middleOf_80 : decode cX8_middleOf 80 = .ok (.iconst 1, 1) := by decide +kernel
theorem dX8_middleOf_81 : decode cX8_middleOf 81 = .ok (.isub, 1) := by decide +kernel
theorem dX8_middleOf_82 : decode cX8_middleOf 82 = .ok (.iaload, 1) := by decide +kernel
theorem dX8_middleOf_83 : decode cX8_middleOf 83 = .ok (.iastore, 1) := by decide +kernel
theorem dX8_middleOf_84 : decode cX8_middleOf 84 = .ok (.iinc 5 (-1), 3) := by decide +kernel
theorem dX8_middleOf_87 : decode cX8_middleOf 87 = .ok (.goto (-38), 3) := by decide +kernel
theorem dX8_middleOf_90 : decode cX8_middleOf 90 = .ok (.aload_n 0, 1) := by decide +kernel
theorem dX8_middleOf_91 : decode cX8_middleOf 91 = .ok (.getfield 24, 3) := by decide +kernel
theorem dX8_middleOf_94 : decode cX8_middleOf 94 = .ok (.iload 5, 2) := by decide +kernel
theorem dX8_middleOf_96 : decode cX8_middleOf 96 = .ok (.iload 4, 2) := by decide +kernel
theorem dX8_middleOf_98 : decode cX8_middleOf 98 = .ok (.iastore, 1) := by decide +kernel
theorem dX8_middleOf_99 : decode cX8_middleOf 99 = .ok (.iinc 2 1, 3) := by decide +kernel
theorem dX8_middleOf_102 : decode cX8_middleOf 102 = .ok (.iinc 3 1, 3) := by decide +kernel
theorem dX8_middleOf_105 : decode cX8_middleOf 105 = .ok (.goto (-101), 3) := by decide +kernel
theorem dX8_middleOf_108 : decode cX8_middleOf 108 = .ok (.iload_n 2, 1) := by decide +kernel
theorem dX8_middleOf_109 : decode cX8_middleOf 109 = .ok (.ifCond .le 16, 3) := by decide +kernel
theorem dX8_middleOf_112 : decode cX8_middleOf 112 = .ok (.aload_n 0, 1) := by decide +kernel
theorem dX8_middleOf_113 : decode cX8_middleOf 113 = .ok (.getfield 24, 3) := by decide +kernel
theorem dX8_middleOf_116 : decode cX8_middleOf 116 = .ok (.iload_n 2, 1) := by decide +kernel
theorem dX8_middleOf_117 : decode cX8_middleOf 117 = .ok (.iconst 1, 1) := by decide +kernel
theorem dX8_middleOf_118 : decode cX8_middleOf 118 = .ok (.isub, 1) := by decide +kernel
theorem dX8_middleOf_119 : decode cX8_middleOf 119 = .ok (.iconst 2, 1) := by decide +kernel
theorem dX8_middleOf_120 : decode cX8_middleOf 120 = .ok (.idiv, 1) := by decide +kernel
theorem dX8_middleOf_121 : decode cX8_middleOf 121 = .ok (.iaload, 1) := by decide +kernel
theorem dX8_middleOf_122 : decode cX8_middleOf 122 = .ok (.goto 5, 3) := by decide +kernel
theorem dX8_middleOf_125 : decode cX8_middleOf 125 = .ok (.ldc 54, 2) := by decide +kernel
theorem dX8_middleOf_127 : decode cX8_middleOf 127 = .ok (.ireturn, 1) := by decide +kernel
set_option maxRecDepth 20000 in
theorem ggX8_reason_X8_middleOf : GoodIn wsX8_reason wsX8_middleOf := goodIn_r _ [5, 6, 7, 8, 9, 10, 11, 20, 21, 22, 23, 24, 25, 26, 27, 28, 29] (by decide +kernel) (by decide +kernel)
set_option maxRecDepth 20000 in
theorem gX8_reason_X8_middleOf : GoodIn wsX8_reason (wsV RX8 71 RX8 yX8_middleOf wsX8_middleOf) := goodIn_app (goodIn_of _ (by decide +kernel)) ggX8_reason_X8_middleOf
set_option maxRecDepth 20000 in
theorem ggX8_reason_X8_reasonBeside : GoodIn wsX8_reason wsX8_reasonBeside := goodIn_r _ [15, 9, 16, 17, 18, 19, 7, 8, 20, 21, 22, 23, 24, 25, 26, 27, 28, 29] (by decide +kernel) (by decide +kernel)
set_option maxRecDepth 20000 in
theorem gX8_reason_X8_reasonBeside : GoodIn wsX8_reason (wsV RX8 75 RX8 yX8_reasonBeside wsX8_reasonBeside) := goodIn_app (goodIn_of _ (by decide +kernel)) ggX8_reason_X8_reasonBeside
theorem dX8_reason_0 : decode cX8_reason 0 = .ok (.aload_n 0, 1) := by decide +kernel
theorem dX8_reason_1 : decode cX8_reason 1 = .ok (.iload_n 1, 1) := by decide +kernel
theorem dX8_reason_2 : decode cX8_reason 2 = .ok (.iload_n 2, 1) := by decide +kernel
theorem dX8_reason_3 : decode cX8_reason 3 = .ok (.aload_n 0, 1) := by decide +kernel
theorem dX8_reason_4 : decode cX8_reason 4 = .ok (.iconst 0, 1) := by decide +kernel
theorem dX8_reason_5 : decode cX8_reason 5 = .ok (.invokevirtual 71, 3) := by decide +kernel
theorem dX8_reason_8 : decode cX8_reason 8 = .ok (.aload_n 0, 1) := by decide +kernel
theorem dX8_reason_9 : decode cX8_reason 9 = .ok (.iconst 1, 1) := by decide +kernel
theorem dX8_reason_10 : decode cX8_reason 10 = .ok (.invokevirtual 71, 3) := by decide +kernel
theorem dX8_reason_13 : decode cX8_reason 13 = .ok (.invokevirtual 75, 3) := by decide +kernel
theorem dX8_reason_16 : decode cX8_reason 16 = .ok (.ireturn, 1) := by decide +kernel
set_option maxRecDepth 20000 in
theorem ggX8_goodCount_X8_middleOf : GoodIn wsX8_goodCount wsX8_middleOf := goodIn_r _ [5, 6, 7, 8, 9, 10, 11, 24, 25, 26, 27, 28, 29, 30, 31, 32, 33] (by decide +kernel) (by decide +kernel)
set_option maxRecDepth 20000 in
theorem gX8_goodCount_X8_middleOf : GoodIn wsX8_goodCount (wsV RX8 71 RX8 yX8_middleOf wsX8_middleOf) := goodIn_app (goodIn_of _ (by decide +kernel)) ggX8_goodCount_X8_middleOf
set_option maxRecDepth 20000 in
theorem ggX8_goodCount_X8_goodBeside : GoodIn wsX8_goodCount wsX8_goodBeside := goodIn_r _ [15, 6, 16, 17, 18, 4, 19, 9, 20, 21, 22, 23, 7, 8, 24, 25, 26, 27, 28, 29, 30, 31, 32, 33] (by decide +kernel) (by decide +kernel)
set_option maxRecDepth 20000 in
theorem gX8_goodCount_X8_goodBeside : GoodIn wsX8_goodCount (wsV RX8 79 RX8 yX8_goodBeside wsX8_goodBeside) := goodIn_app (goodIn_of _ (by decide +kernel)) ggX8_goodCount_X8_goodBeside
theorem dX8_goodCount_0 : decode cX8_goodCount 0 = .ok (.aload_n 0, 1) := by decide +kernel
theorem dX8_goodCount_1 : decode cX8_goodCount 1 = .ok (.iload_n 1, 1) := by decide +kernel
theorem dX8_goodCount_2 : decode cX8_goodCount 2 = .ok (.aload_n 0, 1) := by decide +kernel
theorem dX8_goodCount_3 : decode cX8_goodCount 3 = .ok (.iconst 0, 1) := by decide +kernel
theorem dX8_goodCount_4 : decode cX8_goodCount 4 = .ok (.invokevirtual 71, 3) := by decide +kernel
theorem dX8_goodCount_7 : decode cX8_goodCount 7 = .ok (.aload_n 0, 1) := by decide +kernel
theorem dX8_goodCount_8 : decode cX8_goodCount 8 = .ok (.iconst 1, 1) := by decide +kernel
theorem dX8_goodCount_9 : decode cX8_goodCount 9 = .ok (.invokevirtual 71, 3) := by decide +kernel
theorem dX8_goodCount_12 : decode cX8_goodCount 12 = .ok (.invokevirtual 79, 3) := by decide +kernel
theorem dX8_goodCount_15 : decode cX8_goodCount 15 = .ok (.ireturn, 1) := by decide +kernel
set_option maxRecDepth 20000 in
theorem ggX8_leastTolerance_X8_middleOf : GoodIn wsX8_leastTolerance wsX8_middleOf := goodIn_r _ [6, 7, 8, 9, 10, 11, 1, 24, 25, 26, 27, 28, 29, 30, 31, 32, 33] (by decide +kernel) (by decide +kernel)
set_option maxRecDepth 20000 in
theorem gX8_leastTolerance_X8_middleOf : GoodIn wsX8_leastTolerance (wsV RX8 71 RX8 yX8_middleOf wsX8_middleOf) := goodIn_app (goodIn_of _ (by decide +kernel)) ggX8_leastTolerance_X8_middleOf
set_option maxRecDepth 20000 in
theorem ggX8_leastTolerance_X8_goodBeside : GoodIn wsX8_leastTolerance wsX8_goodBeside := goodIn_r _ [15, 7, 16, 17, 18, 5, 19, 10, 20, 21, 22, 23, 8, 9, 24, 25, 26, 27, 28, 29, 30, 31, 32, 33] (by decide +kernel) (by decide +kernel)
set_option maxRecDepth 20000 in
theorem gX8_leastTolerance_X8_goodBeside : GoodIn wsX8_leastTolerance (wsV RX8 79 RX8 yX8_goodBeside wsX8_goodBeside) := goodIn_app (goodIn_of _ (by decide +kernel)) ggX8_leastTolerance_X8_goodBeside
theorem dX8_leastTolerance_0 : decode cX8_leastTolerance 0 = .ok (.aload_n 0, 1) := by decide +kernel
theorem dX8_leastTolerance_1 : decode cX8_leastTolerance 1 = .ok (.iconst 0, 1) := by decide +kernel
theorem dX8_leastTolerance_2 : decode cX8_leastTolerance 2 = .ok (.invokevirtual 71, 3) := by decide +kernel
theorem dX8_leastTolerance_5 : decode cX8_leastTolerance 5 = .ok (.istore_n 2, 1) := by decide +kernel
theorem dX8_leastTolerance_6 : decode cX8_leastTolerance 6 = .ok (.aload_n 0, 1) := by decide +kernel
theorem dX8_leastTolerance_7 : decode cX8_leastTolerance 7 = .ok (.iconst 1, 1) := by decide +kernel
theorem dX8_leastTolerance_8 : decode cX8_leastTolerance 8 = .ok (.invokevirtual 71, 3) := by decide +kernel
theorem dX8_leastTolerance_11 : decode cX8_leastTolerance 11 = .ok (.istore_n 3, 1) := by decide +kernel
theorem dX8_leastTolerance_12 : decode cX8_leastTolerance 12 = .ok (.iconst 0, 1) := by decide +kernel
theorem dX8_leastTolerance_13 : decode cX8_leastTolerance 13 = .ok (.istore 4, 2) := by decide +kernel
theorem dX8_leastTolerance_15 : decode cX8_leastTolerance 15 = .ok (.iload 4, 2) := by decide +kernel
theorem dX8_leastTolerance_17 : decode cX8_leastTolerance 17 = .ok (.bipush 99, 2) := by decide +kernel
theorem dX8_leastTolerance_19 : decode cX8_leastTolerance 19 = .ok (.if_icmp .gt 24, 3) := by decide +kernel
theorem dX8_leastTolerance_22 : decode cX8_leastTolerance 22 = .ok (.aload_n 0, 1) := by decide +kernel
theorem dX8_leastTolerance_23 : decode cX8_leastTolerance 23 = .ok (.iload 4, 2) := by decide +kernel
theorem dX8_leastTolerance_25 : decode cX8_leastTolerance 25 = .ok (.iload_n 2, 1) := by decide +kernel
theorem dX8_leastTolerance_26 : decode cX8_leastTolerance 26 = .ok (.iload_n 3, 1) := by decide +kernel
theorem dX8_leastTolerance_27 : decode cX8_leastTolerance 27 = .ok (.invokevirtual 79, 3) := by decide +kernel
theorem dX8_leastTolerance_30 : decode cX8_leastTolerance 30 = .ok (.iload_n 1, 1) := by decide +kernel
theorem dX8_leastTolerance_31 : decode cX8_leastTolerance 31 = .ok (.if_icmp .lt 6, 3) := by decide +kernel
theorem dX8_leastTolerance_34 : decode cX8_leastTolerance 34 = .ok (.iload 4, 2) := by decide +kernel
theorem dX8_leastTolerance_36 : decode cX8_leastTolerance 36 = .ok (.ireturn, 1) := by decide +kernel
theorem dX8_leastTolerance_37 : decode cX8_leastTolerance 37 = .ok (.iinc 4 1, 3) := by decide +kernel
theorem dX8_leastTolerance_40 : decode cX8_leastTolerance 40 = .ok (.goto (-25), 3) := by decide +kernel
theorem dX8_leastTolerance_43 : decode cX8_leastTolerance 43 = .ok (.ldc 54, 2) := by decide +kernel
theorem dX8_leastTolerance_45 : decode cX8_leastTolerance 45 = .ok (.ireturn, 1) := by decide +kernel
set_option maxRecDepth 20000 in
theorem ggX8_average_X8_middleOf : GoodIn wsX8_average wsX8_middleOf := goodIn_r _ [14, 1, 2, 3, 4, 15, 9, 23, 24, 25, 26, 27, 28, 29, 30, 31, 32] (by decide +kernel) (by decide +kernel)
set_option maxRecDepth 20000 in
theorem gX8_average_X8_middleOf : GoodIn wsX8_average (wsV RX8 71 RX8 yX8_middleOf wsX8_middleOf) := goodIn_app (goodIn_of _ (by decide +kernel)) ggX8_average_X8_middleOf
set_option maxRecDepth 20000 in
theorem ggX8_average_X8_reasonBeside : GoodIn wsX8_average wsX8_reasonBeside := goodIn_r _ [19, 4, 20, 21, 7, 22, 2, 3, 23, 24, 25, 26, 27, 28, 29, 30, 31, 32] (by decide +kernel) (by decide +kernel)
set_option maxRecDepth 20000 in
theorem gX8_average_X8_reasonBeside : GoodIn wsX8_average (wsV RX8 75 RX8 yX8_reasonBeside wsX8_reasonBeside) := goodIn_app (goodIn_of _ (by decide +kernel)) ggX8_average_X8_reasonBeside
theorem dX8_average_0 : decode cX8_average 0 = .ok (.aload_n 0, 1) := by decide +kernel
theorem dX8_average_1 : decode cX8_average 1 = .ok (.iconst 0, 1) := by decide +kernel
theorem dX8_average_2 : decode cX8_average 2 = .ok (.invokevirtual 71, 3) := by decide +kernel
theorem dX8_average_5 : decode cX8_average 5 = .ok (.istore_n 3, 1) := by decide +kernel
theorem dX8_average_6 : decode cX8_average 6 = .ok (.aload_n 0, 1) := by decide +kernel
theorem dX8_average_7 : decode cX8_average 7 = .ok (.iconst 1, 1) := by decide +kernel
theorem dX8_average_8 : decode cX8_average 8 = .ok (.invokevirtual 71, 3) := by decide +kernel
theorem dX8_average_11 : decode cX8_average 11 = .ok (.istore 4, 2) := by decide +kernel
