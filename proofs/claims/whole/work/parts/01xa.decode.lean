theorem dX0_init_0 : decode cX0_init 0 = .ok (.aload_n 0, 1) := by decide +kernel
theorem dX0_init_1 : decode cX0_init 1 = .ok (.invokespecial 3, 3) := by decide +kernel
theorem dX0_init_4 : decode cX0_init 4 = .ok (.aload_n 0, 1) := by decide +kernel
theorem dX0_init_5 : decode cX0_init 5 = .ok (.bipush 40, 2) := by decide +kernel
theorem dX0_init_7 : decode cX0_init 7 = .ok (.newarray .long, 2) := by decide +kernel
theorem dX0_init_9 : decode cX0_init 9 = .ok (.putfield 9, 3) := by decide +kernel
theorem dX0_init_12 : decode cX0_init 12 = .ok (.aload_n 0, 1) := by decide +kernel
theorem dX0_init_13 : decode cX0_init 13 = .ok (.iconst 0, 1) := by decide +kernel
theorem dX0_init_14 : decode cX0_init 14 = .ok (.putfield 15, 3) := by decide +kernel
theorem dX0_init_17 : decode cX0_init 17 = .ok (.aload_n 0, 1) := by decide +kernel
theorem dX0_init_18 : decode cX0_init 18 = .ok (.iconst 0, 1) := by decide +kernel
theorem dX0_init_19 : decode cX0_init 19 = .ok (.putfield 19, 3) := by decide +kernel
theorem dX0_init_22 : decode cX0_init 22 = .ok (.aload_n 0, 1) := by decide +kernel
theorem dX0_init_23 : decode cX0_init 23 = .ok (.iconst 0, 1) := by decide +kernel
theorem dX0_init_24 : decode cX0_init 24 = .ok (.putfield 22, 3) := by decide +kernel
theorem dX0_init_27 : decode cX0_init 27 = .ok (.aload_n 0, 1) := by decide +kernel
theorem dX0_init_28 : decode cX0_init 28 = .ok (.iconst 0, 1) := by decide +kernel
theorem dX0_init_29 : decode cX0_init 29 = .ok (.putfield 25, 3) := by decide +kernel
theorem dX0_init_32 : decode cX0_init 32 = .ok (.return_, 1) := by decide +kernel
theorem dX0_open_0 : decode cX0_open 0 = .ok (.aload_n 0, 1) := by decide +kernel
theorem dX0_open_1 : decode cX0_open 1 = .ok (.iconst 0, 1) := by decide +kernel
theorem dX0_open_2 : decode cX0_open 2 = .ok (.putfield 15, 3) := by decide +kernel
theorem dX0_open_5 : decode cX0_open 5 = .ok (.aload_n 0, 1) := by decide +kernel
theorem dX0_open_6 : decode cX0_open 6 = .ok (.iload_n 1, 1) := by decide +kernel
theorem dX0_open_7 : decode cX0_open 7 = .ok (.putfield 19, 3) := by decide +kernel
theorem dX0_open_10 : decode cX0_open 10 = .ok (.aload_n 0, 1) := by decide +kernel
theorem dX0_open_11 : decode cX0_open 11 = .ok (.iload_n 2, 1) := by decide +kernel
theorem dX0_open_12 : decode cX0_open 12 = .ok (.putfield 22, 3) := by decide +kernel
theorem dX0_open_15 : decode cX0_open 15 = .ok (.aload_n 0, 1) := by decide +kernel
theorem dX0_open_16 : decode cX0_open 16 = .ok (.iconst 1, 1) := by decide +kernel
theorem dX0_open_17 : decode cX0_open 17 = .ok (.putfield 25, 3) := by decide +kernel
theorem dX0_open_20 : decode cX0_open 20 = .ok (.return_, 1) := by decide +kernel
theorem dX0_close_0 : decode cX0_close 0 = .ok (.aload_n 0, 1) := by decide +kernel
theorem dX0_close_1 : decode cX0_close 1 = .ok (.iconst 0, 1) := by decide +kernel
theorem dX0_close_2 : decode cX0_close 2 = .ok (.putfield 15, 3) := by decide +kernel
theorem dX0_close_5 : decode cX0_close 5 = .ok (.aload_n 0, 1) := by decide +kernel
theorem dX0_close_6 : decode cX0_close 6 = .ok (.iconst 0, 1) := by decide +kernel
theorem dX0_close_7 : decode cX0_close 7 = .ok (.putfield 25, 3) := by decide +kernel
theorem dX0_close_10 : decode cX0_close 10 = .ok (.return_, 1) := by decide +kernel
theorem dX0_add_0 : decode cX0_add 0 = .ok (.aload_n 0, 1) := by decide +kernel
theorem dX0_add_1 : decode cX0_add 1 = .ok (.getfield 15, 3) := by decide +kernel
theorem dX0_add_4 : decode cX0_add 4 = .ok (.bipush 40, 2) := by decide +kernel
theorem dX0_add_6 : decode cX0_add 6 = .ok (.if_icmp .ge 23, 3) := by decide +kernel
theorem dX0_add_9 : decode cX0_add 9 = .ok (.aload_n 0, 1) := by decide +kernel
theorem dX0_add_10 : decode cX0_add 10 = .ok (.getfield 9, 3) := by decide +kernel
theorem dX0_add_13 : decode cX0_add 13 = .ok (.aload_n 0, 1) := by decide +kernel
theorem dX0_add_14 : decode cX0_add 14 = .ok (.getfield 15, 3) := by decide +kernel
theorem dX0_add_17 : decode cX0_add 17 = .ok (.lload_n 1, 1) := by decide +kernel
theorem dX0_add_18 : decode cX0_add 18 = .ok (.lastore, 1) := by decide +kernel
theorem dX0_add_19 : decode cX0_add 19 = .ok (.aload_n 0, 1) := by decide +kernel
theorem dX0_add_20 : decode cX0_add 20 = .ok (.dup, 1) := by decide +kernel
theorem dX0_add_21 : decode cX0_add 21 = .ok (.getfield 15, 3) := by decide +kernel
theorem dX0_add_24 : decode cX0_add 24 = .ok (.iconst 1, 1) := by decide +kernel
theorem dX0_add_25 : decode cX0_add 25 = .ok (.iadd, 1) := by decide +kernel
theorem dX0_add_26 : decode cX0_add 26 = .ok (.putfield 15, 3) := by decide +kernel
theorem dX0_add_29 : decode cX0_add 29 = .ok (.return_, 1) := by decide +kernel
theorem dX1_init_0 : decode cX1_init 0 = .ok (.aload_n 0, 1) := by decide +kernel
theorem dX1_init_1 : decode cX1_init 1 = .ok (.invokespecial 3, 3) := by decide +kernel
theorem dX1_init_4 : decode cX1_init 4 = .ok (.aload_n 0, 1) := by decide +kernel
theorem dX1_init_5 : decode cX1_init 5 = .ok (.bipush 40, 2) := by decide +kernel
theorem dX1_init_7 : decode cX1_init 7 = .ok (.newarray .int, 2) := by decide +kernel
theorem dX1_init_9 : decode cX1_init 9 = .ok (.putfield 9, 3) := by decide +kernel
theorem dX1_init_12 : decode cX1_init 12 = .ok (.aload_n 0, 1) := by decide +kernel
theorem dX1_init_13 : decode cX1_init 13 = .ok (.iconst 0, 1) := by decide +kernel
theorem dX1_init_14 : decode cX1_init 14 = .ok (.putfield 15, 3) := by decide +kernel
theorem dX1_init_17 : decode cX1_init 17 = .ok (.aload_n 0, 1) := by decide +kernel
theorem dX1_init_18 : decode cX1_init 18 = .ok (.iconst 0, 1) := by decide +kernel
theorem dX1_init_19 : decode cX1_init 19 = .ok (.putfield 19, 3) := by decide +kernel
theorem dX1_init_22 : decode cX1_init 22 = .ok (.aload_n 0, 1) := by decide +kernel
theorem dX1_init_23 : decode cX1_init 23 = .ok (.iconst 0, 1) := by decide +kernel
theorem dX1_init_24 : decode cX1_init 24 = .ok (.putfield 22, 3) := by decide +kernel
theorem dX1_init_27 : decode cX1_init 27 = .ok (.aload_n 0, 1) := by decide +kernel
theorem dX1_init_28 : decode cX1_init 28 = .ok (.new 25, 3) := by decide +kernel
theorem dX1_init_31 : decode cX1_init 31 = .ok (.dup, 1) := by decide +kernel
theorem dX1_init_32 : decode cX1_init 32 = .ok (.invokespecial 27, 3) := by decide +kernel
theorem dX1_init_35 : decode cX1_init 35 = .ok (.putfield 28, 3) := by decide +kernel
theorem dX1_init_38 : decode cX1_init 38 = .ok (.aload_n 0, 1) := by decide +kernel
theorem dX1_init_39 : decode cX1_init 39 = .ok (.new 25, 3) := by decide +kernel
theorem dX1_init_42 : decode cX1_init 42 = .ok (.dup, 1) := by decide +kernel
theorem dX1_init_43 : decode cX1_init 43 = .ok (.invokespecial 27, 3) := by decide +kernel
theorem dX1_init_46 : decode cX1_init 46 = .ok (.putfield 32, 3) := by decide +kernel
theorem dX1_init_49 : decode cX1_init 49 = .ok (.aload_n 0, 1) := by decide +kernel
theorem dX1_init_50 : decode cX1_init 50 = .ok (.new 25, 3) := by decide +kernel
theorem dX1_init_53 : decode cX1_init 53 = .ok (.dup, 1) := by decide +kernel
theorem dX1_init_54 : decode cX1_init 54 = .ok (.invokespecial 27, 3) := by decide +kernel
theorem dX1_init_57 : decode cX1_init 57 = .ok (.putfield 35, 3) := by decide +kernel
theorem dX1_init_60 : decode cX1_init 60 = .ok (.aload_n 0, 1) := by decide +kernel
theorem dX1_init_61 : decode cX1_init 61 = .ok (.sipush 1681, 3) := by decide +kernel
theorem dX1_init_64 : decode cX1_init 64 = .ok (.newarray .int, 2) := by decide +kernel
theorem dX1_init_66 : decode cX1_init 66 = .ok (.putfield 38, 3) := by decide +kernel
theorem dX1_init_69 : decode cX1_init 69 = .ok (.aload_n 0, 1) := by decide +kernel
theorem dX1_init_70 : decode cX1_init 70 = .ok (.sipush 1681, 3) := by decide +kernel
theorem dX1_init_73 : decode cX1_init 73 = .ok (.newarray .int, 2) := by decide +kernel
theorem dX1_init_75 : decode cX1_init 75 = .ok (.putfield 41, 3) := by decide +kernel
theorem dX1_init_78 : decode cX1_init 78 = .ok (.return_, 1) := by decide +kernel
theorem dX1_pageOf_0 : decode cX1_pageOf 0 = .ok (.aload_n 0, 1) := by decide +kernel
theorem dX1_pageOf_1 : decode cX1_pageOf 1 = .ok (.getfield 28, 3) := by decide +kernel
theorem dX1_pageOf_4 : decode cX1_pageOf 4 = .ok (.aload_n 1, 1) := by decide +kernel
theorem dX1_pageOf_5 : decode cX1_pageOf 5 = .ok (.iload_n 2, 1) := by decide +kernel
theorem dX1_pageOf_6 : decode cX1_pageOf 6 = .ok (.iconst 0, 1) := by decide +kernel
theorem dX1_pageOf_7 : decode cX1_pageOf 7 = .ok (.invokestatic 44, 3) := by decide +kernel
theorem dX1_pageOf_10 : decode cX1_pageOf 10 = .ok (.aload_n 1, 1) := by decide +kernel
theorem dX1_pageOf_11 : decode cX1_pageOf 11 = .ok (.aload_n 1, 1) := by decide +kernel
theorem dX1_pageOf_12 : decode cX1_pageOf 12 = .ok (.getfield 48, 3) := by decide +kernel
theorem dX1_pageOf_15 : decode cX1_pageOf 15 = .ok (.invokevirtual 53, 3) := by decide +kernel
theorem dX1_pageOf_18 : decode cX1_pageOf 18 = .ok (.ifCond .eq 43, 3) := by decide +kernel
theorem dX1_pageOf_21 : decode cX1_pageOf 21 = .ok (.aload_n 1, 1) := by decide +kernel
theorem dX1_pageOf_22 : decode cX1_pageOf 22 = .ok (.getfield 48, 3) := by decide +kernel
theorem dX1_pageOf_25 : decode cX1_pageOf 25 = .ok (.iload_n 2, 1) := by decide +kernel
theorem dX1_pageOf_26 : decode cX1_pageOf 26 = .ok (.if_icmp .eq 35, 3) := by decide +kernel
theorem dX1_pageOf_29 : decode cX1_pageOf 29 = .ok (.aload_n 0, 1) := by decide +kernel
theorem dX1_pageOf_30 : decode cX1_pageOf 30 = .ok (.getfield 35, 3) := by decide +kernel
theorem dX1_pageOf_33 : decode cX1_pageOf 33 = .ok (.aload_n 1, 1) := by decide +kernel
theorem dX1_pageOf_34 : decode cX1_pageOf 34 = .ok (.getfield 57, 3) := by decide +kernel
theorem dX1_pageOf_37 : decode cX1_pageOf 37 = .ok (.aload_n 1, 1) := by decide +kernel
theorem dX1_pageOf_38 : decode cX1_pageOf 38 = .ok (.getfield 48, 3) := by decide +kernel
theorem dX1_pageOf_41 : decode cX1_pageOf 41 = .ok (.aaload, 1) := by decide +kernel
theorem dX1_pageOf_42 : decode cX1_pageOf 42 = .ok (.iconst 0, 1) := by decide +kernel
theorem dX1_pageOf_43 : decode cX1_pageOf 43 = .ok (.invokevirtual 61, 3) := by decide +kernel
theorem dX1_pageOf_46 : decode cX1_pageOf 46 = .ok (.aload_n 0, 1) := by decide +kernel
theorem dX1_pageOf_47 : decode cX1_pageOf 47 = .ok (.getfield 28, 3) := by decide +kernel
theorem dX1_pageOf_50 : decode cX1_pageOf 50 = .ok (.aload_n 0, 1) := by decide +kernel
theorem dX1_pageOf_51 : decode cX1_pageOf 51 = .ok (.getfield 35, 3) := by decide +kernel
theorem dX1_pageOf_54 : decode cX1_pageOf 54 = .ok (.aload_n 1, 1) := by decide +kernel
theorem dX1_pageOf_55 : decode cX1_pageOf 55 = .ok (.invokestatic 65, 3) := by decide +kernel
theorem dX1_pageOf_58 : decode cX1_pageOf 58 = .ok (.invokevirtual 69, 3) := by decide +kernel
theorem dX1_pageOf_61 : decode cX1_pageOf 61 = .ok (.aload_n 0, 1) := by decide +kernel
theorem dX1_pageOf_62 : decode cX1_pageOf 62 = .ok (.getfield 28, 3) := by decide +kernel
theorem dX1_pageOf_65 : decode cX1_pageOf 65 = .ok (.areturn, 1) := by decide +kernel
theorem dX1_scoreOf_0 : decode cX1_scoreOf 0 = .ok (.aload_n 0, 1) := by decide +kernel
theorem dX1_scoreOf_1 : decode cX1_scoreOf 1 = .ok (.aload_n 1, 1) := by decide +kernel
theorem dX1_scoreOf_2 : decode cX1_scoreOf 2 = .ok (.iload_n 2, 1) := by decide +kernel
theorem dX1_scoreOf_3 : decode cX1_scoreOf 3 = .ok (.iload_n 3, 1) := by decide +kernel
theorem dX1_scoreOf_4 : decode cX1_scoreOf 4 = .ok (.iload 4, 2) := by decide +kernel
theorem dX1_scoreOf_6 : decode cX1_scoreOf 6 = .ok (.invokevirtual 73, 3) := by decide +kernel
theorem dX1_scoreOf_9 : decode cX1_scoreOf 9 = .ok (.aload_n 0, 1) := by decide +kernel
theorem dX1_scoreOf_10 : decode cX1_scoreOf 10 = .ok (.getfield 22, 3) := by decide +kernel
theorem dX1_scoreOf_13 : decode cX1_scoreOf 13 = .ok (.ifCond .ne 5, 3) := by decide +kernel
theorem dX1_scoreOf_16 : decode cX1_scoreOf 16 = .ok (.iconst 0, 1) := by decide +kernel
theorem dX1_scoreOf_17 : decode cX1_scoreOf 17 = .ok (.ireturn, 1) := by decide +kernel
theorem dX1_scoreOf_18 : decode cX1_scoreOf 18 = .ok (.aload_n 0, 1) := by decide +kernel
theorem dX1_scoreOf_19 : decode cX1_scoreOf 19 = .ok (.aload_n 1, 1) := by decide +kernel
theorem dX1_scoreOf_20 : decode cX1_scoreOf 20 = .ok (.getfield 77, 3) := by decide +kernel
theorem dX1_scoreOf_23 : decode cX1_scoreOf 23 = .ok (.invokevirtual 80, 3) := by decide +kernel
theorem dX1_scoreOf_26 : decode cX1_scoreOf 26 = .ok (.aload_n 0, 1) := by decide +kernel
theorem dX1_scoreOf_27 : decode cX1_scoreOf 27 = .ok (.getfield 41, 3) := by decide +kernel
theorem dX1_scoreOf_30 : decode cX1_scoreOf 30 = .ok (.iconst 0, 1) := by decide +kernel
theorem dX1_scoreOf_31 : decode cX1_scoreOf 31 = .ok (.iaload, 1) := by decide +kernel
theorem dX1_scoreOf_32 : decode cX1_scoreOf 32 = .ok (.ireturn, 1) := by decide +kernel
theorem dX1_compare_0 : decode cX1_compare 0 = .ok (.aload_n 0, 1) := by decide +kernel
theorem dX1_compare_1 : decode cX1_compare 1 = .ok (.getfield 28, 3) := by decide +kernel
theorem dX1_compare_4 : decode cX1_compare 4 = .ok (.aload_n 1, 1) := by decide +kernel
theorem dX1_compare_5 : decode cX1_compare 5 = .ok (.iload_n 2, 1) := by decide +kernel
theorem dX1_compare_6 : decode cX1_compare 6 = .ok (.iconst 0, 1) := by decide +kernel
theorem dX1_compare_7 : decode cX1_compare 7 = .ok (.invokestatic 44, 3) := by decide +kernel
theorem dX1_compare_10 : decode cX1_compare 10 = .ok (.aload_n 0, 1) := by decide +kernel
theorem dX1_compare_11 : decode cX1_compare 11 = .ok (.getfield 32, 3) := by decide +kernel
theorem dX1_compare_14 : decode cX1_compare 14 = .ok (.aload_n 1, 1) := by decide +kernel
theorem dX1_compare_15 : decode cX1_compare 15 = .ok (.iload_n 3, 1) := by decide +kernel
theorem dX1_compare_16 : decode cX1_compare 16 = .ok (.iload 4, 2) := by decide +kernel
theorem dX1_compare_18 : decode cX1_compare 18 = .ok (.invokestatic 44, 3) := by decide +kernel
theorem dX1_compare_21 : decode cX1_compare 21 = .ok (.aload_n 0, 1) := by decide +kernel
theorem dX1_compare_22 : decode cX1_compare 22 = .ok (.aload_n 1, 1) := by decide +kernel
theorem dX1_compare_23 : decode cX1_compare 23 = .ok (.iload_n 2, 1) := by decide +kernel
theorem dX1_compare_24 : decode cX1_compare 24 = .ok (.iload_n 3, 1) := by decide +kernel
theorem dX1_compare_25 : decode cX1_compare 25 = .ok (.invokevirtual 84, 3) := by decide +kernel
theorem dX1_compare_28 : decode cX1_compare 28 = .ok (.aload_n 0, 1) := by decide +kernel
theorem dX1_compare_29 : decode cX1_compare 29 = .ok (.iconst 0, 1) := by decide +kernel
theorem dX1_compare_30 : decode cX1_compare 30 = .ok (.putfield 22, 3) := by decide +kernel
theorem dX1_compare_33 : decode cX1_compare 33 = .ok (.iconst 0, 1) := by decide +kernel
theorem dX1_compare_34 : decode cX1_compare 34 = .ok (.istore 5, 2) := by decide +kernel
theorem dX1_compare_36 : decode cX1_compare 36 = .ok (.iload 5, 2) := by decide +kernel
theorem dX1_compare_38 : decode cX1_compare 38 = .ok (.aload_n 0, 1) := by decide +kernel
theorem dX1_compare_39 : decode cX1_compare 39 = .ok (.getfield 28, 3) := by decide +kernel
theorem dX1_compare_42 : decode cX1_compare 42 = .ok (.getfield 88, 3) := by decide +kernel
theorem dX1_compare_45 : decode cX1_compare 45 = .ok (.if_icmp .ge 74, 3) := by decide +kernel
theorem dX1_compare_48 : decode cX1_compare 48 = .ok (.iconst 0, 1) := by decide +kernel
theorem dX1_compare_49 : decode cX1_compare 49 = .ok (.istore 6, 2) := by decide +kernel
theorem dX1_compare_51 : decode cX1_compare 51 = .ok (.iload 6, 2) := by decide +kernel
theorem dX1_compare_53 : decode cX1_compare 53 = .ok (.aload_n 0, 1) := by decide +kernel
theorem dX1_compare_54 : decode cX1_compare 54 = .ok (.getfield 32, 3) := by decide +kernel
theorem dX1_compare_57 : decode cX1_compare 57 = .ok (.getfield 88, 3) := by decide +kernel
theorem dX1_compare_60 : decode cX1_compare 60 = .ok (.if_icmp .ge 53, 3) := by decide +kernel
theorem dX1_compare_63 : decode cX1_compare 63 = .ok (.aload_n 0, 1) := by decide +kernel
theorem dX1_compare_64 : decode cX1_compare 64 = .ok (.iload 5, 2) := by decide +kernel
theorem dX1_compare_66 : decode cX1_compare 66 = .ok (.iload 6, 2) := by decide +kernel
theorem dX1_compare_68 : decode cX1_compare 68 = .ok (.aload_n 1, 1) := by decide +kernel
theorem dX1_compare_69 : decode cX1_compare 69 = .ok (.getfield 91, 3) := by decide +kernel
theorem dX1_compare_72 : decode cX1_compare 72 = .ok (.invokevirtual 94, 3) := by decide +kernel
theorem dX1_compare_75 : decode cX1_compare 75 = .ok (.istore 7, 2) := by decide +kernel
theorem dX1_compare_77 : decode cX1_compare 77 = .ok (.aload_n 0, 1) := by decide +kernel
theorem dX1_compare_78 : decode cX1_compare 78 = .ok (.getfield 38, 3) := by decide +kernel
theorem dX1_compare_81 : decode cX1_compare 81 = .ok (.iload 5, 2) := by decide +kernel
theorem dX1_compare_83 : decode cX1_compare 83 = .ok (.bipush 41, 2) := by decide +kernel
theorem dX1_compare_85 : decode cX1_compare 85 = .ok (.imul, 1) := by decide +kernel
theorem dX1_compare_86 : decode cX1_compare 86 = .ok (.iload 6, 2) := by decide +kernel
theorem dX1_compare_88 : decode cX1_compare 88 = .ok (.iadd, 1) := by decide +kernel
theorem dX1_compare_89 : decode cX1_compare 89 = .ok (.iload 7, 2) := by decide +kernel
theorem dX1_compare_91 : decode cX1_compare 91 = .ok (.iastore, 1) := by decide +kernel
theorem dX1_compare_92 : decode cX1_compare 92 = .ok (.iload 7, 2) := by decide +kernel
theorem dX1_compare_94 : decode cX1_compare 94 = .ok (.ifCond .le 13, 3) := by decide +kernel
theorem dX1_compare_97 : decode cX1_compare 97 = .ok (.aload_n 0, 1) := by decide +kernel
theorem dX1_compare_98 : decode cX1_compare 98 = .ok (.dup, 1) := by decide +kernel
theorem dX1_compare_99 : decode cX1_compare 99 = .ok (.getfield 22, 3) := by decide +kernel
theorem dX1_compare_102 : decode cX1_compare 102 = .ok (.iconst 1, 1) := by decide +kernel
theorem dX1_compare_103 : decode cX1_compare 103 = .ok (.iadd, 1) := by decide +kernel
theorem dX1_compare_104 : decode cX1_compare 104 = .ok (.putfield 22, 3) := by decide +kernel
theorem dX1_compare_107 : decode cX1_compare 107 = .ok (.iinc 6 1, 3) := by decide +kernel
theorem dX1_compare_110 : decode cX1_compare 110 = .ok (.goto (-59), 3) := by decide +kernel
theorem dX1_compare_113 : decode cX1_compare 113 = .ok (.iinc 5 1, 3) := by decide +kernel
theorem dX1_compare_116 : decode cX1_compare 116 = .ok (.goto (-80), 3) := by decide +kernel
theorem dX1_compare_119 : decode cX1_compare 119 = .ok (.return_, 1) := by decide +kernel
theorem dX1_layWithMarks_0 : decode cX1_layWithMarks 0 = .ok (.aload_n 0, 1) := by decide +kernel
theorem dX1_layWithMarks_1 : decode cX1_layWithMarks 1 = .ok (.aload_n 1, 1) := by decide +kernel
theorem dX1_layWithMarks_2 : decode cX1_layWithMarks 2 = .ok (.getfield 57, 3) := by decide +kernel
theorem dX1_layWithMarks_5 : decode cX1_layWithMarks 5 = .ok (.iload_n 2, 1) := by decide +kernel
theorem dX1_layWithMarks_6 : decode cX1_layWithMarks 6 = .ok (.aaload, 1) := by decide +kernel
theorem dX1_layWithMarks_7 : decode cX1_layWithMarks 7 = .ok (.iload_n 3, 1) := by decide +kernel
theorem dX1_layWithMarks_8 : decode cX1_layWithMarks 8 = .ok (.invokevirtual 61, 3) := by decide +kernel
theorem dX1_layWithMarks_11 : decode cX1_layWithMarks 11 = .ok (.aload_n 0, 1) := by decide +kernel
theorem dX1_layWithMarks_12 : decode cX1_layWithMarks 12 = .ok (.aload_n 1, 1) := by decide +kernel
theorem dX1_layWithMarks_13 : decode cX1_layWithMarks 13 = .ok (.getfield 91, 3) := by decide +kernel
theorem dX1_layWithMarks_16 : decode cX1_layWithMarks 16 = .ok (.aload_n 1, 1) := by decide +kernel
theorem dX1_layWithMarks_17 : decode cX1_layWithMarks 17 = .ok (.getfield 98, 3) := by decide +kernel
theorem dX1_layWithMarks_20 : decode cX1_layWithMarks 20 = .ok (.invokevirtual 101, 3) := by decide +kernel
theorem dX1_layWithMarks_23 : decode cX1_layWithMarks 23 = .ok (.return_, 1) := by decide +kernel
theorem dX1_asideLength_0 : decode cX1_asideLength 0 = .ok (.aload_n 0, 1) := by decide +kernel
theorem dX1_asideLength_1 : decode cX1_asideLength 1 = .ok (.getfield 98, 3) := by decide +kernel
theorem dX1_asideLength_4 : decode cX1_asideLength 4 = .ok (.aload_n 0, 1) := by decide +kernel
theorem dX1_asideLength_5 : decode cX1_asideLength 5 = .ok (.getfield 91, 3) := by decide +kernel
theorem dX1_asideLength_8 : decode cX1_asideLength 8 = .ok (.iadd, 1) := by decide +kernel
theorem dX1_asideLength_9 : decode cX1_asideLength 9 = .ok (.iconst 1, 1) := by decide +kernel
theorem dX1_asideLength_10 : decode cX1_asideLength 10 = .ok (.isub, 1) := by decide +kernel
theorem dX1_asideLength_11 : decode cX1_asideLength 11 = .ok (.ireturn, 1) := by decide +kernel
theorem dX1_setBothAside_0 : decode cX1_setBothAside 0 = .ok (.aload_n 1, 1) := by decide +kernel
theorem dX1_setBothAside_1 : decode cX1_setBothAside 1 = .ok (.invokestatic 65, 3) := by decide +kernel
theorem dX1_setBothAside_4 : decode cX1_setBothAside 4 = .ok (.istore 4, 2) := by decide +kernel
theorem dX1_setBothAside_6 : decode cX1_setBothAside 6 = .ok (.aload_n 1, 1) := by decide +kernel
theorem dX1_setBothAside_7 : decode cX1_setBothAside 7 = .ok (.getfield 48, 3) := by decide +kernel
theorem dX1_setBothAside_10 : decode cX1_setBothAside 10 = .ok (.iload_n 2, 1) := by decide +kernel
theorem dX1_setBothAside_11 : decode cX1_setBothAside 11 = .ok (.if_icmp .ne 19, 3) := by decide +kernel
theorem dX1_setBothAside_14 : decode cX1_setBothAside 14 = .ok (.aload_n 0, 1) := by decide +kernel
theorem dX1_setBothAside_15 : decode cX1_setBothAside 15 = .ok (.getfield 32, 3) := by decide +kernel
theorem dX1_setBothAside_18 : decode cX1_setBothAside 18 = .ok (.aload_n 0, 1) := by decide +kernel
theorem dX1_setBothAside_19 : decode cX1_setBothAside 19 = .ok (.getfield 28, 3) := by decide +kernel
theorem dX1_setBothAside_22 : decode cX1_setBothAside 22 = .ok (.iload 4, 2) := by decide +kernel
theorem dX1_setBothAside_24 : decode cX1_setBothAside 24 = .ok (.invokevirtual 69, 3) := by decide +kernel
theorem dX1_setBothAside_27 : decode cX1_setBothAside 27 = .ok (.goto 81, 3) := by decide +kernel
theorem dX1_setBothAside_30 : decode cX1_setBothAside 30 = .ok (.aload_n 1, 1) := by decide +kernel
theorem dX1_setBothAside_31 : decode cX1_setBothAside 31 = .ok (.getfield 48, 3) := by decide +kernel
theorem dX1_setBothAside_34 : decode cX1_setBothAside 34 = .ok (.iload_n 3, 1) := by decide +kernel
theorem dX1_setBothAside_35 : decode cX1_setBothAside 35 = .ok (.if_icmp .ne 19, 3) := by decide +kernel
theorem dX1_setBothAside_38 : decode cX1_setBothAside 38 = .ok (.aload_n 0, 1) := by decide +kernel
theorem dX1_setBothAside_39 : decode cX1_setBothAside 39 = .ok (.getfield 28, 3) := by decide +kernel
theorem dX1_setBothAside_42 : decode cX1_setBothAside 42 = .ok (.aload_n 0, 1) := by decide +kernel
theorem dX1_setBothAside_43 : decode cX1_setBothAside 43 = .ok (.getfield 32, 3) := by decide +kernel
theorem dX1_setBothAside_46 : decode cX1_setBothAside 46 = .ok (.iload 4, 2) := by decide +kernel
theorem dX1_setBothAside_48 : decode cX1_setBothAside 48 = .ok (.invokevirtual 69, 3) := by decide +kernel
theorem dX1_setBothAside_51 : decode cX1_setBothAside 51 = .ok (.goto 57, 3) := by decide +kernel
theorem dX1_setBothAside_54 : decode cX1_setBothAside 54 = .ok (.aload_n 1, 1) := by decide +kernel
theorem dX1_setBothAside_55 : decode cX1_setBothAside 55 = .ok (.aload_n 1, 1) := by decide +kernel
theorem dX1_setBothAside_56 : decode cX1_setBothAside 56 = .ok (.getfield 48, 3) := by decide +kernel
theorem dX1_setBothAside_59 : decode cX1_setBothAside 59 = .ok (.invokevirtual 53, 3) := by decide +kernel
theorem dX1_setBothAside_62 : decode cX1_setBothAside 62 = .ok (.ifCond .eq 46, 3) := by decide +kernel
theorem dX1_setBothAside_65 : decode cX1_setBothAside 65 = .ok (.aload_n 0, 1) := by decide +kernel
theorem dX1_setBothAside_66 : decode cX1_setBothAside 66 = .ok (.getfield 35, 3) := by decide +kernel
theorem dX1_setBothAside_69 : decode cX1_setBothAside 69 = .ok (.aload_n 1, 1) := by decide +kernel
theorem dX1_setBothAside_70 : decode cX1_setBothAside 70 = .ok (.getfield 57, 3) := by decide +kernel
theorem dX1_setBothAside_73 : decode cX1_setBothAside 73 = .ok (.aload_n 1, 1) := by decide +kernel
theorem dX1_setBothAside_74 : decode cX1_setBothAside 74 = .ok (.getfield 48, 3) := by decide +kernel
theorem dX1_setBothAside_77 : decode cX1_setBothAside 77 = .ok (.aaload, 1) := by decide +kernel
theorem dX1_setBothAside_78 : decode cX1_setBothAside 78 = .ok (.iconst 0, 1) := by decide +kernel
theorem dX1_setBothAside_79 : decode cX1_setBothAside 79 = .ok (.invokevirtual 61, 3) := by decide +kernel
theorem dX1_setBothAside_82 : decode cX1_setBothAside 82 = .ok (.aload_n 0, 1) := by decide +kernel
theorem dX1_setBothAside_83 : decode cX1_setBothAside 83 = .ok (.getfield 28, 3) := by decide +kernel
theorem dX1_setBothAside_86 : decode cX1_setBothAside 86 = .ok (.aload_n 0, 1) := by decide +kernel
theorem dX1_setBothAside_87 : decode cX1_setBothAside 87 = .ok (.getfield 35, 3) := by decide +kernel
theorem dX1_setBothAside_90 : decode cX1_setBothAside 90 = .ok (.iload 4, 2) := by decide +kernel
theorem dX1_setBothAside_92 : decode cX1_setBothAside 92 = .ok (.invokevirtual 69, 3) := by decide +kernel
theorem dX1_setBothAside_95 : decode cX1_setBothAside 95 = .ok (.aload_n 0, 1) := by decide +kernel
theorem dX1_setBothAside_96 : decode cX1_setBothAside 96 = .ok (.getfield 32, 3) := by decide +kernel
theorem dX1_setBothAside_99 : decode cX1_setBothAside 99 = .ok (.aload_n 0, 1) := by decide +kernel
theorem dX1_setBothAside_100 : decode cX1_setBothAside 100 = .ok (.getfield 35, 3) := by decide +kernel
theorem dX1_setBothAside_103 : decode cX1_setBothAside 103 = .ok (.iload 4, 2) := by decide +kernel
theorem dX1_setBothAside_105 : decode cX1_setBothAside 105 = .ok (.invokevirtual 69, 3) := by decide +kernel
theorem dX1_setBothAside_108 : decode cX1_setBothAside 108 = .ok (.return_, 1) := by decide +kernel
theorem dX1_runLengthAt_0 : decode cX1_runLengthAt 0 = .ok (.aload_n 0, 1) := by decide +kernel
theorem dX1_runLengthAt_1 : decode cX1_runLengthAt 1 = .ok (.iload_n 1, 1) := by decide +kernel
theorem dX1_runLengthAt_2 : decode cX1_runLengthAt 2 = .ok (.iload_n 2, 1) := by decide +kernel
theorem dX1_runLengthAt_3 : decode cX1_runLengthAt 3 = .ok (.invokevirtual 105, 3) := by decide +kernel
theorem dX1_runLengthAt_6 : decode cX1_runLengthAt 6 = .ok (.ifCond .eq 16, 3) := by decide +kernel
theorem dX1_runLengthAt_9 : decode cX1_runLengthAt 9 = .ok (.aload_n 0, 1) := by decide +kernel
theorem dX1_runLengthAt_10 : decode cX1_runLengthAt 10 = .ok (.iload_n 1, 1) := by decide +kernel
theorem dX1_runLengthAt_11 : decode cX1_runLengthAt 11 = .ok (.iconst 1, 1) := by decide +kernel
theorem dX1_runLengthAt_12 : decode cX1_runLengthAt 12 = .ok (.isub, 1) := by decide +kernel
theorem dX1_runLengthAt_13 : decode cX1_runLengthAt 13 = .ok (.iload_n 2, 1) := by decide +kernel
theorem dX1_runLengthAt_14 : decode cX1_runLengthAt 14 = .ok (.iconst 1, 1) := by decide +kernel
theorem dX1_runLengthAt_15 : decode cX1_runLengthAt 15 = .ok (.isub, 1) := by decide +kernel
theorem dX1_runLengthAt_16 : decode cX1_runLengthAt 16 = .ok (.invokevirtual 105, 3) := by decide +kernel
theorem dX1_runLengthAt_19 : decode cX1_runLengthAt 19 = .ok (.ifCond .eq 5, 3) := by decide +kernel
theorem dX1_runLengthAt_22 : decode cX1_runLengthAt 22 = .ok (.iconst 0, 1) := by decide +kernel
theorem dX1_runLengthAt_23 : decode cX1_runLengthAt 23 = .ok (.ireturn, 1) := by decide +kernel
theorem dX1_runLengthAt_24 : decode cX1_runLengthAt 24 = .ok (.aload_n 0, 1) := by decide +kernel
theorem dX1_runLengthAt_25 : decode cX1_runLengthAt 25 = .ok (.getfield 28, 3) := by decide +kernel
theorem dX1_runLengthAt_28 : decode cX1_runLengthAt 28 = .ok (.getfield 88, 3) := by decide +kernel
theorem dX1_runLengthAt_31 : decode cX1_runLengthAt 31 = .ok (.iload_n 1, 1) := by decide +kernel
theorem dX1_runLengthAt_32 : decode cX1_runLengthAt 32 = .ok (.isub, 1) := by decide +kernel
theorem dX1_runLengthAt_33 : decode cX1_runLengthAt 33 = .ok (.aload_n 0, 1) := by decide +kernel
theorem dX1_runLengthAt_34 : decode cX1_runLengthAt 34 = .ok (.getfield 32, 3) := by decide +kernel
theorem dX1_runLengthAt_37 : decode cX1_runLengthAt 37 = .ok (.getfield 88, 3) := by decide +kernel
theorem dX1_runLengthAt_40 : decode cX1_runLengthAt 40 = .ok (.iload_n 2, 1) := by decide +kernel
theorem dX1_runLengthAt_41 : decode cX1_runLengthAt 41 = .ok (.isub, 1) := by decide +kernel
theorem dX1_runLengthAt_42 : decode cX1_runLengthAt 42 = .ok (.invokestatic 109, 3) := by decide +kernel
theorem dX1_runLengthAt_45 : decode cX1_runLengthAt 45 = .ok (.istore 4, 2) := by decide +kernel
theorem dX1_runLengthAt_47 : decode cX1_runLengthAt 47 = .ok (.iconst 1, 1) := by decide +kernel
theorem dX1_runLengthAt_48 : decode cX1_runLengthAt 48 = .ok (.istore 5, 2) := by decide +kernel
theorem dX1_runLengthAt_50 : decode cX1_runLengthAt 50 = .ok (.iload 5, 2) := by decide +kernel
theorem dX1_runLengthAt_52 : decode cX1_runLengthAt 52 = .ok (.iload 4, 2) := by decide +kernel
theorem dX1_runLengthAt_54 : decode cX1_runLengthAt 54 = .ok (.if_icmp .ge 24, 3) := by decide +kernel
theorem dX1_runLengthAt_57 : decode cX1_runLengthAt 57 = .ok (.aload_n 0, 1) := by decide +kernel
theorem dX1_runLengthAt_58 : decode cX1_runLengthAt 58 = .ok (.iload_n 1, 1) := by decide +kernel
theorem dX1_runLengthAt_59 : decode cX1_runLengthAt 59 = .ok (.iload 5, 2) := by decide +kernel
theorem dX1_runLengthAt_61 : decode cX1_runLengthAt 61 = .ok (.iadd, 1) := by decide +kernel
theorem dX1_runLengthAt_62 : decode cX1_runLengthAt 62 = .ok (.iload_n 2, 1) := by decide +kernel
theorem dX1_runLengthAt_63 : decode cX1_runLengthAt 63 = .ok (.iload 5, 2) := by decide +kernel
theorem dX1_runLengthAt_65 : decode cX1_runLengthAt 65 = .ok (.iadd, 1) := by decide +kernel
theorem dX1_runLengthAt_66 : decode cX1_runLengthAt 66 = .ok (.invokevirtual 105, 3) := by decide +kernel
theorem dX1_runLengthAt_69 : decode cX1_runLengthAt 69 = .ok (.ifCond .eq 9, 3) := by decide +kernel
theorem dX1_runLengthAt_72 : decode cX1_runLengthAt 72 = .ok (.iinc 5 1, 3) := by decide +kernel
theorem dX1_runLengthAt_75 : decode cX1_runLengthAt 75 = .ok (.goto (-25), 3) := by decide +kernel
theorem dX1_runLengthAt_78 : decode cX1_runLengthAt 78 = .ok (.aload_n 0, 1) := by decide +kernel
theorem dX1_runLengthAt_79 : decode cX1_runLengthAt 79 = .ok (.iload_n 1, 1) := by decide +kernel
theorem dX1_runLengthAt_80 : decode cX1_runLengthAt 80 = .ok (.iload_n 2, 1) := by decide +kernel
theorem dX1_runLengthAt_81 : decode cX1_runLengthAt 81 = .ok (.iload 5, 2) := by decide +kernel
theorem dX1_runLengthAt_83 : decode cX1_runLengthAt 83 = .ok (.iload_n 3, 1) := by decide +kernel
theorem dX1_runLengthAt_84 : decode cX1_runLengthAt 84 = .ok (.isub, 1) := by decide +kernel
theorem dX1_runLengthAt_85 : decode cX1_runLengthAt 85 = .ok (.invokevirtual 115, 3) := by decide +kernel
theorem dX1_runLengthAt_88 : decode cX1_runLengthAt 88 = .ok (.ifCond .eq 8, 3) := by decide +kernel
theorem dX1_runLengthAt_91 : decode cX1_runLengthAt 91 = .ok (.iload 5, 2) := by decide +kernel
theorem dX1_runLengthAt_93 : decode cX1_runLengthAt 93 = .ok (.goto 4, 3) := by decide +kernel
theorem dX1_runLengthAt_96 : decode cX1_runLengthAt 96 = .ok (.iconst 0, 1) := by decide +kernel
theorem dX1_runLengthAt_97 : decode cX1_runLengthAt 97 = .ok (.ireturn, 1) := by decide +kernel
theorem dX1_agree_0 : decode cX1_agree 0 = .ok (.iload_n 1, 1) := by decide +kernel
theorem dX1_agree_1 : decode cX1_agree 1 = .ok (.ifCond .lt 74, 3) := by decide +kernel
theorem dX1_agree_4 : decode cX1_agree 4 = .ok (.iload_n 2, 1) := by decide +kernel
theorem dX1_agree_5 : decode cX1_agree 5 = .ok (.ifCond .lt 70, 3) := by decide +kernel
theorem dX1_agree_8 : decode cX1_agree 8 = .ok (.aload_n 0, 1) := by decide +kernel
theorem dX1_agree_9 : decode cX1_agree 9 = .ok (.getfield 28, 3) := by decide +kernel
theorem dX1_agree_12 : decode cX1_agree 12 = .ok (.getfield 119, 3) := by decide +kernel
theorem dX1_agree_15 : decode cX1_agree 15 = .ok (.iload_n 1, 1) := by decide +kernel
theorem dX1_agree_16 : decode cX1_agree 16 = .ok (.laload, 1) := by decide +kernel
theorem dX1_agree_17 : decode cX1_agree 17 = .ok (.aload_n 0, 1) := by decide +kernel
theorem dX1_agree_18 : decode cX1_agree 18 = .ok (.getfield 32, 3) := by decide +kernel
theorem dX1_agree_21 : decode cX1_agree 21 = .ok (.getfield 119, 3) := by decide +kernel
theorem dX1_agree_24 : decode cX1_agree 24 = .ok (.iload_n 2, 1) := by decide +kernel
theorem dX1_agree_25 : decode cX1_agree 25 = .ok (.laload, 1) := by decide +kernel
theorem dX1_agree_26 : decode cX1_agree 26 = .ok (.lcmp, 1) := by decide +kernel
theorem dX1_agree_27 : decode cX1_agree 27 = .ok (.ifCond .ne 48, 3) := by decide +kernel
theorem dX1_agree_30 : decode cX1_agree 30 = .ok (.aload_n 0, 1) := by decide +kernel
theorem dX1_agree_31 : decode cX1_agree 31 = .ok (.getfield 28, 3) := by decide +kernel
theorem dX1_agree_34 : decode cX1_agree 34 = .ok (.getfield 123, 3) := by decide +kernel
theorem dX1_agree_37 : decode cX1_agree 37 = .ok (.aload_n 0, 1) := by decide +kernel
theorem dX1_agree_38 : decode cX1_agree 38 = .ok (.getfield 32, 3) := by decide +kernel
theorem dX1_agree_41 : decode cX1_agree 41 = .ok (.getfield 123, 3) := by decide +kernel
theorem dX1_agree_44 : decode cX1_agree 44 = .ok (.if_icmp .ne 31, 3) := by decide +kernel
theorem dX1_agree_47 : decode cX1_agree 47 = .ok (.aload_n 0, 1) := by decide +kernel
theorem dX1_agree_48 : decode cX1_agree 48 = .ok (.getfield 28, 3) := by decide +kernel
theorem dX1_agree_51 : decode cX1_agree 51 = .ok (.getfield 126, 3) := by decide +kernel
theorem dX1_agree_54 : decode cX1_agree 54 = .ok (.iload_n 1, 1) := by decide +kernel
theorem dX1_agree_55 : decode cX1_agree 55 = .ok (.baload, 1) := by decide +kernel
theorem dX1_agree_56 : decode cX1_agree 56 = .ok (.ifCond .ne 19, 3) := by decide +kernel
theorem dX1_agree_59 : decode cX1_agree 59 = .ok (.aload_n 0, 1) := by decide +kernel
theorem dX1_agree_60 : decode cX1_agree 60 = .ok (.getfield 32, 3) := by decide +kernel
theorem dX1_agree_63 : decode cX1_agree 63 = .ok (.getfield 126, 3) := by decide +kernel
theorem dX1_agree_66 : decode cX1_agree 66 = .ok (.iload_n 2, 1) := by decide +kernel
theorem dX1_agree_67 : decode cX1_agree 67 = .ok (.baload, 1) := by decide +kernel
theorem dX1_agree_68 : decode cX1_agree 68 = .ok (.ifCond .ne 7, 3) := by decide +kernel
theorem dX1_agree_71 : decode cX1_agree 71 = .ok (.iconst 1, 1) := by decide +kernel
theorem dX1_agree_72 : decode cX1_agree 72 = .ok (.goto 4, 3) := by decide +kernel
theorem dX1_agree_75 : decode cX1_agree 75 = .ok (.iconst 0, 1) := by decide +kernel
theorem dX1_agree_76 : decode cX1_agree 76 = .ok (.ireturn, 1) := by decide +kernel
theorem dX1_sharesMark_0 : decode cX1_sharesMark 0 = .ok (.iconst 0, 1) := by decide +kernel
theorem dX1_sharesMark_1 : decode cX1_sharesMark 1 = .ok (.istore 4, 2) := by decide +kernel
theorem dX1_sharesMark_3 : decode cX1_sharesMark 3 = .ok (.iload 4, 2) := by decide +kernel
theorem dX1_sharesMark_5 : decode cX1_sharesMark 5 = .ok (.iload_n 3, 1) := by decide +kernel
theorem dX1_sharesMark_6 : decode cX1_sharesMark 6 = .ok (.if_icmp .gt 41, 3) := by decide +kernel
theorem dX1_sharesMark_9 : decode cX1_sharesMark 9 = .ok (.aload_n 0, 1) := by decide +kernel
theorem dX1_sharesMark_10 : decode cX1_sharesMark 10 = .ok (.getfield 28, 3) := by decide +kernel
theorem dX1_sharesMark_13 : decode cX1_sharesMark 13 = .ok (.getfield 130, 3) := by decide +kernel
theorem dX1_sharesMark_16 : decode cX1_sharesMark 16 = .ok (.iload_n 1, 1) := by decide +kernel
theorem dX1_sharesMark_17 : decode cX1_sharesMark 17 = .ok (.iload 4, 2) := by decide +kernel
theorem dX1_sharesMark_19 : decode cX1_sharesMark 19 = .ok (.iadd, 1) := by decide +kernel
theorem dX1_sharesMark_20 : decode cX1_sharesMark 20 = .ok (.baload, 1) := by decide +kernel
theorem dX1_sharesMark_21 : decode cX1_sharesMark 21 = .ok (.ifCond .eq 20, 3) := by decide +kernel
theorem dX1_sharesMark_24 : decode cX1_sharesMark 24 = .ok (.aload_n 0, 1) := by decide +kernel
theorem dX1_sharesMark_25 : decode cX1_sharesMark 25 = .ok (.getfield 32, 3) := by decide +kernel
theorem dX1_sharesMark_28 : decode cX1_sharesMark 28 = .ok (.getfield 130, 3) := by decide +kernel
theorem dX1_sharesMark_31 : decode cX1_sharesMark 31 = .ok (.iload_n 2, 1) := by decide +kernel
theorem dX1_sharesMark_32 : decode cX1_sharesMark 32 = .ok (.iload 4, 2) := by decide +kernel
theorem dX1_sharesMark_34 : decode cX1_sharesMark 34 = .ok (.iadd, 1) := by decide +kernel
theorem dX1_sharesMark_35 : decode cX1_sharesMark 35 = .ok (.baload, 1) := by decide +kernel
theorem dX1_sharesMark_36 : decode cX1_sharesMark 36 = .ok (.ifCond .eq 5, 3) := by decide +kernel
theorem dX1_sharesMark_39 : decode cX1_sharesMark 39 = .ok (.iconst 1, 1) := by decide +kernel
theorem dX1_sharesMark_40 : decode cX1_sharesMark 40 = .ok (.ireturn, 1) := by decide +kernel
theorem dX1_sharesMark_41 : decode cX1_sharesMark 41 = .ok (.iinc 4 1, 3) := by decide +kernel
theorem dX1_sharesMark_44 : decode cX1_sharesMark 44 = .ok (.goto (-41), 3) := by decide +kernel
theorem dX1_sharesMark_47 : decode cX1_sharesMark 47 = .ok (.iconst 0, 1) := by decide +kernel
theorem dX1_sharesMark_48 : decode cX1_sharesMark 48 = .ok (.ireturn, 1) := by decide +kernel
theorem dX1_findBest_0 : decode cX1_findBest 0 = .ok (.aload_n 0, 1) := by decide +kernel
theorem dX1_findBest_1 : decode cX1_findBest 1 = .ok (.getfield 28, 3) := by decide +kernel
theorem dX1_findBest_4 : decode cX1_findBest 4 = .ok (.getfield 88, 3) := by decide +kernel
theorem dX1_findBest_7 : decode cX1_findBest 7 = .ok (.istore_n 2, 1) := by decide +kernel
theorem dX1_findBest_8 : decode cX1_findBest 8 = .ok (.iload_n 2, 1) := by decide +kernel
theorem dX1_findBest_9 : decode cX1_findBest 9 = .ok (.ifCond .lt 71, 3) := by decide +kernel
theorem dX1_findBest_12 : decode cX1_findBest 12 = .ok (.aload_n 0, 1) := by decide +kernel
theorem dX1_findBest_13 : decode cX1_findBest 13 = .ok (.getfield 32, 3) := by decide +kernel
theorem dX1_findBest_16 : decode cX1_findBest 16 = .ok (.getfield 88, 3) := by decide +kernel
theorem dX1_findBest_19 : decode cX1_findBest 19 = .ok (.istore_n 3, 1) := by decide +kernel
theorem dX1_findBest_20 : decode cX1_findBest 20 = .ok (.iload_n 3, 1) := by decide +kernel
theorem dX1_findBest_21 : decode cX1_findBest 21 = .ok (.ifCond .lt 53, 3) := by decide +kernel
theorem dX1_findBest_24 : decode cX1_findBest 24 = .ok (.aload_n 0, 1) := by decide +kernel
theorem dX1_findBest_25 : decode cX1_findBest 25 = .ok (.getfield 41, 3) := by decide +kernel
theorem dX1_findBest_28 : decode cX1_findBest 28 = .ok (.iload_n 2, 1) := by decide +kernel
theorem dX1_findBest_29 : decode cX1_findBest 29 = .ok (.bipush 41, 2) := by decide +kernel
theorem dX1_findBest_31 : decode cX1_findBest 31 = .ok (.imul, 1) := by decide +kernel
theorem dX1_findBest_32 : decode cX1_findBest 32 = .ok (.iload_n 3, 1) := by decide +kernel
theorem dX1_findBest_33 : decode cX1_findBest 33 = .ok (.iadd, 1) := by decide +kernel
theorem dX1_findBest_34 : decode cX1_findBest 34 = .ok (.iload_n 2, 1) := by decide +kernel
theorem dX1_findBest_35 : decode cX1_findBest 35 = .ok (.aload_n 0, 1) := by decide +kernel
theorem dX1_findBest_36 : decode cX1_findBest 36 = .ok (.getfield 28, 3) := by decide +kernel
theorem dX1_findBest_39 : decode cX1_findBest 39 = .ok (.getfield 88, 3) := by decide +kernel
theorem dX1_findBest_42 : decode cX1_findBest 42 = .ok (.if_icmp .ge 24, 3) := by decide +kernel
theorem dX1_findBest_45 : decode cX1_findBest 45 = .ok (.iload_n 3, 1) := by decide +kernel
theorem dX1_findBest_46 : decode cX1_findBest 46 = .ok (.aload_n 0, 1) := by decide +kernel
theorem dX1_findBest_47 : decode cX1_findBest 47 = .ok (.getfield 32, 3) := by decide +kernel
theorem dX1_findBest_50 : decode cX1_findBest 50 = .ok (.getfield 88, 3) := by decide +kernel
theorem dX1_findBest_53 : decode cX1_findBest 53 = .ok (.if_icmp .ge 13, 3) := by decide +kernel
theorem dX1_findBest_56 : decode cX1_findBest 56 = .ok (.aload_n 0, 1) := by decide +kernel
theorem dX1_findBest_57 : decode cX1_findBest 57 = .ok (.iload_n 2, 1) := by decide +kernel
theorem dX1_findBest_58 : decode cX1_findBest 58 = .ok (.iload_n 3, 1) := by decide +kernel
theorem dX1_findBest_59 : decode cX1_findBest 59 = .ok (.iload_n 1, 1) := by decide +kernel
theorem dX1_findBest_60 : decode cX1_findBest 60 = .ok (.invokevirtual 133, 3) := by decide +kernel
theorem dX1_findBest_63 : decode cX1_findBest 63 = .ok (.goto 4, 3) := by decide +kernel
theorem dX1_findBest_66 : decode cX1_findBest 66 = .ok (.iconst 0, 1) := by decide +kernel
theorem dX1_findBest_67 : decode cX1_findBest 67 = .ok (.iastore, 1) := by decide +kernel
theorem dX1_findBest_68 : decode cX1_findBest 68 = .ok (.iinc 3 (-1), 3) := by decide +kernel
theorem dX1_findBest_71 : decode cX1_findBest 71 = .ok (.goto (-51), 3) := by decide +kernel
theorem dX1_findBest_74 : decode cX1_findBest 74 = .ok (.iinc 2 (-1), 3) := by decide +kernel
theorem dX1_findBest_77 : decode cX1_findBest 77 = .ok (.goto (-69), 3) := by decide +kernel
theorem dX1_findBest_80 : decode cX1_findBest 80 = .ok (.return_, 1) := by decide +kernel
theorem dX1_bestFrom_0 : decode cX1_bestFrom 0 = .ok (.aload_n 0, 1) := by decide +kernel
theorem dX1_bestFrom_1 : decode cX1_bestFrom 1 = .ok (.getfield 41, 3) := by decide +kernel
theorem dX1_bestFrom_4 : decode cX1_bestFrom 4 = .ok (.iload_n 1, 1) := by decide +kernel
theorem dX1_bestFrom_5 : decode cX1_bestFrom 5 = .ok (.iconst 1, 1) := by decide +kernel
theorem dX1_bestFrom_6 : decode cX1_bestFrom 6 = .ok (.iadd, 1) := by decide +kernel
theorem dX1_bestFrom_7 : decode cX1_bestFrom 7 = .ok (.bipush 41, 2) := by decide +kernel
theorem dX1_bestFrom_9 : decode cX1_bestFrom 9 = .ok (.imul, 1) := by decide +kernel
theorem dX1_bestFrom_10 : decode cX1_bestFrom 10 = .ok (.iload_n 2, 1) := by decide +kernel
theorem dX1_bestFrom_11 : decode cX1_bestFrom 11 = .ok (.iadd, 1) := by decide +kernel
theorem dX1_bestFrom_12 : decode cX1_bestFrom 12 = .ok (.iaload, 1) := by decide +kernel
theorem dX1_bestFrom_13 : decode cX1_bestFrom 13 = .ok (.aload_n 0, 1) := by decide +kernel
theorem dX1_bestFrom_14 : decode cX1_bestFrom 14 = .ok (.getfield 41, 3) := by decide +kernel
theorem dX1_bestFrom_17 : decode cX1_bestFrom 17 = .ok (.iload_n 1, 1) := by decide +kernel
theorem dX1_bestFrom_18 : decode cX1_bestFrom 18 = .ok (.bipush 41, 2) := by decide +kernel
theorem dX1_bestFrom_20 : decode cX1_bestFrom 20 = .ok (.imul, 1) := by decide +kernel
theorem dX1_bestFrom_21 : decode cX1_bestFrom 21 = .ok (.iload_n 2, 1) := by decide +kernel
theorem dX1_bestFrom_22 : decode cX1_bestFrom 22 = .ok (.iadd, 1) := by decide +kernel
theorem dX1_bestFrom_23 : decode cX1_bestFrom 23 = .ok (.iconst 1, 1) := by decide +kernel
theorem dX1_bestFrom_24 : decode cX1_bestFrom 24 = .ok (.iadd, 1) := by decide +kernel
theorem dX1_bestFrom_25 : decode cX1_bestFrom 25 = .ok (.iaload, 1) := by decide +kernel
theorem dX1_bestFrom_26 : decode cX1_bestFrom 26 = .ok (.invokestatic 136, 3) := by decide +kernel
theorem dX1_bestFrom_29 : decode cX1_bestFrom 29 = .ok (.istore 4, 2) := by decide +kernel
theorem dX1_bestFrom_31 : decode cX1_bestFrom 31 = .ok (.aload_n 0, 1) := by decide +kernel
theorem dX1_bestFrom_32 : decode cX1_bestFrom 32 = .ok (.getfield 38, 3) := by decide +kernel
theorem dX1_bestFrom_35 : decode cX1_bestFrom 35 = .ok (.iload_n 1, 1) := by decide +kernel
theorem dX1_bestFrom_36 : decode cX1_bestFrom 36 = .ok (.bipush 41, 2) := by decide +kernel
theorem dX1_bestFrom_38 : decode cX1_bestFrom 38 = .ok (.imul, 1) := by decide +kernel
theorem dX1_bestFrom_39 : decode cX1_bestFrom 39 = .ok (.iload_n 2, 1) := by decide +kernel
theorem dX1_bestFrom_40 : decode cX1_bestFrom 40 = .ok (.iadd, 1) := by decide +kernel
theorem dX1_bestFrom_41 : decode cX1_bestFrom 41 = .ok (.iaload, 1) := by decide +kernel
theorem dX1_bestFrom_42 : decode cX1_bestFrom 42 = .ok (.istore 5, 2) := by decide +kernel
theorem dX1_bestFrom_44 : decode cX1_bestFrom 44 = .ok (.iload 5, 2) := by decide +kernel
theorem dX1_bestFrom_46 : decode cX1_bestFrom 46 = .ok (.ifCond .le 20, 3) := by decide +kernel
theorem dX1_bestFrom_49 : decode cX1_bestFrom 49 = .ok (.iload 4, 2) := by decide +kernel
theorem dX1_bestFrom_51 : decode cX1_bestFrom 51 = .ok (.aload_n 0, 1) := by decide +kernel
theorem dX1_bestFrom_52 : decode cX1_bestFrom 52 = .ok (.iload_n 1, 1) := by decide +kernel
theorem dX1_bestFrom_53 : decode cX1_bestFrom 53 = .ok (.iload_n 2, 1) := by decide +kernel
theorem dX1_bestFrom_54 : decode cX1_bestFrom 54 = .ok (.iload 5, 2) := by decide +kernel
theorem dX1_bestFrom_56 : decode cX1_bestFrom 56 = .ok (.iload_n 3, 1) := by decide +kernel
theorem dX1_bestFrom_57 : decode cX1_bestFrom 57 = .ok (.invokevirtual 139, 3) := by decide +kernel
theorem dX1_bestFrom_60 : decode cX1_bestFrom 60 = .ok (.invokestatic 136, 3) := by decide +kernel
theorem dX1_bestFrom_63 : decode cX1_bestFrom 63 = .ok (.goto 5, 3) := by decide +kernel
theorem dX1_bestFrom_66 : decode cX1_bestFrom 66 = .ok (.iload 4, 2) := by decide +kernel
theorem dX1_bestFrom_68 : decode cX1_bestFrom 68 = .ok (.ireturn, 1) := by decide +kernel
theorem dX1_bestWithRun_0 : decode cX1_bestWithRun 0 = .ok (.iload_n 3, 1) := by decide +kernel
theorem dX1_bestWithRun_1 : decode cX1_bestWithRun 1 = .ok (.iconst 0, 1) := by decide +kernel
theorem dX1_bestWithRun_2 : decode cX1_bestWithRun 2 = .ok (.aload_n 0, 1) := by decide +kernel
theorem dX1_bestWithRun_3 : decode cX1_bestWithRun 3 = .ok (.getfield 41, 3) := by decide +kernel
theorem dX1_bestWithRun_6 : decode cX1_bestWithRun 6 = .ok (.iload_n 1, 1) := by decide +kernel
theorem dX1_bestWithRun_7 : decode cX1_bestWithRun 7 = .ok (.iload_n 3, 1) := by decide +kernel
theorem dX1_bestWithRun_8 : decode cX1_bestWithRun 8 = .ok (.iadd, 1) := by decide +kernel
theorem dX1_bestWithRun_9 : decode cX1_bestWithRun 9 = .ok (.bipush 41, 2) := by decide +kernel
theorem dX1_bestWithRun_11 : decode cX1_bestWithRun 11 = .ok (.imul, 1) := by decide +kernel
theorem dX1_bestWithRun_12 : decode cX1_bestWithRun 12 = .ok (.iload_n 2, 1) := by decide +kernel
theorem dX1_bestWithRun_13 : decode cX1_bestWithRun 13 = .ok (.iadd, 1) := by decide +kernel
theorem dX1_bestWithRun_14 : decode cX1_bestWithRun 14 = .ok (.iload_n 3, 1) := by decide +kernel
theorem dX1_bestWithRun_15 : decode cX1_bestWithRun 15 = .ok (.iadd, 1) := by decide +kernel
theorem dX1_bestWithRun_16 : decode cX1_bestWithRun 16 = .ok (.iaload, 1) := by decide +kernel
theorem dX1_bestWithRun_17 : decode cX1_bestWithRun 17 = .ok (.iload 4, 2) := by decide +kernel
theorem dX1_bestWithRun_19 : decode cX1_bestWithRun 19 = .ok (.isub, 1) := by decide +kernel
theorem dX1_bestWithRun_20 : decode cX1_bestWithRun 20 = .ok (.invokestatic 136, 3) := by decide +kernel
theorem dX1_bestWithRun_23 : decode cX1_bestWithRun 23 = .ok (.iadd, 1) := by decide +kernel
theorem dX1_bestWithRun_24 : decode cX1_bestWithRun 24 = .ok (.ireturn, 1) := by decide +kernel
theorem dX1_partOfRun_0 : decode cX1_partOfRun 0 = .ok (.iconst 0, 1) := by decide +kernel
theorem dX1_partOfRun_1 : decode cX1_partOfRun 1 = .ok (.istore_n 3, 1) := by decide +kernel
theorem dX1_partOfRun_2 : decode cX1_partOfRun 2 = .ok (.iconst 0, 1) := by decide +kernel
theorem dX1_partOfRun_3 : decode cX1_partOfRun 3 = .ok (.istore 4, 2) := by decide +kernel
theorem dX1_partOfRun_5 : decode cX1_partOfRun 5 = .ok (.iload 4, 2) := by decide +kernel
theorem dX1_partOfRun_7 : decode cX1_partOfRun 7 = .ok (.aload_n 0, 1) := by decide +kernel
theorem dX1_partOfRun_8 : decode cX1_partOfRun 8 = .ok (.getfield 28, 3) := by decide +kernel
theorem dX1_partOfRun_11 : decode cX1_partOfRun 11 = .ok (.getfield 88, 3) := by decide +kernel
theorem dX1_partOfRun_14 : decode cX1_partOfRun 14 = .ok (.if_icmp .ge 80, 3) := by decide +kernel
theorem dX1_partOfRun_17 : decode cX1_partOfRun 17 = .ok (.iconst 0, 1) := by decide +kernel
theorem dX1_partOfRun_18 : decode cX1_partOfRun 18 = .ok (.istore 5, 2) := by decide +kernel
theorem dX1_partOfRun_20 : decode cX1_partOfRun 20 = .ok (.iload 5, 2) := by decide +kernel
theorem dX1_partOfRun_22 : decode cX1_partOfRun 22 = .ok (.aload_n 0, 1) := by decide +kernel
theorem dX1_partOfRun_23 : decode cX1_partOfRun 23 = .ok (.getfield 32, 3) := by decide +kernel
theorem dX1_partOfRun_26 : decode cX1_partOfRun 26 = .ok (.getfield 88, 3) := by decide +kernel
theorem dX1_partOfRun_29 : decode cX1_partOfRun 29 = .ok (.if_icmp .ge 59, 3) := by decide +kernel
theorem dX1_partOfRun_32 : decode cX1_partOfRun 32 = .ok (.aload_n 0, 1) := by decide +kernel
theorem dX1_partOfRun_33 : decode cX1_partOfRun 33 = .ok (.getfield 38, 3) := by decide +kernel
theorem dX1_partOfRun_36 : decode cX1_partOfRun 36 = .ok (.iload 4, 2) := by decide +kernel
theorem dX1_partOfRun_38 : decode cX1_partOfRun 38 = .ok (.bipush 41, 2) := by decide +kernel
theorem dX1_partOfRun_40 : decode cX1_partOfRun 40 = .ok (.imul, 1) := by decide +kernel
theorem dX1_partOfRun_41 : decode cX1_partOfRun 41 = .ok (.iload 5, 2) := by decide +kernel
theorem dX1_partOfRun_43 : decode cX1_partOfRun 43 = .ok (.iadd, 1) := by decide +kernel
theorem dX1_partOfRun_44 : decode cX1_partOfRun 44 = .ok (.iaload, 1) := by decide +kernel
theorem dX1_partOfRun_45 : decode cX1_partOfRun 45 = .ok (.istore 6, 2) := by decide +kernel
theorem dX1_partOfRun_47 : decode cX1_partOfRun 47 = .ok (.iload 6, 2) := by decide +kernel
theorem dX1_partOfRun_49 : decode cX1_partOfRun 49 = .ok (.ifCond .le 33, 3) := by decide +kernel
theorem dX1_partOfRun_52 : decode cX1_partOfRun 52 = .ok (.iload_n 3, 1) := by decide +kernel
theorem dX1_partOfRun_53 : decode cX1_partOfRun 53 = .ok (.iload_n 1, 1) := by decide +kernel
theorem dX1_partOfRun_54 : decode cX1_partOfRun 54 = .ok (.if_icmp .ne 25, 3) := by decide +kernel
theorem dX1_partOfRun_57 : decode cX1_partOfRun 57 = .ok (.iload_n 2, 1) := by decide +kernel
theorem dX1_partOfRun_58 : decode cX1_partOfRun 58 = .ok (.ifCond .ne 8, 3) := by decide +kernel
theorem dX1_partOfRun_61 : decode cX1_partOfRun 61 = .ok (.iload 4, 2) := by decide +kernel
theorem dX1_partOfRun_63 : decode cX1_partOfRun 63 = .ok (.goto 15, 3) := by decide +kernel
theorem dX1_partOfRun_66 : decode cX1_partOfRun 66 = .ok (.iload_n 2, 1) := by decide +kernel
theorem dX1_partOfRun_67 : decode cX1_partOfRun 67 = .ok (.iconst 1, 1) := by decide +kernel
theorem dX1_partOfRun_68 : decode cX1_partOfRun 68 = .ok (.if_icmp .ne 8, 3) := by decide +kernel
theorem dX1_partOfRun_71 : decode cX1_partOfRun 71 = .ok (.iload 5, 2) := by decide +kernel
theorem dX1_partOfRun_73 : decode cX1_partOfRun 73 = .ok (.goto 5, 3) := by decide +kernel
theorem dX1_partOfRun_76 : decode cX1_partOfRun 76 = .ok (.iload 6, 2) := by decide +kernel
theorem dX1_partOfRun_78 : decode cX1_partOfRun 78 = .ok (.ireturn, 1) := by decide +kernel
theorem dX1_partOfRun_79 : decode cX1_partOfRun 79 = .ok (.iinc 3 1, 3) := by decide +kernel
theorem dX1_partOfRun_82 : decode cX1_partOfRun 82 = .ok (.iinc 5 1, 3) := by decide +kernel
theorem dX1_partOfRun_85 : decode cX1_partOfRun 85 = .ok (.goto (-65), 3) := by decide +kernel
theorem dX1_partOfRun_88 : decode cX1_partOfRun 88 = .ok (.iinc 4 1, 3) := by decide +kernel
theorem dX1_partOfRun_91 : decode cX1_partOfRun 91 = .ok (.goto (-86), 3) := by decide +kernel
theorem dX1_partOfRun_94 : decode cX1_partOfRun 94 = .ok (.iconst (-1), 1) := by decide +kernel
theorem dX1_partOfRun_95 : decode cX1_partOfRun 95 = .ok (.ireturn, 1) := by decide +kernel
theorem dX1_traceChain_0 : decode cX1_traceChain 0 = .ok (.aload_n 0, 1) := by decide +kernel
theorem dX1_traceChain_1 : decode cX1_traceChain 1 = .ok (.aload_n 1, 1) := by decide +kernel
theorem dX1_traceChain_2 : decode cX1_traceChain 2 = .ok (.iload_n 2, 1) := by decide +kernel
theorem dX1_traceChain_3 : decode cX1_traceChain 3 = .ok (.iload_n 3, 1) := by decide +kernel
theorem dX1_traceChain_4 : decode cX1_traceChain 4 = .ok (.iconst 0, 1) := by decide +kernel
theorem dX1_traceChain_5 : decode cX1_traceChain 5 = .ok (.invokevirtual 143, 3) := by decide +kernel
theorem dX1_traceChain_8 : decode cX1_traceChain 8 = .ok (.istore 4, 2) := by decide +kernel
theorem dX1_traceChain_10 : decode cX1_traceChain 10 = .ok (.iconst 0, 1) := by decide +kernel
theorem dX1_traceChain_11 : decode cX1_traceChain 11 = .ok (.istore 5, 2) := by decide +kernel
theorem dX1_traceChain_13 : decode cX1_traceChain 13 = .ok (.iconst 0, 1) := by decide +kernel
theorem dX1_traceChain_14 : decode cX1_traceChain 14 = .ok (.istore 6, 2) := by decide +kernel
theorem dX1_traceChain_16 : decode cX1_traceChain 16 = .ok (.iconst 0, 1) := by decide +kernel
theorem dX1_traceChain_17 : decode cX1_traceChain 17 = .ok (.istore 7, 2) := by decide +kernel
theorem dX1_traceChain_19 : decode cX1_traceChain 19 = .ok (.aload_n 0, 1) := by decide +kernel
theorem dX1_traceChain_20 : decode cX1_traceChain 20 = .ok (.iconst 0, 1) := by decide +kernel
theorem dX1_traceChain_21 : decode cX1_traceChain 21 = .ok (.putfield 15, 3) := by decide +kernel
theorem dX1_traceChain_24 : decode cX1_traceChain 24 = .ok (.aload_n 0, 1) := by decide +kernel
theorem dX1_traceChain_25 : decode cX1_traceChain 25 = .ok (.iconst 0, 1) := by decide +kernel
theorem dX1_traceChain_26 : decode cX1_traceChain 26 = .ok (.putfield 19, 3) := by decide +kernel
theorem dX1_traceChain_29 : decode cX1_traceChain 29 = .ok (.iconst 0, 1) := by decide +kernel
theorem dX1_traceChain_30 : decode cX1_traceChain 30 = .ok (.istore 8, 2) := by decide +kernel
theorem dX1_traceChain_32 : decode cX1_traceChain 32 = .ok (.iload 8, 2) := by decide +kernel
theorem dX1_traceChain_34 : decode cX1_traceChain 34 = .ok (.aload_n 0, 1) := by decide +kernel
theorem dX1_traceChain_35 : decode cX1_traceChain 35 = .ok (.getfield 28, 3) := by decide +kernel
theorem dX1_traceChain_38 : decode cX1_traceChain 38 = .ok (.getfield 88, 3) := by decide +kernel
theorem dX1_traceChain_41 : decode cX1_traceChain 41 = .ok (.if_icmp .ge 148, 3) := by decide +kernel
theorem dX1_traceChain_44 : decode cX1_traceChain 44 = .ok (.iconst 0, 1) := by decide +kernel
theorem dX1_traceChain_45 : decode cX1_traceChain 45 = .ok (.istore 9, 2) := by decide +kernel
theorem dX1_traceChain_47 : decode cX1_traceChain 47 = .ok (.iload 9, 2) := by decide +kernel
theorem dX1_traceChain_49 : decode cX1_traceChain 49 = .ok (.aload_n 0, 1) := by decide +kernel
theorem dX1_traceChain_50 : decode cX1_traceChain 50 = .ok (.getfield 32, 3) := by decide +kernel
theorem dX1_traceChain_53 : decode cX1_traceChain 53 = .ok (.getfield 88, 3) := by decide +kernel
theorem dX1_traceChain_56 : decode cX1_traceChain 56 = .ok (.if_icmp .ge 127, 3) := by decide +kernel
theorem dX1_traceChain_59 : decode cX1_traceChain 59 = .ok (.aload_n 0, 1) := by decide +kernel
theorem dX1_traceChain_60 : decode cX1_traceChain 60 = .ok (.getfield 38, 3) := by decide +kernel
theorem dX1_traceChain_63 : decode cX1_traceChain 63 = .ok (.iload 8, 2) := by decide +kernel
theorem dX1_traceChain_65 : decode cX1_traceChain 65 = .ok (.bipush 41, 2) := by decide +kernel
theorem dX1_traceChain_67 : decode cX1_traceChain 67 = .ok (.imul, 1) := by decide +kernel
theorem dX1_traceChain_68 : decode cX1_traceChain 68 = .ok (.iload 9, 2) := by decide +kernel
theorem dX1_traceChain_70 : decode cX1_traceChain 70 = .ok (.iadd, 1) := by decide +kernel
theorem dX1_traceChain_71 : decode cX1_traceChain 71 = .ok (.iaload, 1) := by decide +kernel
theorem dX1_traceChain_72 : decode cX1_traceChain 72 = .ok (.istore 10, 2) := by decide +kernel
theorem dX1_traceChain_74 : decode cX1_traceChain 74 = .ok (.iload 10, 2) := by decide +kernel
theorem dX1_traceChain_76 : decode cX1_traceChain 76 = .ok (.ifCond .ne 6, 3) := by decide +kernel
theorem dX1_traceChain_79 : decode cX1_traceChain 79 = .ok (.goto 98, 3) := by decide +kernel
theorem dX1_traceChain_82 : decode cX1_traceChain 82 = .ok (.iload 4, 2) := by decide +kernel
theorem dX1_traceChain_84 : decode cX1_traceChain 84 = .ok (.ifCond .le 90, 3) := by decide +kernel
theorem dX1_traceChain_87 : decode cX1_traceChain 87 = .ok (.iload 8, 2) := by decide +kernel
theorem dX1_traceChain_89 : decode cX1_traceChain 89 = .ok (.iload 5, 2) := by decide +kernel
theorem dX1_traceChain_91 : decode cX1_traceChain 91 = .ok (.if_icmp .lt 83, 3) := by decide +kernel
theorem dX1_traceChain_94 : decode cX1_traceChain 94 = .ok (.iload 9, 2) := by decide +kernel
theorem dX1_traceChain_96 : decode cX1_traceChain 96 = .ok (.iload 6, 2) := by decide +kernel
theorem dX1_traceChain_98 : decode cX1_traceChain 98 = .ok (.if_icmp .lt 76, 3) := by decide +kernel
theorem dX1_traceChain_101 : decode cX1_traceChain 101 = .ok (.aload_n 0, 1) := by decide +kernel
theorem dX1_traceChain_102 : decode cX1_traceChain 102 = .ok (.iload 8, 2) := by decide +kernel
theorem dX1_traceChain_104 : decode cX1_traceChain 104 = .ok (.iload 9, 2) := by decide +kernel
theorem dX1_traceChain_106 : decode cX1_traceChain 106 = .ok (.iload 10, 2) := by decide +kernel
theorem dX1_traceChain_108 : decode cX1_traceChain 108 = .ok (.aload_n 1, 1) := by decide +kernel
theorem dX1_traceChain_109 : decode cX1_traceChain 109 = .ok (.getfield 77, 3) := by decide +kernel
theorem dX1_traceChain_112 : decode cX1_traceChain 112 = .ok (.invokevirtual 139, 3) := by decide +kernel
theorem dX1_traceChain_115 : decode cX1_traceChain 115 = .ok (.iload 4, 2) := by decide +kernel
theorem dX1_traceChain_117 : decode cX1_traceChain 117 = .ok (.if_icmp .ne 57, 3) := by decide +kernel
theorem dX1_traceChain_120 : decode cX1_traceChain 120 = .ok (.aload_n 0, 1) := by decide +kernel
theorem dX1_traceChain_121 : decode cX1_traceChain 121 = .ok (.iload 7, 2) := by decide +kernel
theorem dX1_traceChain_123 : decode cX1_traceChain 123 = .ok (.iload 10, 2) := by decide +kernel
theorem dX1_traceChain_125 : decode cX1_traceChain 125 = .ok (.invokevirtual 147, 3) := by decide +kernel
theorem dX1_traceChain_128 : decode cX1_traceChain 128 = .ok (.iload 8, 2) := by decide +kernel
theorem dX1_traceChain_130 : decode cX1_traceChain 130 = .ok (.iload 10, 2) := by decide +kernel
theorem dX1_traceChain_132 : decode cX1_traceChain 132 = .ok (.iadd, 1) := by decide +kernel
theorem dX1_traceChain_133 : decode cX1_traceChain 133 = .ok (.istore 5, 2) := by decide +kernel
theorem dX1_traceChain_135 : decode cX1_traceChain 135 = .ok (.iload 9, 2) := by decide +kernel
theorem dX1_traceChain_137 : decode cX1_traceChain 137 = .ok (.iload 10, 2) := by decide +kernel
theorem dX1_traceChain_139 : decode cX1_traceChain 139 = .ok (.iadd, 1) := by decide +kernel
theorem dX1_traceChain_140 : decode cX1_traceChain 140 = .ok (.istore 6, 2) := by decide +kernel
theorem dX1_traceChain_142 : decode cX1_traceChain 142 = .ok (.aload_n 0, 1) := by decide +kernel
theorem dX1_traceChain_143 : decode cX1_traceChain 143 = .ok (.getfield 41, 3) := by decide +kernel
theorem dX1_traceChain_146 : decode cX1_traceChain 146 = .ok (.iload 5, 2) := by decide +kernel
theorem dX1_traceChain_148 : decode cX1_traceChain 148 = .ok (.bipush 41, 2) := by decide +kernel
theorem dX1_traceChain_150 : decode cX1_traceChain 150 = .ok (.imul, 1) := by decide +kernel
theorem dX1_traceChain_151 : decode cX1_traceChain 151 = .ok (.iload 6, 2) := by decide +kernel
theorem dX1_traceChain_153 : decode cX1_traceChain 153 = .ok (.iadd, 1) := by decide +kernel
theorem dX1_traceChain_154 : decode cX1_traceChain 154 = .ok (.iaload, 1) := by decide +kernel
theorem dX1_traceChain_155 : decode cX1_traceChain 155 = .ok (.istore 11, 2) := by decide +kernel
theorem dX1_traceChain_157 : decode cX1_traceChain 157 = .ok (.iload 11, 2) := by decide +kernel
theorem dX1_traceChain_159 : decode cX1_traceChain 159 = .ok (.aload_n 1, 1) := by decide +kernel
theorem dX1_traceChain_160 : decode cX1_traceChain 160 = .ok (.getfield 77, 3) := by decide +kernel
theorem dX1_traceChain_163 : decode cX1_traceChain 163 = .ok (.if_icmp .lt 8, 3) := by decide +kernel
theorem dX1_traceChain_166 : decode cX1_traceChain 166 = .ok (.iload 11, 2) := by decide +kernel
theorem dX1_traceChain_168 : decode cX1_traceChain 168 = .ok (.goto 4, 3) := by decide +kernel
theorem dX1_traceChain_171 : decode cX1_traceChain 171 = .ok (.iconst 0, 1) := by decide +kernel
theorem dX1_traceChain_172 : decode cX1_traceChain 172 = .ok (.istore 4, 2) := by decide +kernel
theorem dX1_traceChain_174 : decode cX1_traceChain 174 = .ok (.iinc 7 1, 3) := by decide +kernel
theorem dX1_traceChain_177 : decode cX1_traceChain 177 = .ok (.iinc 9 1, 3) := by decide +kernel
theorem dX1_traceChain_180 : decode cX1_traceChain 180 = .ok (.goto (-133), 3) := by decide +kernel
theorem dX1_traceChain_183 : decode cX1_traceChain 183 = .ok (.iinc 8 1, 3) := by decide +kernel
theorem dX1_traceChain_186 : decode cX1_traceChain 186 = .ok (.goto (-154), 3) := by decide +kernel
theorem dX1_traceChain_189 : decode cX1_traceChain 189 = .ok (.return_, 1) := by decide +kernel
theorem dX1_addToChain_0 : decode cX1_addToChain 0 = .ok (.aload_n 0, 1) := by decide +kernel
theorem dX1_addToChain_1 : decode cX1_addToChain 1 = .ok (.getfield 15, 3) := by decide +kernel
theorem dX1_addToChain_4 : decode cX1_addToChain 4 = .ok (.bipush 40, 2) := by decide +kernel
theorem dX1_addToChain_6 : decode cX1_addToChain 6 = .ok (.if_icmp .ge 33, 3) := by decide +kernel
theorem dX1_addToChain_9 : decode cX1_addToChain 9 = .ok (.aload_n 0, 1) := by decide +kernel
theorem dX1_addToChain_10 : decode cX1_addToChain 10 = .ok (.getfield 9, 3) := by decide +kernel
theorem dX1_addToChain_13 : decode cX1_addToChain 13 = .ok (.aload_n 0, 1) := by decide +kernel
theorem dX1_addToChain_14 : decode cX1_addToChain 14 = .ok (.getfield 15, 3) := by decide +kernel
theorem dX1_addToChain_17 : decode cX1_addToChain 17 = .ok (.iload_n 1, 1) := by decide +kernel
theorem dX1_addToChain_18 : decode cX1_addToChain 18 = .ok (.iastore, 1) := by decide +kernel
theorem dX1_addToChain_19 : decode cX1_addToChain 19 = .ok (.aload_n 0, 1) := by decide +kernel
theorem dX1_addToChain_20 : decode cX1_addToChain 20 = .ok (.dup, 1) := by decide +kernel
theorem dX1_addToChain_21 : decode cX1_addToChain 21 = .ok (.getfield 15, 3) := by decide +kernel
theorem dX1_addToChain_24 : decode cX1_addToChain 24 = .ok (.iconst 1, 1) := by decide +kernel
theorem dX1_addToChain_25 : decode cX1_addToChain 25 = .ok (.iadd, 1) := by decide +kernel
theorem dX1_addToChain_26 : decode cX1_addToChain 26 = .ok (.putfield 15, 3) := by decide +kernel
theorem dX1_addToChain_29 : decode cX1_addToChain 29 = .ok (.aload_n 0, 1) := by decide +kernel
theorem dX1_addToChain_30 : decode cX1_addToChain 30 = .ok (.dup, 1) := by decide +kernel
theorem dX1_addToChain_31 : decode cX1_addToChain 31 = .ok (.getfield 19, 3) := by decide +kernel
theorem dX1_addToChain_34 : decode cX1_addToChain 34 = .ok (.iload_n 2, 1) := by decide +kernel
theorem dX1_addToChain_35 : decode cX1_addToChain 35 = .ok (.iadd, 1) := by decide +kernel
theorem dX1_addToChain_36 : decode cX1_addToChain 36 = .ok (.putfield 19, 3) := by decide +kernel
theorem dX1_addToChain_39 : decode cX1_addToChain 39 = .ok (.return_, 1) := by decide +kernel
theorem dX2_init_0 : decode cX2_init 0 = .ok (.aload_n 0, 1) := by decide +kernel
theorem dX2_init_1 : decode cX2_init 1 = .ok (.invokespecial 3, 3) := by decide +kernel
theorem dX2_init_4 : decode cX2_init 4 = .ok (.aload_n 0, 1) := by decide +kernel
theorem dX2_init_5 : decode cX2_init 5 = .ok (.bipush 6, 2) := by decide +kernel
theorem dX2_init_7 : decode cX2_init 7 = .ok (.newarray .int, 2) := by decide +kernel
theorem dX2_init_9 : decode cX2_init 9 = .ok (.putfield 9, 3) := by decide +kernel
theorem dX2_init_12 : decode cX2_init 12 = .ok (.aload_n 0, 1) := by decide +kernel
theorem dX2_init_13 : decode cX2_init 13 = .ok (.iconst 0, 1) := by decide +kernel
theorem dX2_init_14 : decode cX2_init 14 = .ok (.putfield 15, 3) := by decide +kernel
theorem dX2_init_17 : decode cX2_init 17 = .ok (.return_, 1) := by decide +kernel
theorem dX2_form_0 : decode cX2_form 0 = .ok (.aload_n 0, 1) := by decide +kernel
theorem dX2_form_1 : decode cX2_form 1 = .ok (.iconst 0, 1) := by decide +kernel
theorem dX2_form_2 : decode cX2_form 2 = .ok (.putfield 15, 3) := by decide +kernel
theorem dX2_form_5 : decode cX2_form 5 = .ok (.iconst 0, 1) := by decide +kernel
theorem dX2_form_6 : decode cX2_form 6 = .ok (.istore_n 3, 1) := by decide +kernel
theorem dX2_form_7 : decode cX2_form 7 = .ok (.iload_n 3, 1) := by decide +kernel
theorem dX2_form_8 : decode cX2_form 8 = .ok (.bipush 6, 2) := by decide +kernel
theorem dX2_form_10 : decode cX2_form 10 = .ok (.if_icmp .ge 28, 3) := by decide +kernel
theorem dX2_form_13 : decode cX2_form 13 = .ok (.aload_n 0, 1) := by decide +kernel
theorem dX2_form_14 : decode cX2_form 14 = .ok (.getfield 9, 3) := by decide +kernel
theorem dX2_form_17 : decode cX2_form 17 = .ok (.iload_n 3, 1) := by decide +kernel
theorem dX2_form_18 : decode cX2_form 18 = .ok (.aload_n 1, 1) := by decide +kernel
theorem dX2_form_19 : decode cX2_form 19 = .ok (.iload_n 3, 1) := by decide +kernel
theorem dX2_form_20 : decode cX2_form 20 = .ok (.invokevirtual 19, 3) := by decide +kernel
theorem dX2_form_23 : decode cX2_form 23 = .ok (.ifCond .eq 7, 3) := by decide +kernel
theorem dX2_form_26 : decode cX2_form 26 = .ok (.iload_n 3, 1) := by decide +kernel
theorem dX2_form_27 : decode cX2_form 27 = .ok (.goto 4, 3) := by decide +kernel
theorem dX2_form_30 : decode cX2_form 30 = .ok (.iconst (-1), 1) := by decide +kernel
theorem dX2_form_31 : decode cX2_form 31 = .ok (.iastore, 1) := by decide +kernel
theorem dX2_form_32 : decode cX2_form 32 = .ok (.iinc 3 1, 3) := by decide +kernel
theorem dX2_form_35 : decode cX2_form 35 = .ok (.goto (-28), 3) := by decide +kernel
theorem dX2_form_38 : decode cX2_form 38 = .ok (.iconst 0, 1) := by decide +kernel
theorem dX2_form_39 : decode cX2_form 39 = .ok (.istore_n 3, 1) := by decide +kernel
theorem dX2_form_40 : decode cX2_form 40 = .ok (.iload_n 3, 1) := by decide +kernel
theorem dX2_form_41 : decode cX2_form 41 = .ok (.bipush 6, 2) := by decide +kernel
theorem dX2_form_43 : decode cX2_form 43 = .ok (.if_icmp .ge 87, 3) := by decide +kernel
theorem dX2_form_46 : decode cX2_form 46 = .ok (.iload_n 3, 1) := by decide +kernel
theorem dX2_form_47 : decode cX2_form 47 = .ok (.iconst 1, 1) := by decide +kernel
theorem dX2_form_48 : decode cX2_form 48 = .ok (.iadd, 1) := by decide +kernel
theorem dX2_form_49 : decode cX2_form 49 = .ok (.istore 4, 2) := by decide +kernel
theorem dX2_form_51 : decode cX2_form 51 = .ok (.iload 4, 2) := by decide +kernel
theorem dX2_form_53 : decode cX2_form 53 = .ok (.bipush 6, 2) := by decide +kernel
theorem dX2_form_55 : decode cX2_form 55 = .ok (.if_icmp .ge 69, 3) := by decide +kernel
theorem dX2_form_58 : decode cX2_form 58 = .ok (.aload_n 1, 1) := by decide +kernel
theorem dX2_form_59 : decode cX2_form 59 = .ok (.iload_n 3, 1) := by decide +kernel
theorem dX2_form_60 : decode cX2_form 60 = .ok (.invokevirtual 19, 3) := by decide +kernel
theorem dX2_form_63 : decode cX2_form 63 = .ok (.ifCond .eq 55, 3) := by decide +kernel
theorem dX2_form_66 : decode cX2_form 66 = .ok (.aload_n 1, 1) := by decide +kernel
theorem dX2_form_67 : decode cX2_form 67 = .ok (.iload 4, 2) := by decide +kernel
theorem dX2_form_69 : decode cX2_form 69 = .ok (.invokevirtual 19, 3) := by decide +kernel
theorem dX2_form_72 : decode cX2_form 72 = .ok (.ifCond .eq 46, 3) := by decide +kernel
theorem dX2_form_75 : decode cX2_form 75 = .ok (.aload_n 2, 1) := by decide +kernel
theorem dX2_form_76 : decode cX2_form 76 = .ok (.aload_n 1, 1) := by decide +kernel
theorem dX2_form_77 : decode cX2_form 77 = .ok (.iload_n 3, 1) := by decide +kernel
theorem dX2_form_78 : decode cX2_form 78 = .ok (.iload 4, 2) := by decide +kernel
theorem dX2_form_80 : decode cX2_form 80 = .ok (.iconst 0, 1) := by decide +kernel
theorem dX2_form_81 : decode cX2_form 81 = .ok (.invokevirtual 25, 3) := by decide +kernel
theorem dX2_form_84 : decode cX2_form 84 = .ok (.aload_n 1, 1) := by decide +kernel
theorem dX2_form_85 : decode cX2_form 85 = .ok (.getfield 31, 3) := by decide +kernel
theorem dX2_form_88 : decode cX2_form 88 = .ok (.if_icmp .lt 30, 3) := by decide +kernel
theorem dX2_form_91 : decode cX2_form 91 = .ok (.aload_n 0, 1) := by decide +kernel
theorem dX2_form_92 : decode cX2_form 92 = .ok (.dup, 1) := by decide +kernel
theorem dX2_form_93 : decode cX2_form 93 = .ok (.getfield 15, 3) := by decide +kernel
theorem dX2_form_96 : decode cX2_form 96 = .ok (.iconst 1, 1) := by decide +kernel
theorem dX2_form_97 : decode cX2_form 97 = .ok (.iadd, 1) := by decide +kernel
theorem dX2_form_98 : decode cX2_form 98 = .ok (.putfield 15, 3) := by decide +kernel
theorem dX2_form_101 : decode cX2_form 101 = .ok (.aload_n 0, 1) := by decide +kernel
theorem dX2_form_102 : decode cX2_form 102 = .ok (.aload_n 0, 1) := by decide +kernel
theorem dX2_form_103 : decode cX2_form 103 = .ok (.getfield 9, 3) := by decide +kernel
theorem dX2_form_106 : decode cX2_form 106 = .ok (.iload_n 3, 1) := by decide +kernel
theorem dX2_form_107 : decode cX2_form 107 = .ok (.iaload, 1) := by decide +kernel
theorem dX2_form_108 : decode cX2_form 108 = .ok (.aload_n 0, 1) := by decide +kernel
theorem dX2_form_109 : decode cX2_form 109 = .ok (.getfield 9, 3) := by decide +kernel
theorem dX2_form_112 : decode cX2_form 112 = .ok (.iload 4, 2) := by decide +kernel
theorem dX2_form_114 : decode cX2_form 114 = .ok (.iaload, 1) := by decide +kernel
theorem dX2_form_115 : decode cX2_form 115 = .ok (.invokevirtual 34, 3) := by decide +kernel
theorem dX2_form_118 : decode cX2_form 118 = .ok (.iinc 4 1, 3) := by decide +kernel
theorem dX2_form_121 : decode cX2_form 121 = .ok (.goto (-70), 3) := by decide +kernel
theorem dX2_form_124 : decode cX2_form 124 = .ok (.iinc 3 1, 3) := by decide +kernel
theorem dX2_form_127 : decode cX2_form 127 = .ok (.goto (-87), 3) := by decide +kernel
theorem dX2_form_130 : decode cX2_form 130 = .ok (.return_, 1) := by decide +kernel
theorem dX2_join_0 : decode cX2_join 0 = .ok (.iload_n 1, 1) := by decide +kernel
theorem dX2_join_1 : decode cX2_join 1 = .ok (.iload_n 2, 1) := by decide +kernel
theorem dX2_join_2 : decode cX2_join 2 = .ok (.invokestatic 38, 3) := by decide +kernel
theorem dX2_join_5 : decode cX2_join 5 = .ok (.istore_n 3, 1) := by decide +kernel
theorem dX2_join_6 : decode cX2_join 6 = .ok (.iconst 0, 1) := by decide +kernel
theorem dX2_join_7 : decode cX2_join 7 = .ok (.istore 4, 2) := by decide +kernel
theorem dX2_join_9 : decode cX2_join 9 = .ok (.iload 4, 2) := by decide +kernel
theorem dX2_join_11 : decode cX2_join 11 = .ok (.bipush 6, 2) := by decide +kernel
theorem dX2_join_13 : decode cX2_join 13 = .ok (.if_icmp .ge 39, 3) := by decide +kernel
theorem dX2_join_16 : decode cX2_join 16 = .ok (.aload_n 0, 1) := by decide +kernel
theorem dX2_join_17 : decode cX2_join 17 = .ok (.getfield 9, 3) := by decide +kernel
theorem dX2_join_20 : decode cX2_join 20 = .ok (.iload 4, 2) := by decide +kernel
theorem dX2_join_22 : decode cX2_join 22 = .ok (.iaload, 1) := by decide +kernel
theorem dX2_join_23 : decode cX2_join 23 = .ok (.iload_n 1, 1) := by decide +kernel
theorem dX2_join_24 : decode cX2_join 24 = .ok (.if_icmp .eq 14, 3) := by decide +kernel
theorem dX2_join_27 : decode cX2_join 27 = .ok (.aload_n 0, 1) := by decide +kernel
theorem dX2_join_28 : decode cX2_join 28 = .ok (.getfield 9, 3) := by decide +kernel
theorem dX2_join_31 : decode cX2_join 31 = .ok (.iload 4, 2) := by decide +kernel
theorem dX2_join_33 : decode cX2_join 33 = .ok (.iaload, 1) := by decide +kernel
theorem dX2_join_34 : decode cX2_join 34 = .ok (.iload_n 2, 1) := by decide +kernel
theorem dX2_join_35 : decode cX2_join 35 = .ok (.if_icmp .ne 11, 3) := by decide +kernel
theorem dX2_join_38 : decode cX2_join 38 = .ok (.aload_n 0, 1) := by decide +kernel
theorem dX2_join_39 : decode cX2_join 39 = .ok (.getfield 9, 3) := by decide +kernel
theorem dX2_join_42 : decode cX2_join 42 = .ok (.iload 4, 2) := by decide +kernel
theorem dX2_join_44 : decode cX2_join 44 = .ok (.iload_n 3, 1) := by decide +kernel
theorem dX2_join_45 : decode cX2_join 45 = .ok (.iastore, 1) := by decide +kernel
theorem dX2_join_46 : decode cX2_join 46 = .ok (.iinc 4 1, 3) := by decide +kernel
theorem dX2_join_49 : decode cX2_join 49 = .ok (.goto (-40), 3) := by decide +kernel
theorem dX2_join_52 : decode cX2_join 52 = .ok (.return_, 1) := by decide +kernel
theorem dX2_howMany_0 : decode cX2_howMany 0 = .ok (.iconst 0, 1) := by decide +kernel
theorem dX2_howMany_1 : decode cX2_howMany 1 = .ok (.istore_n 3, 1) := by decide +kernel
theorem dX2_howMany_2 : decode cX2_howMany 2 = .ok (.iconst 0, 1) := by decide +kernel
theorem dX2_howMany_3 : decode cX2_howMany 3 = .ok (.istore 4, 2) := by decide +kernel
theorem dX2_howMany_5 : decode cX2_howMany 5 = .ok (.iload 4, 2) := by decide +kernel
theorem dX2_howMany_7 : decode cX2_howMany 7 = .ok (.bipush 6, 2) := by decide +kernel
theorem dX2_howMany_9 : decode cX2_howMany 9 = .ok (.if_icmp .ge 48, 3) := by decide +kernel
theorem dX2_howMany_12 : decode cX2_howMany 12 = .ok (.aload_n 0, 1) := by decide +kernel
theorem dX2_howMany_13 : decode cX2_howMany 13 = .ok (.getfield 9, 3) := by decide +kernel
theorem dX2_howMany_16 : decode cX2_howMany 16 = .ok (.iload 4, 2) := by decide +kernel
theorem dX2_howMany_18 : decode cX2_howMany 18 = .ok (.iaload, 1) := by decide +kernel
theorem dX2_howMany_19 : decode cX2_howMany 19 = .ok (.iload 4, 2) := by decide +kernel
theorem dX2_howMany_21 : decode cX2_howMany 21 = .ok (.if_icmp .ne 12, 3) := by decide +kernel
theorem dX2_howMany_24 : decode cX2_howMany 24 = .ok (.aload_n 0, 1) := by decide +kernel
theorem dX2_howMany_25 : decode cX2_howMany 25 = .ok (.iload 4, 2) := by decide +kernel
theorem dX2_howMany_27 : decode cX2_howMany 27 = .ok (.invokevirtual 44, 3) := by decide +kernel
theorem dX2_howMany_30 : decode cX2_howMany 30 = .ok (.goto 4, 3) := by decide +kernel
theorem dX2_howMany_33 : decode cX2_howMany 33 = .ok (.iconst 0, 1) := by decide +kernel
theorem dX2_howMany_34 : decode cX2_howMany 34 = .ok (.istore 5, 2) := by decide +kernel
theorem dX2_howMany_36 : decode cX2_howMany 36 = .ok (.iload 5, 2) := by decide +kernel
theorem dX2_howMany_38 : decode cX2_howMany 38 = .ok (.iload_n 1, 1) := by decide +kernel
theorem dX2_howMany_39 : decode cX2_howMany 39 = .ok (.if_icmp .lt 12, 3) := by decide +kernel
theorem dX2_howMany_42 : decode cX2_howMany 42 = .ok (.iload 5, 2) := by decide +kernel
theorem dX2_howMany_44 : decode cX2_howMany 44 = .ok (.iload_n 2, 1) := by decide +kernel
theorem dX2_howMany_45 : decode cX2_howMany 45 = .ok (.if_icmp .gt 6, 3) := by decide +kernel
theorem dX2_howMany_48 : decode cX2_howMany 48 = .ok (.iinc 3 1, 3) := by decide +kernel
theorem dX2_howMany_51 : decode cX2_howMany 51 = .ok (.iinc 4 1, 3) := by decide +kernel
theorem dX2_howMany_54 : decode cX2_howMany 54 = .ok (.goto (-49), 3) := by decide +kernel
theorem dX2_howMany_57 : decode cX2_howMany 57 = .ok (.iload_n 3, 1) := by decide +kernel
theorem dX2_howMany_58 : decode cX2_howMany 58 = .ok (.ireturn, 1) := by decide +kernel
theorem dX2_membersOf_0 : decode cX2_membersOf 0 = .ok (.iconst 0, 1) := by decide +kernel
theorem dX2_membersOf_1 : decode cX2_membersOf 1 = .ok (.istore_n 2, 1) := by decide +kernel
theorem dX2_membersOf_2 : decode cX2_membersOf 2 = .ok (.iconst 0, 1) := by decide +kernel
theorem dX2_membersOf_3 : decode cX2_membersOf 3 = .ok (.istore_n 3, 1) := by decide +kernel
theorem dX2_membersOf_4 : decode cX2_membersOf 4 = .ok (.iload_n 3, 1) := by decide +kernel
theorem dX2_membersOf_5 : decode cX2_membersOf 5 = .ok (.bipush 6, 2) := by decide +kernel
theorem dX2_membersOf_7 : decode cX2_membersOf 7 = .ok (.if_icmp .ge 22, 3) := by decide +kernel
theorem dX2_membersOf_10 : decode cX2_membersOf 10 = .ok (.aload_n 0, 1) := by decide +kernel
theorem dX2_membersOf_11 : decode cX2_membersOf 11 = .ok (.getfield 9, 3) := by decide +kernel
theorem dX2_membersOf_14 : decode cX2_membersOf 14 = .ok (.iload_n 3, 1) := by decide +kernel
theorem dX2_membersOf_15 : decode cX2_membersOf 15 = .ok (.iaload, 1) := by decide +kernel
theorem dX2_membersOf_16 : decode cX2_membersOf 16 = .ok (.iload_n 1, 1) := by decide +kernel
theorem dX2_membersOf_17 : decode cX2_membersOf 17 = .ok (.if_icmp .ne 6, 3) := by decide +kernel
theorem dX2_membersOf_20 : decode cX2_membersOf 20 = .ok (.iinc 2 1, 3) := by decide +kernel
theorem dX2_membersOf_23 : decode cX2_membersOf 23 = .ok (.iinc 3 1, 3) := by decide +kernel
theorem dX2_membersOf_26 : decode cX2_membersOf 26 = .ok (.goto (-22), 3) := by decide +kernel
theorem dX2_membersOf_29 : decode cX2_membersOf 29 = .ok (.iload_n 2, 1) := by decide +kernel
theorem dX2_membersOf_30 : decode cX2_membersOf 30 = .ok (.ireturn, 1) := by decide +kernel
theorem dX2_earliest_0 : decode cX2_earliest 0 = .ok (.iconst (-1), 1) := by decide +kernel
theorem dX2_earliest_1 : decode cX2_earliest 1 = .ok (.istore_n 3, 1) := by decide +kernel
theorem dX2_earliest_2 : decode cX2_earliest 2 = .ok (.iconst 0, 1) := by decide +kernel
theorem dX2_earliest_3 : decode cX2_earliest 3 = .ok (.istore 4, 2) := by decide +kernel
theorem dX2_earliest_5 : decode cX2_earliest 5 = .ok (.iload 4, 2) := by decide +kernel
theorem dX2_earliest_7 : decode cX2_earliest 7 = .ok (.bipush 6, 2) := by decide +kernel
theorem dX2_earliest_9 : decode cX2_earliest 9 = .ok (.if_icmp .ge 59, 3) := by decide +kernel
theorem dX2_earliest_12 : decode cX2_earliest 12 = .ok (.aload_n 0, 1) := by decide +kernel
theorem dX2_earliest_13 : decode cX2_earliest 13 = .ok (.getfield 9, 3) := by decide +kernel
theorem dX2_earliest_16 : decode cX2_earliest 16 = .ok (.iload 4, 2) := by decide +kernel
theorem dX2_earliest_18 : decode cX2_earliest 18 = .ok (.iaload, 1) := by decide +kernel
theorem dX2_earliest_19 : decode cX2_earliest 19 = .ok (.iload_n 2, 1) := by decide +kernel
theorem dX2_earliest_20 : decode cX2_earliest 20 = .ok (.if_icmp .ne 42, 3) := by decide +kernel
theorem dX2_earliest_23 : decode cX2_earliest 23 = .ok (.iload 4, 2) := by decide +kernel
theorem dX2_earliest_25 : decode cX2_earliest 25 = .ok (.aload_n 1, 1) := by decide +kernel
theorem dX2_earliest_26 : decode cX2_earliest 26 = .ok (.getfield 48, 3) := by decide +kernel
theorem dX2_earliest_29 : decode cX2_earliest 29 = .ok (.if_icmp .eq 33, 3) := by decide +kernel
theorem dX2_earliest_32 : decode cX2_earliest 32 = .ok (.iload_n 3, 1) := by decide +kernel
theorem dX2_earliest_33 : decode cX2_earliest 33 = .ok (.iconst (-1), 1) := by decide +kernel
theorem dX2_earliest_34 : decode cX2_earliest 34 = .ok (.if_icmp .eq 25, 3) := by decide +kernel
theorem dX2_earliest_37 : decode cX2_earliest 37 = .ok (.aload_n 1, 1) := by decide +kernel
theorem dX2_earliest_38 : decode cX2_earliest 38 = .ok (.getfield 51, 3) := by decide +kernel
theorem dX2_earliest_41 : decode cX2_earliest 41 = .ok (.iload 4, 2) := by decide +kernel
theorem dX2_earliest_43 : decode cX2_earliest 43 = .ok (.aaload, 1) := by decide +kernel
theorem dX2_earliest_44 : decode cX2_earliest 44 = .ok (.getfield 55, 3) := by decide +kernel
theorem dX2_earliest_47 : decode cX2_earliest 47 = .ok (.aload_n 1, 1) := by decide +kernel
theorem dX2_earliest_48 : decode cX2_earliest 48 = .ok (.getfield 51, 3) := by decide +kernel
theorem dX2_earliest_51 : decode cX2_earliest 51 = .ok (.iload_n 3, 1) := by decide +kernel
theorem dX2_earliest_52 : decode cX2_earliest 52 = .ok (.aaload, 1) := by decide +kernel
theorem dX2_earliest_53 : decode cX2_earliest 53 = .ok (.getfield 55, 3) := by decide +kernel
theorem dX2_earliest_56 : decode cX2_earliest 56 = .ok (.if_icmp .ge 6, 3) := by decide +kernel
theorem dX2_earliest_59 : decode cX2_earliest 59 = .ok (.iload 4, 2) := by decide +kernel
theorem dX2_earliest_61 : decode cX2_earliest 61 = .ok (.istore_n 3, 1) := by decide +kernel
theorem dX2_earliest_62 : decode cX2_earliest 62 = .ok (.iinc 4 1, 3) := by decide +kernel
theorem dX2_earliest_65 : decode cX2_earliest 65 = .ok (.goto (-60), 3) := by decide +kernel
theorem dX2_earliest_68 : decode cX2_earliest 68 = .ok (.iload_n 3, 1) := by decide +kernel
theorem dX2_earliest_69 : decode cX2_earliest 69 = .ok (.iconst (-1), 1) := by decide +kernel
theorem dX2_earliest_70 : decode cX2_earliest 70 = .ok (.if_icmp .ne 10, 3) := by decide +kernel
theorem dX2_earliest_73 : decode cX2_earliest 73 = .ok (.aload_n 1, 1) := by decide +kernel
theorem dX2_earliest_74 : decode cX2_earliest 74 = .ok (.getfield 48, 3) := by decide +kernel
theorem dX2_earliest_77 : decode cX2_earliest 77 = .ok (.goto 4, 3) := by decide +kernel
theorem dX2_earliest_80 : decode cX2_earliest 80 = .ok (.iload_n 3, 1) := by decide +kernel
theorem dX2_earliest_81 : decode cX2_earliest 81 = .ok (.ireturn, 1) := by decide +kernel
theorem dX3_init_0 : decode cX3_init 0 = .ok (.aload_n 0, 1) := by decide +kernel
theorem dX3_init_1 : decode cX3_init 1 = .ok (.invokespecial 3, 3) := by decide +kernel
theorem dX3_init_4 : decode cX3_init 4 = .ok (.aload_n 0, 1) := by decide +kernel
theorem dX3_init_5 : decode cX3_init 5 = .ok (.bipush 40, 2) := by decide +kernel
theorem dX3_init_7 : decode cX3_init 7 = .ok (.newarray .long, 2) := by decide +kernel
theorem dX3_init_9 : decode cX3_init 9 = .ok (.putfield 9, 3) := by decide +kernel
theorem dX3_init_12 : decode cX3_init 12 = .ok (.aload_n 0, 1) := by decide +kernel
theorem dX3_init_13 : decode cX3_init 13 = .ok (.bipush 40, 2) := by decide +kernel
theorem dX3_init_15 : decode cX3_init 15 = .ok (.newarray .int, 2) := by decide +kernel
theorem dX3_init_17 : decode cX3_init 17 = .ok (.putfield 15, 3) := by decide +kernel
theorem dX3_init_20 : decode cX3_init 20 = .ok (.aload_n 0, 1) := by decide +kernel
theorem dX3_init_21 : decode cX3_init 21 = .ok (.bipush 40, 2) := by decide +kernel
theorem dX3_init_23 : decode cX3_init 23 = .ok (.newarray .boolean, 2) := by decide +kernel
theorem dX3_init_25 : decode cX3_init 25 = .ok (.putfield 19, 3) := by decide +kernel
theorem dX3_init_28 : decode cX3_init 28 = .ok (.aload_n 0, 1) := by decide +kernel
theorem dX3_init_29 : decode cX3_init 29 = .ok (.bipush 40, 2) := by decide +kernel
theorem dX3_init_31 : decode cX3_init 31 = .ok (.newarray .boolean, 2) := by decide +kernel
theorem dX3_init_33 : decode cX3_init 33 = .ok (.putfield 23, 3) := by decide +kernel
theorem dX3_init_36 : decode cX3_init 36 = .ok (.aload_n 0, 1) := by decide +kernel
theorem dX3_init_37 : decode cX3_init 37 = .ok (.bipush 40, 2) := by decide +kernel
theorem dX3_init_39 : decode cX3_init 39 = .ok (.newarray .int, 2) := by decide +kernel
theorem dX3_init_41 : decode cX3_init 41 = .ok (.putfield 26, 3) := by decide +kernel
theorem dX3_init_44 : decode cX3_init 44 = .ok (.aload_n 0, 1) := by decide +kernel
theorem dX3_init_45 : decode cX3_init 45 = .ok (.iconst 0, 1) := by decide +kernel
theorem dX3_init_46 : decode cX3_init 46 = .ok (.putfield 29, 3) := by decide +kernel
theorem dX3_init_49 : decode cX3_init 49 = .ok (.aload_n 0, 1) := by decide +kernel
theorem dX3_init_50 : decode cX3_init 50 = .ok (.iconst 0, 1) := by decide +kernel
theorem dX3_init_51 : decode cX3_init 51 = .ok (.putfield 33, 3) := by decide +kernel
theorem dX3_init_54 : decode cX3_init 54 = .ok (.aload_n 0, 1) := by decide +kernel
theorem dX3_init_55 : decode cX3_init 55 = .ok (.iconst 0, 1) := by decide +kernel
theorem dX3_init_56 : decode cX3_init 56 = .ok (.putfield 36, 3) := by decide +kernel
theorem dX3_init_59 : decode cX3_init 59 = .ok (.return_, 1) := by decide +kernel
theorem dX3_lay_0 : decode cX3_lay 0 = .ok (.aload_n 0, 1) := by decide +kernel
theorem dX3_lay_1 : decode cX3_lay 1 = .ok (.aload_n 1, 1) := by decide +kernel
theorem dX3_lay_2 : decode cX3_lay 2 = .ok (.getfield 39, 3) := by decide +kernel
theorem dX3_lay_5 : decode cX3_lay 5 = .ok (.putfield 29, 3) := by decide +kernel
theorem dX3_lay_8 : decode cX3_lay 8 = .ok (.aload_n 0, 1) := by decide +kernel
theorem dX3_lay_9 : decode cX3_lay 9 = .ok (.aload_n 1, 1) := by decide +kernel
theorem dX3_lay_10 : decode cX3_lay 10 = .ok (.getfield 42, 3) := by decide +kernel
theorem dX3_lay_13 : decode cX3_lay 13 = .ok (.putfield 33, 3) := by decide +kernel
theorem dX3_lay_16 : decode cX3_lay 16 = .ok (.iconst 0, 1) := by decide +kernel
theorem dX3_lay_17 : decode cX3_lay 17 = .ok (.istore_n 3, 1) := by decide +kernel
theorem dX3_lay_18 : decode cX3_lay 18 = .ok (.iload_n 3, 1) := by decide +kernel
theorem dX3_lay_19 : decode cX3_lay 19 = .ok (.aload_n 0, 1) := by decide +kernel
theorem dX3_lay_20 : decode cX3_lay 20 = .ok (.getfield 29, 3) := by decide +kernel
theorem dX3_lay_23 : decode cX3_lay 23 = .ok (.if_icmp .ge 35, 3) := by decide +kernel
theorem dX3_lay_26 : decode cX3_lay 26 = .ok (.aload_n 0, 1) := by decide +kernel
theorem dX3_lay_27 : decode cX3_lay 27 = .ok (.getfield 9, 3) := by decide +kernel
theorem dX3_lay_30 : decode cX3_lay 30 = .ok (.iload_n 3, 1) := by decide +kernel
theorem dX3_lay_31 : decode cX3_lay 31 = .ok (.aload_n 1, 1) := by decide +kernel
theorem dX3_lay_32 : decode cX3_lay 32 = .ok (.getfield 43, 3) := by decide +kernel
theorem dX3_lay_35 : decode cX3_lay 35 = .ok (.iload_n 3, 1) := by decide +kernel
theorem dX3_lay_36 : decode cX3_lay 36 = .ok (.iload_n 2, 1) := by decide +kernel
theorem dX3_lay_37 : decode cX3_lay 37 = .ok (.iadd, 1) := by decide +kernel
theorem dX3_lay_38 : decode cX3_lay 38 = .ok (.aload_n 0, 1) := by decide +kernel
theorem dX3_lay_39 : decode cX3_lay 39 = .ok (.getfield 29, 3) := by decide +kernel
theorem dX3_lay_42 : decode cX3_lay 42 = .ok (.irem, 1) := by decide +kernel
theorem dX3_lay_43 : decode cX3_lay 43 = .ok (.laload, 1) := by decide +kernel
theorem dX3_lay_44 : decode cX3_lay 44 = .ok (.lastore, 1) := by decide +kernel
theorem dX3_lay_45 : decode cX3_lay 45 = .ok (.aload_n 0, 1) := by decide +kernel
theorem dX3_lay_46 : decode cX3_lay 46 = .ok (.getfield 23, 3) := by decide +kernel
theorem dX3_lay_49 : decode cX3_lay 49 = .ok (.iload_n 3, 1) := by decide +kernel
theorem dX3_lay_50 : decode cX3_lay 50 = .ok (.iconst 0, 1) := by decide +kernel
theorem dX3_lay_51 : decode cX3_lay 51 = .ok (.bastore, 1) := by decide +kernel
theorem dX3_lay_52 : decode cX3_lay 52 = .ok (.iinc 3 1, 3) := by decide +kernel
theorem dX3_lay_55 : decode cX3_lay 55 = .ok (.goto (-37), 3) := by decide +kernel
theorem dX3_lay_58 : decode cX3_lay 58 = .ok (.return_, 1) := by decide +kernel
theorem dX3_findMarks_0 : decode cX3_findMarks 0 = .ok (.aload_n 0, 1) := by decide +kernel
theorem dX3_findMarks_1 : decode cX3_findMarks 1 = .ok (.iconst 0, 1) := by decide +kernel
theorem dX3_findMarks_2 : decode cX3_findMarks 2 = .ok (.aload_n 0, 1) := by decide +kernel
theorem dX3_findMarks_3 : decode cX3_findMarks 3 = .ok (.getfield 29, 3) := by decide +kernel
theorem dX3_findMarks_6 : decode cX3_findMarks 6 = .ok (.iload_n 1, 1) := by decide +kernel
theorem dX3_findMarks_7 : decode cX3_findMarks 7 = .ok (.isub, 1) := by decide +kernel
theorem dX3_findMarks_8 : decode cX3_findMarks 8 = .ok (.iconst 1, 1) := by decide +kernel
theorem dX3_findMarks_9 : decode cX3_findMarks 9 = .ok (.iadd, 1) := by decide +kernel
theorem dX3_findMarks_10 : decode cX3_findMarks 10 = .ok (.invokestatic 44, 3) := by decide +kernel
theorem dX3_findMarks_13 : decode cX3_findMarks 13 = .ok (.putfield 36, 3) := by decide +kernel
theorem dX3_findMarks_16 : decode cX3_findMarks 16 = .ok (.iconst 0, 1) := by decide +kernel
theorem dX3_findMarks_17 : decode cX3_findMarks 17 = .ok (.istore_n 3, 1) := by decide +kernel
theorem dX3_findMarks_18 : decode cX3_findMarks 18 = .ok (.iload_n 3, 1) := by decide +kernel
theorem dX3_findMarks_19 : decode cX3_findMarks 19 = .ok (.aload_n 0, 1) := by decide +kernel
theorem dX3_findMarks_20 : decode cX3_findMarks 20 = .ok (.getfield 36, 3) := by decide +kernel
theorem dX3_findMarks_23 : decode cX3_findMarks 23 = .ok (.if_icmp .ge 28, 3) := by decide +kernel
theorem dX3_findMarks_26 : decode cX3_findMarks 26 = .ok (.aload_n 0, 1) := by decide +kernel
theorem dX3_findMarks_27 : decode cX3_findMarks 27 = .ok (.getfield 15, 3) := by decide +kernel
theorem dX3_findMarks_30 : decode cX3_findMarks 30 = .ok (.iload_n 3, 1) := by decide +kernel
theorem dX3_findMarks_31 : decode cX3_findMarks 31 = .ok (.aload_n 0, 1) := by decide +kernel
theorem dX3_findMarks_32 : decode cX3_findMarks 32 = .ok (.iload_n 3, 1) := by decide +kernel
theorem dX3_findMarks_33 : decode cX3_findMarks 33 = .ok (.iload_n 1, 1) := by decide +kernel
theorem dX3_findMarks_34 : decode cX3_findMarks 34 = .ok (.invokevirtual 50, 3) := by decide +kernel
theorem dX3_findMarks_37 : decode cX3_findMarks 37 = .ok (.iastore, 1) := by decide +kernel
theorem dX3_findMarks_38 : decode cX3_findMarks 38 = .ok (.aload_n 0, 1) := by decide +kernel
theorem dX3_findMarks_39 : decode cX3_findMarks 39 = .ok (.getfield 19, 3) := by decide +kernel
theorem dX3_findMarks_42 : decode cX3_findMarks 42 = .ok (.iload_n 3, 1) := by decide +kernel
theorem dX3_findMarks_43 : decode cX3_findMarks 43 = .ok (.iconst 0, 1) := by decide +kernel
theorem dX3_findMarks_44 : decode cX3_findMarks 44 = .ok (.bastore, 1) := by decide +kernel
theorem dX3_findMarks_45 : decode cX3_findMarks 45 = .ok (.iinc 3 1, 3) := by decide +kernel
theorem dX3_findMarks_48 : decode cX3_findMarks 48 = .ok (.goto (-30), 3) := by decide +kernel
theorem dX3_findMarks_51 : decode cX3_findMarks 51 = .ok (.iload_n 2, 1) := by decide +kernel
theorem dX3_findMarks_52 : decode cX3_findMarks 52 = .ok (.aload_n 0, 1) := by decide +kernel
theorem dX3_findMarks_53 : decode cX3_findMarks 53 = .ok (.getfield 36, 3) := by decide +kernel
theorem dX3_findMarks_56 : decode cX3_findMarks 56 = .ok (.invokestatic 53, 3) := by decide +kernel
theorem dX3_findMarks_59 : decode cX3_findMarks 59 = .ok (.istore_n 3, 1) := by decide +kernel
theorem dX3_findMarks_60 : decode cX3_findMarks 60 = .ok (.iload_n 3, 1) := by decide +kernel
theorem dX3_findMarks_61 : decode cX3_findMarks 61 = .ok (.istore 4, 2) := by decide +kernel
theorem dX3_findMarks_63 : decode cX3_findMarks 63 = .ok (.iload 4, 2) := by decide +kernel
theorem dX3_findMarks_65 : decode cX3_findMarks 65 = .ok (.aload_n 0, 1) := by decide +kernel
theorem dX3_findMarks_66 : decode cX3_findMarks 66 = .ok (.getfield 36, 3) := by decide +kernel
theorem dX3_findMarks_69 : decode cX3_findMarks 69 = .ok (.if_icmp .gt 29, 3) := by decide +kernel
theorem dX3_findMarks_72 : decode cX3_findMarks 72 = .ok (.iload_n 3, 1) := by decide +kernel
theorem dX3_findMarks_73 : decode cX3_findMarks 73 = .ok (.ifCond .le 25, 3) := by decide +kernel
theorem dX3_findMarks_76 : decode cX3_findMarks 76 = .ok (.aload_n 0, 1) := by decide +kernel
theorem dX3_findMarks_77 : decode cX3_findMarks 77 = .ok (.getfield 19, 3) := by decide +kernel
theorem dX3_findMarks_80 : decode cX3_findMarks 80 = .ok (.aload_n 0, 1) := by decide +kernel
theorem dX3_findMarks_81 : decode cX3_findMarks 81 = .ok (.iload 4, 2) := by decide +kernel
theorem dX3_findMarks_83 : decode cX3_findMarks 83 = .ok (.iload_n 3, 1) := by decide +kernel
theorem dX3_findMarks_84 : decode cX3_findMarks 84 = .ok (.isub, 1) := by decide +kernel
theorem dX3_findMarks_85 : decode cX3_findMarks 85 = .ok (.iload 4, 2) := by decide +kernel
theorem dX3_findMarks_87 : decode cX3_findMarks 87 = .ok (.invokevirtual 56, 3) := by decide +kernel
theorem dX3_findMarks_90 : decode cX3_findMarks 90 = .ok (.iconst 1, 1) := by decide +kernel
theorem dX3_findMarks_91 : decode cX3_findMarks 91 = .ok (.bastore, 1) := by decide +kernel
theorem dX3_findMarks_92 : decode cX3_findMarks 92 = .ok (.iinc 4 1, 3) := by decide +kernel
theorem dX3_findMarks_95 : decode cX3_findMarks 95 = .ok (.goto (-32), 3) := by decide +kernel
theorem dX3_findMarks_98 : decode cX3_findMarks 98 = .ok (.return_, 1) := by decide +kernel
theorem dX3_hashOfGram_0 : decode cX3_hashOfGram 0 = .ok (.ldc2_w 59, 3) := by decide +kernel
theorem dX3_hashOfGram_3 : decode cX3_hashOfGram 3 = .ok (.lstore_n 3, 1) := by decide +kernel
theorem dX3_hashOfGram_4 : decode cX3_hashOfGram 4 = .ok (.iload_n 1, 1) := by decide +kernel
theorem dX3_hashOfGram_5 : decode cX3_hashOfGram 5 = .ok (.istore 5, 2) := by decide +kernel
theorem dX3_hashOfGram_7 : decode cX3_hashOfGram 7 = .ok (.iload 5, 2) := by decide +kernel
theorem dX3_hashOfGram_9 : decode cX3_hashOfGram 9 = .ok (.iload_n 1, 1) := by decide +kernel
theorem dX3_hashOfGram_10 : decode cX3_hashOfGram 10 = .ok (.iload_n 2, 1) := by decide +kernel
theorem dX3_hashOfGram_11 : decode cX3_hashOfGram 11 = .ok (.iadd, 1) := by decide +kernel
theorem dX3_hashOfGram_12 : decode cX3_hashOfGram 12 = .ok (.if_icmp .ge 27, 3) := by decide +kernel
theorem dX3_hashOfGram_15 : decode cX3_hashOfGram 15 = .ok (.lload_n 3, 1) := by decide +kernel
theorem dX3_hashOfGram_16 : decode cX3_hashOfGram 16 = .ok (.ldc2_w 61, 3) := by decide +kernel
theorem dX3_hashOfGram_19 : decode cX3_hashOfGram 19 = .ok (.lmul, 1) := by decide +kernel
theorem dX3_hashOfGram_20 : decode cX3_hashOfGram 20 = .ok (.aload_n 0, 1) := by decide +kernel
theorem dX3_hashOfGram_21 : decode cX3_hashOfGram 21 = .ok (.getfield 9, 3) := by decide +kernel
theorem dX3_hashOfGram_24 : decode cX3_hashOfGram 24 = .ok (.iload 5, 2) := by decide +kernel
theorem dX3_hashOfGram_26 : decode cX3_hashOfGram 26 = .ok (.laload, 1) := by decide +kernel
theorem dX3_hashOfGram_27 : decode cX3_hashOfGram 27 = .ok (.ladd, 1) := by decide +kernel
theorem dX3_hashOfGram_28 : decode cX3_hashOfGram 28 = .ok (.ldc2_w 63, 3) := by decide +kernel
theorem dX3_hashOfGram_31 : decode cX3_hashOfGram 31 = .ok (.lrem, 1) := by decide +kernel
theorem dX3_hashOfGram_32 : decode cX3_hashOfGram 32 = .ok (.lstore_n 3, 1) := by decide +kernel
theorem dX3_hashOfGram_33 : decode cX3_hashOfGram 33 = .ok (.iinc 5 1, 3) := by decide +kernel
theorem dX3_hashOfGram_36 : decode cX3_hashOfGram 36 = .ok (.goto (-29), 3) := by decide +kernel
theorem dX3_hashOfGram_39 : decode cX3_hashOfGram 39 = .ok (.lload_n 3, 1) := by decide +kernel
theorem dX3_hashOfGram_40 : decode cX3_hashOfGram 40 = .ok (.l2i, 1) := by decide +kernel
theorem dX3_hashOfGram_41 : decode cX3_hashOfGram 41 = .ok (.ireturn, 1) := by decide +kernel
theorem dX3_lastOfLeast_0 : decode cX3_lastOfLeast 0 = .ok (.iload_n 1, 1) := by decide +kernel
theorem dX3_lastOfLeast_1 : decode cX3_lastOfLeast 1 = .ok (.istore_n 3, 1) := by decide +kernel
theorem dX3_lastOfLeast_2 : decode cX3_lastOfLeast 2 = .ok (.iload_n 1, 1) := by decide +kernel
theorem dX3_lastOfLeast_3 : decode cX3_lastOfLeast 3 = .ok (.iconst 1, 1) := by decide +kernel
theorem dX3_lastOfLeast_4 : decode cX3_lastOfLeast 4 = .ok (.iadd, 1) := by decide +kernel
theorem dX3_lastOfLeast_5 : decode cX3_lastOfLeast 5 = .ok (.istore 4, 2) := by decide +kernel
theorem dX3_lastOfLeast_7 : decode cX3_lastOfLeast 7 = .ok (.iload 4, 2) := by decide +kernel
theorem dX3_lastOfLeast_9 : decode cX3_lastOfLeast 9 = .ok (.iload_n 2, 1) := by decide +kernel
theorem dX3_lastOfLeast_10 : decode cX3_lastOfLeast 10 = .ok (.if_icmp .ge 28, 3) := by decide +kernel
theorem dX3_lastOfLeast_13 : decode cX3_lastOfLeast 13 = .ok (.aload_n 0, 1) := by decide +kernel
theorem dX3_lastOfLeast_14 : decode cX3_lastOfLeast 14 = .ok (.getfield 15, 3) := by decide +kernel
theorem dX3_lastOfLeast_17 : decode cX3_lastOfLeast 17 = .ok (.iload 4, 2) := by decide +kernel
theorem dX3_lastOfLeast_19 : decode cX3_lastOfLeast 19 = .ok (.iaload, 1) := by decide +kernel
theorem dX3_lastOfLeast_20 : decode cX3_lastOfLeast 20 = .ok (.aload_n 0, 1) := by decide +kernel
theorem dX3_lastOfLeast_21 : decode cX3_lastOfLeast 21 = .ok (.getfield 15, 3) := by decide +kernel
theorem dX3_lastOfLeast_24 : decode cX3_lastOfLeast 24 = .ok (.iload_n 3, 1) := by decide +kernel
theorem dX3_lastOfLeast_25 : decode cX3_lastOfLeast 25 = .ok (.iaload, 1) := by decide +kernel
theorem dX3_lastOfLeast_26 : decode cX3_lastOfLeast 26 = .ok (.if_icmp .gt 6, 3) := by decide +kernel
theorem dX3_lastOfLeast_29 : decode cX3_lastOfLeast 29 = .ok (.iload 4, 2) := by decide +kernel
theorem dX3_lastOfLeast_31 : decode cX3_lastOfLeast 31 = .ok (.istore_n 3, 1) := by decide +kernel
theorem dX3_lastOfLeast_32 : decode cX3_lastOfLeast 32 = .ok (.iinc 4 1, 3) := by decide +kernel
theorem dX3_lastOfLeast_35 : decode cX3_lastOfLeast 35 = .ok (.goto (-28), 3) := by decide +kernel
theorem dX3_lastOfLeast_38 : decode cX3_lastOfLeast 38 = .ok (.iload_n 3, 1) := by decide +kernel
theorem dX3_lastOfLeast_39 : decode cX3_lastOfLeast 39 = .ok (.ireturn, 1) := by decide +kernel
theorem dX3_howManyMarks_0 : decode cX3_howManyMarks 0 = .ok (.iconst 0, 1) := by decide +kernel
theorem dX3_howManyMarks_1 : decode cX3_howManyMarks 1 = .ok (.istore_n 1, 1) := by decide +kernel
theorem dX3_howManyMarks_2 : decode cX3_howManyMarks 2 = .ok (.iconst 0, 1) := by decide +kernel
theorem dX3_howManyMarks_3 : decode cX3_howManyMarks 3 = .ok (.istore_n 2, 1) := by decide +kernel
theorem dX3_howManyMarks_4 : decode cX3_howManyMarks 4 = .ok (.iload_n 2, 1) := by decide +kernel
theorem dX3_howManyMarks_5 : decode cX3_howManyMarks 5 = .ok (.aload_n 0, 1) := by decide +kernel
theorem dX3_howManyMarks_6 : decode cX3_howManyMarks 6 = .ok (.getfield 36, 3) := by decide +kernel
theorem dX3_howManyMarks_9 : decode cX3_howManyMarks 9 = .ok (.if_icmp .ge 21, 3) := by decide +kernel
theorem dX3_howManyMarks_12 : decode cX3_howManyMarks 12 = .ok (.aload_n 0, 1) := by decide +kernel
theorem dX3_howManyMarks_13 : decode cX3_howManyMarks 13 = .ok (.getfield 19, 3) := by decide +kernel
theorem dX3_howManyMarks_16 : decode cX3_howManyMarks 16 = .ok (.iload_n 2, 1) := by decide +kernel
theorem dX3_howManyMarks_17 : decode cX3_howManyMarks 17 = .ok (.baload, 1) := by decide +kernel
theorem dX3_howManyMarks_18 : decode cX3_howManyMarks 18 = .ok (.ifCond .eq 6, 3) := by decide +kernel
theorem dX3_howManyMarks_21 : decode cX3_howManyMarks 21 = .ok (.iinc 1 1, 3) := by decide +kernel
theorem dX3_howManyMarks_24 : decode cX3_howManyMarks 24 = .ok (.iinc 2 1, 3) := by decide +kernel
theorem dX3_howManyMarks_27 : decode cX3_howManyMarks 27 = .ok (.goto (-23), 3) := by decide +kernel
theorem dX3_howManyMarks_30 : decode cX3_howManyMarks 30 = .ok (.iload_n 1, 1) := by decide +kernel
theorem dX3_howManyMarks_31 : decode cX3_howManyMarks 31 = .ok (.ireturn, 1) := by decide +kernel
theorem dX3_gramOfMark_0 : decode cX3_gramOfMark 0 = .ok (.iconst 0, 1) := by decide +kernel
theorem dX3_gramOfMark_1 : decode cX3_gramOfMark 1 = .ok (.istore_n 2, 1) := by decide +kernel
theorem dX3_gramOfMark_2 : decode cX3_gramOfMark 2 = .ok (.iconst 0, 1) := by decide +kernel
theorem dX3_gramOfMark_3 : decode cX3_gramOfMark 3 = .ok (.istore_n 3, 1) := by decide +kernel
theorem dX3_gramOfMark_4 : decode cX3_gramOfMark 4 = .ok (.iload_n 3, 1) := by decide +kernel
theorem dX3_gramOfMark_5 : decode cX3_gramOfMark 5 = .ok (.aload_n 0, 1) := by decide +kernel
theorem dX3_gramOfMark_6 : decode cX3_gramOfMark 6 = .ok (.getfield 36, 3) := by decide +kernel
theorem dX3_gramOfMark_9 : decode cX3_gramOfMark 9 = .ok (.if_icmp .ge 28, 3) := by decide +kernel
theorem dX3_gramOfMark_12 : decode cX3_gramOfMark 12 = .ok (.aload_n 0, 1) := by decide +kernel
theorem dX3_gramOfMark_13 : decode cX3_gramOfMark 13 = .ok (.getfield 19, 3) := by decide +kernel
theorem dX3_gramOfMark_16 : decode cX3_gramOfMark 16 = .ok (.iload_n 3, 1) := by decide +kernel
theorem dX3_gramOfMark_17 : decode cX3_gramOfMark 17 = .ok (.baload, 1) := by decide +kernel
theorem dX3_gramOfMark_18 : decode cX3_gramOfMark 18 = .ok (.ifCond .eq 13, 3) := by decide +kernel
theorem dX3_gramOfMark_21 : decode cX3_gramOfMark 21 = .ok (.iload_n 2, 1) := by decide +kernel
theorem dX3_gramOfMark_22 : decode cX3_gramOfMark 22 = .ok (.iload_n 1, 1) := by decide +kernel
theorem dX3_gramOfMark_23 : decode cX3_gramOfMark 23 = .ok (.if_icmp .ne 5, 3) := by decide +kernel
theorem dX3_gramOfMark_26 : decode cX3_gramOfMark 26 = .ok (.iload_n 3, 1) := by decide +kernel
theorem dX3_gramOfMark_27 : decode cX3_gramOfMark 27 = .ok (.ireturn, 1) := by decide +kernel
theorem dX3_gramOfMark_28 : decode cX3_gramOfMark 28 = .ok (.iinc 2 1, 3) := by decide +kernel
theorem dX3_gramOfMark_31 : decode cX3_gramOfMark 31 = .ok (.iinc 3 1, 3) := by decide +kernel
theorem dX3_gramOfMark_34 : decode cX3_gramOfMark 34 = .ok (.goto (-30), 3) := by decide +kernel
theorem dX3_gramOfMark_37 : decode cX3_gramOfMark 37 = .ok (.iconst (-1), 1) := by decide +kernel
theorem dX3_gramOfMark_38 : decode cX3_gramOfMark 38 = .ok (.ireturn, 1) := by decide +kernel
theorem dX3_setAside_0 : decode cX3_setAside 0 = .ok (.aload_n 0, 1) := by decide +kernel
theorem dX3_setAside_1 : decode cX3_setAside 1 = .ok (.getfield 33, 3) := by decide +kernel
theorem dX3_setAside_4 : decode cX3_setAside 4 = .ok (.aload_n 1, 1) := by decide +kernel
theorem dX3_setAside_5 : decode cX3_setAside 5 = .ok (.getfield 33, 3) := by decide +kernel
theorem dX3_setAside_8 : decode cX3_setAside 8 = .ok (.if_icmp .eq 4, 3) := by decide +kernel
theorem dX3_setAside_11 : decode cX3_setAside 11 = .ok (.return_, 1) := by decide +kernel
theorem dX3_setAside_12 : decode cX3_setAside 12 = .ok (.iconst 0, 1) := by decide +kernel
theorem dX3_setAside_13 : decode cX3_setAside 13 = .ok (.istore_n 3, 1) := by decide +kernel
theorem dX3_setAside_14 : decode cX3_setAside 14 = .ok (.iload_n 3, 1) := by decide +kernel
theorem dX3_setAside_15 : decode cX3_setAside 15 = .ok (.aload_n 1, 1) := by decide +kernel
theorem dX3_setAside_16 : decode cX3_setAside 16 = .ok (.getfield 29, 3) := by decide +kernel
theorem dX3_setAside_19 : decode cX3_setAside 19 = .ok (.if_icmp .ge 16, 3) := by decide +kernel
theorem dX3_setAside_22 : decode cX3_setAside 22 = .ok (.aload_n 0, 1) := by decide +kernel
theorem dX3_setAside_23 : decode cX3_setAside 23 = .ok (.getfield 26, 3) := by decide +kernel
theorem dX3_setAside_26 : decode cX3_setAside 26 = .ok (.iload_n 3, 1) := by decide +kernel
theorem dX3_setAside_27 : decode cX3_setAside 27 = .ok (.iconst 0, 1) := by decide +kernel
theorem dX3_setAside_28 : decode cX3_setAside 28 = .ok (.iastore, 1) := by decide +kernel
theorem dX3_setAside_29 : decode cX3_setAside 29 = .ok (.iinc 3 1, 3) := by decide +kernel
theorem dX3_setAside_32 : decode cX3_setAside 32 = .ok (.goto (-18), 3) := by decide +kernel
theorem dX3_setAside_35 : decode cX3_setAside 35 = .ok (.iconst 0, 1) := by decide +kernel
theorem dX3_setAside_36 : decode cX3_setAside 36 = .ok (.istore_n 3, 1) := by decide +kernel
theorem dX3_setAside_37 : decode cX3_setAside 37 = .ok (.iload_n 3, 1) := by decide +kernel
theorem dX3_setAside_38 : decode cX3_setAside 38 = .ok (.aload_n 0, 1) := by decide +kernel
theorem dX3_setAside_39 : decode cX3_setAside 39 = .ok (.getfield 29, 3) := by decide +kernel
theorem dX3_setAside_42 : decode cX3_setAside 42 = .ok (.if_icmp .ge 50, 3) := by decide +kernel
theorem dX3_setAside_45 : decode cX3_setAside 45 = .ok (.aload_n 0, 1) := by decide +kernel
theorem dX3_setAside_46 : decode cX3_setAside 46 = .ok (.iload_n 3, 1) := by decide +kernel
theorem dX3_setAside_47 : decode cX3_setAside 47 = .ok (.aload_n 1, 1) := by decide +kernel
theorem dX3_setAside_48 : decode cX3_setAside 48 = .ok (.invokevirtual 65, 3) := by decide +kernel
theorem dX3_setAside_51 : decode cX3_setAside 51 = .ok (.iload_n 2, 1) := by decide +kernel
theorem dX3_setAside_52 : decode cX3_setAside 52 = .ok (.if_icmp .lt 34, 3) := by decide +kernel
theorem dX3_setAside_55 : decode cX3_setAside 55 = .ok (.iconst 0, 1) := by decide +kernel
theorem dX3_setAside_56 : decode cX3_setAside 56 = .ok (.istore 4, 2) := by decide +kernel
theorem dX3_setAside_58 : decode cX3_setAside 58 = .ok (.iload 4, 2) := by decide +kernel
theorem dX3_setAside_60 : decode cX3_setAside 60 = .ok (.iload_n 2, 1) := by decide +kernel
theorem dX3_setAside_61 : decode cX3_setAside 61 = .ok (.if_icmp .ge 25, 3) := by decide +kernel
theorem dX3_setAside_64 : decode cX3_setAside 64 = .ok (.iload 4, 2) := by decide +kernel
theorem dX3_setAside_66 : decode cX3_setAside 66 = .ok (.iload_n 3, 1) := by decide +kernel
theorem dX3_setAside_67 : decode cX3_setAside 67 = .ok (.if_icmp .gt 19, 3) := by decide +kernel
theorem dX3_setAside_70 : decode cX3_setAside 70 = .ok (.aload_n 0, 1) := by decide +kernel
theorem dX3_setAside_71 : decode cX3_setAside 71 = .ok (.getfield 23, 3) := by decide +kernel
theorem dX3_setAside_74 : decode cX3_setAside 74 = .ok (.iload_n 3, 1) := by decide +kernel
theorem dX3_setAside_75 : decode cX3_setAside 75 = .ok (.iload 4, 2) := by decide +kernel
theorem dX3_setAside_77 : decode cX3_setAside 77 = .ok (.isub, 1) := by decide +kernel
theorem dX3_setAside_78 : decode cX3_setAside 78 = .ok (.iconst 1, 1) := by decide +kernel
theorem dX3_setAside_79 : decode cX3_setAside 79 = .ok (.bastore, 1) := by decide +kernel
theorem dX3_setAside_80 : decode cX3_setAside 80 = .ok (.iinc 4 1, 3) := by decide +kernel
theorem dX3_setAside_83 : decode cX3_setAside 83 = .ok (.goto (-25), 3) := by decide +kernel
theorem dX3_setAside_86 : decode cX3_setAside 86 = .ok (.iinc 3 1, 3) := by decide +kernel
theorem dX3_setAside_89 : decode cX3_setAside 89 = .ok (.goto (-52), 3) := by decide +kernel
theorem dX3_setAside_92 : decode cX3_setAside 92 = .ok (.return_, 1) := by decide +kernel
theorem dX3_longestSharedUpTo_0 : decode cX3_longestSharedUpTo 0 = .ok (.iconst 0, 1) := by decide +kernel
theorem dX3_longestSharedUpTo_1 : decode cX3_longestSharedUpTo 1 = .ok (.istore_n 3, 1) := by decide +kernel
theorem dX3_longestSharedUpTo_2 : decode cX3_longestSharedUpTo 2 = .ok (.aload_n 2, 1) := by decide +kernel
theorem dX3_longestSharedUpTo_3 : decode cX3_longestSharedUpTo 3 = .ok (.getfield 29, 3) := by decide +kernel
theorem dX3_longestSharedUpTo_6 : decode cX3_longestSharedUpTo 6 = .ok (.iconst 1, 1) := by decide +kernel
theorem dX3_longestSharedUpTo_7 : decode cX3_longestSharedUpTo 7 = .ok (.isub, 1) := by decide +kernel
theorem dX3_longestSharedUpTo_8 : decode cX3_longestSharedUpTo 8 = .ok (.istore 4, 2) := by decide +kernel
theorem dX3_longestSharedUpTo_10 : decode cX3_longestSharedUpTo 10 = .ok (.iload 4, 2) := by decide +kernel
theorem dX3_longestSharedUpTo_12 : decode cX3_longestSharedUpTo 12 = .ok (.ifCond .lt 80, 3) := by decide +kernel
theorem dX3_longestSharedUpTo_15 : decode cX3_longestSharedUpTo 15 = .ok (.iload 4, 2) := by decide +kernel
theorem dX3_longestSharedUpTo_17 : decode cX3_longestSharedUpTo 17 = .ok (.ifCond .le 15, 3) := by decide +kernel
theorem dX3_longestSharedUpTo_20 : decode cX3_longestSharedUpTo 20 = .ok (.aload_n 0, 1) := by decide +kernel
theorem dX3_longestSharedUpTo_21 : decode cX3_longestSharedUpTo 21 = .ok (.getfield 26, 3) := by decide +kernel
theorem dX3_longestSharedUpTo_24 : decode cX3_longestSharedUpTo 24 = .ok (.iload 4, 2) := by decide +kernel
theorem dX3_longestSharedUpTo_26 : decode cX3_longestSharedUpTo 26 = .ok (.iconst 1, 1) := by decide +kernel
theorem dX3_longestSharedUpTo_27 : decode cX3_longestSharedUpTo 27 = .ok (.isub, 1) := by decide +kernel
theorem dX3_longestSharedUpTo_28 : decode cX3_longestSharedUpTo 28 = .ok (.iaload, 1) := by decide +kernel
theorem dX3_longestSharedUpTo_29 : decode cX3_longestSharedUpTo 29 = .ok (.goto 4, 3) := by decide +kernel
theorem dX3_longestSharedUpTo_32 : decode cX3_longestSharedUpTo 32 = .ok (.iconst 0, 1) := by decide +kernel
theorem dX3_longestSharedUpTo_33 : decode cX3_longestSharedUpTo 33 = .ok (.istore 5, 2) := by decide +kernel
theorem dX3_longestSharedUpTo_35 : decode cX3_longestSharedUpTo 35 = .ok (.aload_n 0, 1) := by decide +kernel
theorem dX3_longestSharedUpTo_36 : decode cX3_longestSharedUpTo 36 = .ok (.getfield 26, 3) := by decide +kernel
theorem dX3_longestSharedUpTo_39 : decode cX3_longestSharedUpTo 39 = .ok (.iload 4, 2) := by decide +kernel
theorem dX3_longestSharedUpTo_41 : decode cX3_longestSharedUpTo 41 = .ok (.aload_n 0, 1) := by decide +kernel
theorem dX3_longestSharedUpTo_42 : decode cX3_longestSharedUpTo 42 = .ok (.getfield 9, 3) := by decide +kernel
theorem dX3_longestSharedUpTo_45 : decode cX3_longestSharedUpTo 45 = .ok (.iload_n 1, 1) := by decide +kernel
theorem dX3_longestSharedUpTo_46 : decode cX3_longestSharedUpTo 46 = .ok (.laload, 1) := by decide +kernel
theorem dX3_longestSharedUpTo_47 : decode cX3_longestSharedUpTo 47 = .ok (.aload_n 2, 1) := by decide +kernel
theorem dX3_longestSharedUpTo_48 : decode cX3_longestSharedUpTo 48 = .ok (.getfield 9, 3) := by decide +kernel
theorem dX3_longestSharedUpTo_51 : decode cX3_longestSharedUpTo 51 = .ok (.iload 4, 2) := by decide +kernel
theorem dX3_longestSharedUpTo_53 : decode cX3_longestSharedUpTo 53 = .ok (.laload, 1) := by decide +kernel
theorem dX3_longestSharedUpTo_54 : decode cX3_longestSharedUpTo 54 = .ok (.lcmp, 1) := by decide +kernel
theorem dX3_longestSharedUpTo_55 : decode cX3_longestSharedUpTo 55 = .ok (.ifCond .ne 10, 3) := by decide +kernel
theorem dX3_longestSharedUpTo_58 : decode cX3_longestSharedUpTo 58 = .ok (.iload 5, 2) := by decide +kernel
theorem dX3_longestSharedUpTo_60 : decode cX3_longestSharedUpTo 60 = .ok (.iconst 1, 1) := by decide +kernel
theorem dX3_longestSharedUpTo_61 : decode cX3_longestSharedUpTo 61 = .ok (.iadd, 1) := by decide +kernel
theorem dX3_longestSharedUpTo_62 : decode cX3_longestSharedUpTo 62 = .ok (.goto 4, 3) := by decide +kernel
theorem dX3_longestSharedUpTo_65 : decode cX3_longestSharedUpTo 65 = .ok (.iconst 0, 1) := by decide +kernel
theorem dX3_longestSharedUpTo_66 : decode cX3_longestSharedUpTo 66 = .ok (.iastore, 1) := by decide +kernel
theorem dX3_longestSharedUpTo_67 : decode cX3_longestSharedUpTo 67 = .ok (.aload_n 0, 1) := by decide +kernel
theorem dX3_longestSharedUpTo_68 : decode cX3_longestSharedUpTo 68 = .ok (.getfield 26, 3) := by decide +kernel
theorem dX3_longestSharedUpTo_71 : decode cX3_longestSharedUpTo 71 = .ok (.iload 4, 2) := by decide +kernel
theorem dX3_longestSharedUpTo_73 : decode cX3_longestSharedUpTo 73 = .ok (.iaload, 1) := by decide +kernel
theorem dX3_longestSharedUpTo_74 : decode cX3_longestSharedUpTo 74 = .ok (.iload_n 3, 1) := by decide +kernel
theorem dX3_longestSharedUpTo_75 : decode cX3_longestSharedUpTo 75 = .ok (.if_icmp .le 11, 3) := by decide +kernel
theorem dX3_longestSharedUpTo_78 : decode cX3_longestSharedUpTo 78 = .ok (.aload_n 0, 1) := by decide +kernel
theorem dX3_longestSharedUpTo_79 : decode cX3_longestSharedUpTo 79 = .ok (.getfield 26, 3) := by decide +kernel
theorem dX3_longestSharedUpTo_82 : decode cX3_longestSharedUpTo 82 = .ok (.iload 4, 2) := by decide +kernel
theorem dX3_longestSharedUpTo_84 : decode cX3_longestSharedUpTo 84 = .ok (.iaload, 1) := by decide +kernel
theorem dX3_longestSharedUpTo_85 : decode cX3_longestSharedUpTo 85 = .ok (.istore_n 3, 1) := by decide +kernel
theorem dX3_longestSharedUpTo_86 : decode cX3_longestSharedUpTo 86 = .ok (.iinc 4 (-1), 3) := by decide +kernel
theorem dX3_longestSharedUpTo_89 : decode cX3_longestSharedUpTo 89 = .ok (.goto (-79), 3) := by decide +kernel
theorem dX3_longestSharedUpTo_92 : decode cX3_longestSharedUpTo 92 = .ok (.iload_n 3, 1) := by decide +kernel
theorem dX3_longestSharedUpTo_93 : decode cX3_longestSharedUpTo 93 = .ok (.ireturn, 1) := by decide +kernel
theorem dX4_init_0 : decode cX4_init 0 = .ok (.aload_n 0, 1) := by decide +kernel
theorem dX4_init_1 : decode cX4_init 1 = .ok (.invokespecial 3, 3) := by decide +kernel
theorem dX4_init_4 : decode cX4_init 4 = .ok (.aload_n 0, 1) := by decide +kernel
theorem dX4_init_5 : decode cX4_init 5 = .ok (.iconst 0, 1) := by decide +kernel
theorem dX4_init_6 : decode cX4_init 6 = .ok (.putfield 11, 3) := by decide +kernel
theorem dX4_init_9 : decode cX4_init 9 = .ok (.aload_n 0, 1) := by decide +kernel
theorem dX4_init_10 : decode cX4_init 10 = .ok (.iconst 0, 1) := by decide +kernel
theorem dX4_init_11 : decode cX4_init 11 = .ok (.putfield 15, 3) := by decide +kernel
theorem dX4_init_14 : decode cX4_init 14 = .ok (.aload_n 0, 1) := by decide +kernel
theorem dX4_init_15 : decode cX4_init 15 = .ok (.lconst 0, 1) := by decide +kernel
theorem dX4_init_16 : decode cX4_init 16 = .ok (.putfield 18, 3) := by decide +kernel
theorem dX4_init_19 : decode cX4_init 19 = .ok (.return_, 1) := by decide +kernel
theorem dX4_read_0 : decode cX4_read 0 = .ok (.aload_n 0, 1) := by decide +kernel
theorem dX4_read_1 : decode cX4_read 1 = .ok (.iconst 0, 1) := by decide +kernel
theorem dX4_read_2 : decode cX4_read 2 = .ok (.putfield 11, 3) := by decide +kernel
theorem dX4_read_5 : decode cX4_read 5 = .ok (.iconst 0, 1) := by decide +kernel
theorem dX4_read_6 : decode cX4_read 6 = .ok (.istore_n 3, 1) := by decide +kernel
theorem dX4_read_7 : decode cX4_read 7 = .ok (.iload_n 3, 1) := by decide +kernel
theorem dX4_read_8 : decode cX4_read 8 = .ok (.aload_n 1, 1) := by decide +kernel
theorem dX4_read_9 : decode cX4_read 9 = .ok (.getfield 22, 3) := by decide +kernel
theorem dX4_read_12 : decode cX4_read 12 = .ok (.if_icmp .ge 20, 3) := by decide +kernel
theorem dX4_read_15 : decode cX4_read 15 = .ok (.aload_n 0, 1) := by decide +kernel
theorem dX4_read_16 : decode cX4_read 16 = .ok (.aload_n 1, 1) := by decide +kernel
theorem dX4_read_17 : decode cX4_read 17 = .ok (.getfield 27, 3) := by decide +kernel
theorem dX4_read_20 : decode cX4_read 20 = .ok (.iload_n 3, 1) := by decide +kernel
theorem dX4_read_21 : decode cX4_read 21 = .ok (.baload, 1) := by decide +kernel
theorem dX4_read_22 : decode cX4_read 22 = .ok (.aload_n 2, 1) := by decide +kernel
theorem dX4_read_23 : decode cX4_read 23 = .ok (.invokevirtual 31, 3) := by decide +kernel
theorem dX4_read_26 : decode cX4_read 26 = .ok (.iinc 3 1, 3) := by decide +kernel
theorem dX4_read_29 : decode cX4_read 29 = .ok (.goto (-22), 3) := by decide +kernel
theorem dX4_read_32 : decode cX4_read 32 = .ok (.aload_n 0, 1) := by decide +kernel
theorem dX4_read_33 : decode cX4_read 33 = .ok (.aload_n 2, 1) := by decide +kernel
theorem dX4_read_34 : decode cX4_read 34 = .ok (.invokevirtual 35, 3) := by decide +kernel
theorem dX4_read_37 : decode cX4_read 37 = .ok (.return_, 1) := by decide +kernel
theorem dX4_takeByte_0 : decode cX4_takeByte 0 = .ok (.iload_n 1, 1) := by decide +kernel
theorem dX4_takeByte_1 : decode cX4_takeByte 1 = .ok (.invokestatic 39, 3) := by decide +kernel
theorem dX4_takeByte_4 : decode cX4_takeByte 4 = .ok (.istore_n 3, 1) := by decide +kernel
theorem dX4_takeByte_5 : decode cX4_takeByte 5 = .ok (.aload_n 0, 1) := by decide +kernel
theorem dX4_takeByte_6 : decode cX4_takeByte 6 = .ok (.getfield 11, 3) := by decide +kernel
theorem dX4_takeByte_9 : decode cX4_takeByte 9 = .ok (.iconst 1, 1) := by decide +kernel
theorem dX4_takeByte_10 : decode cX4_takeByte 10 = .ok (.if_icmp .ne 15, 3) := by decide +kernel
theorem dX4_takeByte_13 : decode cX4_takeByte 13 = .ok (.iload_n 3, 1) := by decide +kernel
theorem dX4_takeByte_14 : decode cX4_takeByte 14 = .ok (.ifCond .le 11, 3) := by decide +kernel
theorem dX4_takeByte_17 : decode cX4_takeByte 17 = .ok (.aload_n 0, 1) := by decide +kernel
theorem dX4_takeByte_18 : decode cX4_takeByte 18 = .ok (.iload_n 3, 1) := by decide +kernel
theorem dX4_takeByte_19 : decode cX4_takeByte 19 = .ok (.invokevirtual 43, 3) := by decide +kernel
theorem dX4_takeByte_22 : decode cX4_takeByte 22 = .ok (.goto 29, 3) := by decide +kernel
theorem dX4_takeByte_25 : decode cX4_takeByte 25 = .ok (.aload_n 0, 1) := by decide +kernel
theorem dX4_takeByte_26 : decode cX4_takeByte 26 = .ok (.getfield 11, 3) := by decide +kernel
theorem dX4_takeByte_29 : decode cX4_takeByte 29 = .ok (.iconst 2, 1) := by decide +kernel
theorem dX4_takeByte_30 : decode cX4_takeByte 30 = .ok (.if_icmp .ne 9, 3) := by decide +kernel
theorem dX4_takeByte_33 : decode cX4_takeByte 33 = .ok (.iload_n 3, 1) := by decide +kernel
theorem dX4_takeByte_34 : decode cX4_takeByte 34 = .ok (.bipush 26, 2) := by decide +kernel
theorem dX4_takeByte_36 : decode cX4_takeByte 36 = .ok (.if_icmp .gt 15, 3) := by decide +kernel
theorem dX4_takeByte_39 : decode cX4_takeByte 39 = .ok (.aload_n 0, 1) := by decide +kernel
theorem dX4_takeByte_40 : decode cX4_takeByte 40 = .ok (.aload_n 2, 1) := by decide +kernel
theorem dX4_takeByte_41 : decode cX4_takeByte 41 = .ok (.invokevirtual 35, 3) := by decide +kernel
theorem dX4_takeByte_44 : decode cX4_takeByte 44 = .ok (.aload_n 0, 1) := by decide +kernel
theorem dX4_takeByte_45 : decode cX4_takeByte 45 = .ok (.iload_n 1, 1) := by decide +kernel
theorem dX4_takeByte_46 : decode cX4_takeByte 46 = .ok (.iload_n 3, 1) := by decide +kernel
theorem dX4_takeByte_47 : decode cX4_takeByte 47 = .ok (.aload_n 2, 1) := by decide +kernel
theorem dX4_takeByte_48 : decode cX4_takeByte 48 = .ok (.invokevirtual 47, 3) := by decide +kernel
theorem dX4_takeByte_51 : decode cX4_takeByte 51 = .ok (.return_, 1) := by decide +kernel
theorem dX4_beginPiece_0 : decode cX4_beginPiece 0 = .ok (.iload_n 2, 1) := by decide +kernel
theorem dX4_beginPiece_1 : decode cX4_beginPiece 1 = .ok (.bipush 26, 2) := by decide +kernel
theorem dX4_beginPiece_3 : decode cX4_beginPiece 3 = .ok (.if_icmp .le 11, 3) := by decide +kernel
theorem dX4_beginPiece_6 : decode cX4_beginPiece 6 = .ok (.aload_n 0, 1) := by decide +kernel
theorem dX4_beginPiece_7 : decode cX4_beginPiece 7 = .ok (.iconst 2, 1) := by decide +kernel
theorem dX4_beginPiece_8 : decode cX4_beginPiece 8 = .ok (.putfield 11, 3) := by decide +kernel
theorem dX4_beginPiece_11 : decode cX4_beginPiece 11 = .ok (.goto 53, 3) := by decide +kernel
theorem dX4_beginPiece_14 : decode cX4_beginPiece 14 = .ok (.iload_n 2, 1) := by decide +kernel
theorem dX4_beginPiece_15 : decode cX4_beginPiece 15 = .ok (.ifCond .le 26, 3) := by decide +kernel
theorem dX4_beginPiece_18 : decode cX4_beginPiece 18 = .ok (.aload_n 0, 1) := by decide +kernel
theorem dX4_beginPiece_19 : decode cX4_beginPiece 19 = .ok (.iconst 1, 1) := by decide +kernel
theorem dX4_beginPiece_20 : decode cX4_beginPiece 20 = .ok (.putfield 11, 3) := by decide +kernel
theorem dX4_beginPiece_23 : decode cX4_beginPiece 23 = .ok (.aload_n 0, 1) := by decide +kernel
theorem dX4_beginPiece_24 : decode cX4_beginPiece 24 = .ok (.iconst 0, 1) := by decide +kernel
theorem dX4_beginPiece_25 : decode cX4_beginPiece 25 = .ok (.putfield 15, 3) := by decide +kernel
theorem dX4_beginPiece_28 : decode cX4_beginPiece 28 = .ok (.aload_n 0, 1) := by decide +kernel
theorem dX4_beginPiece_29 : decode cX4_beginPiece 29 = .ok (.lconst 0, 1) := by decide +kernel
theorem dX4_beginPiece_30 : decode cX4_beginPiece 30 = .ok (.putfield 18, 3) := by decide +kernel
theorem dX4_beginPiece_33 : decode cX4_beginPiece 33 = .ok (.aload_n 0, 1) := by decide +kernel
theorem dX4_beginPiece_34 : decode cX4_beginPiece 34 = .ok (.iload_n 2, 1) := by decide +kernel
theorem dX4_beginPiece_35 : decode cX4_beginPiece 35 = .ok (.invokevirtual 43, 3) := by decide +kernel
theorem dX4_beginPiece_38 : decode cX4_beginPiece 38 = .ok (.goto 26, 3) := by decide +kernel
theorem dX4_beginPiece_41 : decode cX4_beginPiece 41 = .ok (.iload_n 1, 1) := by decide +kernel
theorem dX4_beginPiece_42 : decode cX4_beginPiece 42 = .ok (.bipush 32, 2) := by decide +kernel
theorem dX4_beginPiece_44 : decode cX4_beginPiece 44 = .ok (.if_icmp .eq 20, 3) := by decide +kernel
theorem dX4_beginPiece_47 : decode cX4_beginPiece 47 = .ok (.aload_n 3, 1) := by decide +kernel
theorem dX4_beginPiece_48 : decode cX4_beginPiece 48 = .ok (.getfield 51, 3) := by decide +kernel
theorem dX4_beginPiece_51 : decode cX4_beginPiece 51 = .ok (.iconst 1, 1) := by decide +kernel
theorem dX4_beginPiece_52 : decode cX4_beginPiece 52 = .ok (.if_icmp .ne 12, 3) := by decide +kernel
theorem dX4_beginPiece_55 : decode cX4_beginPiece 55 = .ok (.aload_n 3, 1) := by decide +kernel
theorem dX4_beginPiece_56 : decode cX4_beginPiece 56 = .ok (.bipush 100, 2) := by decide +kernel
theorem dX4_beginPiece_58 : decode cX4_beginPiece 58 = .ok (.iload_n 1, 1) := by decide +kernel
theorem dX4_beginPiece_59 : decode cX4_beginPiece 59 = .ok (.iadd, 1) := by decide +kernel
theorem dX4_beginPiece_60 : decode cX4_beginPiece 60 = .ok (.i2l, 1) := by decide +kernel
theorem dX4_beginPiece_61 : decode cX4_beginPiece 61 = .ok (.invokevirtual 56, 3) := by decide +kernel
theorem dX4_beginPiece_64 : decode cX4_beginPiece 64 = .ok (.return_, 1) := by decide +kernel
theorem dX4_endPiece_0 : decode cX4_endPiece 0 = .ok (.aload_n 0, 1) := by decide +kernel
theorem dX4_endPiece_1 : decode cX4_endPiece 1 = .ok (.getfield 11, 3) := by decide +kernel
theorem dX4_endPiece_4 : decode cX4_endPiece 4 = .ok (.iconst 1, 1) := by decide +kernel
theorem dX4_endPiece_5 : decode cX4_endPiece 5 = .ok (.if_icmp .ne 30, 3) := by decide +kernel
theorem dX4_endPiece_8 : decode cX4_endPiece 8 = .ok (.aload_n 1, 1) := by decide +kernel
theorem dX4_endPiece_9 : decode cX4_endPiece 9 = .ok (.aload_n 1, 1) := by decide +kernel
theorem dX4_endPiece_10 : decode cX4_endPiece 10 = .ok (.getfield 51, 3) := by decide +kernel
theorem dX4_endPiece_13 : decode cX4_endPiece 13 = .ok (.iconst 1, 1) := by decide +kernel
theorem dX4_endPiece_14 : decode cX4_endPiece 14 = .ok (.if_icmp .ne 11, 3) := by decide +kernel
theorem dX4_endPiece_17 : decode cX4_endPiece 17 = .ok (.aload_n 0, 1) := by decide +kernel
theorem dX4_endPiece_18 : decode cX4_endPiece 18 = .ok (.invokevirtual 60, 3) := by decide +kernel
theorem dX4_endPiece_21 : decode cX4_endPiece 21 = .ok (.i2l, 1) := by decide +kernel
theorem dX4_endPiece_22 : decode cX4_endPiece 22 = .ok (.goto 7, 3) := by decide +kernel
theorem dX4_endPiece_25 : decode cX4_endPiece 25 = .ok (.aload_n 0, 1) := by decide +kernel
theorem dX4_endPiece_26 : decode cX4_endPiece 26 = .ok (.getfield 18, 3) := by decide +kernel
theorem dX4_endPiece_29 : decode cX4_endPiece 29 = .ok (.invokevirtual 56, 3) := by decide +kernel
theorem dX4_endPiece_32 : decode cX4_endPiece 32 = .ok (.goto 26, 3) := by decide +kernel
theorem dX4_endPiece_35 : decode cX4_endPiece 35 = .ok (.aload_n 0, 1) := by decide +kernel
theorem dX4_endPiece_36 : decode cX4_endPiece 36 = .ok (.getfield 11, 3) := by decide +kernel
theorem dX4_endPiece_39 : decode cX4_endPiece 39 = .ok (.iconst 2, 1) := by decide +kernel
theorem dX4_endPiece_40 : decode cX4_endPiece 40 = .ok (.if_icmp .ne 18, 3) := by decide +kernel
theorem dX4_endPiece_43 : decode cX4_endPiece 43 = .ok (.aload_n 1, 1) := by decide +kernel
theorem dX4_endPiece_44 : decode cX4_endPiece 44 = .ok (.getfield 51, 3) := by decide +kernel
theorem dX4_endPiece_47 : decode cX4_endPiece 47 = .ok (.iconst 1, 1) := by decide +kernel
theorem dX4_endPiece_48 : decode cX4_endPiece 48 = .ok (.if_icmp .ne 10, 3) := by decide +kernel
theorem dX4_endPiece_51 : decode cX4_endPiece 51 = .ok (.aload_n 1, 1) := by decide +kernel
theorem dX4_endPiece_52 : decode cX4_endPiece 52 = .ok (.ldc2_w 64, 3) := by decide +kernel
theorem dX4_endPiece_55 : decode cX4_endPiece 55 = .ok (.invokevirtual 56, 3) := by decide +kernel
theorem dX4_endPiece_58 : decode cX4_endPiece 58 = .ok (.aload_n 0, 1) := by decide +kernel
theorem dX4_endPiece_59 : decode cX4_endPiece 59 = .ok (.iconst 0, 1) := by decide +kernel
theorem dX4_endPiece_60 : decode cX4_endPiece 60 = .ok (.putfield 11, 3) := by decide +kernel
theorem dX4_endPiece_63 : decode cX4_endPiece 63 = .ok (.return_, 1) := by decide +kernel
theorem dX4_lengthenWord_0 : decode cX4_lengthenWord 0 = .ok (.aload_n 0, 1) := by decide +kernel
theorem dX4_lengthenWord_1 : decode cX4_lengthenWord 1 = .ok (.getfield 15, 3) := by decide +kernel
theorem dX4_lengthenWord_4 : decode cX4_lengthenWord 4 = .ok (.bipush 6, 2) := by decide +kernel
theorem dX4_lengthenWord_6 : decode cX4_lengthenWord 6 = .ok (.if_icmp .ge 28, 3) := by decide +kernel
theorem dX4_lengthenWord_9 : decode cX4_lengthenWord 9 = .ok (.aload_n 0, 1) := by decide +kernel
theorem dX4_lengthenWord_10 : decode cX4_lengthenWord 10 = .ok (.aload_n 0, 1) := by decide +kernel
theorem dX4_lengthenWord_11 : decode cX4_lengthenWord 11 = .ok (.getfield 18, 3) := by decide +kernel
theorem dX4_lengthenWord_14 : decode cX4_lengthenWord 14 = .ok (.ldc2_w 66, 3) := by decide +kernel
theorem dX4_lengthenWord_17 : decode cX4_lengthenWord 17 = .ok (.lmul, 1) := by decide +kernel
theorem dX4_lengthenWord_18 : decode cX4_lengthenWord 18 = .ok (.iload_n 1, 1) := by decide +kernel
theorem dX4_lengthenWord_19 : decode cX4_lengthenWord 19 = .ok (.i2l, 1) := by decide +kernel
theorem dX4_lengthenWord_20 : decode cX4_lengthenWord 20 = .ok (.ladd, 1) := by decide +kernel
theorem dX4_lengthenWord_21 : decode cX4_lengthenWord 21 = .ok (.putfield 18, 3) := by decide +kernel
theorem dX4_lengthenWord_24 : decode cX4_lengthenWord 24 = .ok (.aload_n 0, 1) := by decide +kernel
theorem dX4_lengthenWord_25 : decode cX4_lengthenWord 25 = .ok (.dup, 1) := by decide +kernel
theorem dX4_lengthenWord_26 : decode cX4_lengthenWord 26 = .ok (.getfield 15, 3) := by decide +kernel
theorem dX4_lengthenWord_29 : decode cX4_lengthenWord 29 = .ok (.iconst 1, 1) := by decide +kernel
theorem dX4_lengthenWord_30 : decode cX4_lengthenWord 30 = .ok (.iadd, 1) := by decide +kernel
theorem dX4_lengthenWord_31 : decode cX4_lengthenWord 31 = .ok (.putfield 15, 3) := by decide +kernel
theorem dX4_lengthenWord_34 : decode cX4_lengthenWord 34 = .ok (.return_, 1) := by decide +kernel
theorem dX4_codeOfWord_0 : decode cX4_codeOfWord 0 = .ok (.iconst 0, 1) := by decide +kernel
theorem dX4_codeOfWord_1 : decode cX4_codeOfWord 1 = .ok (.istore_n 1, 1) := by decide +kernel
theorem dX4_codeOfWord_2 : decode cX4_codeOfWord 2 = .ok (.iload_n 1, 1) := by decide +kernel
theorem dX4_codeOfWord_3 : decode cX4_codeOfWord 3 = .ok (.getstatic 68, 3) := by decide +kernel
theorem dX4_codeOfWord_6 : decode cX4_codeOfWord 6 = .ok (.arraylength, 1) := by decide +kernel
theorem dX4_codeOfWord_7 : decode cX4_codeOfWord 7 = .ok (.if_icmp .ge 27, 3) := by decide +kernel
theorem dX4_codeOfWord_10 : decode cX4_codeOfWord 10 = .ok (.aload_n 0, 1) := by decide +kernel
theorem dX4_codeOfWord_11 : decode cX4_codeOfWord 11 = .ok (.getfield 18, 3) := by decide +kernel
theorem dX4_codeOfWord_14 : decode cX4_codeOfWord 14 = .ok (.getstatic 68, 3) := by decide +kernel
theorem dX4_codeOfWord_17 : decode cX4_codeOfWord 17 = .ok (.iload_n 1, 1) := by decide +kernel
theorem dX4_codeOfWord_18 : decode cX4_codeOfWord 18 = .ok (.iaload, 1) := by decide +kernel
theorem dX4_codeOfWord_19 : decode cX4_codeOfWord 19 = .ok (.i2l, 1) := by decide +kernel
theorem dX4_codeOfWord_20 : decode cX4_codeOfWord 20 = .ok (.lcmp, 1) := by decide +kernel
theorem dX4_codeOfWord_21 : decode cX4_codeOfWord 21 = .ok (.ifCond .ne 7, 3) := by decide +kernel
theorem dX4_codeOfWord_24 : decode cX4_codeOfWord 24 = .ok (.iload_n 1, 1) := by decide +kernel
theorem dX4_codeOfWord_25 : decode cX4_codeOfWord 25 = .ok (.iconst 1, 1) := by decide +kernel
theorem dX4_codeOfWord_26 : decode cX4_codeOfWord 26 = .ok (.iadd, 1) := by decide +kernel
theorem dX4_codeOfWord_27 : decode cX4_codeOfWord 27 = .ok (.ireturn, 1) := by decide +kernel
theorem dX4_codeOfWord_28 : decode cX4_codeOfWord 28 = .ok (.iinc 1 1, 3) := by decide +kernel
theorem dX4_codeOfWord_31 : decode cX4_codeOfWord 31 = .ok (.goto (-29), 3) := by decide +kernel
theorem dX4_codeOfWord_34 : decode cX4_codeOfWord 34 = .ok (.bipush 6, 2) := by decide +kernel
theorem dX4_codeOfWord_36 : decode cX4_codeOfWord 36 = .ok (.ireturn, 1) := by decide +kernel
theorem dX4_valueOf_0 : decode cX4_valueOf 0 = .ok (.iload_n 0, 1) := by decide +kernel
theorem dX4_valueOf_1 : decode cX4_valueOf 1 = .ok (.bipush 97, 2) := by decide +kernel
theorem dX4_valueOf_3 : decode cX4_valueOf 3 = .ok (.if_icmp .lt 16, 3) := by decide +kernel
theorem dX4_valueOf_6 : decode cX4_valueOf 6 = .ok (.iload_n 0, 1) := by decide +kernel
theorem dX4_valueOf_7 : decode cX4_valueOf 7 = .ok (.bipush 122, 2) := by decide +kernel
theorem dX4_valueOf_9 : decode cX4_valueOf 9 = .ok (.if_icmp .gt 10, 3) := by decide +kernel
theorem dX4_valueOf_12 : decode cX4_valueOf 12 = .ok (.iload_n 0, 1) := by decide +kernel
theorem dX4_valueOf_13 : decode cX4_valueOf 13 = .ok (.bipush 97, 2) := by decide +kernel
theorem dX4_valueOf_15 : decode cX4_valueOf 15 = .ok (.isub, 1) := by decide +kernel
theorem dX4_valueOf_16 : decode cX4_valueOf 16 = .ok (.iconst 1, 1) := by decide +kernel
theorem dX4_valueOf_17 : decode cX4_valueOf 17 = .ok (.iadd, 1) := by decide +kernel
theorem dX4_valueOf_18 : decode cX4_valueOf 18 = .ok (.ireturn, 1) := by decide +kernel
theorem dX4_valueOf_19 : decode cX4_valueOf 19 = .ok (.iload_n 0, 1) := by decide +kernel
theorem dX4_valueOf_20 : decode cX4_valueOf 20 = .ok (.bipush 65, 2) := by decide +kernel
theorem dX4_valueOf_22 : decode cX4_valueOf 22 = .ok (.if_icmp .lt 16, 3) := by decide +kernel
theorem dX4_valueOf_25 : decode cX4_valueOf 25 = .ok (.iload_n 0, 1) := by decide +kernel
theorem dX4_valueOf_26 : decode cX4_valueOf 26 = .ok (.bipush 90, 2) := by decide +kernel
theorem dX4_valueOf_28 : decode cX4_valueOf 28 = .ok (.if_icmp .gt 10, 3) := by decide +kernel
theorem dX4_valueOf_31 : decode cX4_valueOf 31 = .ok (.iload_n 0, 1) := by decide +kernel
theorem dX4_valueOf_32 : decode cX4_valueOf 32 = .ok (.bipush 65, 2) := by decide +kernel
theorem dX4_valueOf_34 : decode cX4_valueOf 34 = .ok (.isub, 1) := by decide +kernel
theorem dX4_valueOf_35 : decode cX4_valueOf 35 = .ok (.iconst 1, 1) := by decide +kernel
theorem dX4_valueOf_36 : decode cX4_valueOf 36 = .ok (.iadd, 1) := by decide +kernel
theorem dX4_valueOf_37 : decode cX4_valueOf 37 = .ok (.ireturn, 1) := by decide +kernel
theorem dX4_valueOf_38 : decode cX4_valueOf 38 = .ok (.iload_n 0, 1) := by decide +kernel
theorem dX4_valueOf_39 : decode cX4_valueOf 39 = .ok (.bipush 48, 2) := by decide +kernel
theorem dX4_valueOf_41 : decode cX4_valueOf 41 = .ok (.if_icmp .lt 19, 3) := by decide +kernel
theorem dX4_valueOf_44 : decode cX4_valueOf 44 = .ok (.iload_n 0, 1) := by decide +kernel
theorem dX4_valueOf_45 : decode cX4_valueOf 45 = .ok (.bipush 57, 2) := by decide +kernel
theorem dX4_valueOf_47 : decode cX4_valueOf 47 = .ok (.if_icmp .gt 13, 3) := by decide +kernel
theorem dX4_valueOf_50 : decode cX4_valueOf 50 = .ok (.iload_n 0, 1) := by decide +kernel
theorem dX4_valueOf_51 : decode cX4_valueOf 51 = .ok (.bipush 48, 2) := by decide +kernel
theorem dX4_valueOf_53 : decode cX4_valueOf 53 = .ok (.isub, 1) := by decide +kernel
theorem dX4_valueOf_54 : decode cX4_valueOf 54 = .ok (.bipush 26, 2) := by decide +kernel
theorem dX4_valueOf_56 : decode cX4_valueOf 56 = .ok (.iadd, 1) := by decide +kernel
theorem dX4_valueOf_57 : decode cX4_valueOf 57 = .ok (.iconst 1, 1) := by decide +kernel
theorem dX4_valueOf_58 : decode cX4_valueOf 58 = .ok (.iadd, 1) := by decide +kernel
theorem dX4_valueOf_59 : decode cX4_valueOf 59 = .ok (.ireturn, 1) := by decide +kernel
theorem dX4_valueOf_60 : decode cX4_valueOf 60 = .ok (.iconst 0, 1) := by decide +kernel
theorem dX4_valueOf_61 : decode cX4_valueOf 61 = .ok (.ireturn, 1) := by decide +kernel
theorem dX5_init_0 : decode cX5_init 0 = .ok (.aload_n 0, 1) := by decide +kernel
theorem dX5_init_1 : decode cX5_init 1 = .ok (.invokespecial 3, 3) := by decide +kernel
theorem dX5_init_4 : decode cX5_init 4 = .ok (.aload_n 0, 1) := by decide +kernel
theorem dX5_init_5 : decode cX5_init 5 = .ok (.bipush 6, 2) := by decide +kernel
theorem dX5_init_7 : decode cX5_init 7 = .ok (.anewarray 9, 3) := by decide +kernel
theorem dX5_init_10 : decode cX5_init 10 = .ok (.putfield 11, 3) := by decide +kernel
theorem dX5_init_13 : decode cX5_init 13 = .ok (.aload_n 0, 1) := by decide +kernel
theorem dX5_init_14 : decode cX5_init 14 = .ok (.iconst (-1), 1) := by decide +kernel
theorem dX5_init_15 : decode cX5_init 15 = .ok (.putfield 17, 3) := by decide +kernel
theorem dX5_init_18 : decode cX5_init 18 = .ok (.aload_n 0, 1) := by decide +kernel
theorem dX5_init_19 : decode cX5_init 19 = .ok (.iconst 3, 1) := by decide +kernel
theorem dX5_init_20 : decode cX5_init 20 = .ok (.putfield 21, 3) := by decide +kernel
theorem dX5_init_23 : decode cX5_init 23 = .ok (.aload_n 0, 1) := by decide +kernel
theorem dX5_init_24 : decode cX5_init 24 = .ok (.iconst 4, 1) := by decide +kernel
theorem dX5_init_25 : decode cX5_init 25 = .ok (.putfield 24, 3) := by decide +kernel
theorem dX5_init_28 : decode cX5_init 28 = .ok (.aload_n 0, 1) := by decide +kernel
theorem dX5_init_29 : decode cX5_init 29 = .ok (.iconst 2, 1) := by decide +kernel
theorem dX5_init_30 : decode cX5_init 30 = .ok (.putfield 27, 3) := by decide +kernel
theorem dX5_init_33 : decode cX5_init 33 = .ok (.aload_n 0, 1) := by decide +kernel
theorem dX5_init_34 : decode cX5_init 34 = .ok (.bipush 8, 2) := by decide +kernel
theorem dX5_init_36 : decode cX5_init 36 = .ok (.putfield 30, 3) := by decide +kernel
theorem dX5_init_39 : decode cX5_init 39 = .ok (.iconst 0, 1) := by decide +kernel
theorem dX5_init_40 : decode cX5_init 40 = .ok (.istore_n 1, 1) := by decide +kernel
theorem dX5_init_41 : decode cX5_init 41 = .ok (.iload_n 1, 1) := by decide +kernel
theorem dX5_init_42 : decode cX5_init 42 = .ok (.bipush 6, 2) := by decide +kernel
theorem dX5_init_44 : decode cX5_init 44 = .ok (.if_icmp .ge 22, 3) := by decide +kernel
theorem dX5_init_47 : decode cX5_init 47 = .ok (.aload_n 0, 1) := by decide +kernel
theorem dX5_init_48 : decode cX5_init 48 = .ok (.getfield 11, 3) := by decide +kernel
theorem dX5_init_51 : decode cX5_init 51 = .ok (.iload_n 1, 1) := by decide +kernel
theorem dX5_init_52 : decode cX5_init 52 = .ok (.new 9, 3) := by decide +kernel
theorem dX5_init_55 : decode cX5_init 55 = .ok (.dup, 1) := by decide +kernel
theorem dX5_init_56 : decode cX5_init 56 = .ok (.invokespecial 33, 3) := by decide +kernel
theorem dX5_init_59 : decode cX5_init 59 = .ok (.aastore, 1) := by decide +kernel
theorem dX5_init_60 : decode cX5_init 60 = .ok (.iinc 1 1, 3) := by decide +kernel
theorem dX5_init_63 : decode cX5_init 63 = .ok (.goto (-22), 3) := by decide +kernel
theorem dX5_init_66 : decode cX5_init 66 = .ok (.return_, 1) := by decide +kernel
theorem dX5_names_0 : decode cX5_names 0 = .ok (.iload_n 1, 1) := by decide +kernel
theorem dX5_names_1 : decode cX5_names 1 = .ok (.ifCond .lt 13, 3) := by decide +kernel
theorem dX5_names_4 : decode cX5_names 4 = .ok (.iload_n 1, 1) := by decide +kernel
theorem dX5_names_5 : decode cX5_names 5 = .ok (.bipush 6, 2) := by decide +kernel
theorem dX5_names_7 : decode cX5_names 7 = .ok (.if_icmp .ge 7, 3) := by decide +kernel
theorem dX5_names_10 : decode cX5_names 10 = .ok (.iconst 1, 1) := by decide +kernel
theorem dX5_names_11 : decode cX5_names 11 = .ok (.goto 4, 3) := by decide +kernel
theorem dX5_names_14 : decode cX5_names 14 = .ok (.iconst 0, 1) := by decide +kernel
theorem dX5_names_15 : decode cX5_names 15 = .ok (.ireturn, 1) := by decide +kernel
theorem dX5_holds_0 : decode cX5_holds 0 = .ok (.aload_n 0, 1) := by decide +kernel
theorem dX5_holds_1 : decode cX5_holds 1 = .ok (.iload_n 1, 1) := by decide +kernel
theorem dX5_holds_2 : decode cX5_holds 2 = .ok (.invokevirtual 34, 3) := by decide +kernel
theorem dX5_holds_5 : decode cX5_holds 5 = .ok (.ifCond .eq 19, 3) := by decide +kernel
theorem dX5_holds_8 : decode cX5_holds 8 = .ok (.aload_n 0, 1) := by decide +kernel
theorem dX5_holds_9 : decode cX5_holds 9 = .ok (.getfield 11, 3) := by decide +kernel
theorem dX5_holds_12 : decode cX5_holds 12 = .ok (.iload_n 1, 1) := by decide +kernel
theorem dX5_holds_13 : decode cX5_holds 13 = .ok (.aaload, 1) := by decide +kernel
theorem dX5_holds_14 : decode cX5_holds 14 = .ok (.getfield 38, 3) := by decide +kernel
theorem dX5_holds_17 : decode cX5_holds 17 = .ok (.ifCond .eq 7, 3) := by decide +kernel
theorem dX5_holds_20 : decode cX5_holds 20 = .ok (.iconst 1, 1) := by decide +kernel
theorem dX5_holds_21 : decode cX5_holds 21 = .ok (.goto 4, 3) := by decide +kernel
theorem dX5_holds_24 : decode cX5_holds 24 = .ok (.iconst 0, 1) := by decide +kernel
theorem dX5_holds_25 : decode cX5_holds 25 = .ok (.ireturn, 1) := by decide +kernel
theorem dX5_howManyBooks_0 : decode cX5_howManyBooks 0 = .ok (.iconst 0, 1) := by decide +kernel
theorem dX5_howManyBooks_1 : decode cX5_howManyBooks 1 = .ok (.istore_n 1, 1) := by decide +kernel
theorem dX5_howManyBooks_2 : decode cX5_howManyBooks 2 = .ok (.iconst 0, 1) := by decide +kernel
theorem dX5_howManyBooks_3 : decode cX5_howManyBooks 3 = .ok (.istore_n 2, 1) := by decide +kernel
theorem dX5_howManyBooks_4 : decode cX5_howManyBooks 4 = .ok (.iload_n 2, 1) := by decide +kernel
theorem dX5_howManyBooks_5 : decode cX5_howManyBooks 5 = .ok (.bipush 6, 2) := by decide +kernel
theorem dX5_howManyBooks_7 : decode cX5_howManyBooks 7 = .ok (.if_icmp .ge 24, 3) := by decide +kernel
theorem dX5_howManyBooks_10 : decode cX5_howManyBooks 10 = .ok (.aload_n 0, 1) := by decide +kernel
theorem dX5_howManyBooks_11 : decode cX5_howManyBooks 11 = .ok (.getfield 11, 3) := by decide +kernel
theorem dX5_howManyBooks_14 : decode cX5_howManyBooks 14 = .ok (.iload_n 2, 1) := by decide +kernel
theorem dX5_howManyBooks_15 : decode cX5_howManyBooks 15 = .ok (.aaload, 1) := by decide +kernel
theorem dX5_howManyBooks_16 : decode cX5_howManyBooks 16 = .ok (.getfield 38, 3) := by decide +kernel
theorem dX5_howManyBooks_19 : decode cX5_howManyBooks 19 = .ok (.ifCond .eq 6, 3) := by decide +kernel
theorem dX5_howManyBooks_22 : decode cX5_howManyBooks 22 = .ok (.iinc 1 1, 3) := by decide +kernel
theorem dX5_howManyBooks_25 : decode cX5_howManyBooks 25 = .ok (.iinc 2 1, 3) := by decide +kernel
theorem dX5_howManyBooks_28 : decode cX5_howManyBooks 28 = .ok (.goto (-24), 3) := by decide +kernel
theorem dX5_howManyBooks_31 : decode cX5_howManyBooks 31 = .ok (.iload_n 1, 1) := by decide +kernel
theorem dX5_howManyBooks_32 : decode cX5_howManyBooks 32 = .ok (.ireturn, 1) := by decide +kernel
theorem dX6_init_0 : decode cX6_init 0 = .ok (.aload_n 0, 1) := by decide +kernel
theorem dX6_init_1 : decode cX6_init 1 = .ok (.invokespecial 3, 3) := by decide +kernel
theorem dX6_init_4 : decode cX6_init 4 = .ok (.aload_n 0, 1) := by decide +kernel
theorem dX6_init_5 : decode cX6_init 5 = .ok (.sipush 240, 3) := by decide +kernel
theorem dX6_init_8 : decode cX6_init 8 = .ok (.newarray .byte, 2) := by decide +kernel
theorem dX6_init_10 : decode cX6_init 10 = .ok (.putfield 9, 3) := by decide +kernel
theorem dX6_init_13 : decode cX6_init 13 = .ok (.aload_n 0, 1) := by decide +kernel
theorem dX6_init_14 : decode cX6_init 14 = .ok (.iconst 0, 1) := by decide +kernel
theorem dX6_init_15 : decode cX6_init 15 = .ok (.putfield 15, 3) := by decide +kernel
theorem dX6_init_18 : decode cX6_init 18 = .ok (.return_, 1) := by decide +kernel
theorem dX6_isText_0 : decode cX6_isText 0 = .ok (.iconst 0, 1) := by decide +kernel
theorem dX6_isText_1 : decode cX6_isText 1 = .ok (.istore_n 3, 1) := by decide +kernel
theorem dX6_isText_2 : decode cX6_isText 2 = .ok (.iload_n 3, 1) := by decide +kernel
theorem dX6_isText_3 : decode cX6_isText 3 = .ok (.iload_n 2, 1) := by decide +kernel
theorem dX6_isText_4 : decode cX6_isText 4 = .ok (.if_icmp .ge 32, 3) := by decide +kernel
theorem dX6_isText_7 : decode cX6_isText 7 = .ok (.lload_n 0, 1) := by decide +kernel
theorem dX6_isText_8 : decode cX6_isText 8 = .ok (.iload_n 3, 1) := by decide +kernel
theorem dX6_isText_9 : decode cX6_isText 9 = .ok (.invokestatic 19, 3) := by decide +kernel
theorem dX6_isText_12 : decode cX6_isText 12 = .ok (.istore 4, 2) := by decide +kernel
theorem dX6_isText_14 : decode cX6_isText 14 = .ok (.iload 4, 2) := by decide +kernel
theorem dX6_isText_16 : decode cX6_isText 16 = .ok (.bipush 32, 2) := by decide +kernel
theorem dX6_isText_18 : decode cX6_isText 18 = .ok (.if_icmp .lt 10, 3) := by decide +kernel
theorem dX6_isText_21 : decode cX6_isText 21 = .ok (.iload 4, 2) := by decide +kernel
theorem dX6_isText_23 : decode cX6_isText 23 = .ok (.bipush 126, 2) := by decide +kernel
theorem dX6_isText_25 : decode cX6_isText 25 = .ok (.if_icmp .le 5, 3) := by decide +kernel
theorem dX6_isText_28 : decode cX6_isText 28 = .ok (.iconst 0, 1) := by decide +kernel
theorem dX6_isText_29 : decode cX6_isText 29 = .ok (.ireturn, 1) := by decide +kernel
theorem dX6_isText_30 : decode cX6_isText 30 = .ok (.iinc 3 1, 3) := by decide +kernel
theorem dX6_isText_33 : decode cX6_isText 33 = .ok (.goto (-31), 3) := by decide +kernel
theorem dX6_isText_36 : decode cX6_isText 36 = .ok (.iconst 1, 1) := by decide +kernel
theorem dX6_isText_37 : decode cX6_isText 37 = .ok (.ireturn, 1) := by decide +kernel
theorem dX6_byteAt_0 : decode cX6_byteAt 0 = .ok (.lload_n 0, 1) := by decide +kernel
theorem dX6_byteAt_1 : decode cX6_byteAt 1 = .ok (.bipush 8, 2) := by decide +kernel
theorem dX6_byteAt_3 : decode cX6_byteAt 3 = .ok (.iload_n 2, 1) := by decide +kernel
theorem dX6_byteAt_4 : decode cX6_byteAt 4 = .ok (.imul, 1) := by decide +kernel
theorem dX6_byteAt_5 : decode cX6_byteAt 5 = .ok (.lushr, 1) := by decide +kernel
theorem dX6_byteAt_6 : decode cX6_byteAt 6 = .ok (.l2i, 1) := by decide +kernel
theorem dX6_byteAt_7 : decode cX6_byteAt 7 = .ok (.sipush 255, 3) := by decide +kernel
theorem dX6_byteAt_10 : decode cX6_byteAt 10 = .ok (.iand, 1) := by decide +kernel
theorem dX6_byteAt_11 : decode cX6_byteAt 11 = .ok (.ireturn, 1) := by decide +kernel
theorem dX6_hasRoomFor_0 : decode cX6_hasRoomFor 0 = .ok (.aload_n 0, 1) := by decide +kernel
theorem dX6_hasRoomFor_1 : decode cX6_hasRoomFor 1 = .ok (.getfield 15, 3) := by decide +kernel
theorem dX6_hasRoomFor_4 : decode cX6_hasRoomFor 4 = .ok (.iload_n 1, 1) := by decide +kernel
theorem dX6_hasRoomFor_5 : decode cX6_hasRoomFor 5 = .ok (.iadd, 1) := by decide +kernel
theorem dX6_hasRoomFor_6 : decode cX6_hasRoomFor 6 = .ok (.sipush 240, 3) := by decide +kernel
theorem dX6_hasRoomFor_9 : decode cX6_hasRoomFor 9 = .ok (.if_icmp .gt 7, 3) := by decide +kernel
theorem dX6_hasRoomFor_12 : decode cX6_hasRoomFor 12 = .ok (.iconst 1, 1) := by decide +kernel
theorem dX6_hasRoomFor_13 : decode cX6_hasRoomFor 13 = .ok (.goto 4, 3) := by decide +kernel
theorem dX6_hasRoomFor_16 : decode cX6_hasRoomFor 16 = .ok (.iconst 0, 1) := by decide +kernel
theorem dX6_hasRoomFor_17 : decode cX6_hasRoomFor 17 = .ok (.ireturn, 1) := by decide +kernel
theorem dX6_append_0 : decode cX6_append 0 = .ok (.iload_n 3, 1) := by decide +kernel
theorem dX6_append_1 : decode cX6_append 1 = .ok (.iconst 1, 1) := by decide +kernel
theorem dX6_append_2 : decode cX6_append 2 = .ok (.isub, 1) := by decide +kernel
theorem dX6_append_3 : decode cX6_append 3 = .ok (.istore 4, 2) := by decide +kernel
theorem dX6_append_5 : decode cX6_append 5 = .ok (.iload 4, 2) := by decide +kernel
theorem dX6_append_7 : decode cX6_append 7 = .ok (.ifCond .lt 45, 3) := by decide +kernel
theorem dX6_append_10 : decode cX6_append 10 = .ok (.aload_n 0, 1) := by decide +kernel
theorem dX6_append_11 : decode cX6_append 11 = .ok (.getfield 15, 3) := by decide +kernel
theorem dX6_append_14 : decode cX6_append 14 = .ok (.sipush 240, 3) := by decide +kernel
theorem dX6_append_17 : decode cX6_append 17 = .ok (.if_icmp .ge 35, 3) := by decide +kernel
theorem dX6_append_20 : decode cX6_append 20 = .ok (.aload_n 0, 1) := by decide +kernel
theorem dX6_append_21 : decode cX6_append 21 = .ok (.getfield 9, 3) := by decide +kernel
theorem dX6_append_24 : decode cX6_append 24 = .ok (.aload_n 0, 1) := by decide +kernel
theorem dX6_append_25 : decode cX6_append 25 = .ok (.getfield 15, 3) := by decide +kernel
theorem dX6_append_28 : decode cX6_append 28 = .ok (.lload_n 1, 1) := by decide +kernel
theorem dX6_append_29 : decode cX6_append 29 = .ok (.iload 4, 2) := by decide +kernel
theorem dX6_append_31 : decode cX6_append 31 = .ok (.invokestatic 19, 3) := by decide +kernel
theorem dX6_append_34 : decode cX6_append 34 = .ok (.i2b, 1) := by decide +kernel
theorem dX6_append_35 : decode cX6_append 35 = .ok (.bastore, 1) := by decide +kernel
theorem dX6_append_36 : decode cX6_append 36 = .ok (.aload_n 0, 1) := by decide +kernel
theorem dX6_append_37 : decode cX6_append 37 = .ok (.dup, 1) := by decide +kernel
theorem dX6_append_38 : decode cX6_append 38 = .ok (.getfield 15, 3) := by decide +kernel
theorem dX6_append_41 : decode cX6_append 41 = .ok (.iconst 1, 1) := by decide +kernel
theorem dX6_append_42 : decode cX6_append 42 = .ok (.iadd, 1) := by decide +kernel
theorem dX6_append_43 : decode cX6_append 43 = .ok (.putfield 15, 3) := by decide +kernel
theorem dX6_append_46 : decode cX6_append 46 = .ok (.iinc 4 (-1), 3) := by decide +kernel
theorem dX6_append_49 : decode cX6_append 49 = .ok (.goto (-44), 3) := by decide +kernel
theorem dX6_append_52 : decode cX6_append 52 = .ok (.return_, 1) := by decide +kernel
theorem dX6_clear_0 : decode cX6_clear 0 = .ok (.aload_n 0, 1) := by decide +kernel
theorem dX6_clear_1 : decode cX6_clear 1 = .ok (.iconst 0, 1) := by decide +kernel
theorem dX6_clear_2 : decode cX6_clear 2 = .ok (.putfield 15, 3) := by decide +kernel
theorem dX6_clear_5 : decode cX6_clear 5 = .ok (.return_, 1) := by decide +kernel
theorem dX7_init_0 : decode cX7_init 0 = .ok (.aload_n 0, 1) := by decide +kernel
theorem dX7_init_1 : decode cX7_init 1 = .ok (.invokespecial 1, 3) := by decide +kernel
theorem dX7_init_4 : decode cX7_init 4 = .ok (.aload_n 0, 1) := by decide +kernel
theorem dX7_init_5 : decode cX7_init 5 = .ok (.new 7, 3) := by decide +kernel
theorem dX7_init_8 : decode cX7_init 8 = .ok (.dup, 1) := by decide +kernel
theorem dX7_init_9 : decode cX7_init 9 = .ok (.invokespecial 9, 3) := by decide +kernel
theorem dX7_init_12 : decode cX7_init 12 = .ok (.putfield 10, 3) := by decide +kernel
theorem dX7_init_15 : decode cX7_init 15 = .ok (.aload_n 0, 1) := by decide +kernel
theorem dX7_init_16 : decode cX7_init 16 = .ok (.new 16, 3) := by decide +kernel
theorem dX7_init_19 : decode cX7_init 19 = .ok (.dup, 1) := by decide +kernel
theorem dX7_init_20 : decode cX7_init 20 = .ok (.invokespecial 18, 3) := by decide +kernel
theorem dX7_init_23 : decode cX7_init 23 = .ok (.putfield 19, 3) := by decide +kernel
theorem dX7_init_26 : decode cX7_init 26 = .ok (.aload_n 0, 1) := by decide +kernel
theorem dX7_init_27 : decode cX7_init 27 = .ok (.new 23, 3) := by decide +kernel
theorem dX7_init_30 : decode cX7_init 30 = .ok (.dup, 1) := by decide +kernel
theorem dX7_init_31 : decode cX7_init 31 = .ok (.invokespecial 25, 3) := by decide +kernel
theorem dX7_init_34 : decode cX7_init 34 = .ok (.putfield 26, 3) := by decide +kernel
theorem dX7_init_37 : decode cX7_init 37 = .ok (.aload_n 0, 1) := by decide +kernel
theorem dX7_init_38 : decode cX7_init 38 = .ok (.new 30, 3) := by decide +kernel
theorem dX7_init_41 : decode cX7_init 41 = .ok (.dup, 1) := by decide +kernel
theorem dX7_init_42 : decode cX7_init 42 = .ok (.invokespecial 32, 3) := by decide +kernel
theorem dX7_init_45 : decode cX7_init 45 = .ok (.putfield 33, 3) := by decide +kernel
theorem dX7_init_48 : decode cX7_init 48 = .ok (.aload_n 0, 1) := by decide +kernel
theorem dX7_init_49 : decode cX7_init 49 = .ok (.new 37, 3) := by decide +kernel
theorem dX7_init_52 : decode cX7_init 52 = .ok (.dup, 1) := by decide +kernel
theorem dX7_init_53 : decode cX7_init 53 = .ok (.invokespecial 39, 3) := by decide +kernel
theorem dX7_init_56 : decode cX7_init 56 = .ok (.putfield 40, 3) := by decide +kernel
theorem dX7_init_59 : decode cX7_init 59 = .ok (.return_, 1) := by decide +kernel
theorem dX7_type_0 : decode cX7_type 0 = .ok (.iload_n 3, 1) := by decide +kernel
theorem dX7_type_1 : decode cX7_type 1 = .ok (.iconst 1, 1) := by decide +kernel
theorem dX7_type_2 : decode cX7_type 2 = .ok (.if_icmp .lt 17, 3) := by decide +kernel
theorem dX7_type_5 : decode cX7_type 5 = .ok (.iload_n 3, 1) := by decide +kernel
theorem dX7_type_6 : decode cX7_type 6 = .ok (.bipush 8, 2) := by decide +kernel
theorem dX7_type_8 : decode cX7_type 8 = .ok (.if_icmp .gt 11, 3) := by decide +kernel
theorem dX7_type_11 : decode cX7_type 11 = .ok (.lload_n 1, 1) := by decide +kernel
theorem dX7_type_12 : decode cX7_type 12 = .ok (.iload_n 3, 1) := by decide +kernel
theorem dX7_type_13 : decode cX7_type 13 = .ok (.invokestatic 44, 3) := by decide +kernel
theorem dX7_type_16 : decode cX7_type 16 = .ok (.ifCond .ne 5, 3) := by decide +kernel
theorem dX7_type_19 : decode cX7_type 19 = .ok (.iconst (-1), 1) := by decide +kernel
theorem dX7_type_20 : decode cX7_type 20 = .ok (.ireturn, 1) := by decide +kernel
theorem dX7_type_21 : decode cX7_type 21 = .ok (.aload_n 0, 1) := by decide +kernel
theorem dX7_type_22 : decode cX7_type 22 = .ok (.getfield 10, 3) := by decide +kernel
theorem dX7_type_25 : decode cX7_type 25 = .ok (.iload_n 3, 1) := by decide +kernel
theorem dX7_type_26 : decode cX7_type 26 = .ok (.invokevirtual 48, 3) := by decide +kernel
theorem dX7_type_29 : decode cX7_type 29 = .ok (.ifCond .ne 6, 3) := by decide +kernel
theorem dX7_type_32 : decode cX7_type 32 = .ok (.bipush (-3), 2) := by decide +kernel
theorem dX7_type_34 : decode cX7_type 34 = .ok (.ireturn, 1) := by decide +kernel
theorem dX7_type_35 : decode cX7_type 35 = .ok (.aload_n 0, 1) := by decide +kernel
theorem dX7_type_36 : decode cX7_type 36 = .ok (.getfield 10, 3) := by decide +kernel
theorem dX7_type_39 : decode cX7_type 39 = .ok (.lload_n 1, 1) := by decide +kernel
theorem dX7_type_40 : decode cX7_type 40 = .ok (.iload_n 3, 1) := by decide +kernel
theorem dX7_type_41 : decode cX7_type 41 = .ok (.invokevirtual 52, 3) := by decide +kernel
theorem dX7_type_44 : decode cX7_type 44 = .ok (.aload_n 0, 1) := by decide +kernel
theorem dX7_type_45 : decode cX7_type 45 = .ok (.getfield 10, 3) := by decide +kernel
theorem dX7_type_48 : decode cX7_type 48 = .ok (.getfield 56, 3) := by decide +kernel
theorem dX7_type_51 : decode cX7_type 51 = .ok (.ireturn, 1) := by decide +kernel
theorem dX7_book_0 : decode cX7_book 0 = .ok (.aload_n 0, 1) := by decide +kernel
theorem dX7_book_1 : decode cX7_book 1 = .ok (.getfield 26, 3) := by decide +kernel
theorem dX7_book_4 : decode cX7_book 4 = .ok (.iload_n 1, 1) := by decide +kernel
theorem dX7_book_5 : decode cX7_book 5 = .ok (.invokevirtual 60, 3) := by decide +kernel
theorem dX7_book_8 : decode cX7_book 8 = .ok (.ifCond .eq 23, 3) := by decide +kernel
theorem dX7_book_11 : decode cX7_book 11 = .ok (.iload_n 2, 1) := by decide +kernel
theorem dX7_book_12 : decode cX7_book 12 = .ok (.ifCond .lt 19, 3) := by decide +kernel
theorem dX7_book_15 : decode cX7_book 15 = .ok (.iload_n 2, 1) := by decide +kernel
theorem dX7_book_16 : decode cX7_book 16 = .ok (.iconst 1, 1) := by decide +kernel
theorem dX7_book_17 : decode cX7_book 17 = .ok (.if_icmp .gt 14, 3) := by decide +kernel
theorem dX7_book_20 : decode cX7_book 20 = .ok (.iload_n 3, 1) := by decide +kernel
theorem dX7_book_21 : decode cX7_book 21 = .ok (.ifCond .lt 10, 3) := by decide +kernel
theorem dX7_book_24 : decode cX7_book 24 = .ok (.iload_n 3, 1) := by decide +kernel
theorem dX7_book_25 : decode cX7_book 25 = .ok (.sipush 9999, 3) := by decide +kernel
theorem dX7_book_28 : decode cX7_book 28 = .ok (.if_icmp .le 5, 3) := by decide +kernel
theorem dX7_book_31 : decode cX7_book 31 = .ok (.iconst (-1), 1) := by decide +kernel
theorem dX7_book_32 : decode cX7_book 32 = .ok (.ireturn, 1) := by decide +kernel
theorem dX7_book_33 : decode cX7_book 33 = .ok (.aload_n 0, 1) := by decide +kernel
theorem dX7_book_34 : decode cX7_book 34 = .ok (.getfield 26, 3) := by decide +kernel
theorem dX7_book_37 : decode cX7_book 37 = .ok (.getfield 63, 3) := by decide +kernel
theorem dX7_book_40 : decode cX7_book 40 = .ok (.iload_n 1, 1) := by decide +kernel
theorem dX7_book_41 : decode cX7_book 41 = .ok (.aaload, 1) := by decide +kernel
theorem dX7_book_42 : decode cX7_book 42 = .ok (.astore 4, 2) := by decide +kernel
theorem dX7_book_44 : decode cX7_book 44 = .ok (.aload 4, 2) := by decide +kernel
theorem dX7_book_46 : decode cX7_book 46 = .ok (.iload_n 2, 1) := by decide +kernel
theorem dX7_book_47 : decode cX7_book 47 = .ok (.iload_n 3, 1) := by decide +kernel
theorem dX7_book_48 : decode cX7_book 48 = .ok (.invokevirtual 67, 3) := by decide +kernel
theorem dX7_book_51 : decode cX7_book 51 = .ok (.aload_n 0, 1) := by decide +kernel
theorem dX7_book_52 : decode cX7_book 52 = .ok (.getfield 19, 3) := by decide +kernel
theorem dX7_book_55 : decode cX7_book 55 = .ok (.aload_n 0, 1) := by decide +kernel
theorem dX7_book_56 : decode cX7_book 56 = .ok (.getfield 10, 3) := by decide +kernel
theorem dX7_book_59 : decode cX7_book 59 = .ok (.aload 4, 2) := by decide +kernel
theorem dX7_book_61 : decode cX7_book 61 = .ok (.invokevirtual 73, 3) := by decide +kernel
theorem dX7_book_64 : decode cX7_book 64 = .ok (.aload_n 0, 1) := by decide +kernel
theorem dX7_book_65 : decode cX7_book 65 = .ok (.getfield 10, 3) := by decide +kernel
theorem dX7_book_68 : decode cX7_book 68 = .ok (.invokevirtual 77, 3) := by decide +kernel
theorem dX7_book_71 : decode cX7_book 71 = .ok (.aload 4, 2) := by decide +kernel
theorem dX7_book_73 : decode cX7_book 73 = .ok (.getfield 80, 3) := by decide +kernel
theorem dX7_book_76 : decode cX7_book 76 = .ok (.ireturn, 1) := by decide +kernel
theorem dX7_withdraw_0 : decode cX7_withdraw 0 = .ok (.aload_n 0, 1) := by decide +kernel
theorem dX7_withdraw_1 : decode cX7_withdraw 1 = .ok (.iload_n 1, 1) := by decide +kernel
theorem dX7_withdraw_2 : decode cX7_withdraw 2 = .ok (.invokevirtual 83, 3) := by decide +kernel
theorem dX7_withdraw_5 : decode cX7_withdraw 5 = .ok (.istore_n 2, 1) := by decide +kernel
theorem dX7_withdraw_6 : decode cX7_withdraw 6 = .ok (.iload_n 2, 1) := by decide +kernel
theorem dX7_withdraw_7 : decode cX7_withdraw 7 = .ok (.ifCond .eq 5, 3) := by decide +kernel
theorem dX7_withdraw_10 : decode cX7_withdraw 10 = .ok (.iload_n 2, 1) := by decide +kernel
theorem dX7_withdraw_11 : decode cX7_withdraw 11 = .ok (.ireturn, 1) := by decide +kernel
theorem dX7_withdraw_12 : decode cX7_withdraw 12 = .ok (.aload_n 0, 1) := by decide +kernel
theorem dX7_withdraw_13 : decode cX7_withdraw 13 = .ok (.getfield 26, 3) := by decide +kernel
theorem dX7_withdraw_16 : decode cX7_withdraw 16 = .ok (.getfield 63, 3) := by decide +kernel
theorem dX7_withdraw_19 : decode cX7_withdraw 19 = .ok (.iload_n 1, 1) := by decide +kernel
theorem dX7_withdraw_20 : decode cX7_withdraw 20 = .ok (.aaload, 1) := by decide +kernel
theorem dX7_withdraw_21 : decode cX7_withdraw 21 = .ok (.getfield 80, 3) := by decide +kernel
theorem dX7_withdraw_24 : decode cX7_withdraw 24 = .ok (.istore_n 3, 1) := by decide +kernel
theorem dX7_withdraw_25 : decode cX7_withdraw 25 = .ok (.aload_n 0, 1) := by decide +kernel
theorem dX7_withdraw_26 : decode cX7_withdraw 26 = .ok (.getfield 26, 3) := by decide +kernel
theorem dX7_withdraw_29 : decode cX7_withdraw 29 = .ok (.getfield 63, 3) := by decide +kernel
theorem dX7_withdraw_32 : decode cX7_withdraw 32 = .ok (.iload_n 1, 1) := by decide +kernel
theorem dX7_withdraw_33 : decode cX7_withdraw 33 = .ok (.aaload, 1) := by decide +kernel
theorem dX7_withdraw_34 : decode cX7_withdraw 34 = .ok (.invokevirtual 87, 3) := by decide +kernel
theorem dX7_withdraw_37 : decode cX7_withdraw 37 = .ok (.aload_n 0, 1) := by decide +kernel
theorem dX7_withdraw_38 : decode cX7_withdraw 38 = .ok (.getfield 26, 3) := by decide +kernel
theorem dX7_withdraw_41 : decode cX7_withdraw 41 = .ok (.getfield 90, 3) := by decide +kernel
theorem dX7_withdraw_44 : decode cX7_withdraw 44 = .ok (.iload_n 1, 1) := by decide +kernel
theorem dX7_withdraw_45 : decode cX7_withdraw 45 = .ok (.if_icmp .ne 11, 3) := by decide +kernel
theorem dX7_withdraw_48 : decode cX7_withdraw 48 = .ok (.aload_n 0, 1) := by decide +kernel
theorem dX7_withdraw_49 : decode cX7_withdraw 49 = .ok (.getfield 26, 3) := by decide +kernel
theorem dX7_withdraw_52 : decode cX7_withdraw 52 = .ok (.iconst (-1), 1) := by decide +kernel
theorem dX7_withdraw_53 : decode cX7_withdraw 53 = .ok (.putfield 90, 3) := by decide +kernel
theorem dX7_withdraw_56 : decode cX7_withdraw 56 = .ok (.iload_n 3, 1) := by decide +kernel
theorem dX7_withdraw_57 : decode cX7_withdraw 57 = .ok (.ireturn, 1) := by decide +kernel
theorem dX7_token_0 : decode cX7_token 0 = .ok (.iload_n 2, 1) := by decide +kernel
theorem dX7_token_1 : decode cX7_token 1 = .ok (.bipush (-3), 2) := by decide +kernel
theorem dX7_token_3 : decode cX7_token 3 = .ok (.if_icmp .ge 7, 3) := by decide +kernel
theorem dX7_token_6 : decode cX7_token 6 = .ok (.iconst (-1), 1) := by decide +kernel
theorem dX7_token_7 : decode cX7_token 7 = .ok (.goto 8, 3) := by decide +kernel
theorem dX7_token_10 : decode cX7_token 10 = .ok (.aload_n 0, 1) := by decide +kernel
theorem dX7_token_11 : decode cX7_token 11 = .ok (.iload_n 1, 1) := by decide +kernel
theorem dX7_token_12 : decode cX7_token 12 = .ok (.invokevirtual 83, 3) := by decide +kernel
theorem dX7_token_15 : decode cX7_token 15 = .ok (.istore_n 3, 1) := by decide +kernel
theorem dX7_token_16 : decode cX7_token 16 = .ok (.iload_n 3, 1) := by decide +kernel
theorem dX7_token_17 : decode cX7_token 17 = .ok (.ifCond .eq 6, 3) := by decide +kernel
theorem dX7_token_20 : decode cX7_token 20 = .ok (.iload_n 3, 1) := by decide +kernel
theorem dX7_token_21 : decode cX7_token 21 = .ok (.i2l, 1) := by decide +kernel
theorem dX7_token_22 : decode cX7_token 22 = .ok (.lreturn, 1) := by decide +kernel
theorem dX7_token_23 : decode cX7_token 23 = .ok (.aload_n 0, 1) := by decide +kernel
theorem dX7_token_24 : decode cX7_token 24 = .ok (.getfield 26, 3) := by decide +kernel
theorem dX7_token_27 : decode cX7_token 27 = .ok (.getfield 63, 3) := by decide +kernel
theorem dX7_token_30 : decode cX7_token 30 = .ok (.iload_n 1, 1) := by decide +kernel
theorem dX7_token_31 : decode cX7_token 31 = .ok (.aaload, 1) := by decide +kernel
theorem dX7_token_32 : decode cX7_token 32 = .ok (.astore 4, 2) := by decide +kernel
theorem dX7_token_34 : decode cX7_token 34 = .ok (.iload_n 2, 1) := by decide +kernel
theorem dX7_token_35 : decode cX7_token 35 = .ok (.bipush (-3), 2) := by decide +kernel
theorem dX7_token_37 : decode cX7_token 37 = .ok (.if_icmp .ne 10, 3) := by decide +kernel
theorem dX7_token_40 : decode cX7_token 40 = .ok (.aload 4, 2) := by decide +kernel
theorem dX7_token_42 : decode cX7_token 42 = .ok (.getfield 93, 3) := by decide +kernel
theorem dX7_token_45 : decode cX7_token 45 = .ok (.i2l, 1) := by decide +kernel
theorem dX7_token_46 : decode cX7_token 46 = .ok (.lreturn, 1) := by decide +kernel
theorem dX7_token_47 : decode cX7_token 47 = .ok (.iload_n 2, 1) := by decide +kernel
theorem dX7_token_48 : decode cX7_token 48 = .ok (.bipush (-2), 2) := by decide +kernel
theorem dX7_token_50 : decode cX7_token 50 = .ok (.if_icmp .ne 10, 3) := by decide +kernel
theorem dX7_token_53 : decode cX7_token 53 = .ok (.aload 4, 2) := by decide +kernel
theorem dX7_token_55 : decode cX7_token 55 = .ok (.getfield 96, 3) := by decide +kernel
theorem dX7_token_58 : decode cX7_token 58 = .ok (.i2l, 1) := by decide +kernel
theorem dX7_token_59 : decode cX7_token 59 = .ok (.lreturn, 1) := by decide +kernel
theorem dX7_token_60 : decode cX7_token 60 = .ok (.iload_n 2, 1) := by decide +kernel
theorem dX7_token_61 : decode cX7_token 61 = .ok (.iconst (-1), 1) := by decide +kernel
theorem dX7_token_62 : decode cX7_token 62 = .ok (.if_icmp .ne 10, 3) := by decide +kernel
theorem dX7_token_65 : decode cX7_token 65 = .ok (.aload 4, 2) := by decide +kernel
theorem dX7_token_67 : decode cX7_token 67 = .ok (.getfield 80, 3) := by decide +kernel
theorem dX7_token_70 : decode cX7_token 70 = .ok (.i2l, 1) := by decide +kernel
theorem dX7_token_71 : decode cX7_token 71 = .ok (.lreturn, 1) := by decide +kernel
theorem dX7_token_72 : decode cX7_token 72 = .ok (.iload_n 2, 1) := by decide +kernel
theorem dX7_token_73 : decode cX7_token 73 = .ok (.aload 4, 2) := by decide +kernel
theorem dX7_token_75 : decode cX7_token 75 = .ok (.getfield 80, 3) := by decide +kernel
theorem dX7_token_78 : decode cX7_token 78 = .ok (.if_icmp .ge 13, 3) := by decide +kernel
theorem dX7_token_81 : decode cX7_token 81 = .ok (.aload 4, 2) := by decide +kernel
theorem dX7_token_83 : decode cX7_token 83 = .ok (.getfield 99, 3) := by decide +kernel
theorem dX7_token_86 : decode cX7_token 86 = .ok (.iload_n 2, 1) := by decide +kernel
theorem dX7_token_87 : decode cX7_token 87 = .ok (.laload, 1) := by decide +kernel
theorem dX7_token_88 : decode cX7_token 88 = .ok (.goto 6, 3) := by decide +kernel
theorem dX7_token_91 : decode cX7_token 91 = .ok (.ldc2_w 103, 3) := by decide +kernel
theorem dX7_token_94 : decode cX7_token 94 = .ok (.lreturn, 1) := by decide +kernel
theorem dX7_windows_0 : decode cX7_windows 0 = .ok (.iload_n 1, 1) := by decide +kernel
theorem dX7_windows_1 : decode cX7_windows 1 = .ok (.iconst 2, 1) := by decide +kernel
theorem dX7_windows_2 : decode cX7_windows 2 = .ok (.if_icmp .lt 19, 3) := by decide +kernel
theorem dX7_windows_5 : decode cX7_windows 5 = .ok (.iload_n 1, 1) := by decide +kernel
theorem dX7_windows_6 : decode cX7_windows 6 = .ok (.iconst 5, 1) := by decide +kernel
theorem dX7_windows_7 : decode cX7_windows 7 = .ok (.if_icmp .gt 14, 3) := by decide +kernel
theorem dX7_windows_10 : decode cX7_windows 10 = .ok (.iload_n 2, 1) := by decide +kernel
theorem dX7_windows_11 : decode cX7_windows 11 = .ok (.iconst 1, 1) := by decide +kernel
theorem dX7_windows_12 : decode cX7_windows 12 = .ok (.if_icmp .lt 9, 3) := by decide +kernel
theorem dX7_windows_15 : decode cX7_windows 15 = .ok (.iload_n 2, 1) := by decide +kernel
theorem dX7_windows_16 : decode cX7_windows 16 = .ok (.bipush 8, 2) := by decide +kernel
theorem dX7_windows_18 : decode cX7_windows 18 = .ok (.if_icmp .le 5, 3) := by decide +kernel
theorem dX7_windows_21 : decode cX7_windows 21 = .ok (.iconst (-1), 1) := by decide +kernel
theorem dX7_windows_22 : decode cX7_windows 22 = .ok (.ireturn, 1) := by decide +kernel
theorem dX7_windows_23 : decode cX7_windows 23 = .ok (.aload_n 0, 1) := by decide +kernel
theorem dX7_windows_24 : decode cX7_windows 24 = .ok (.getfield 26, 3) := by decide +kernel
theorem dX7_windows_27 : decode cX7_windows 27 = .ok (.iload_n 1, 1) := by decide +kernel
theorem dX7_windows_28 : decode cX7_windows 28 = .ok (.putfield 105, 3) := by decide +kernel
theorem dX7_windows_31 : decode cX7_windows 31 = .ok (.aload_n 0, 1) := by decide +kernel
theorem dX7_windows_32 : decode cX7_windows 32 = .ok (.getfield 26, 3) := by decide +kernel
theorem dX7_windows_35 : decode cX7_windows 35 = .ok (.iload_n 2, 1) := by decide +kernel
theorem dX7_windows_36 : decode cX7_windows 36 = .ok (.putfield 108, 3) := by decide +kernel
theorem dX7_windows_39 : decode cX7_windows 39 = .ok (.iconst 1, 1) := by decide +kernel
theorem dX7_windows_40 : decode cX7_windows 40 = .ok (.ireturn, 1) := by decide +kernel
theorem dX7_gap_0 : decode cX7_gap 0 = .ok (.iload_n 1, 1) := by decide +kernel
theorem dX7_gap_1 : decode cX7_gap 1 = .ok (.ifCond .lt 9, 3) := by decide +kernel
theorem dX7_gap_4 : decode cX7_gap 4 = .ok (.iload_n 1, 1) := by decide +kernel
theorem dX7_gap_5 : decode cX7_gap 5 = .ok (.bipush 20, 2) := by decide +kernel
theorem dX7_gap_7 : decode cX7_gap 7 = .ok (.if_icmp .le 5, 3) := by decide +kernel
theorem dX7_gap_10 : decode cX7_gap 10 = .ok (.iconst (-1), 1) := by decide +kernel
theorem dX7_gap_11 : decode cX7_gap 11 = .ok (.ireturn, 1) := by decide +kernel
theorem dX7_gap_12 : decode cX7_gap 12 = .ok (.aload_n 0, 1) := by decide +kernel
theorem dX7_gap_13 : decode cX7_gap 13 = .ok (.getfield 26, 3) := by decide +kernel
theorem dX7_gap_16 : decode cX7_gap 16 = .ok (.getfield 111, 3) := by decide +kernel
theorem dX7_gap_19 : decode cX7_gap 19 = .ok (.istore_n 2, 1) := by decide +kernel
theorem dX7_gap_20 : decode cX7_gap 20 = .ok (.aload_n 0, 1) := by decide +kernel
theorem dX7_gap_21 : decode cX7_gap 21 = .ok (.getfield 26, 3) := by decide +kernel
theorem dX7_gap_24 : decode cX7_gap 24 = .ok (.iload_n 1, 1) := by decide +kernel
theorem dX7_gap_25 : decode cX7_gap 25 = .ok (.putfield 111, 3) := by decide +kernel
theorem dX7_gap_28 : decode cX7_gap 28 = .ok (.iload_n 2, 1) := by decide +kernel
theorem dX7_gap_29 : decode cX7_gap 29 = .ok (.ireturn, 1) := by decide +kernel
theorem dX7_link_0 : decode cX7_link 0 = .ok (.iload_n 1, 1) := by decide +kernel
theorem dX7_link_1 : decode cX7_link 1 = .ok (.iconst 1, 1) := by decide +kernel
theorem dX7_link_2 : decode cX7_link 2 = .ok (.if_icmp .lt 10, 3) := by decide +kernel
theorem dX7_link_5 : decode cX7_link 5 = .ok (.iload_n 1, 1) := by decide +kernel
theorem dX7_link_6 : decode cX7_link 6 = .ok (.sipush 200, 3) := by decide +kernel
theorem dX7_link_9 : decode cX7_link 9 = .ok (.if_icmp .le 5, 3) := by decide +kernel
theorem dX7_link_12 : decode cX7_link 12 = .ok (.iconst (-1), 1) := by decide +kernel
theorem dX7_link_13 : decode cX7_link 13 = .ok (.ireturn, 1) := by decide +kernel
theorem dX7_link_14 : decode cX7_link 14 = .ok (.aload_n 0, 1) := by decide +kernel
theorem dX7_link_15 : decode cX7_link 15 = .ok (.getfield 26, 3) := by decide +kernel
theorem dX7_link_18 : decode cX7_link 18 = .ok (.getfield 114, 3) := by decide +kernel
theorem dX7_link_21 : decode cX7_link 21 = .ok (.istore_n 2, 1) := by decide +kernel
theorem dX7_link_22 : decode cX7_link 22 = .ok (.aload_n 0, 1) := by decide +kernel
theorem dX7_link_23 : decode cX7_link 23 = .ok (.getfield 26, 3) := by decide +kernel
theorem dX7_link_26 : decode cX7_link 26 = .ok (.iload_n 1, 1) := by decide +kernel
theorem dX7_link_27 : decode cX7_link 27 = .ok (.putfield 114, 3) := by decide +kernel
theorem dX7_link_30 : decode cX7_link 30 = .ok (.iload_n 2, 1) := by decide +kernel
theorem dX7_link_31 : decode cX7_link 31 = .ok (.ireturn, 1) := by decide +kernel
theorem dX7_given_0 : decode cX7_given 0 = .ok (.iload_n 1, 1) := by decide +kernel
theorem dX7_given_1 : decode cX7_given 1 = .ok (.iconst (-1), 1) := by decide +kernel
theorem dX7_given_2 : decode cX7_given 2 = .ok (.if_icmp .ne 7, 3) := by decide +kernel
theorem dX7_given_5 : decode cX7_given 5 = .ok (.iconst 0, 1) := by decide +kernel
theorem dX7_given_6 : decode cX7_given 6 = .ok (.goto 8, 3) := by decide +kernel
theorem dX7_given_9 : decode cX7_given 9 = .ok (.aload_n 0, 1) := by decide +kernel
theorem dX7_given_10 : decode cX7_given 10 = .ok (.iload_n 1, 1) := by decide +kernel
theorem dX7_given_11 : decode cX7_given 11 = .ok (.invokevirtual 83, 3) := by decide +kernel
theorem dX7_given_14 : decode cX7_given 14 = .ok (.istore_n 2, 1) := by decide +kernel
theorem dX7_given_15 : decode cX7_given 15 = .ok (.iload_n 2, 1) := by decide +kernel
theorem dX7_given_16 : decode cX7_given 16 = .ok (.ifCond .eq 8, 3) := by decide +kernel
theorem dX7_given_19 : decode cX7_given 19 = .ok (.iload_n 2, 1) := by decide +kernel
theorem dX7_given_20 : decode cX7_given 20 = .ok (.bipush 10, 2) := by decide +kernel
theorem dX7_given_22 : decode cX7_given 22 = .ok (.isub, 1) := by decide +kernel
theorem dX7_given_23 : decode cX7_given 23 = .ok (.ireturn, 1) := by decide +kernel
theorem dX7_given_24 : decode cX7_given 24 = .ok (.aload_n 0, 1) := by decide +kernel
theorem dX7_given_25 : decode cX7_given 25 = .ok (.getfield 26, 3) := by decide +kernel
theorem dX7_given_28 : decode cX7_given 28 = .ok (.getfield 90, 3) := by decide +kernel
theorem dX7_given_31 : decode cX7_given 31 = .ok (.istore_n 3, 1) := by decide +kernel
theorem dX7_given_32 : decode cX7_given 32 = .ok (.aload_n 0, 1) := by decide +kernel
theorem dX7_given_33 : decode cX7_given 33 = .ok (.getfield 26, 3) := by decide +kernel
theorem dX7_given_36 : decode cX7_given 36 = .ok (.iload_n 1, 1) := by decide +kernel
theorem dX7_given_37 : decode cX7_given 37 = .ok (.putfield 90, 3) := by decide +kernel
theorem dX7_given_40 : decode cX7_given 40 = .ok (.iload_n 3, 1) := by decide +kernel
theorem dX7_given_41 : decode cX7_given 41 = .ok (.ireturn, 1) := by decide +kernel
theorem dX7_hash_0 : decode cX7_hash 0 = .ok (.aload_n 0, 1) := by decide +kernel
theorem dX7_hash_1 : decode cX7_hash 1 = .ok (.iload_n 1, 1) := by decide +kernel
theorem dX7_hash_2 : decode cX7_hash 2 = .ok (.invokevirtual 83, 3) := by decide +kernel
theorem dX7_hash_5 : decode cX7_hash 5 = .ok (.istore_n 3, 1) := by decide +kernel
theorem dX7_hash_6 : decode cX7_hash 6 = .ok (.iload_n 3, 1) := by decide +kernel
theorem dX7_hash_7 : decode cX7_hash 7 = .ok (.ifCond .eq 5, 3) := by decide +kernel
theorem dX7_hash_10 : decode cX7_hash 10 = .ok (.iload_n 3, 1) := by decide +kernel
theorem dX7_hash_11 : decode cX7_hash 11 = .ok (.ireturn, 1) := by decide +kernel
theorem dX7_hash_12 : decode cX7_hash 12 = .ok (.aload_n 0, 1) := by decide +kernel
theorem dX7_hash_13 : decode cX7_hash 13 = .ok (.getfield 33, 3) := by decide +kernel
theorem dX7_hash_16 : decode cX7_hash 16 = .ok (.aload_n 0, 1) := by decide +kernel
theorem dX7_hash_17 : decode cX7_hash 17 = .ok (.getfield 26, 3) := by decide +kernel
theorem dX7_hash_20 : decode cX7_hash 20 = .ok (.iload_n 1, 1) := by decide +kernel
theorem dX7_hash_21 : decode cX7_hash 21 = .ok (.invokevirtual 117, 3) := by decide +kernel
theorem dX7_hash_24 : decode cX7_hash 24 = .ok (.astore 4, 2) := by decide +kernel
theorem dX7_hash_26 : decode cX7_hash 26 = .ok (.iload_n 2, 1) := by decide +kernel
theorem dX7_hash_27 : decode cX7_hash 27 = .ok (.ifCond .lt 22, 3) := by decide +kernel
theorem dX7_hash_30 : decode cX7_hash 30 = .ok (.iload_n 2, 1) := by decide +kernel
theorem dX7_hash_31 : decode cX7_hash 31 = .ok (.aload 4, 2) := by decide +kernel
theorem dX7_hash_33 : decode cX7_hash 33 = .ok (.getfield 121, 3) := by decide +kernel
theorem dX7_hash_36 : decode cX7_hash 36 = .ok (.if_icmp .ge 13, 3) := by decide +kernel
theorem dX7_hash_39 : decode cX7_hash 39 = .ok (.aload 4, 2) := by decide +kernel
theorem dX7_hash_41 : decode cX7_hash 41 = .ok (.getfield 126, 3) := by decide +kernel
theorem dX7_hash_44 : decode cX7_hash 44 = .ok (.iload_n 2, 1) := by decide +kernel
theorem dX7_hash_45 : decode cX7_hash 45 = .ok (.iaload, 1) := by decide +kernel
theorem dX7_hash_46 : decode cX7_hash 46 = .ok (.goto 5, 3) := by decide +kernel
theorem dX7_hash_49 : decode cX7_hash 49 = .ok (.bipush (-4), 2) := by decide +kernel
theorem dX7_hash_51 : decode cX7_hash 51 = .ok (.ireturn, 1) := by decide +kernel
theorem dX7_markAt_0 : decode cX7_markAt 0 = .ok (.iload_n 2, 1) := by decide +kernel
theorem dX7_markAt_1 : decode cX7_markAt 1 = .ok (.iconst (-1), 1) := by decide +kernel
theorem dX7_markAt_2 : decode cX7_markAt 2 = .ok (.if_icmp .ge 7, 3) := by decide +kernel
theorem dX7_markAt_5 : decode cX7_markAt 5 = .ok (.iconst (-1), 1) := by decide +kernel
theorem dX7_markAt_6 : decode cX7_markAt 6 = .ok (.goto 8, 3) := by decide +kernel
theorem dX7_markAt_9 : decode cX7_markAt 9 = .ok (.aload_n 0, 1) := by decide +kernel
theorem dX7_markAt_10 : decode cX7_markAt 10 = .ok (.iload_n 1, 1) := by decide +kernel
theorem dX7_markAt_11 : decode cX7_markAt 11 = .ok (.invokevirtual 83, 3) := by decide +kernel
theorem dX7_markAt_14 : decode cX7_markAt 14 = .ok (.istore_n 3, 1) := by decide +kernel
theorem dX7_markAt_15 : decode cX7_markAt 15 = .ok (.iload_n 3, 1) := by decide +kernel
theorem dX7_markAt_16 : decode cX7_markAt 16 = .ok (.ifCond .eq 5, 3) := by decide +kernel
theorem dX7_markAt_19 : decode cX7_markAt 19 = .ok (.iload_n 3, 1) := by decide +kernel
theorem dX7_markAt_20 : decode cX7_markAt 20 = .ok (.ireturn, 1) := by decide +kernel
theorem dX7_markAt_21 : decode cX7_markAt 21 = .ok (.aload_n 0, 1) := by decide +kernel
theorem dX7_markAt_22 : decode cX7_markAt 22 = .ok (.getfield 33, 3) := by decide +kernel
theorem dX7_markAt_25 : decode cX7_markAt 25 = .ok (.aload_n 0, 1) := by decide +kernel
theorem dX7_markAt_26 : decode cX7_markAt 26 = .ok (.getfield 26, 3) := by decide +kernel
theorem dX7_markAt_29 : decode cX7_markAt 29 = .ok (.iload_n 1, 1) := by decide +kernel
theorem dX7_markAt_30 : decode cX7_markAt 30 = .ok (.invokevirtual 117, 3) := by decide +kernel
theorem dX7_markAt_33 : decode cX7_markAt 33 = .ok (.astore 4, 2) := by decide +kernel
theorem dX7_markAt_35 : decode cX7_markAt 35 = .ok (.iload_n 2, 1) := by decide +kernel
theorem dX7_markAt_36 : decode cX7_markAt 36 = .ok (.iconst (-1), 1) := by decide +kernel
theorem dX7_markAt_37 : decode cX7_markAt 37 = .ok (.if_icmp .ne 11, 3) := by decide +kernel
theorem dX7_markAt_40 : decode cX7_markAt 40 = .ok (.aload 4, 2) := by decide +kernel
theorem dX7_markAt_42 : decode cX7_markAt 42 = .ok (.invokevirtual 130, 3) := by decide +kernel
theorem dX7_markAt_45 : decode cX7_markAt 45 = .ok (.goto 9, 3) := by decide +kernel
theorem dX7_markAt_48 : decode cX7_markAt 48 = .ok (.aload 4, 2) := by decide +kernel
theorem dX7_markAt_50 : decode cX7_markAt 50 = .ok (.iload_n 2, 1) := by decide +kernel
theorem dX7_markAt_51 : decode cX7_markAt 51 = .ok (.invokevirtual 134, 3) := by decide +kernel
theorem dX7_markAt_54 : decode cX7_markAt 54 = .ok (.ireturn, 1) := by decide +kernel
theorem dX7_aside_0 : decode cX7_aside 0 = .ok (.iload_n 2, 1) := by decide +kernel
theorem dX7_aside_1 : decode cX7_aside 1 = .ok (.ifCond .ge 7, 3) := by decide +kernel
theorem dX7_aside_4 : decode cX7_aside 4 = .ok (.iconst (-1), 1) := by decide +kernel
theorem dX7_aside_5 : decode cX7_aside 5 = .ok (.goto 8, 3) := by decide +kernel
theorem dX7_aside_8 : decode cX7_aside 8 = .ok (.aload_n 0, 1) := by decide +kernel
theorem dX7_aside_9 : decode cX7_aside 9 = .ok (.iload_n 1, 1) := by decide +kernel
theorem dX7_aside_10 : decode cX7_aside 10 = .ok (.invokevirtual 83, 3) := by decide +kernel
theorem dX7_aside_13 : decode cX7_aside 13 = .ok (.istore_n 3, 1) := by decide +kernel
theorem dX7_aside_14 : decode cX7_aside 14 = .ok (.iload_n 3, 1) := by decide +kernel
theorem dX7_aside_15 : decode cX7_aside 15 = .ok (.ifCond .eq 5, 3) := by decide +kernel
theorem dX7_aside_18 : decode cX7_aside 18 = .ok (.iload_n 3, 1) := by decide +kernel
theorem dX7_aside_19 : decode cX7_aside 19 = .ok (.ireturn, 1) := by decide +kernel
theorem dX7_aside_20 : decode cX7_aside 20 = .ok (.aload_n 0, 1) := by decide +kernel
theorem dX7_aside_21 : decode cX7_aside 21 = .ok (.getfield 33, 3) := by decide +kernel
theorem dX7_aside_24 : decode cX7_aside 24 = .ok (.aload_n 0, 1) := by decide +kernel
theorem dX7_aside_25 : decode cX7_aside 25 = .ok (.getfield 26, 3) := by decide +kernel
theorem dX7_aside_28 : decode cX7_aside 28 = .ok (.iload_n 1, 1) := by decide +kernel
theorem dX7_aside_29 : decode cX7_aside 29 = .ok (.invokevirtual 117, 3) := by decide +kernel
theorem dX7_aside_32 : decode cX7_aside 32 = .ok (.astore 4, 2) := by decide +kernel
theorem dX7_aside_34 : decode cX7_aside 34 = .ok (.iload_n 2, 1) := by decide +kernel
theorem dX7_aside_35 : decode cX7_aside 35 = .ok (.aload 4, 2) := by decide +kernel
theorem dX7_aside_37 : decode cX7_aside 37 = .ok (.getfield 137, 3) := by decide +kernel
theorem dX7_aside_40 : decode cX7_aside 40 = .ok (.if_icmp .lt 5, 3) := by decide +kernel
theorem dX7_aside_43 : decode cX7_aside 43 = .ok (.iconst (-1), 1) := by decide +kernel
theorem dX7_aside_44 : decode cX7_aside 44 = .ok (.ireturn, 1) := by decide +kernel
theorem dX7_aside_45 : decode cX7_aside 45 = .ok (.aload 4, 2) := by decide +kernel
theorem dX7_aside_47 : decode cX7_aside 47 = .ok (.getfield 138, 3) := by decide +kernel
theorem dX7_aside_50 : decode cX7_aside 50 = .ok (.iload_n 2, 1) := by decide +kernel
theorem dX7_aside_51 : decode cX7_aside 51 = .ok (.baload, 1) := by decide +kernel
theorem dX7_aside_52 : decode cX7_aside 52 = .ok (.ifCond .eq 7, 3) := by decide +kernel
theorem dX7_aside_55 : decode cX7_aside 55 = .ok (.iconst 1, 1) := by decide +kernel
theorem dX7_aside_56 : decode cX7_aside 56 = .ok (.goto 4, 3) := by decide +kernel
theorem dX7_aside_59 : decode cX7_aside 59 = .ok (.iconst 0, 1) := by decide +kernel
theorem dX7_aside_60 : decode cX7_aside 60 = .ok (.ireturn, 1) := by decide +kernel
theorem dX7_runs_0 : decode cX7_runs 0 = .ok (.aload_n 0, 1) := by decide +kernel
theorem dX7_runs_1 : decode cX7_runs 1 = .ok (.iload_n 1, 1) := by decide +kernel
theorem dX7_runs_2 : decode cX7_runs 2 = .ok (.iload_n 2, 1) := by decide +kernel
theorem dX7_runs_3 : decode cX7_runs 3 = .ok (.invokevirtual 142, 3) := by decide +kernel
theorem dX7_runs_6 : decode cX7_runs 6 = .ok (.istore_n 3, 1) := by decide +kernel
theorem dX7_runs_7 : decode cX7_runs 7 = .ok (.iload_n 3, 1) := by decide +kernel
theorem dX7_runs_8 : decode cX7_runs 8 = .ok (.ifCond .eq 5, 3) := by decide +kernel
theorem dX7_runs_11 : decode cX7_runs 11 = .ok (.iload_n 3, 1) := by decide +kernel
theorem dX7_runs_12 : decode cX7_runs 12 = .ok (.ireturn, 1) := by decide +kernel
theorem dX7_runs_13 : decode cX7_runs 13 = .ok (.aload_n 0, 1) := by decide +kernel
theorem dX7_runs_14 : decode cX7_runs 14 = .ok (.getfield 33, 3) := by decide +kernel
theorem dX7_runs_17 : decode cX7_runs 17 = .ok (.aload_n 0, 1) := by decide +kernel
theorem dX7_runs_18 : decode cX7_runs 18 = .ok (.getfield 26, 3) := by decide +kernel
theorem dX7_runs_21 : decode cX7_runs 21 = .ok (.iload_n 1, 1) := by decide +kernel
theorem dX7_runs_22 : decode cX7_runs 22 = .ok (.iload_n 2, 1) := by decide +kernel
theorem dX7_runs_23 : decode cX7_runs 23 = .ok (.iconst 0, 1) := by decide +kernel
theorem dX7_runs_24 : decode cX7_runs 24 = .ok (.invokevirtual 146, 3) := by decide +kernel
theorem dX7_runs_27 : decode cX7_runs 27 = .ok (.aload_n 0, 1) := by decide +kernel
theorem dX7_runs_28 : decode cX7_runs 28 = .ok (.getfield 33, 3) := by decide +kernel
theorem dX7_runs_31 : decode cX7_runs 31 = .ok (.getfield 150, 3) := by decide +kernel
theorem dX7_runs_34 : decode cX7_runs 34 = .ok (.ireturn, 1) := by decide +kernel
theorem dX7_run_0 : decode cX7_run 0 = .ok (.iload_n 3, 1) := by decide +kernel
theorem dX7_run_1 : decode cX7_run 1 = .ok (.ifCond .lt 14, 3) := by decide +kernel
theorem dX7_run_4 : decode cX7_run 4 = .ok (.iload 4, 2) := by decide +kernel
theorem dX7_run_6 : decode cX7_run 6 = .ok (.ifCond .lt 9, 3) := by decide +kernel
theorem dX7_run_9 : decode cX7_run 9 = .ok (.iload 4, 2) := by decide +kernel
theorem dX7_run_11 : decode cX7_run 11 = .ok (.iconst 2, 1) := by decide +kernel
theorem dX7_run_12 : decode cX7_run 12 = .ok (.if_icmp .le 7, 3) := by decide +kernel
theorem dX7_run_15 : decode cX7_run 15 = .ok (.iconst (-1), 1) := by decide +kernel
theorem dX7_run_16 : decode cX7_run 16 = .ok (.goto 9, 3) := by decide +kernel
theorem dX7_run_19 : decode cX7_run 19 = .ok (.aload_n 0, 1) := by decide +kernel
theorem dX7_run_20 : decode cX7_run 20 = .ok (.iload_n 1, 1) := by decide +kernel
theorem dX7_run_21 : decode cX7_run 21 = .ok (.iload_n 2, 1) := by decide +kernel
theorem dX7_run_22 : decode cX7_run 22 = .ok (.invokevirtual 142, 3) := by decide +kernel
theorem dX7_run_25 : decode cX7_run 25 = .ok (.istore 5, 2) := by decide +kernel
theorem dX7_run_27 : decode cX7_run 27 = .ok (.iload 5, 2) := by decide +kernel
theorem dX7_run_29 : decode cX7_run 29 = .ok (.ifCond .eq 6, 3) := by decide +kernel
theorem dX7_run_32 : decode cX7_run 32 = .ok (.iload 5, 2) := by decide +kernel
theorem dX7_run_34 : decode cX7_run 34 = .ok (.ireturn, 1) := by decide +kernel
theorem dX7_run_35 : decode cX7_run 35 = .ok (.aload_n 0, 1) := by decide +kernel
theorem dX7_run_36 : decode cX7_run 36 = .ok (.getfield 33, 3) := by decide +kernel
theorem dX7_run_39 : decode cX7_run 39 = .ok (.aload_n 0, 1) := by decide +kernel
theorem dX7_run_40 : decode cX7_run 40 = .ok (.getfield 26, 3) := by decide +kernel
theorem dX7_run_43 : decode cX7_run 43 = .ok (.iload_n 1, 1) := by decide +kernel
theorem dX7_run_44 : decode cX7_run 44 = .ok (.iload_n 2, 1) := by decide +kernel
theorem dX7_run_45 : decode cX7_run 45 = .ok (.iconst 0, 1) := by decide +kernel
theorem dX7_run_46 : decode cX7_run 46 = .ok (.invokevirtual 146, 3) := by decide +kernel
theorem dX7_run_49 : decode cX7_run 49 = .ok (.aload_n 0, 1) := by decide +kernel
theorem dX7_run_50 : decode cX7_run 50 = .ok (.getfield 33, 3) := by decide +kernel
theorem dX7_run_53 : decode cX7_run 53 = .ok (.iload_n 3, 1) := by decide +kernel
theorem dX7_run_54 : decode cX7_run 54 = .ok (.iload 4, 2) := by decide +kernel
theorem dX7_run_56 : decode cX7_run 56 = .ok (.invokevirtual 153, 3) := by decide +kernel
theorem dX7_run_59 : decode cX7_run 59 = .ok (.ireturn, 1) := by decide +kernel
theorem dX7_score_0 : decode cX7_score 0 = .ok (.aload_n 0, 1) := by decide +kernel
theorem dX7_score_1 : decode cX7_score 1 = .ok (.iload_n 1, 1) := by decide +kernel
theorem dX7_score_2 : decode cX7_score 2 = .ok (.iload_n 2, 1) := by decide +kernel
theorem dX7_score_3 : decode cX7_score 3 = .ok (.invokevirtual 142, 3) := by decide +kernel
theorem dX7_score_6 : decode cX7_score 6 = .ok (.istore_n 3, 1) := by decide +kernel
theorem dX7_score_7 : decode cX7_score 7 = .ok (.iload_n 3, 1) := by decide +kernel
theorem dX7_score_8 : decode cX7_score 8 = .ok (.ifCond .eq 7, 3) := by decide +kernel
theorem dX7_score_11 : decode cX7_score 11 = .ok (.iload_n 3, 1) := by decide +kernel
theorem dX7_score_12 : decode cX7_score 12 = .ok (.goto 17, 3) := by decide +kernel
theorem dX7_score_15 : decode cX7_score 15 = .ok (.aload_n 0, 1) := by decide +kernel
theorem dX7_score_16 : decode cX7_score 16 = .ok (.getfield 33, 3) := by decide +kernel
theorem dX7_score_19 : decode cX7_score 19 = .ok (.aload_n 0, 1) := by decide +kernel
theorem dX7_score_20 : decode cX7_score 20 = .ok (.getfield 26, 3) := by decide +kernel
theorem dX7_score_23 : decode cX7_score 23 = .ok (.iload_n 1, 1) := by decide +kernel
theorem dX7_score_24 : decode cX7_score 24 = .ok (.iload_n 2, 1) := by decide +kernel
theorem dX7_score_25 : decode cX7_score 25 = .ok (.iconst 0, 1) := by decide +kernel
theorem dX7_score_26 : decode cX7_score 26 = .ok (.invokevirtual 156, 3) := by decide +kernel
theorem dX7_score_29 : decode cX7_score 29 = .ok (.ireturn, 1) := by decide +kernel
theorem dX7_chain_0 : decode cX7_chain 0 = .ok (.iload_n 3, 1) := by decide +kernel
theorem dX7_chain_1 : decode cX7_chain 1 = .ok (.iconst (-1), 1) := by decide +kernel
theorem dX7_chain_2 : decode cX7_chain 2 = .ok (.if_icmp .ge 7, 3) := by decide +kernel
theorem dX7_chain_5 : decode cX7_chain 5 = .ok (.iconst (-1), 1) := by decide +kernel
theorem dX7_chain_6 : decode cX7_chain 6 = .ok (.goto 9, 3) := by decide +kernel
theorem dX7_chain_9 : decode cX7_chain 9 = .ok (.aload_n 0, 1) := by decide +kernel
theorem dX7_chain_10 : decode cX7_chain 10 = .ok (.iload_n 1, 1) := by decide +kernel
theorem dX7_chain_11 : decode cX7_chain 11 = .ok (.iload_n 2, 1) := by decide +kernel
theorem dX7_chain_12 : decode cX7_chain 12 = .ok (.invokevirtual 142, 3) := by decide +kernel
theorem dX7_chain_15 : decode cX7_chain 15 = .ok (.istore 4, 2) := by decide +kernel
theorem dX7_chain_17 : decode cX7_chain 17 = .ok (.iload 4, 2) := by decide +kernel
theorem dX7_chain_19 : decode cX7_chain 19 = .ok (.ifCond .eq 6, 3) := by decide +kernel
theorem dX7_chain_22 : decode cX7_chain 22 = .ok (.iload 4, 2) := by decide +kernel
theorem dX7_chain_24 : decode cX7_chain 24 = .ok (.ireturn, 1) := by decide +kernel
theorem dX7_chain_25 : decode cX7_chain 25 = .ok (.aload_n 0, 1) := by decide +kernel
theorem dX7_chain_26 : decode cX7_chain 26 = .ok (.getfield 33, 3) := by decide +kernel
theorem dX7_chain_29 : decode cX7_chain 29 = .ok (.aload_n 0, 1) := by decide +kernel
theorem dX7_chain_30 : decode cX7_chain 30 = .ok (.getfield 26, 3) := by decide +kernel
theorem dX7_chain_33 : decode cX7_chain 33 = .ok (.iload_n 1, 1) := by decide +kernel
theorem dX7_chain_34 : decode cX7_chain 34 = .ok (.iload_n 2, 1) := by decide +kernel
theorem dX7_chain_35 : decode cX7_chain 35 = .ok (.invokevirtual 160, 3) := by decide +kernel
theorem dX7_chain_38 : decode cX7_chain 38 = .ok (.iload_n 3, 1) := by decide +kernel
theorem dX7_chain_39 : decode cX7_chain 39 = .ok (.iconst (-1), 1) := by decide +kernel
theorem dX7_chain_40 : decode cX7_chain 40 = .ok (.if_icmp .ne 11, 3) := by decide +kernel
theorem dX7_chain_43 : decode cX7_chain 43 = .ok (.aload_n 0, 1) := by decide +kernel
theorem dX7_chain_44 : decode cX7_chain 44 = .ok (.getfield 33, 3) := by decide +kernel
theorem dX7_chain_47 : decode cX7_chain 47 = .ok (.getfield 164, 3) := by decide +kernel
theorem dX7_chain_50 : decode cX7_chain 50 = .ok (.ireturn, 1) := by decide +kernel
theorem dX7_chain_51 : decode cX7_chain 51 = .ok (.iload_n 3, 1) := by decide +kernel
theorem dX7_chain_52 : decode cX7_chain 52 = .ok (.aload_n 0, 1) := by decide +kernel
theorem dX7_chain_53 : decode cX7_chain 53 = .ok (.getfield 33, 3) := by decide +kernel
theorem dX7_chain_56 : decode cX7_chain 56 = .ok (.getfield 164, 3) := by decide +kernel
theorem dX7_chain_59 : decode cX7_chain 59 = .ok (.if_icmp .ge 15, 3) := by decide +kernel
theorem dX7_chain_62 : decode cX7_chain 62 = .ok (.aload_n 0, 1) := by decide +kernel
theorem dX7_chain_63 : decode cX7_chain 63 = .ok (.getfield 33, 3) := by decide +kernel
theorem dX7_chain_66 : decode cX7_chain 66 = .ok (.getfield 167, 3) := by decide +kernel
theorem dX7_chain_69 : decode cX7_chain 69 = .ok (.iload_n 3, 1) := by decide +kernel
theorem dX7_chain_70 : decode cX7_chain 70 = .ok (.iaload, 1) := by decide +kernel
theorem dX7_chain_71 : decode cX7_chain 71 = .ok (.goto 4, 3) := by decide +kernel
theorem dX7_chain_74 : decode cX7_chain 74 = .ok (.iconst (-1), 1) := by decide +kernel
theorem dX7_chain_75 : decode cX7_chain 75 = .ok (.ireturn, 1) := by decide +kernel
theorem dX7_covered_0 : decode cX7_covered 0 = .ok (.aload_n 0, 1) := by decide +kernel
theorem dX7_covered_1 : decode cX7_covered 1 = .ok (.iload_n 1, 1) := by decide +kernel
theorem dX7_covered_2 : decode cX7_covered 2 = .ok (.iload_n 2, 1) := by decide +kernel
theorem dX7_covered_3 : decode cX7_covered 3 = .ok (.invokevirtual 142, 3) := by decide +kernel
theorem dX7_covered_6 : decode cX7_covered 6 = .ok (.istore_n 3, 1) := by decide +kernel
theorem dX7_covered_7 : decode cX7_covered 7 = .ok (.iload_n 3, 1) := by decide +kernel
theorem dX7_covered_8 : decode cX7_covered 8 = .ok (.ifCond .eq 5, 3) := by decide +kernel
theorem dX7_covered_11 : decode cX7_covered 11 = .ok (.iload_n 3, 1) := by decide +kernel
theorem dX7_covered_12 : decode cX7_covered 12 = .ok (.ireturn, 1) := by decide +kernel
theorem dX7_covered_13 : decode cX7_covered 13 = .ok (.aload_n 0, 1) := by decide +kernel
theorem dX7_covered_14 : decode cX7_covered 14 = .ok (.getfield 33, 3) := by decide +kernel
theorem dX7_covered_17 : decode cX7_covered 17 = .ok (.aload_n 0, 1) := by decide +kernel
theorem dX7_covered_18 : decode cX7_covered 18 = .ok (.getfield 26, 3) := by decide +kernel
theorem dX7_covered_21 : decode cX7_covered 21 = .ok (.iload_n 1, 1) := by decide +kernel
theorem dX7_covered_22 : decode cX7_covered 22 = .ok (.iload_n 2, 1) := by decide +kernel
theorem dX7_covered_23 : decode cX7_covered 23 = .ok (.invokevirtual 160, 3) := by decide +kernel
theorem dX7_covered_26 : decode cX7_covered 26 = .ok (.aload_n 0, 1) := by decide +kernel
theorem dX7_covered_27 : decode cX7_covered 27 = .ok (.getfield 33, 3) := by decide +kernel
theorem dX7_covered_30 : decode cX7_covered 30 = .ok (.getfield 170, 3) := by decide +kernel
theorem dX7_covered_33 : decode cX7_covered 33 = .ok (.ireturn, 1) := by decide +kernel
theorem dX7_group_0 : decode cX7_group 0 = .ok (.aload_n 0, 1) := by decide +kernel
theorem dX7_group_1 : decode cX7_group 1 = .ok (.iload_n 1, 1) := by decide +kernel
theorem dX7_group_2 : decode cX7_group 2 = .ok (.invokevirtual 83, 3) := by decide +kernel
theorem dX7_group_5 : decode cX7_group 5 = .ok (.istore_n 2, 1) := by decide +kernel
theorem dX7_group_6 : decode cX7_group 6 = .ok (.iload_n 2, 1) := by decide +kernel
theorem dX7_group_7 : decode cX7_group 7 = .ok (.ifCond .eq 5, 3) := by decide +kernel
theorem dX7_group_10 : decode cX7_group 10 = .ok (.iload_n 2, 1) := by decide +kernel
theorem dX7_group_11 : decode cX7_group 11 = .ok (.ireturn, 1) := by decide +kernel
theorem dX7_group_12 : decode cX7_group 12 = .ok (.aload_n 0, 1) := by decide +kernel
theorem dX7_group_13 : decode cX7_group 13 = .ok (.getfield 40, 3) := by decide +kernel
theorem dX7_group_16 : decode cX7_group 16 = .ok (.aload_n 0, 1) := by decide +kernel
theorem dX7_group_17 : decode cX7_group 17 = .ok (.getfield 26, 3) := by decide +kernel
theorem dX7_group_20 : decode cX7_group 20 = .ok (.aload_n 0, 1) := by decide +kernel
theorem dX7_group_21 : decode cX7_group 21 = .ok (.getfield 33, 3) := by decide +kernel
theorem dX7_group_24 : decode cX7_group 24 = .ok (.invokevirtual 173, 3) := by decide +kernel
theorem dX7_group_27 : decode cX7_group 27 = .ok (.aload_n 0, 1) := by decide +kernel
theorem dX7_group_28 : decode cX7_group 28 = .ok (.getfield 40, 3) := by decide +kernel
theorem dX7_group_31 : decode cX7_group 31 = .ok (.getfield 177, 3) := by decide +kernel
theorem dX7_group_34 : decode cX7_group 34 = .ok (.iload_n 1, 1) := by decide +kernel
theorem dX7_group_35 : decode cX7_group 35 = .ok (.iaload, 1) := by decide +kernel
theorem dX7_group_36 : decode cX7_group 36 = .ok (.ireturn, 1) := by decide +kernel
theorem dX7_first_0 : decode cX7_first 0 = .ok (.aload_n 0, 1) := by decide +kernel
theorem dX7_first_1 : decode cX7_first 1 = .ok (.iload_n 1, 1) := by decide +kernel
theorem dX7_first_2 : decode cX7_first 2 = .ok (.invokevirtual 83, 3) := by decide +kernel
theorem dX7_first_5 : decode cX7_first 5 = .ok (.istore_n 2, 1) := by decide +kernel
theorem dX7_first_6 : decode cX7_first 6 = .ok (.iload_n 2, 1) := by decide +kernel
theorem dX7_first_7 : decode cX7_first 7 = .ok (.ifCond .eq 5, 3) := by decide +kernel
theorem dX7_first_10 : decode cX7_first 10 = .ok (.iload_n 2, 1) := by decide +kernel
theorem dX7_first_11 : decode cX7_first 11 = .ok (.ireturn, 1) := by decide +kernel
theorem dX7_first_12 : decode cX7_first 12 = .ok (.aload_n 0, 1) := by decide +kernel
theorem dX7_first_13 : decode cX7_first 13 = .ok (.getfield 40, 3) := by decide +kernel
theorem dX7_first_16 : decode cX7_first 16 = .ok (.aload_n 0, 1) := by decide +kernel
theorem dX7_first_17 : decode cX7_first 17 = .ok (.getfield 26, 3) := by decide +kernel
theorem dX7_first_20 : decode cX7_first 20 = .ok (.aload_n 0, 1) := by decide +kernel
theorem dX7_first_21 : decode cX7_first 21 = .ok (.getfield 33, 3) := by decide +kernel
theorem dX7_first_24 : decode cX7_first 24 = .ok (.invokevirtual 173, 3) := by decide +kernel
theorem dX7_first_27 : decode cX7_first 27 = .ok (.aload_n 0, 1) := by decide +kernel
theorem dX7_first_28 : decode cX7_first 28 = .ok (.getfield 40, 3) := by decide +kernel
theorem dX7_first_31 : decode cX7_first 31 = .ok (.aload_n 0, 1) := by decide +kernel
theorem dX7_first_32 : decode cX7_first 32 = .ok (.getfield 26, 3) := by decide +kernel
theorem dX7_first_35 : decode cX7_first 35 = .ok (.aload_n 0, 1) := by decide +kernel
theorem dX7_first_36 : decode cX7_first 36 = .ok (.getfield 40, 3) := by decide +kernel
theorem dX7_first_39 : decode cX7_first 39 = .ok (.getfield 177, 3) := by decide +kernel
theorem dX7_first_42 : decode cX7_first 42 = .ok (.iload_n 1, 1) := by decide +kernel
theorem dX7_first_43 : decode cX7_first 43 = .ok (.iaload, 1) := by decide +kernel
theorem dX7_first_44 : decode cX7_first 44 = .ok (.invokevirtual 180, 3) := by decide +kernel
theorem dX7_first_47 : decode cX7_first 47 = .ok (.ireturn, 1) := by decide +kernel
theorem dX7_count_0 : decode cX7_count 0 = .ok (.iload_n 1, 1) := by decide +kernel
theorem dX7_count_1 : decode cX7_count 1 = .ok (.ifCond .lt 8, 3) := by decide +kernel
theorem dX7_count_4 : decode cX7_count 4 = .ok (.iload_n 1, 1) := by decide +kernel
theorem dX7_count_5 : decode cX7_count 5 = .ok (.iconst 3, 1) := by decide +kernel
theorem dX7_count_6 : decode cX7_count 6 = .ok (.if_icmp .le 5, 3) := by decide +kernel
theorem dX7_count_9 : decode cX7_count 9 = .ok (.iconst (-1), 1) := by decide +kernel
theorem dX7_count_10 : decode cX7_count 10 = .ok (.ireturn, 1) := by decide +kernel
theorem dX7_count_11 : decode cX7_count 11 = .ok (.iload_n 1, 1) := by decide +kernel
theorem dX7_count_12 : decode cX7_count 12 = .ok (.ifCond .ne 11, 3) := by decide +kernel
theorem dX7_count_15 : decode cX7_count 15 = .ok (.aload_n 0, 1) := by decide +kernel
theorem dX7_count_16 : decode cX7_count 16 = .ok (.getfield 26, 3) := by decide +kernel
theorem dX7_count_19 : decode cX7_count 19 = .ok (.invokevirtual 184, 3) := by decide +kernel
theorem dX7_count_22 : decode cX7_count 22 = .ok (.ireturn, 1) := by decide +kernel
theorem dX7_count_23 : decode cX7_count 23 = .ok (.aload_n 0, 1) := by decide +kernel
theorem dX7_count_24 : decode cX7_count 24 = .ok (.getfield 40, 3) := by decide +kernel
theorem dX7_count_27 : decode cX7_count 27 = .ok (.aload_n 0, 1) := by decide +kernel
theorem dX7_count_28 : decode cX7_count 28 = .ok (.getfield 26, 3) := by decide +kernel
theorem dX7_count_31 : decode cX7_count 31 = .ok (.aload_n 0, 1) := by decide +kernel
theorem dX7_count_32 : decode cX7_count 32 = .ok (.getfield 33, 3) := by decide +kernel
theorem dX7_count_35 : decode cX7_count 35 = .ok (.invokevirtual 173, 3) := by decide +kernel
theorem dX7_count_38 : decode cX7_count 38 = .ok (.iload_n 1, 1) := by decide +kernel
theorem dX7_count_39 : decode cX7_count 39 = .ok (.iconst 3, 1) := by decide +kernel
theorem dX7_count_40 : decode cX7_count 40 = .ok (.if_icmp .ne 11, 3) := by decide +kernel
theorem dX7_count_43 : decode cX7_count 43 = .ok (.aload_n 0, 1) := by decide +kernel
theorem dX7_count_44 : decode cX7_count 44 = .ok (.getfield 40, 3) := by decide +kernel
theorem dX7_count_47 : decode cX7_count 47 = .ok (.getfield 187, 3) := by decide +kernel
theorem dX7_count_50 : decode cX7_count 50 = .ok (.ireturn, 1) := by decide +kernel
theorem dX7_count_51 : decode cX7_count 51 = .ok (.iload_n 1, 1) := by decide +kernel
theorem dX7_count_52 : decode cX7_count 52 = .ok (.iconst 1, 1) := by decide +kernel
theorem dX7_count_53 : decode cX7_count 53 = .ok (.if_icmp .ne 16, 3) := by decide +kernel
theorem dX7_count_56 : decode cX7_count 56 = .ok (.aload_n 0, 1) := by decide +kernel
theorem dX7_count_57 : decode cX7_count 57 = .ok (.getfield 40, 3) := by decide +kernel
theorem dX7_count_60 : decode cX7_count 60 = .ok (.iconst 1, 1) := by decide +kernel
theorem dX7_count_61 : decode cX7_count 61 = .ok (.bipush 6, 2) := by decide +kernel
theorem dX7_count_63 : decode cX7_count 63 = .ok (.invokevirtual 190, 3) := by decide +kernel
theorem dX7_count_66 : decode cX7_count 66 = .ok (.goto 12, 3) := by decide +kernel
theorem dX7_count_69 : decode cX7_count 69 = .ok (.aload_n 0, 1) := by decide +kernel
theorem dX7_count_70 : decode cX7_count 70 = .ok (.getfield 40, 3) := by decide +kernel
theorem dX7_count_73 : decode cX7_count 73 = .ok (.iconst 1, 1) := by decide +kernel
theorem dX7_count_74 : decode cX7_count 74 = .ok (.iconst 1, 1) := by decide +kernel
theorem dX7_count_75 : decode cX7_count 75 = .ok (.invokevirtual 190, 3) := by decide +kernel
theorem dX7_count_78 : decode cX7_count 78 = .ok (.ireturn, 1) := by decide +kernel
theorem dX7_chance_0 : decode cX7_chance 0 = .ok (.aload_n 0, 1) := by decide +kernel
theorem dX7_chance_1 : decode cX7_chance 1 = .ok (.iload_n 1, 1) := by decide +kernel
theorem dX7_chance_2 : decode cX7_chance 2 = .ok (.iload_n 2, 1) := by decide +kernel
theorem dX7_chance_3 : decode cX7_chance 3 = .ok (.invokevirtual 142, 3) := by decide +kernel
theorem dX7_chance_6 : decode cX7_chance 6 = .ok (.istore_n 3, 1) := by decide +kernel
theorem dX7_chance_7 : decode cX7_chance 7 = .ok (.iload_n 3, 1) := by decide +kernel
theorem dX7_chance_8 : decode cX7_chance 8 = .ok (.ifCond .eq 5, 3) := by decide +kernel
theorem dX7_chance_11 : decode cX7_chance 11 = .ok (.iload_n 3, 1) := by decide +kernel
theorem dX7_chance_12 : decode cX7_chance 12 = .ok (.ireturn, 1) := by decide +kernel
theorem dX7_chance_13 : decode cX7_chance 13 = .ok (.aload_n 0, 1) := by decide +kernel
theorem dX7_chance_14 : decode cX7_chance 14 = .ok (.getfield 33, 3) := by decide +kernel
theorem dX7_chance_17 : decode cX7_chance 17 = .ok (.aload_n 0, 1) := by decide +kernel
theorem dX7_chance_18 : decode cX7_chance 18 = .ok (.getfield 26, 3) := by decide +kernel
theorem dX7_chance_21 : decode cX7_chance 21 = .ok (.iload_n 1, 1) := by decide +kernel
theorem dX7_chance_22 : decode cX7_chance 22 = .ok (.iload_n 2, 1) := by decide +kernel
theorem dX7_chance_23 : decode cX7_chance 23 = .ok (.iconst 0, 1) := by decide +kernel
theorem dX7_chance_24 : decode cX7_chance 24 = .ok (.invokevirtual 156, 3) := by decide +kernel
theorem dX7_chance_27 : decode cX7_chance 27 = .ok (.istore 4, 2) := by decide +kernel
theorem dX7_chance_29 : decode cX7_chance 29 = .ok (.iconst 0, 1) := by decide +kernel
theorem dX7_chance_30 : decode cX7_chance 30 = .ok (.istore 5, 2) := by decide +kernel
theorem dX7_chance_32 : decode cX7_chance 32 = .ok (.iconst 0, 1) := by decide +kernel
theorem dX7_chance_33 : decode cX7_chance 33 = .ok (.istore 6, 2) := by decide +kernel
theorem dX7_chance_35 : decode cX7_chance 35 = .ok (.iload 6, 2) := by decide +kernel
theorem dX7_chance_37 : decode cX7_chance 37 = .ok (.aload_n 0, 1) := by decide +kernel
theorem dX7_chance_38 : decode cX7_chance 38 = .ok (.getfield 26, 3) := by decide +kernel
theorem dX7_chance_41 : decode cX7_chance 41 = .ok (.getfield 63, 3) := by decide +kernel
theorem dX7_chance_44 : decode cX7_chance 44 = .ok (.iload_n 2, 1) := by decide +kernel
theorem dX7_chance_45 : decode cX7_chance 45 = .ok (.aaload, 1) := by decide +kernel
theorem dX7_chance_46 : decode cX7_chance 46 = .ok (.getfield 80, 3) := by decide +kernel
theorem dX7_chance_49 : decode cX7_chance 49 = .ok (.if_icmp .ge 32, 3) := by decide +kernel
theorem dX7_chance_52 : decode cX7_chance 52 = .ok (.aload_n 0, 1) := by decide +kernel
theorem dX7_chance_53 : decode cX7_chance 53 = .ok (.getfield 33, 3) := by decide +kernel
theorem dX7_chance_56 : decode cX7_chance 56 = .ok (.aload_n 0, 1) := by decide +kernel
theorem dX7_chance_57 : decode cX7_chance 57 = .ok (.getfield 26, 3) := by decide +kernel
theorem dX7_chance_60 : decode cX7_chance 60 = .ok (.iload_n 1, 1) := by decide +kernel
theorem dX7_chance_61 : decode cX7_chance 61 = .ok (.iload_n 2, 1) := by decide +kernel
theorem dX7_chance_62 : decode cX7_chance 62 = .ok (.iload 6, 2) := by decide +kernel
theorem dX7_chance_64 : decode cX7_chance 64 = .ok (.invokevirtual 156, 3) := by decide +kernel
theorem dX7_chance_67 : decode cX7_chance 67 = .ok (.iload 4, 2) := by decide +kernel
theorem dX7_chance_69 : decode cX7_chance 69 = .ok (.if_icmp .lt 6, 3) := by decide +kernel
theorem dX7_chance_72 : decode cX7_chance 72 = .ok (.iinc 5 1, 3) := by decide +kernel
theorem dX7_chance_75 : decode cX7_chance 75 = .ok (.iinc 6 1, 3) := by decide +kernel
theorem dX7_chance_78 : decode cX7_chance 78 = .ok (.goto (-43), 3) := by decide +kernel
theorem dX7_chance_81 : decode cX7_chance 81 = .ok (.iload 5, 2) := by decide +kernel
theorem dX7_chance_83 : decode cX7_chance 83 = .ok (.ireturn, 1) := by decide +kernel
theorem dX7_refusalOfBook_0 : decode cX7_refusalOfBook 0 = .ok (.aload_n 0, 1) := by decide +kernel
theorem dX7_refusalOfBook_1 : decode cX7_refusalOfBook 1 = .ok (.getfield 26, 3) := by decide +kernel
theorem dX7_refusalOfBook_4 : decode cX7_refusalOfBook 4 = .ok (.iload_n 1, 1) := by decide +kernel
theorem dX7_refusalOfBook_5 : decode cX7_refusalOfBook 5 = .ok (.invokevirtual 60, 3) := by decide +kernel
theorem dX7_refusalOfBook_8 : decode cX7_refusalOfBook 8 = .ok (.ifCond .ne 5, 3) := by decide +kernel
theorem dX7_refusalOfBook_11 : decode cX7_refusalOfBook 11 = .ok (.iconst (-1), 1) := by decide +kernel
theorem dX7_refusalOfBook_12 : decode cX7_refusalOfBook 12 = .ok (.ireturn, 1) := by decide +kernel
theorem dX7_refusalOfBook_13 : decode cX7_refusalOfBook 13 = .ok (.aload_n 0, 1) := by decide +kernel
theorem dX7_refusalOfBook_14 : decode cX7_refusalOfBook 14 = .ok (.getfield 26, 3) := by decide +kernel
theorem dX7_refusalOfBook_17 : decode cX7_refusalOfBook 17 = .ok (.iload_n 1, 1) := by decide +kernel
theorem dX7_refusalOfBook_18 : decode cX7_refusalOfBook 18 = .ok (.invokevirtual 193, 3) := by decide +kernel
theorem dX7_refusalOfBook_21 : decode cX7_refusalOfBook 21 = .ok (.ifCond .eq 7, 3) := by decide +kernel
theorem dX7_refusalOfBook_24 : decode cX7_refusalOfBook 24 = .ok (.iconst 0, 1) := by decide +kernel
theorem dX7_refusalOfBook_25 : decode cX7_refusalOfBook 25 = .ok (.goto 5, 3) := by decide +kernel
theorem dX7_refusalOfBook_28 : decode cX7_refusalOfBook 28 = .ok (.bipush (-2), 2) := by decide +kernel
theorem dX7_refusalOfBook_30 : decode cX7_refusalOfBook 30 = .ok (.ireturn, 1) := by decide +kernel
theorem dX7_refusalOfPair_0 : decode cX7_refusalOfPair 0 = .ok (.aload_n 0, 1) := by decide +kernel
theorem dX7_refusalOfPair_1 : decode cX7_refusalOfPair 1 = .ok (.getfield 26, 3) := by decide +kernel
theorem dX7_refusalOfPair_4 : decode cX7_refusalOfPair 4 = .ok (.iload_n 1, 1) := by decide +kernel
theorem dX7_refusalOfPair_5 : decode cX7_refusalOfPair 5 = .ok (.invokevirtual 60, 3) := by decide +kernel
theorem dX7_refusalOfPair_8 : decode cX7_refusalOfPair 8 = .ok (.ifCond .eq 19, 3) := by decide +kernel
theorem dX7_refusalOfPair_11 : decode cX7_refusalOfPair 11 = .ok (.aload_n 0, 1) := by decide +kernel
theorem dX7_refusalOfPair_12 : decode cX7_refusalOfPair 12 = .ok (.getfield 26, 3) := by decide +kernel
theorem dX7_refusalOfPair_15 : decode cX7_refusalOfPair 15 = .ok (.iload_n 2, 1) := by decide +kernel
theorem dX7_refusalOfPair_16 : decode cX7_refusalOfPair 16 = .ok (.invokevirtual 60, 3) := by decide +kernel
theorem dX7_refusalOfPair_19 : decode cX7_refusalOfPair 19 = .ok (.ifCond .eq 8, 3) := by decide +kernel
theorem dX7_refusalOfPair_22 : decode cX7_refusalOfPair 22 = .ok (.iload_n 1, 1) := by decide +kernel
theorem dX7_refusalOfPair_23 : decode cX7_refusalOfPair 23 = .ok (.iload_n 2, 1) := by decide +kernel
theorem dX7_refusalOfPair_24 : decode cX7_refusalOfPair 24 = .ok (.if_icmp .ne 5, 3) := by decide +kernel
theorem dX7_refusalOfPair_27 : decode cX7_refusalOfPair 27 = .ok (.iconst (-1), 1) := by decide +kernel
theorem dX7_refusalOfPair_28 : decode cX7_refusalOfPair 28 = .ok (.ireturn, 1) := by decide +kernel
theorem dX7_refusalOfPair_29 : decode cX7_refusalOfPair 29 = .ok (.aload_n 0, 1) := by decide +kernel
theorem dX7_refusalOfPair_30 : decode cX7_refusalOfPair 30 = .ok (.getfield 26, 3) := by decide +kernel
theorem dX7_refusalOfPair_33 : decode cX7_refusalOfPair 33 = .ok (.iload_n 1, 1) := by decide +kernel
theorem dX7_refusalOfPair_34 : decode cX7_refusalOfPair 34 = .ok (.invokevirtual 193, 3) := by decide +kernel
theorem dX7_refusalOfPair_37 : decode cX7_refusalOfPair 37 = .ok (.ifCond .eq 18, 3) := by decide +kernel
theorem dX7_refusalOfPair_40 : decode cX7_refusalOfPair 40 = .ok (.aload_n 0, 1) := by decide +kernel
theorem dX7_refusalOfPair_41 : decode cX7_refusalOfPair 41 = .ok (.getfield 26, 3) := by decide +kernel
theorem dX7_refusalOfPair_44 : decode cX7_refusalOfPair 44 = .ok (.iload_n 2, 1) := by decide +kernel
theorem dX7_refusalOfPair_45 : decode cX7_refusalOfPair 45 = .ok (.invokevirtual 193, 3) := by decide +kernel
theorem dX7_refusalOfPair_48 : decode cX7_refusalOfPair 48 = .ok (.ifCond .eq 7, 3) := by decide +kernel
theorem dX7_refusalOfPair_51 : decode cX7_refusalOfPair 51 = .ok (.iconst 0, 1) := by decide +kernel
theorem dX7_refusalOfPair_52 : decode cX7_refusalOfPair 52 = .ok (.goto 5, 3) := by decide +kernel
theorem dX7_refusalOfPair_55 : decode cX7_refusalOfPair 55 = .ok (.bipush (-2), 2) := by decide +kernel
theorem dX7_refusalOfPair_57 : decode cX7_refusalOfPair 57 = .ok (.ireturn, 1) := by decide +kernel
