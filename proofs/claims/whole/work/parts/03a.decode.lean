theorem dX0_init_0 : decode cX0_init 0 = .ok (.aload_n 0, 1) := by decide +kernel
theorem dX0_init_1 : decode cX0_init 1 = .ok (.aload_n 1, 1) := by decide +kernel
theorem dX0_init_2 : decode cX0_init 2 = .ok (.invokespecial 3, 3) := by decide +kernel
theorem dX0_init_5 : decode cX0_init 5 = .ok (.aload_n 0, 1) := by decide +kernel
theorem dX0_init_6 : decode cX0_init 6 = .ok (.sipush 1502, 3) := by decide +kernel
theorem dX0_init_9 : decode cX0_init 9 = .ok (.newarray .int, 2) := by decide +kernel
theorem dX0_init_11 : decode cX0_init 11 = .ok (.putfield 9, 3) := by decide +kernel
theorem dX0_init_14 : decode cX0_init 14 = .ok (.return_, 1) := by decide +kernel
theorem dX0_begin_0 : decode cX0_begin 0 = .ok (.aload_n 0, 1) := by decide +kernel
theorem dX0_begin_1 : decode cX0_begin 1 = .ok (.getfield 9, 3) := by decide +kernel
theorem dX0_begin_4 : decode cX0_begin 4 = .ok (.iconst 1, 1) := by decide +kernel
theorem dX0_begin_5 : decode cX0_begin 5 = .ok (.iload_n 1, 1) := by decide +kernel
theorem dX0_begin_6 : decode cX0_begin 6 = .ok (.iastore, 1) := by decide +kernel
theorem dX0_begin_7 : decode cX0_begin 7 = .ok (.return_, 1) := by decide +kernel
theorem dX0_enter_0 : decode cX0_enter 0 = .ok (.aload_n 0, 1) := by decide +kernel
theorem dX0_enter_1 : decode cX0_enter 1 = .ok (.getfield 9, 3) := by decide +kernel
theorem dX0_enter_4 : decode cX0_enter 4 = .ok (.iload_n 1, 1) := by decide +kernel
theorem dX0_enter_5 : decode cX0_enter 5 = .ok (.iaload, 1) := by decide +kernel
theorem dX0_enter_6 : decode cX0_enter 6 = .ok (.istore_n 3, 1) := by decide +kernel
theorem dX0_enter_7 : decode cX0_enter 7 = .ok (.aload_n 0, 1) := by decide +kernel
theorem dX0_enter_8 : decode cX0_enter 8 = .ok (.aload_n 0, 1) := by decide +kernel
theorem dX0_enter_9 : decode cX0_enter 9 = .ok (.getfield 15, 3) := by decide +kernel
theorem dX0_enter_12 : decode cX0_enter 12 = .ok (.getfield 19, 3) := by decide +kernel
theorem dX0_enter_15 : decode cX0_enter 15 = .ok (.iload_n 2, 1) := by decide +kernel
theorem dX0_enter_16 : decode cX0_enter 16 = .ok (.iaload, 1) := by decide +kernel
theorem dX0_enter_17 : decode cX0_enter 17 = .ok (.aload_n 0, 1) := by decide +kernel
theorem dX0_enter_18 : decode cX0_enter 18 = .ok (.getfield 15, 3) := by decide +kernel
theorem dX0_enter_21 : decode cX0_enter 21 = .ok (.getfield 19, 3) := by decide +kernel
theorem dX0_enter_24 : decode cX0_enter 24 = .ok (.iload_n 3, 1) := by decide +kernel
theorem dX0_enter_25 : decode cX0_enter 25 = .ok (.iaload, 1) := by decide +kernel
theorem dX0_enter_26 : decode cX0_enter 26 = .ok (.if_icmp .ne 43, 3) := by decide +kernel
theorem dX0_enter_29 : decode cX0_enter 29 = .ok (.aload_n 0, 1) := by decide +kernel
theorem dX0_enter_30 : decode cX0_enter 30 = .ok (.getfield 15, 3) := by decide +kernel
theorem dX0_enter_33 : decode cX0_enter 33 = .ok (.getfield 24, 3) := by decide +kernel
theorem dX0_enter_36 : decode cX0_enter 36 = .ok (.iload_n 2, 1) := by decide +kernel
theorem dX0_enter_37 : decode cX0_enter 37 = .ok (.iaload, 1) := by decide +kernel
theorem dX0_enter_38 : decode cX0_enter 38 = .ok (.aload_n 0, 1) := by decide +kernel
theorem dX0_enter_39 : decode cX0_enter 39 = .ok (.getfield 15, 3) := by decide +kernel
theorem dX0_enter_42 : decode cX0_enter 42 = .ok (.getfield 24, 3) := by decide +kernel
theorem dX0_enter_45 : decode cX0_enter 45 = .ok (.iload_n 3, 1) := by decide +kernel
theorem dX0_enter_46 : decode cX0_enter 46 = .ok (.iaload, 1) := by decide +kernel
theorem dX0_enter_47 : decode cX0_enter 47 = .ok (.if_icmp .ne 22, 3) := by decide +kernel
theorem dX0_enter_50 : decode cX0_enter 50 = .ok (.aload_n 0, 1) := by decide +kernel
theorem dX0_enter_51 : decode cX0_enter 51 = .ok (.getfield 15, 3) := by decide +kernel
theorem dX0_enter_54 : decode cX0_enter 54 = .ok (.iload_n 2, 1) := by decide +kernel
theorem dX0_enter_55 : decode cX0_enter 55 = .ok (.invokevirtual 27, 3) := by decide +kernel
theorem dX0_enter_58 : decode cX0_enter 58 = .ok (.aload_n 0, 1) := by decide +kernel
theorem dX0_enter_59 : decode cX0_enter 59 = .ok (.getfield 15, 3) := by decide +kernel
theorem dX0_enter_62 : decode cX0_enter 62 = .ok (.iload_n 3, 1) := by decide +kernel
theorem dX0_enter_63 : decode cX0_enter 63 = .ok (.invokevirtual 27, 3) := by decide +kernel
theorem dX0_enter_66 : decode cX0_enter 66 = .ok (.if_icmp .eq 7, 3) := by decide +kernel
theorem dX0_enter_69 : decode cX0_enter 69 = .ok (.iconst 1, 1) := by decide +kernel
theorem dX0_enter_70 : decode cX0_enter 70 = .ok (.goto 4, 3) := by decide +kernel
theorem dX0_enter_73 : decode cX0_enter 73 = .ok (.iconst 0, 1) := by decide +kernel
theorem dX0_enter_74 : decode cX0_enter 74 = .ok (.putfield 31, 3) := by decide +kernel
theorem dX0_enter_77 : decode cX0_enter 77 = .ok (.return_, 1) := by decide +kernel
theorem dX0_choose_0 : decode cX0_choose 0 = .ok (.aload_n 0, 1) := by decide +kernel
theorem dX0_choose_1 : decode cX0_choose 1 = .ok (.getfield 9, 3) := by decide +kernel
theorem dX0_choose_4 : decode cX0_choose 4 = .ok (.iload_n 1, 1) := by decide +kernel
theorem dX0_choose_5 : decode cX0_choose 5 = .ok (.iaload, 1) := by decide +kernel
theorem dX0_choose_6 : decode cX0_choose 6 = .ok (.istore 4, 2) := by decide +kernel
theorem dX0_choose_8 : decode cX0_choose 8 = .ok (.iload 4, 2) := by decide +kernel
theorem dX0_choose_10 : decode cX0_choose 10 = .ok (.iload_n 2, 1) := by decide +kernel
theorem dX0_choose_11 : decode cX0_choose 11 = .ok (.if_icmp .ne 5, 3) := by decide +kernel
theorem dX0_choose_14 : decode cX0_choose 14 = .ok (.iconst (-1), 1) := by decide +kernel
theorem dX0_choose_15 : decode cX0_choose 15 = .ok (.ireturn, 1) := by decide +kernel
theorem dX0_choose_16 : decode cX0_choose 16 = .ok (.aload_n 0, 1) := by decide +kernel
theorem dX0_choose_17 : decode cX0_choose 17 = .ok (.getfield 9, 3) := by decide +kernel
theorem dX0_choose_20 : decode cX0_choose 20 = .ok (.iload_n 1, 1) := by decide +kernel
theorem dX0_choose_21 : decode cX0_choose 21 = .ok (.iconst 1, 1) := by decide +kernel
theorem dX0_choose_22 : decode cX0_choose 22 = .ok (.iadd, 1) := by decide +kernel
theorem dX0_choose_23 : decode cX0_choose 23 = .ok (.aload_n 0, 1) := by decide +kernel
theorem dX0_choose_24 : decode cX0_choose 24 = .ok (.getfield 15, 3) := by decide +kernel
theorem dX0_choose_27 : decode cX0_choose 27 = .ok (.iload 4, 2) := by decide +kernel
theorem dX0_choose_29 : decode cX0_choose 29 = .ok (.iload_n 3, 1) := by decide +kernel
theorem dX0_choose_30 : decode cX0_choose 30 = .ok (.invokevirtual 35, 3) := by decide +kernel
theorem dX0_choose_33 : decode cX0_choose 33 = .ok (.iastore, 1) := by decide +kernel
theorem dX0_choose_34 : decode cX0_choose 34 = .ok (.aload_n 0, 1) := by decide +kernel
theorem dX0_choose_35 : decode cX0_choose 35 = .ok (.getfield 15, 3) := by decide +kernel
theorem dX0_choose_38 : decode cX0_choose 38 = .ok (.iload_n 2, 1) := by decide +kernel
theorem dX0_choose_39 : decode cX0_choose 39 = .ok (.iload_n 3, 1) := by decide +kernel
theorem dX0_choose_40 : decode cX0_choose 40 = .ok (.invokevirtual 35, 3) := by decide +kernel
theorem dX0_choose_43 : decode cX0_choose 43 = .ok (.ireturn, 1) := by decide +kernel
theorem dX1_init_0 : decode cX1_init 0 = .ok (.aload_n 0, 1) := by decide +kernel
theorem dX1_init_1 : decode cX1_init 1 = .ok (.aload_n 1, 1) := by decide +kernel
theorem dX1_init_2 : decode cX1_init 2 = .ok (.invokespecial 3, 3) := by decide +kernel
theorem dX1_init_5 : decode cX1_init 5 = .ok (.aload_n 0, 1) := by decide +kernel
theorem dX1_init_6 : decode cX1_init 6 = .ok (.sipush 1502, 3) := by decide +kernel
theorem dX1_init_9 : decode cX1_init 9 = .ok (.newarray .boolean, 2) := by decide +kernel
theorem dX1_init_11 : decode cX1_init 11 = .ok (.putfield 9, 3) := by decide +kernel
theorem dX1_init_14 : decode cX1_init 14 = .ok (.aload_n 0, 1) := by decide +kernel
theorem dX1_init_15 : decode cX1_init 15 = .ok (.sipush 1502, 3) := by decide +kernel
theorem dX1_init_18 : decode cX1_init 18 = .ok (.newarray .int, 2) := by decide +kernel
theorem dX1_init_20 : decode cX1_init 20 = .ok (.putfield 15, 3) := by decide +kernel
theorem dX1_init_23 : decode cX1_init 23 = .ok (.aload_n 0, 1) := by decide +kernel
theorem dX1_init_24 : decode cX1_init 24 = .ok (.sipush 1500, 3) := by decide +kernel
theorem dX1_init_27 : decode cX1_init 27 = .ok (.newarray .long, 2) := by decide +kernel
theorem dX1_init_29 : decode cX1_init 29 = .ok (.putfield 19, 3) := by decide +kernel
theorem dX1_init_32 : decode cX1_init 32 = .ok (.aload_n 0, 1) := by decide +kernel
theorem dX1_init_33 : decode cX1_init 33 = .ok (.sipush 4000, 3) := by decide +kernel
theorem dX1_init_36 : decode cX1_init 36 = .ok (.newarray .int, 2) := by decide +kernel
theorem dX1_init_38 : decode cX1_init 38 = .ok (.putfield 23, 3) := by decide +kernel
theorem dX1_init_41 : decode cX1_init 41 = .ok (.return_, 1) := by decide +kernel
theorem dX1_beginCounting_0 : decode cX1_beginCounting 0 = .ok (.aload_n 0, 1) := by decide +kernel
theorem dX1_beginCounting_1 : decode cX1_beginCounting 1 = .ok (.iload_n 1, 1) := by decide +kernel
theorem dX1_beginCounting_2 : decode cX1_beginCounting 2 = .ok (.putfield 26, 3) := by decide +kernel
theorem dX1_beginCounting_5 : decode cX1_beginCounting 5 = .ok (.aload_n 0, 1) := by decide +kernel
theorem dX1_beginCounting_6 : decode cX1_beginCounting 6 = .ok (.iconst 0, 1) := by decide +kernel
theorem dX1_beginCounting_7 : decode cX1_beginCounting 7 = .ok (.putfield 30, 3) := by decide +kernel
theorem dX1_beginCounting_10 : decode cX1_beginCounting 10 = .ok (.aload_n 0, 1) := by decide +kernel
theorem dX1_beginCounting_11 : decode cX1_beginCounting 11 = .ok (.iconst 0, 1) := by decide +kernel
theorem dX1_beginCounting_12 : decode cX1_beginCounting 12 = .ok (.putfield 34, 3) := by decide +kernel
theorem dX1_beginCounting_15 : decode cX1_beginCounting 15 = .ok (.aload_n 0, 1) := by decide +kernel
theorem dX1_beginCounting_16 : decode cX1_beginCounting 16 = .ok (.iconst 0, 1) := by decide +kernel
theorem dX1_beginCounting_17 : decode cX1_beginCounting 17 = .ok (.putfield 37, 3) := by decide +kernel
theorem dX1_beginCounting_20 : decode cX1_beginCounting 20 = .ok (.return_, 1) := by decide +kernel
theorem dX1_beginMaking_0 : decode cX1_beginMaking 0 = .ok (.aload_n 0, 1) := by decide +kernel
theorem dX1_beginMaking_1 : decode cX1_beginMaking 1 = .ok (.iconst 1, 1) := by decide +kernel
theorem dX1_beginMaking_2 : decode cX1_beginMaking 2 = .ok (.putfield 30, 3) := by decide +kernel
theorem dX1_beginMaking_5 : decode cX1_beginMaking 5 = .ok (.aload_n 0, 1) := by decide +kernel
theorem dX1_beginMaking_6 : decode cX1_beginMaking 6 = .ok (.iload_n 2, 1) := by decide +kernel
theorem dX1_beginMaking_7 : decode cX1_beginMaking 7 = .ok (.putfield 34, 3) := by decide +kernel
theorem dX1_beginMaking_10 : decode cX1_beginMaking 10 = .ok (.iload_n 2, 1) := by decide +kernel
theorem dX1_beginMaking_11 : decode cX1_beginMaking 11 = .ok (.ifCond .eq 31, 3) := by decide +kernel
theorem dX1_beginMaking_14 : decode cX1_beginMaking 14 = .ok (.aload_n 0, 1) := by decide +kernel
theorem dX1_beginMaking_15 : decode cX1_beginMaking 15 = .ok (.getfield 40, 3) := by decide +kernel
theorem dX1_beginMaking_18 : decode cX1_beginMaking 18 = .ok (.getfield 44, 3) := by decide +kernel
theorem dX1_beginMaking_21 : decode cX1_beginMaking 21 = .ok (.iconst 0, 1) := by decide +kernel
theorem dX1_beginMaking_22 : decode cX1_beginMaking 22 = .ok (.aload_n 0, 1) := by decide +kernel
theorem dX1_beginMaking_23 : decode cX1_beginMaking 23 = .ok (.getfield 23, 3) := by decide +kernel
theorem dX1_beginMaking_26 : decode cX1_beginMaking 26 = .ok (.iconst 0, 1) := by decide +kernel
theorem dX1_beginMaking_27 : decode cX1_beginMaking 27 = .ok (.aload_n 0, 1) := by decide +kernel
theorem dX1_beginMaking_28 : decode cX1_beginMaking 28 = .ok (.getfield 40, 3) := by decide +kernel
theorem dX1_beginMaking_31 : decode cX1_beginMaking 31 = .ok (.invokevirtual 49, 3) := by decide +kernel
theorem dX1_beginMaking_34 : decode cX1_beginMaking 34 = .ok (.invokestatic 53, 3) := by decide +kernel
theorem dX1_beginMaking_37 : decode cX1_beginMaking 37 = .ok (.aload_n 0, 1) := by decide +kernel
theorem dX1_beginMaking_38 : decode cX1_beginMaking 38 = .ok (.iload_n 1, 1) := by decide +kernel
theorem dX1_beginMaking_39 : decode cX1_beginMaking 39 = .ok (.invokevirtual 59, 3) := by decide +kernel
theorem dX1_beginMaking_42 : decode cX1_beginMaking 42 = .ok (.return_, 1) := by decide +kernel
theorem dX1_reckonMarks_0 : decode cX1_reckonMarks 0 = .ok (.iconst 0, 1) := by decide +kernel
theorem dX1_reckonMarks_1 : decode cX1_reckonMarks 1 = .ok (.istore_n 2, 1) := by decide +kernel
theorem dX1_reckonMarks_2 : decode cX1_reckonMarks 2 = .ok (.iload_n 2, 1) := by decide +kernel
theorem dX1_reckonMarks_3 : decode cX1_reckonMarks 3 = .ok (.iload_n 1, 1) := by decide +kernel
theorem dX1_reckonMarks_4 : decode cX1_reckonMarks 4 = .ok (.if_icmp .gt 94, 3) := by decide +kernel
theorem dX1_reckonMarks_7 : decode cX1_reckonMarks 7 = .ok (.aload_n 0, 1) := by decide +kernel
theorem dX1_reckonMarks_8 : decode cX1_reckonMarks 8 = .ok (.getfield 40, 3) := by decide +kernel
theorem dX1_reckonMarks_11 : decode cX1_reckonMarks 11 = .ok (.getfield 63, 3) := by decide +kernel
theorem dX1_reckonMarks_14 : decode cX1_reckonMarks 14 = .ok (.iload_n 2, 1) := by decide +kernel
theorem dX1_reckonMarks_15 : decode cX1_reckonMarks 15 = .ok (.iaload, 1) := by decide +kernel
theorem dX1_reckonMarks_16 : decode cX1_reckonMarks 16 = .ok (.aload_n 0, 1) := by decide +kernel
theorem dX1_reckonMarks_17 : decode cX1_reckonMarks 17 = .ok (.getfield 40, 3) := by decide +kernel
theorem dX1_reckonMarks_20 : decode cX1_reckonMarks 20 = .ok (.getfield 66, 3) := by decide +kernel
theorem dX1_reckonMarks_23 : decode cX1_reckonMarks 23 = .ok (.iload_n 2, 1) := by decide +kernel
theorem dX1_reckonMarks_24 : decode cX1_reckonMarks 24 = .ok (.iaload, 1) := by decide +kernel
theorem dX1_reckonMarks_25 : decode cX1_reckonMarks 25 = .ok (.invokestatic 69, 3) := by decide +kernel
theorem dX1_reckonMarks_28 : decode cX1_reckonMarks 28 = .ok (.lstore_n 3, 1) := by decide +kernel
theorem dX1_reckonMarks_29 : decode cX1_reckonMarks 29 = .ok (.aload_n 0, 1) := by decide +kernel
theorem dX1_reckonMarks_30 : decode cX1_reckonMarks 30 = .ok (.getfield 40, 3) := by decide +kernel
theorem dX1_reckonMarks_33 : decode cX1_reckonMarks 33 = .ok (.getfield 75, 3) := by decide +kernel
theorem dX1_reckonMarks_36 : decode cX1_reckonMarks 36 = .ok (.iload_n 2, 1) := by decide +kernel
theorem dX1_reckonMarks_37 : decode cX1_reckonMarks 37 = .ok (.iaload, 1) := by decide +kernel
theorem dX1_reckonMarks_38 : decode cX1_reckonMarks 38 = .ok (.istore 5, 2) := by decide +kernel
theorem dX1_reckonMarks_40 : decode cX1_reckonMarks 40 = .ok (.iload 5, 2) := by decide +kernel
theorem dX1_reckonMarks_42 : decode cX1_reckonMarks 42 = .ok (.aload_n 0, 1) := by decide +kernel
theorem dX1_reckonMarks_43 : decode cX1_reckonMarks 43 = .ok (.getfield 40, 3) := by decide +kernel
theorem dX1_reckonMarks_46 : decode cX1_reckonMarks 46 = .ok (.getfield 75, 3) := by decide +kernel
theorem dX1_reckonMarks_49 : decode cX1_reckonMarks 49 = .ok (.iload_n 2, 1) := by decide +kernel
theorem dX1_reckonMarks_50 : decode cX1_reckonMarks 50 = .ok (.iconst 1, 1) := by decide +kernel
theorem dX1_reckonMarks_51 : decode cX1_reckonMarks 51 = .ok (.iadd, 1) := by decide +kernel
theorem dX1_reckonMarks_52 : decode cX1_reckonMarks 52 = .ok (.iaload, 1) := by decide +kernel
theorem dX1_reckonMarks_53 : decode cX1_reckonMarks 53 = .ok (.if_icmp .ge 29, 3) := by decide +kernel
theorem dX1_reckonMarks_56 : decode cX1_reckonMarks 56 = .ok (.lload_n 3, 1) := by decide +kernel
theorem dX1_reckonMarks_57 : decode cX1_reckonMarks 57 = .ok (.aload_n 0, 1) := by decide +kernel
theorem dX1_reckonMarks_58 : decode cX1_reckonMarks 58 = .ok (.getfield 19, 3) := by decide +kernel
theorem dX1_reckonMarks_61 : decode cX1_reckonMarks 61 = .ok (.aload_n 0, 1) := by decide +kernel
theorem dX1_reckonMarks_62 : decode cX1_reckonMarks 62 = .ok (.getfield 40, 3) := by decide +kernel
theorem dX1_reckonMarks_65 : decode cX1_reckonMarks 65 = .ok (.getfield 44, 3) := by decide +kernel
theorem dX1_reckonMarks_68 : decode cX1_reckonMarks 68 = .ok (.iload 5, 2) := by decide +kernel
theorem dX1_reckonMarks_70 : decode cX1_reckonMarks 70 = .ok (.iaload, 1) := by decide +kernel
theorem dX1_reckonMarks_71 : decode cX1_reckonMarks 71 = .ok (.laload, 1) := by decide +kernel
theorem dX1_reckonMarks_72 : decode cX1_reckonMarks 72 = .ok (.invokestatic 78, 3) := by decide +kernel
theorem dX1_reckonMarks_75 : decode cX1_reckonMarks 75 = .ok (.lstore_n 3, 1) := by decide +kernel
theorem dX1_reckonMarks_76 : decode cX1_reckonMarks 76 = .ok (.iinc 5 1, 3) := by decide +kernel
theorem dX1_reckonMarks_79 : decode cX1_reckonMarks 79 = .ok (.goto (-39), 3) := by decide +kernel
theorem dX1_reckonMarks_82 : decode cX1_reckonMarks 82 = .ok (.aload_n 0, 1) := by decide +kernel
theorem dX1_reckonMarks_83 : decode cX1_reckonMarks 83 = .ok (.getfield 19, 3) := by decide +kernel
theorem dX1_reckonMarks_86 : decode cX1_reckonMarks 86 = .ok (.iload_n 2, 1) := by decide +kernel
theorem dX1_reckonMarks_87 : decode cX1_reckonMarks 87 = .ok (.lload_n 3, 1) := by decide +kernel
theorem dX1_reckonMarks_88 : decode cX1_reckonMarks 88 = .ok (.invokestatic 82, 3) := by decide +kernel
theorem dX1_reckonMarks_91 : decode cX1_reckonMarks 91 = .ok (.lastore, 1) := by decide +kernel
theorem dX1_reckonMarks_92 : decode cX1_reckonMarks 92 = .ok (.iinc 2 1, 3) := by decide +kernel
theorem dX1_reckonMarks_95 : decode cX1_reckonMarks 95 = .ok (.goto (-93), 3) := by decide +kernel
theorem dX1_reckonMarks_98 : decode cX1_reckonMarks 98 = .ok (.return_, 1) := by decide +kernel
theorem dX1_enter_0 : decode cX1_enter 0 = .ok (.aload_n 0, 1) := by decide +kernel
theorem dX1_enter_1 : decode cX1_enter 1 = .ok (.getfield 40, 3) := by decide +kernel
theorem dX1_enter_4 : decode cX1_enter 4 = .ok (.getfield 63, 3) := by decide +kernel
theorem dX1_enter_7 : decode cX1_enter 7 = .ok (.iload_n 2, 1) := by decide +kernel
theorem dX1_enter_8 : decode cX1_enter 8 = .ok (.iaload, 1) := by decide +kernel
theorem dX1_enter_9 : decode cX1_enter 9 = .ok (.ifCond .ne 23, 3) := by decide +kernel
theorem dX1_enter_12 : decode cX1_enter 12 = .ok (.aload_n 0, 1) := by decide +kernel
theorem dX1_enter_13 : decode cX1_enter 13 = .ok (.getfield 40, 3) := by decide +kernel
theorem dX1_enter_16 : decode cX1_enter 16 = .ok (.getfield 66, 3) := by decide +kernel
theorem dX1_enter_19 : decode cX1_enter 19 = .ok (.iload_n 2, 1) := by decide +kernel
theorem dX1_enter_20 : decode cX1_enter 20 = .ok (.iaload, 1) := by decide +kernel
theorem dX1_enter_21 : decode cX1_enter 21 = .ok (.aload_n 0, 1) := by decide +kernel
theorem dX1_enter_22 : decode cX1_enter 22 = .ok (.getfield 26, 3) := by decide +kernel
theorem dX1_enter_25 : decode cX1_enter 25 = .ok (.if_icmp .le 7, 3) := by decide +kernel
theorem dX1_enter_28 : decode cX1_enter 28 = .ok (.iconst 1, 1) := by decide +kernel
theorem dX1_enter_29 : decode cX1_enter 29 = .ok (.goto 4, 3) := by decide +kernel
theorem dX1_enter_32 : decode cX1_enter 32 = .ok (.iconst 0, 1) := by decide +kernel
theorem dX1_enter_33 : decode cX1_enter 33 = .ok (.istore_n 3, 1) := by decide +kernel
theorem dX1_enter_34 : decode cX1_enter 34 = .ok (.aload_n 0, 1) := by decide +kernel
theorem dX1_enter_35 : decode cX1_enter 35 = .ok (.getfield 9, 3) := by decide +kernel
theorem dX1_enter_38 : decode cX1_enter 38 = .ok (.iload_n 1, 1) := by decide +kernel
theorem dX1_enter_39 : decode cX1_enter 39 = .ok (.iload_n 1, 1) := by decide +kernel
theorem dX1_enter_40 : decode cX1_enter 40 = .ok (.iconst 1, 1) := by decide +kernel
theorem dX1_enter_41 : decode cX1_enter 41 = .ok (.if_icmp .eq 18, 3) := by decide +kernel
theorem dX1_enter_44 : decode cX1_enter 44 = .ok (.aload_n 0, 1) := by decide +kernel
theorem dX1_enter_45 : decode cX1_enter 45 = .ok (.getfield 9, 3) := by decide +kernel
theorem dX1_enter_48 : decode cX1_enter 48 = .ok (.iload_n 1, 1) := by decide +kernel
theorem dX1_enter_49 : decode cX1_enter 49 = .ok (.iconst 1, 1) := by decide +kernel
theorem dX1_enter_50 : decode cX1_enter 50 = .ok (.isub, 1) := by decide +kernel
theorem dX1_enter_51 : decode cX1_enter 51 = .ok (.baload, 1) := by decide +kernel
theorem dX1_enter_52 : decode cX1_enter 52 = .ok (.ifCond .eq 11, 3) := by decide +kernel
theorem dX1_enter_55 : decode cX1_enter 55 = .ok (.iload_n 3, 1) := by decide +kernel
theorem dX1_enter_56 : decode cX1_enter 56 = .ok (.ifCond .ne 7, 3) := by decide +kernel
theorem dX1_enter_59 : decode cX1_enter 59 = .ok (.iconst 1, 1) := by decide +kernel
theorem dX1_enter_60 : decode cX1_enter 60 = .ok (.goto 4, 3) := by decide +kernel
theorem dX1_enter_63 : decode cX1_enter 63 = .ok (.iconst 0, 1) := by decide +kernel
theorem dX1_enter_64 : decode cX1_enter 64 = .ok (.bastore, 1) := by decide +kernel
theorem dX1_enter_65 : decode cX1_enter 65 = .ok (.aload_n 0, 1) := by decide +kernel
theorem dX1_enter_66 : decode cX1_enter 66 = .ok (.getfield 15, 3) := by decide +kernel
theorem dX1_enter_69 : decode cX1_enter 69 = .ok (.iload_n 1, 1) := by decide +kernel
theorem dX1_enter_70 : decode cX1_enter 70 = .ok (.iconst 0, 1) := by decide +kernel
theorem dX1_enter_71 : decode cX1_enter 71 = .ok (.iastore, 1) := by decide +kernel
theorem dX1_enter_72 : decode cX1_enter 72 = .ok (.aload_n 0, 1) := by decide +kernel
theorem dX1_enter_73 : decode cX1_enter 73 = .ok (.getfield 9, 3) := by decide +kernel
theorem dX1_enter_76 : decode cX1_enter 76 = .ok (.iload_n 1, 1) := by decide +kernel
theorem dX1_enter_77 : decode cX1_enter 77 = .ok (.baload, 1) := by decide +kernel
theorem dX1_enter_78 : decode cX1_enter 78 = .ok (.ifCond .eq 13, 3) := by decide +kernel
theorem dX1_enter_81 : decode cX1_enter 81 = .ok (.aload_n 0, 1) := by decide +kernel
theorem dX1_enter_82 : decode cX1_enter 82 = .ok (.dup, 1) := by decide +kernel
theorem dX1_enter_83 : decode cX1_enter 83 = .ok (.getfield 37, 3) := by decide +kernel
theorem dX1_enter_86 : decode cX1_enter 86 = .ok (.iconst 1, 1) := by decide +kernel
theorem dX1_enter_87 : decode cX1_enter 87 = .ok (.iadd, 1) := by decide +kernel
theorem dX1_enter_88 : decode cX1_enter 88 = .ok (.putfield 37, 3) := by decide +kernel
theorem dX1_enter_91 : decode cX1_enter 91 = .ok (.aload_n 0, 1) := by decide +kernel
theorem dX1_enter_92 : decode cX1_enter 92 = .ok (.getfield 34, 3) := by decide +kernel
theorem dX1_enter_95 : decode cX1_enter 95 = .ok (.ifCond .eq 27, 3) := by decide +kernel
theorem dX1_enter_98 : decode cX1_enter 98 = .ok (.aload_n 0, 1) := by decide +kernel
theorem dX1_enter_99 : decode cX1_enter 99 = .ok (.aload_n 0, 1) := by decide +kernel
theorem dX1_enter_100 : decode cX1_enter 100 = .ok (.getfield 40, 3) := by decide +kernel
theorem dX1_enter_103 : decode cX1_enter 103 = .ok (.getfield 75, 3) := by decide +kernel
theorem dX1_enter_106 : decode cX1_enter 106 = .ok (.iload_n 2, 1) := by decide +kernel
theorem dX1_enter_107 : decode cX1_enter 107 = .ok (.iaload, 1) := by decide +kernel
theorem dX1_enter_108 : decode cX1_enter 108 = .ok (.aload_n 0, 1) := by decide +kernel
theorem dX1_enter_109 : decode cX1_enter 109 = .ok (.getfield 40, 3) := by decide +kernel
theorem dX1_enter_112 : decode cX1_enter 112 = .ok (.getfield 75, 3) := by decide +kernel
theorem dX1_enter_115 : decode cX1_enter 115 = .ok (.iload_n 2, 1) := by decide +kernel
theorem dX1_enter_116 : decode cX1_enter 116 = .ok (.iconst 1, 1) := by decide +kernel
theorem dX1_enter_117 : decode cX1_enter 117 = .ok (.iadd, 1) := by decide +kernel
theorem dX1_enter_118 : decode cX1_enter 118 = .ok (.iaload, 1) := by decide +kernel
theorem dX1_enter_119 : decode cX1_enter 119 = .ok (.invokevirtual 86, 3) := by decide +kernel
theorem dX1_enter_122 : decode cX1_enter 122 = .ok (.return_, 1) := by decide +kernel
theorem dX1_sortParts_0 : decode cX1_sortParts 0 = .ok (.iload_n 1, 1) := by decide +kernel
theorem dX1_sortParts_1 : decode cX1_sortParts 1 = .ok (.iconst 1, 1) := by decide +kernel
theorem dX1_sortParts_2 : decode cX1_sortParts 2 = .ok (.iadd, 1) := by decide +kernel
theorem dX1_sortParts_3 : decode cX1_sortParts 3 = .ok (.istore_n 3, 1) := by decide +kernel
theorem dX1_sortParts_4 : decode cX1_sortParts 4 = .ok (.iload_n 3, 1) := by decide +kernel
theorem dX1_sortParts_5 : decode cX1_sortParts 5 = .ok (.iload_n 2, 1) := by decide +kernel
theorem dX1_sortParts_6 : decode cX1_sortParts 6 = .ok (.if_icmp .ge 82, 3) := by decide +kernel
theorem dX1_sortParts_9 : decode cX1_sortParts 9 = .ok (.aload_n 0, 1) := by decide +kernel
theorem dX1_sortParts_10 : decode cX1_sortParts 10 = .ok (.getfield 23, 3) := by decide +kernel
theorem dX1_sortParts_13 : decode cX1_sortParts 13 = .ok (.iload_n 3, 1) := by decide +kernel
theorem dX1_sortParts_14 : decode cX1_sortParts 14 = .ok (.iaload, 1) := by decide +kernel
theorem dX1_sortParts_15 : decode cX1_sortParts 15 = .ok (.istore 4, 2) := by decide +kernel
theorem dX1_sortParts_17 : decode cX1_sortParts 17 = .ok (.iload_n 3, 1) := by decide +kernel
theorem dX1_sortParts_18 : decode cX1_sortParts 18 = .ok (.istore 5, 2) := by decide +kernel
theorem dX1_sortParts_20 : decode cX1_sortParts 20 = .ok (.iload 5, 2) := by decide +kernel
theorem dX1_sortParts_22 : decode cX1_sortParts 22 = .ok (.iload_n 1, 1) := by decide +kernel
theorem dX1_sortParts_23 : decode cX1_sortParts 23 = .ok (.if_icmp .le 50, 3) := by decide +kernel
theorem dX1_sortParts_26 : decode cX1_sortParts 26 = .ok (.aload_n 0, 1) := by decide +kernel
theorem dX1_sortParts_27 : decode cX1_sortParts 27 = .ok (.getfield 19, 3) := by decide +kernel
theorem dX1_sortParts_30 : decode cX1_sortParts 30 = .ok (.aload_n 0, 1) := by decide +kernel
theorem dX1_sortParts_31 : decode cX1_sortParts 31 = .ok (.getfield 23, 3) := by decide +kernel
theorem dX1_sortParts_34 : decode cX1_sortParts 34 = .ok (.iload 5, 2) := by decide +kernel
theorem dX1_sortParts_36 : decode cX1_sortParts 36 = .ok (.iconst 1, 1) := by decide +kernel
theorem dX1_sortParts_37 : decode cX1_sortParts 37 = .ok (.isub, 1) := by decide +kernel
theorem dX1_sortParts_38 : decode cX1_sortParts 38 = .ok (.iaload, 1) := by decide +kernel
theorem dX1_sortParts_39 : decode cX1_sortParts 39 = .ok (.laload, 1) := by decide +kernel
theorem dX1_sortParts_40 : decode cX1_sortParts 40 = .ok (.aload_n 0, 1) := by decide +kernel
theorem dX1_sortParts_41 : decode cX1_sortParts 41 = .ok (.getfield 19, 3) := by decide +kernel
theorem dX1_sortParts_44 : decode cX1_sortParts 44 = .ok (.iload 4, 2) := by decide +kernel
theorem dX1_sortParts_46 : decode cX1_sortParts 46 = .ok (.laload, 1) := by decide +kernel
theorem dX1_sortParts_47 : decode cX1_sortParts 47 = .ok (.lcmp, 1) := by decide +kernel
theorem dX1_sortParts_48 : decode cX1_sortParts 48 = .ok (.ifCond .le 25, 3) := by decide +kernel
theorem dX1_sortParts_51 : decode cX1_sortParts 51 = .ok (.aload_n 0, 1) := by decide +kernel
theorem dX1_sortParts_52 : decode cX1_sortParts 52 = .ok (.getfield 23, 3) := by decide +kernel
theorem dX1_sortParts_55 : decode cX1_sortParts 55 = .ok (.iload 5, 2) := by decide +kernel
theorem dX1_sortParts_57 : decode cX1_sortParts 57 = .ok (.aload_n 0, 1) := by decide +kernel
theorem dX1_sortParts_58 : decode cX1_sortParts 58 = .ok (.getfield 23, 3) := by decide +kernel
theorem dX1_sortParts_61 : decode cX1_sortParts 61 = .ok (.iload 5, 2) := by decide +kernel
theorem dX1_sortParts_63 : decode cX1_sortParts 63 = .ok (.iconst 1, 1) := by decide +kernel
theorem dX1_sortParts_64 : decode cX1_sortParts 64 = .ok (.isub, 1) := by decide +kernel
theorem dX1_sortParts_65 : decode cX1_sortParts 65 = .ok (.iaload, 1) := by decide +kernel
theorem dX1_sortParts_66 : decode cX1_sortParts 66 = .ok (.iastore, 1) := by decide +kernel
theorem dX1_sortParts_67 : decode cX1_sortParts 67 = .ok (.iinc 5 (-1), 3) := by decide +kernel
theorem dX1_sortParts_70 : decode cX1_sortParts 70 = .ok (.goto (-50), 3) := by decide +kernel
theorem dX1_sortParts_73 : decode cX1_sortParts 73 = .ok (.aload_n 0, 1) := by decide +kernel
theorem dX1_sortParts_74 : decode cX1_sortParts 74 = .ok (.getfield 23, 3) := by decide +kernel
theorem dX1_sortParts_77 : decode cX1_sortParts 77 = .ok (.iload 5, 2) := by decide +kernel
theorem dX1_sortParts_79 : decode cX1_sortParts 79 = .ok (.iload 4, 2) := by decide +kernel
theorem dX1_sortParts_81 : decode cX1_sortParts 81 = .ok (.iastore, 1) := by decide +kernel
theorem dX1_sortParts_82 : decode cX1_sortParts 82 = .ok (.iinc 3 1, 3) := by decide +kernel
theorem dX1_sortParts_85 : decode cX1_sortParts 85 = .ok (.goto (-81), 3) := by decide +kernel
theorem dX1_sortParts_88 : decode cX1_sortParts 88 = .ok (.return_, 1) := by decide +kernel
theorem dX1_choose_0 : decode cX1_choose 0 = .ok (.aload_n 0, 1) := by decide +kernel
theorem dX1_choose_1 : decode cX1_choose 1 = .ok (.getfield 34, 3) := by decide +kernel
theorem dX1_choose_4 : decode cX1_choose 4 = .ok (.ifCond .eq 22, 3) := by decide +kernel
theorem dX1_choose_7 : decode cX1_choose 7 = .ok (.aload_n 0, 1) := by decide +kernel
theorem dX1_choose_8 : decode cX1_choose 8 = .ok (.getfield 23, 3) := by decide +kernel
theorem dX1_choose_11 : decode cX1_choose 11 = .ok (.aload_n 0, 1) := by decide +kernel
theorem dX1_choose_12 : decode cX1_choose 12 = .ok (.getfield 40, 3) := by decide +kernel
theorem dX1_choose_15 : decode cX1_choose 15 = .ok (.getfield 75, 3) := by decide +kernel
theorem dX1_choose_18 : decode cX1_choose 18 = .ok (.iload_n 2, 1) := by decide +kernel
theorem dX1_choose_19 : decode cX1_choose 19 = .ok (.iaload, 1) := by decide +kernel
theorem dX1_choose_20 : decode cX1_choose 20 = .ok (.iload_n 3, 1) := by decide +kernel
theorem dX1_choose_21 : decode cX1_choose 21 = .ok (.iadd, 1) := by decide +kernel
theorem dX1_choose_22 : decode cX1_choose 22 = .ok (.iaload, 1) := by decide +kernel
theorem dX1_choose_23 : decode cX1_choose 23 = .ok (.goto 12, 3) := by decide +kernel
theorem dX1_choose_26 : decode cX1_choose 26 = .ok (.aload_n 0, 1) := by decide +kernel
theorem dX1_choose_27 : decode cX1_choose 27 = .ok (.getfield 40, 3) := by decide +kernel
theorem dX1_choose_30 : decode cX1_choose 30 = .ok (.iload_n 2, 1) := by decide +kernel
theorem dX1_choose_31 : decode cX1_choose 31 = .ok (.iload_n 3, 1) := by decide +kernel
theorem dX1_choose_32 : decode cX1_choose 32 = .ok (.invokevirtual 90, 3) := by decide +kernel
theorem dX1_choose_35 : decode cX1_choose 35 = .ok (.ireturn, 1) := by decide +kernel
theorem dX1_takeUp_0 : decode cX1_takeUp 0 = .ok (.aload_n 0, 1) := by decide +kernel
theorem dX1_takeUp_1 : decode cX1_takeUp 1 = .ok (.getfield 9, 3) := by decide +kernel
theorem dX1_takeUp_4 : decode cX1_takeUp 4 = .ok (.iload_n 1, 1) := by decide +kernel
theorem dX1_takeUp_5 : decode cX1_takeUp 5 = .ok (.iconst 1, 1) := by decide +kernel
theorem dX1_takeUp_6 : decode cX1_takeUp 6 = .ok (.iadd, 1) := by decide +kernel
theorem dX1_takeUp_7 : decode cX1_takeUp 7 = .ok (.baload, 1) := by decide +kernel
theorem dX1_takeUp_8 : decode cX1_takeUp 8 = .ok (.ifCond .eq 13, 3) := by decide +kernel
theorem dX1_takeUp_11 : decode cX1_takeUp 11 = .ok (.aload_n 0, 1) := by decide +kernel
theorem dX1_takeUp_12 : decode cX1_takeUp 12 = .ok (.getfield 15, 3) := by decide +kernel
theorem dX1_takeUp_15 : decode cX1_takeUp 15 = .ok (.iload_n 1, 1) := by decide +kernel
theorem dX1_takeUp_16 : decode cX1_takeUp 16 = .ok (.dup2, 1) := by decide +kernel
theorem dX1_takeUp_17 : decode cX1_takeUp 17 = .ok (.iaload, 1) := by decide +kernel
theorem dX1_takeUp_18 : decode cX1_takeUp 18 = .ok (.iconst 1, 1) := by decide +kernel
theorem dX1_takeUp_19 : decode cX1_takeUp 19 = .ok (.iadd, 1) := by decide +kernel
theorem dX1_takeUp_20 : decode cX1_takeUp 20 = .ok (.iastore, 1) := by decide +kernel
theorem dX1_takeUp_21 : decode cX1_takeUp 21 = .ok (.return_, 1) := by decide +kernel
theorem dX1_leave_0 : decode cX1_leave 0 = .ok (.aload_n 0, 1) := by decide +kernel
theorem dX1_leave_1 : decode cX1_leave 1 = .ok (.getfield 30, 3) := by decide +kernel
theorem dX1_leave_4 : decode cX1_leave 4 = .ok (.ifCond .eq 43, 3) := by decide +kernel
theorem dX1_leave_7 : decode cX1_leave 7 = .ok (.aload_n 0, 1) := by decide +kernel
theorem dX1_leave_8 : decode cX1_leave 8 = .ok (.getfield 9, 3) := by decide +kernel
theorem dX1_leave_11 : decode cX1_leave 11 = .ok (.iload_n 1, 1) := by decide +kernel
theorem dX1_leave_12 : decode cX1_leave 12 = .ok (.baload, 1) := by decide +kernel
theorem dX1_leave_13 : decode cX1_leave 13 = .ok (.ifCond .eq 34, 3) := by decide +kernel
theorem dX1_leave_16 : decode cX1_leave 16 = .ok (.aload_n 0, 1) := by decide +kernel
theorem dX1_leave_17 : decode cX1_leave 17 = .ok (.getfield 40, 3) := by decide +kernel
theorem dX1_leave_20 : decode cX1_leave 20 = .ok (.aload_n 0, 1) := by decide +kernel
theorem dX1_leave_21 : decode cX1_leave 21 = .ok (.getfield 40, 3) := by decide +kernel
theorem dX1_leave_24 : decode cX1_leave 24 = .ok (.getfield 63, 3) := by decide +kernel
theorem dX1_leave_27 : decode cX1_leave 27 = .ok (.iload_n 2, 1) := by decide +kernel
theorem dX1_leave_28 : decode cX1_leave 28 = .ok (.iaload, 1) := by decide +kernel
theorem dX1_leave_29 : decode cX1_leave 29 = .ok (.aload_n 0, 1) := by decide +kernel
theorem dX1_leave_30 : decode cX1_leave 30 = .ok (.getfield 40, 3) := by decide +kernel
theorem dX1_leave_33 : decode cX1_leave 33 = .ok (.getfield 66, 3) := by decide +kernel
theorem dX1_leave_36 : decode cX1_leave 36 = .ok (.iload_n 2, 1) := by decide +kernel
theorem dX1_leave_37 : decode cX1_leave 37 = .ok (.iaload, 1) := by decide +kernel
theorem dX1_leave_38 : decode cX1_leave 38 = .ok (.aload_n 0, 1) := by decide +kernel
theorem dX1_leave_39 : decode cX1_leave 39 = .ok (.getfield 15, 3) := by decide +kernel
theorem dX1_leave_42 : decode cX1_leave 42 = .ok (.iload_n 1, 1) := by decide +kernel
theorem dX1_leave_43 : decode cX1_leave 43 = .ok (.iaload, 1) := by decide +kernel
theorem dX1_leave_44 : decode cX1_leave 44 = .ok (.invokevirtual 94, 3) := by decide +kernel
theorem dX1_leave_47 : decode cX1_leave 47 = .ok (.return_, 1) := by decide +kernel
theorem dX2_init_0 : decode cX2_init 0 = .ok (.aload_n 0, 1) := by decide +kernel
theorem dX2_init_1 : decode cX2_init 1 = .ok (.invokespecial 3, 3) := by decide +kernel
theorem dX2_init_4 : decode cX2_init 4 = .ok (.aload_n 0, 1) := by decide +kernel
theorem dX2_init_5 : decode cX2_init 5 = .ok (.sipush 1500, 3) := by decide +kernel
theorem dX2_init_8 : decode cX2_init 8 = .ok (.newarray .int, 2) := by decide +kernel
theorem dX2_init_10 : decode cX2_init 10 = .ok (.putfield 9, 3) := by decide +kernel
theorem dX2_init_13 : decode cX2_init 13 = .ok (.aload_n 0, 1) := by decide +kernel
theorem dX2_init_14 : decode cX2_init 14 = .ok (.sipush 1500, 3) := by decide +kernel
theorem dX2_init_17 : decode cX2_init 17 = .ok (.newarray .int, 2) := by decide +kernel
theorem dX2_init_19 : decode cX2_init 19 = .ok (.putfield 15, 3) := by decide +kernel
theorem dX2_init_22 : decode cX2_init 22 = .ok (.aload_n 0, 1) := by decide +kernel
theorem dX2_init_23 : decode cX2_init 23 = .ok (.sipush 1501, 3) := by decide +kernel
theorem dX2_init_26 : decode cX2_init 26 = .ok (.newarray .int, 2) := by decide +kernel
theorem dX2_init_28 : decode cX2_init 28 = .ok (.putfield 18, 3) := by decide +kernel
theorem dX2_init_31 : decode cX2_init 31 = .ok (.aload_n 0, 1) := by decide +kernel
theorem dX2_init_32 : decode cX2_init 32 = .ok (.sipush 4000, 3) := by decide +kernel
theorem dX2_init_35 : decode cX2_init 35 = .ok (.newarray .int, 2) := by decide +kernel
theorem dX2_init_37 : decode cX2_init 37 = .ok (.putfield 21, 3) := by decide +kernel
theorem dX2_init_40 : decode cX2_init 40 = .ok (.aload_n 0, 1) := by decide +kernel
theorem dX2_init_41 : decode cX2_init 41 = .ok (.sipush 1500, 3) := by decide +kernel
theorem dX2_init_44 : decode cX2_init 44 = .ok (.newarray .int, 2) := by decide +kernel
theorem dX2_init_46 : decode cX2_init 46 = .ok (.putfield 24, 3) := by decide +kernel
theorem dX2_init_49 : decode cX2_init 49 = .ok (.return_, 1) := by decide +kernel
theorem dX2_has_0 : decode cX2_has 0 = .ok (.iload_n 1, 1) := by decide +kernel
theorem dX2_has_1 : decode cX2_has 1 = .ok (.ifCond .lt 15, 3) := by decide +kernel
theorem dX2_has_4 : decode cX2_has 4 = .ok (.iload_n 1, 1) := by decide +kernel
theorem dX2_has_5 : decode cX2_has 5 = .ok (.aload_n 0, 1) := by decide +kernel
theorem dX2_has_6 : decode cX2_has 6 = .ok (.getfield 27, 3) := by decide +kernel
theorem dX2_has_9 : decode cX2_has 9 = .ok (.if_icmp .ge 7, 3) := by decide +kernel
theorem dX2_has_12 : decode cX2_has 12 = .ok (.iconst 1, 1) := by decide +kernel
theorem dX2_has_13 : decode cX2_has 13 = .ok (.goto 4, 3) := by decide +kernel
theorem dX2_has_16 : decode cX2_has 16 = .ok (.iconst 0, 1) := by decide +kernel
theorem dX2_has_17 : decode cX2_has 17 = .ok (.ireturn, 1) := by decide +kernel
theorem dX2_hasRoom_0 : decode cX2_hasRoom 0 = .ok (.aload_n 0, 1) := by decide +kernel
theorem dX2_hasRoom_1 : decode cX2_hasRoom 1 = .ok (.getfield 27, 3) := by decide +kernel
theorem dX2_hasRoom_4 : decode cX2_hasRoom 4 = .ok (.iload_n 1, 1) := by decide +kernel
theorem dX2_hasRoom_5 : decode cX2_hasRoom 5 = .ok (.iadd, 1) := by decide +kernel
theorem dX2_hasRoom_6 : decode cX2_hasRoom 6 = .ok (.sipush 1500, 3) := by decide +kernel
theorem dX2_hasRoom_9 : decode cX2_hasRoom 9 = .ok (.if_icmp .gt 19, 3) := by decide +kernel
theorem dX2_hasRoom_12 : decode cX2_hasRoom 12 = .ok (.aload_n 0, 1) := by decide +kernel
theorem dX2_hasRoom_13 : decode cX2_hasRoom 13 = .ok (.invokevirtual 31, 3) := by decide +kernel
theorem dX2_hasRoom_16 : decode cX2_hasRoom 16 = .ok (.iload_n 2, 1) := by decide +kernel
theorem dX2_hasRoom_17 : decode cX2_hasRoom 17 = .ok (.iadd, 1) := by decide +kernel
theorem dX2_hasRoom_18 : decode cX2_hasRoom 18 = .ok (.sipush 4000, 3) := by decide +kernel
theorem dX2_hasRoom_21 : decode cX2_hasRoom 21 = .ok (.if_icmp .gt 7, 3) := by decide +kernel
theorem dX2_hasRoom_24 : decode cX2_hasRoom 24 = .ok (.iconst 1, 1) := by decide +kernel
theorem dX2_hasRoom_25 : decode cX2_hasRoom 25 = .ok (.goto 4, 3) := by decide +kernel
theorem dX2_hasRoom_28 : decode cX2_hasRoom 28 = .ok (.iconst 0, 1) := by decide +kernel
theorem dX2_hasRoom_29 : decode cX2_hasRoom 29 = .ok (.ireturn, 1) := by decide +kernel
theorem dX2_allParts_0 : decode cX2_allParts 0 = .ok (.aload_n 0, 1) := by decide +kernel
theorem dX2_allParts_1 : decode cX2_allParts 1 = .ok (.getfield 18, 3) := by decide +kernel
theorem dX2_allParts_4 : decode cX2_allParts 4 = .ok (.aload_n 0, 1) := by decide +kernel
theorem dX2_allParts_5 : decode cX2_allParts 5 = .ok (.getfield 27, 3) := by decide +kernel
theorem dX2_allParts_8 : decode cX2_allParts 8 = .ok (.iaload, 1) := by decide +kernel
theorem dX2_allParts_9 : decode cX2_allParts 9 = .ok (.ireturn, 1) := by decide +kernel
theorem dX2_partsOf_0 : decode cX2_partsOf 0 = .ok (.aload_n 0, 1) := by decide +kernel
theorem dX2_partsOf_1 : decode cX2_partsOf 1 = .ok (.getfield 18, 3) := by decide +kernel
theorem dX2_partsOf_4 : decode cX2_partsOf 4 = .ok (.iload_n 1, 1) := by decide +kernel
theorem dX2_partsOf_5 : decode cX2_partsOf 5 = .ok (.iconst 1, 1) := by decide +kernel
theorem dX2_partsOf_6 : decode cX2_partsOf 6 = .ok (.iadd, 1) := by decide +kernel
theorem dX2_partsOf_7 : decode cX2_partsOf 7 = .ok (.iaload, 1) := by decide +kernel
theorem dX2_partsOf_8 : decode cX2_partsOf 8 = .ok (.aload_n 0, 1) := by decide +kernel
theorem dX2_partsOf_9 : decode cX2_partsOf 9 = .ok (.getfield 18, 3) := by decide +kernel
theorem dX2_partsOf_12 : decode cX2_partsOf 12 = .ok (.iload_n 1, 1) := by decide +kernel
theorem dX2_partsOf_13 : decode cX2_partsOf 13 = .ok (.iaload, 1) := by decide +kernel
theorem dX2_partsOf_14 : decode cX2_partsOf 14 = .ok (.isub, 1) := by decide +kernel
theorem dX2_partsOf_15 : decode cX2_partsOf 15 = .ok (.ireturn, 1) := by decide +kernel
theorem dX2_partAt_0 : decode cX2_partAt 0 = .ok (.iload_n 2, 1) := by decide +kernel
theorem dX2_partAt_1 : decode cX2_partAt 1 = .ok (.ifCond .lt 38, 3) := by decide +kernel
theorem dX2_partAt_4 : decode cX2_partAt 4 = .ok (.iload_n 2, 1) := by decide +kernel
theorem dX2_partAt_5 : decode cX2_partAt 5 = .ok (.aload_n 0, 1) := by decide +kernel
theorem dX2_partAt_6 : decode cX2_partAt 6 = .ok (.getfield 18, 3) := by decide +kernel
theorem dX2_partAt_9 : decode cX2_partAt 9 = .ok (.iload_n 1, 1) := by decide +kernel
theorem dX2_partAt_10 : decode cX2_partAt 10 = .ok (.iconst 1, 1) := by decide +kernel
theorem dX2_partAt_11 : decode cX2_partAt 11 = .ok (.iadd, 1) := by decide +kernel
theorem dX2_partAt_12 : decode cX2_partAt 12 = .ok (.iaload, 1) := by decide +kernel
theorem dX2_partAt_13 : decode cX2_partAt 13 = .ok (.aload_n 0, 1) := by decide +kernel
theorem dX2_partAt_14 : decode cX2_partAt 14 = .ok (.getfield 18, 3) := by decide +kernel
theorem dX2_partAt_17 : decode cX2_partAt 17 = .ok (.iload_n 1, 1) := by decide +kernel
theorem dX2_partAt_18 : decode cX2_partAt 18 = .ok (.iaload, 1) := by decide +kernel
theorem dX2_partAt_19 : decode cX2_partAt 19 = .ok (.isub, 1) := by decide +kernel
theorem dX2_partAt_20 : decode cX2_partAt 20 = .ok (.if_icmp .ge 19, 3) := by decide +kernel
theorem dX2_partAt_23 : decode cX2_partAt 23 = .ok (.aload_n 0, 1) := by decide +kernel
theorem dX2_partAt_24 : decode cX2_partAt 24 = .ok (.getfield 21, 3) := by decide +kernel
theorem dX2_partAt_27 : decode cX2_partAt 27 = .ok (.aload_n 0, 1) := by decide +kernel
theorem dX2_partAt_28 : decode cX2_partAt 28 = .ok (.getfield 18, 3) := by decide +kernel
theorem dX2_partAt_31 : decode cX2_partAt 31 = .ok (.iload_n 1, 1) := by decide +kernel
theorem dX2_partAt_32 : decode cX2_partAt 32 = .ok (.iaload, 1) := by decide +kernel
theorem dX2_partAt_33 : decode cX2_partAt 33 = .ok (.iload_n 2, 1) := by decide +kernel
theorem dX2_partAt_34 : decode cX2_partAt 34 = .ok (.iadd, 1) := by decide +kernel
theorem dX2_partAt_35 : decode cX2_partAt 35 = .ok (.iaload, 1) := by decide +kernel
theorem dX2_partAt_36 : decode cX2_partAt 36 = .ok (.goto 4, 3) := by decide +kernel
theorem dX2_partAt_39 : decode cX2_partAt 39 = .ok (.iconst (-1), 1) := by decide +kernel
theorem dX2_partAt_40 : decode cX2_partAt 40 = .ok (.ireturn, 1) := by decide +kernel
theorem dX2_add_0 : decode cX2_add 0 = .ok (.aload_n 0, 1) := by decide +kernel
theorem dX2_add_1 : decode cX2_add 1 = .ok (.getfield 27, 3) := by decide +kernel
theorem dX2_add_4 : decode cX2_add 4 = .ok (.istore_n 3, 1) := by decide +kernel
theorem dX2_add_5 : decode cX2_add 5 = .ok (.aload_n 0, 1) := by decide +kernel
theorem dX2_add_6 : decode cX2_add 6 = .ok (.getfield 9, 3) := by decide +kernel
theorem dX2_add_9 : decode cX2_add 9 = .ok (.iload_n 3, 1) := by decide +kernel
theorem dX2_add_10 : decode cX2_add 10 = .ok (.iload_n 1, 1) := by decide +kernel
theorem dX2_add_11 : decode cX2_add 11 = .ok (.iastore, 1) := by decide +kernel
theorem dX2_add_12 : decode cX2_add 12 = .ok (.aload_n 0, 1) := by decide +kernel
theorem dX2_add_13 : decode cX2_add 13 = .ok (.getfield 15, 3) := by decide +kernel
theorem dX2_add_16 : decode cX2_add 16 = .ok (.iload_n 3, 1) := by decide +kernel
theorem dX2_add_17 : decode cX2_add 17 = .ok (.iload_n 2, 1) := by decide +kernel
theorem dX2_add_18 : decode cX2_add 18 = .ok (.iastore, 1) := by decide +kernel
theorem dX2_add_19 : decode cX2_add 19 = .ok (.aload_n 0, 1) := by decide +kernel
theorem dX2_add_20 : decode cX2_add 20 = .ok (.getfield 18, 3) := by decide +kernel
theorem dX2_add_23 : decode cX2_add 23 = .ok (.iload_n 3, 1) := by decide +kernel
theorem dX2_add_24 : decode cX2_add 24 = .ok (.iconst 1, 1) := by decide +kernel
theorem dX2_add_25 : decode cX2_add 25 = .ok (.iadd, 1) := by decide +kernel
theorem dX2_add_26 : decode cX2_add 26 = .ok (.aload_n 0, 1) := by decide +kernel
theorem dX2_add_27 : decode cX2_add 27 = .ok (.getfield 18, 3) := by decide +kernel
theorem dX2_add_30 : decode cX2_add 30 = .ok (.iload_n 3, 1) := by decide +kernel
theorem dX2_add_31 : decode cX2_add 31 = .ok (.iaload, 1) := by decide +kernel
theorem dX2_add_32 : decode cX2_add 32 = .ok (.iastore, 1) := by decide +kernel
theorem dX2_add_33 : decode cX2_add 33 = .ok (.aload_n 0, 1) := by decide +kernel
theorem dX2_add_34 : decode cX2_add 34 = .ok (.dup, 1) := by decide +kernel
theorem dX2_add_35 : decode cX2_add 35 = .ok (.getfield 27, 3) := by decide +kernel
theorem dX2_add_38 : decode cX2_add 38 = .ok (.iconst 1, 1) := by decide +kernel
theorem dX2_add_39 : decode cX2_add 39 = .ok (.iadd, 1) := by decide +kernel
theorem dX2_add_40 : decode cX2_add 40 = .ok (.putfield 27, 3) := by decide +kernel
theorem dX2_add_43 : decode cX2_add 43 = .ok (.iload_n 3, 1) := by decide +kernel
theorem dX2_add_44 : decode cX2_add 44 = .ok (.ireturn, 1) := by decide +kernel
theorem dX2_addPart_0 : decode cX2_addPart 0 = .ok (.aload_n 0, 1) := by decide +kernel
theorem dX2_addPart_1 : decode cX2_addPart 1 = .ok (.getfield 18, 3) := by decide +kernel
theorem dX2_addPart_4 : decode cX2_addPart 4 = .ok (.iload_n 1, 1) := by decide +kernel
theorem dX2_addPart_5 : decode cX2_addPart 5 = .ok (.iconst 1, 1) := by decide +kernel
theorem dX2_addPart_6 : decode cX2_addPart 6 = .ok (.iadd, 1) := by decide +kernel
theorem dX2_addPart_7 : decode cX2_addPart 7 = .ok (.iaload, 1) := by decide +kernel
theorem dX2_addPart_8 : decode cX2_addPart 8 = .ok (.istore_n 3, 1) := by decide +kernel
theorem dX2_addPart_9 : decode cX2_addPart 9 = .ok (.aload_n 0, 1) := by decide +kernel
theorem dX2_addPart_10 : decode cX2_addPart 10 = .ok (.getfield 21, 3) := by decide +kernel
theorem dX2_addPart_13 : decode cX2_addPart 13 = .ok (.iload_n 3, 1) := by decide +kernel
theorem dX2_addPart_14 : decode cX2_addPart 14 = .ok (.aload_n 0, 1) := by decide +kernel
theorem dX2_addPart_15 : decode cX2_addPart 15 = .ok (.getfield 21, 3) := by decide +kernel
theorem dX2_addPart_18 : decode cX2_addPart 18 = .ok (.iload_n 3, 1) := by decide +kernel
theorem dX2_addPart_19 : decode cX2_addPart 19 = .ok (.iconst 1, 1) := by decide +kernel
theorem dX2_addPart_20 : decode cX2_addPart 20 = .ok (.iadd, 1) := by decide +kernel
theorem dX2_addPart_21 : decode cX2_addPart 21 = .ok (.aload_n 0, 1) := by decide +kernel
theorem dX2_addPart_22 : decode cX2_addPart 22 = .ok (.invokevirtual 31, 3) := by decide +kernel
theorem dX2_addPart_25 : decode cX2_addPart 25 = .ok (.iload_n 3, 1) := by decide +kernel
theorem dX2_addPart_26 : decode cX2_addPart 26 = .ok (.isub, 1) := by decide +kernel
theorem dX2_addPart_27 : decode cX2_addPart 27 = .ok (.invokestatic 35, 3) := by decide +kernel
theorem dX2_addPart_30 : decode cX2_addPart 30 = .ok (.aload_n 0, 1) := by decide +kernel
theorem dX2_addPart_31 : decode cX2_addPart 31 = .ok (.getfield 21, 3) := by decide +kernel
theorem dX2_addPart_34 : decode cX2_addPart 34 = .ok (.iload_n 3, 1) := by decide +kernel
theorem dX2_addPart_35 : decode cX2_addPart 35 = .ok (.iload_n 2, 1) := by decide +kernel
theorem dX2_addPart_36 : decode cX2_addPart 36 = .ok (.iastore, 1) := by decide +kernel
theorem dX2_addPart_37 : decode cX2_addPart 37 = .ok (.iload_n 1, 1) := by decide +kernel
theorem dX2_addPart_38 : decode cX2_addPart 38 = .ok (.iconst 1, 1) := by decide +kernel
theorem dX2_addPart_39 : decode cX2_addPart 39 = .ok (.iadd, 1) := by decide +kernel
theorem dX2_addPart_40 : decode cX2_addPart 40 = .ok (.istore 4, 2) := by decide +kernel
theorem dX2_addPart_42 : decode cX2_addPart 42 = .ok (.iload 4, 2) := by decide +kernel
theorem dX2_addPart_44 : decode cX2_addPart 44 = .ok (.aload_n 0, 1) := by decide +kernel
theorem dX2_addPart_45 : decode cX2_addPart 45 = .ok (.getfield 27, 3) := by decide +kernel
theorem dX2_addPart_48 : decode cX2_addPart 48 = .ok (.if_icmp .gt 20, 3) := by decide +kernel
theorem dX2_addPart_51 : decode cX2_addPart 51 = .ok (.aload_n 0, 1) := by decide +kernel
theorem dX2_addPart_52 : decode cX2_addPart 52 = .ok (.getfield 18, 3) := by decide +kernel
theorem dX2_addPart_55 : decode cX2_addPart 55 = .ok (.iload 4, 2) := by decide +kernel
theorem dX2_addPart_57 : decode cX2_addPart 57 = .ok (.dup2, 1) := by decide +kernel
theorem dX2_addPart_58 : decode cX2_addPart 58 = .ok (.iaload, 1) := by decide +kernel
theorem dX2_addPart_59 : decode cX2_addPart 59 = .ok (.iconst 1, 1) := by decide +kernel
theorem dX2_addPart_60 : decode cX2_addPart 60 = .ok (.iadd, 1) := by decide +kernel
theorem dX2_addPart_61 : decode cX2_addPart 61 = .ok (.iastore, 1) := by decide +kernel
theorem dX2_addPart_62 : decode cX2_addPart 62 = .ok (.iinc 4 1, 3) := by decide +kernel
theorem dX2_addPart_65 : decode cX2_addPart 65 = .ok (.goto (-23), 3) := by decide +kernel
theorem dX2_addPart_68 : decode cX2_addPart 68 = .ok (.return_, 1) := by decide +kernel
theorem dX2_bind_0 : decode cX2_bind 0 = .ok (.aload_n 0, 1) := by decide +kernel
theorem dX2_bind_1 : decode cX2_bind 1 = .ok (.iload_n 1, 1) := by decide +kernel
theorem dX2_bind_2 : decode cX2_bind 2 = .ok (.iload_n 2, 1) := by decide +kernel
theorem dX2_bind_3 : decode cX2_bind 3 = .ok (.invokevirtual 41, 3) := by decide +kernel
theorem dX2_bind_6 : decode cX2_bind 6 = .ok (.istore 4, 2) := by decide +kernel
theorem dX2_bind_8 : decode cX2_bind 8 = .ok (.aload_n 0, 1) := by decide +kernel
theorem dX2_bind_9 : decode cX2_bind 9 = .ok (.getfield 45, 3) := by decide +kernel
theorem dX2_bind_12 : decode cX2_bind 12 = .ok (.iload_n 3, 1) := by decide +kernel
theorem dX2_bind_13 : decode cX2_bind 13 = .ok (.isub, 1) := by decide +kernel
theorem dX2_bind_14 : decode cX2_bind 14 = .ok (.istore 5, 2) := by decide +kernel
theorem dX2_bind_16 : decode cX2_bind 16 = .ok (.aload_n 0, 1) := by decide +kernel
theorem dX2_bind_17 : decode cX2_bind 17 = .ok (.getfield 24, 3) := by decide +kernel
theorem dX2_bind_20 : decode cX2_bind 20 = .ok (.iload 5, 2) := by decide +kernel
theorem dX2_bind_22 : decode cX2_bind 22 = .ok (.aload_n 0, 1) := by decide +kernel
theorem dX2_bind_23 : decode cX2_bind 23 = .ok (.getfield 21, 3) := by decide +kernel
theorem dX2_bind_26 : decode cX2_bind 26 = .ok (.aload_n 0, 1) := by decide +kernel
theorem dX2_bind_27 : decode cX2_bind 27 = .ok (.getfield 18, 3) := by decide +kernel
theorem dX2_bind_30 : decode cX2_bind 30 = .ok (.iload 4, 2) := by decide +kernel
theorem dX2_bind_32 : decode cX2_bind 32 = .ok (.iaload, 1) := by decide +kernel
theorem dX2_bind_33 : decode cX2_bind 33 = .ok (.iload_n 3, 1) := by decide +kernel
theorem dX2_bind_34 : decode cX2_bind 34 = .ok (.invokestatic 35, 3) := by decide +kernel
theorem dX2_bind_37 : decode cX2_bind 37 = .ok (.aload_n 0, 1) := by decide +kernel
theorem dX2_bind_38 : decode cX2_bind 38 = .ok (.getfield 18, 3) := by decide +kernel
theorem dX2_bind_41 : decode cX2_bind 41 = .ok (.iload 4, 2) := by decide +kernel
theorem dX2_bind_43 : decode cX2_bind 43 = .ok (.iconst 1, 1) := by decide +kernel
theorem dX2_bind_44 : decode cX2_bind 44 = .ok (.iadd, 1) := by decide +kernel
theorem dX2_bind_45 : decode cX2_bind 45 = .ok (.dup2, 1) := by decide +kernel
theorem dX2_bind_46 : decode cX2_bind 46 = .ok (.iaload, 1) := by decide +kernel
theorem dX2_bind_47 : decode cX2_bind 47 = .ok (.iload_n 3, 1) := by decide +kernel
theorem dX2_bind_48 : decode cX2_bind 48 = .ok (.iadd, 1) := by decide +kernel
theorem dX2_bind_49 : decode cX2_bind 49 = .ok (.iastore, 1) := by decide +kernel
theorem dX2_bind_50 : decode cX2_bind 50 = .ok (.aload_n 0, 1) := by decide +kernel
theorem dX2_bind_51 : decode cX2_bind 51 = .ok (.getfield 24, 3) := by decide +kernel
theorem dX2_bind_54 : decode cX2_bind 54 = .ok (.iload 5, 2) := by decide +kernel
theorem dX2_bind_56 : decode cX2_bind 56 = .ok (.iload 4, 2) := by decide +kernel
theorem dX2_bind_58 : decode cX2_bind 58 = .ok (.iastore, 1) := by decide +kernel
theorem dX2_bind_59 : decode cX2_bind 59 = .ok (.aload_n 0, 1) := by decide +kernel
theorem dX2_bind_60 : decode cX2_bind 60 = .ok (.iload 5, 2) := by decide +kernel
theorem dX2_bind_62 : decode cX2_bind 62 = .ok (.iconst 1, 1) := by decide +kernel
theorem dX2_bind_63 : decode cX2_bind 63 = .ok (.iadd, 1) := by decide +kernel
theorem dX2_bind_64 : decode cX2_bind 64 = .ok (.putfield 45, 3) := by decide +kernel
theorem dX2_bind_67 : decode cX2_bind 67 = .ok (.return_, 1) := by decide +kernel
theorem dX2_takeBound_0 : decode cX2_takeBound 0 = .ok (.aload_n 0, 1) := by decide +kernel
theorem dX2_takeBound_1 : decode cX2_takeBound 1 = .ok (.iconst 0, 1) := by decide +kernel
theorem dX2_takeBound_2 : decode cX2_takeBound 2 = .ok (.putfield 45, 3) := by decide +kernel
theorem dX2_takeBound_5 : decode cX2_takeBound 5 = .ok (.aload_n 0, 1) := by decide +kernel
theorem dX2_takeBound_6 : decode cX2_takeBound 6 = .ok (.getfield 24, 3) := by decide +kernel
theorem dX2_takeBound_9 : decode cX2_takeBound 9 = .ok (.iconst 0, 1) := by decide +kernel
theorem dX2_takeBound_10 : decode cX2_takeBound 10 = .ok (.iaload, 1) := by decide +kernel
theorem dX2_takeBound_11 : decode cX2_takeBound 11 = .ok (.ireturn, 1) := by decide +kernel
theorem dX3_init_0 : decode cX3_init 0 = .ok (.aload_n 0, 1) := by decide +kernel
theorem dX3_init_1 : decode cX3_init 1 = .ok (.aload_n 1, 1) := by decide +kernel
theorem dX3_init_2 : decode cX3_init 2 = .ok (.invokespecial 1, 3) := by decide +kernel
theorem dX3_init_5 : decode cX3_init 5 = .ok (.return_, 1) := by decide +kernel
theorem dX3_begin_0 : decode cX3_begin 0 = .ok (.aload_n 0, 1) := by decide +kernel
theorem dX3_begin_1 : decode cX3_begin 1 = .ok (.iload_n 1, 1) := by decide +kernel
theorem dX3_begin_2 : decode cX3_begin 2 = .ok (.putfield 7, 3) := by decide +kernel
theorem dX3_begin_5 : decode cX3_begin 5 = .ok (.aload_n 0, 1) := by decide +kernel
theorem dX3_begin_6 : decode cX3_begin 6 = .ok (.iload_n 2, 1) := by decide +kernel
theorem dX3_begin_7 : decode cX3_begin 7 = .ok (.putfield 13, 3) := by decide +kernel
theorem dX3_begin_10 : decode cX3_begin 10 = .ok (.return_, 1) := by decide +kernel
theorem dX3_enter_0 : decode cX3_enter 0 = .ok (.aload_n 0, 1) := by decide +kernel
theorem dX3_enter_1 : decode cX3_enter 1 = .ok (.aload_n 0, 1) := by decide +kernel
theorem dX3_enter_2 : decode cX3_enter 2 = .ok (.getfield 16, 3) := by decide +kernel
theorem dX3_enter_5 : decode cX3_enter 5 = .ok (.getfield 20, 3) := by decide +kernel
theorem dX3_enter_8 : decode cX3_enter 8 = .ok (.iload_n 2, 1) := by decide +kernel
theorem dX3_enter_9 : decode cX3_enter 9 = .ok (.iaload, 1) := by decide +kernel
theorem dX3_enter_10 : decode cX3_enter 10 = .ok (.aload_n 0, 1) := by decide +kernel
theorem dX3_enter_11 : decode cX3_enter 11 = .ok (.getfield 7, 3) := by decide +kernel
theorem dX3_enter_14 : decode cX3_enter 14 = .ok (.if_icmp .ne 23, 3) := by decide +kernel
theorem dX3_enter_17 : decode cX3_enter 17 = .ok (.aload_n 0, 1) := by decide +kernel
theorem dX3_enter_18 : decode cX3_enter 18 = .ok (.getfield 16, 3) := by decide +kernel
theorem dX3_enter_21 : decode cX3_enter 21 = .ok (.getfield 25, 3) := by decide +kernel
theorem dX3_enter_24 : decode cX3_enter 24 = .ok (.iload_n 2, 1) := by decide +kernel
theorem dX3_enter_25 : decode cX3_enter 25 = .ok (.iaload, 1) := by decide +kernel
theorem dX3_enter_26 : decode cX3_enter 26 = .ok (.aload_n 0, 1) := by decide +kernel
theorem dX3_enter_27 : decode cX3_enter 27 = .ok (.getfield 13, 3) := by decide +kernel
theorem dX3_enter_30 : decode cX3_enter 30 = .ok (.if_icmp .ne 7, 3) := by decide +kernel
theorem dX3_enter_33 : decode cX3_enter 33 = .ok (.iconst 1, 1) := by decide +kernel
theorem dX3_enter_34 : decode cX3_enter 34 = .ok (.goto 4, 3) := by decide +kernel
theorem dX3_enter_37 : decode cX3_enter 37 = .ok (.iconst 0, 1) := by decide +kernel
theorem dX3_enter_38 : decode cX3_enter 38 = .ok (.putfield 27, 3) := by decide +kernel
theorem dX3_enter_41 : decode cX3_enter 41 = .ok (.return_, 1) := by decide +kernel
theorem dX4_init_0 : decode cX4_init 0 = .ok (.aload_n 0, 1) := by decide +kernel
theorem dX4_init_1 : decode cX4_init 1 = .ok (.aload_n 1, 1) := by decide +kernel
theorem dX4_init_2 : decode cX4_init 2 = .ok (.invokespecial 1, 3) := by decide +kernel
theorem dX4_init_5 : decode cX4_init 5 = .ok (.aload_n 0, 1) := by decide +kernel
theorem dX4_init_6 : decode cX4_init 6 = .ok (.aload_n 2, 1) := by decide +kernel
theorem dX4_init_7 : decode cX4_init 7 = .ok (.putfield 7, 3) := by decide +kernel
theorem dX4_init_10 : decode cX4_init 10 = .ok (.return_, 1) := by decide +kernel
theorem dX4_begun_0 : decode cX4_begun 0 = .ok (.ldc2_w 13, 3) := by decide +kernel
theorem dX4_begun_3 : decode cX4_begun 3 = .ok (.iload_n 0, 1) := by decide +kernel
theorem dX4_begun_4 : decode cX4_begun 4 = .ok (.i2l, 1) := by decide +kernel
theorem dX4_begun_5 : decode cX4_begun 5 = .ok (.ladd, 1) := by decide +kernel
theorem dX4_begun_6 : decode cX4_begun 6 = .ok (.ldc2_w 15, 3) := by decide +kernel
theorem dX4_begun_9 : decode cX4_begun 9 = .ok (.lmul, 1) := by decide +kernel
theorem dX4_begun_10 : decode cX4_begun 10 = .ok (.iload_n 1, 1) := by decide +kernel
theorem dX4_begun_11 : decode cX4_begun 11 = .ok (.i2l, 1) := by decide +kernel
theorem dX4_begun_12 : decode cX4_begun 12 = .ok (.ladd, 1) := by decide +kernel
theorem dX4_begun_13 : decode cX4_begun 13 = .ok (.lreturn, 1) := by decide +kernel
theorem dX4_with_0 : decode cX4_with 0 = .ok (.lload_n 0, 1) := by decide +kernel
theorem dX4_with_1 : decode cX4_with 1 = .ok (.ldc2_w 17, 3) := by decide +kernel
theorem dX4_with_4 : decode cX4_with 4 = .ok (.lmul, 1) := by decide +kernel
theorem dX4_with_5 : decode cX4_with 5 = .ok (.lload_n 2, 1) := by decide +kernel
theorem dX4_with_6 : decode cX4_with 6 = .ok (.lxor, 1) := by decide +kernel
theorem dX4_with_7 : decode cX4_with 7 = .ok (.lreturn, 1) := by decide +kernel
theorem dX4_ended_0 : decode cX4_ended 0 = .ok (.lload_n 0, 1) := by decide +kernel
theorem dX4_ended_1 : decode cX4_ended 1 = .ok (.lload_n 0, 1) := by decide +kernel
theorem dX4_ended_2 : decode cX4_ended 2 = .ok (.bipush 29, 2) := by decide +kernel
theorem dX4_ended_4 : decode cX4_ended 4 = .ok (.lushr, 1) := by decide +kernel
theorem dX4_ended_5 : decode cX4_ended 5 = .ok (.lxor, 1) := by decide +kernel
theorem dX4_ended_6 : decode cX4_ended 6 = .ok (.lreturn, 1) := by decide +kernel
theorem dX4_enter_0 : decode cX4_enter 0 = .ok (.aload_n 0, 1) := by decide +kernel
theorem dX4_enter_1 : decode cX4_enter 1 = .ok (.getfield 7, 3) := by decide +kernel
theorem dX4_enter_4 : decode cX4_enter 4 = .ok (.iload_n 1, 1) := by decide +kernel
theorem dX4_enter_5 : decode cX4_enter 5 = .ok (.aload_n 0, 1) := by decide +kernel
theorem dX4_enter_6 : decode cX4_enter 6 = .ok (.getfield 19, 3) := by decide +kernel
theorem dX4_enter_9 : decode cX4_enter 9 = .ok (.getfield 23, 3) := by decide +kernel
theorem dX4_enter_12 : decode cX4_enter 12 = .ok (.iload_n 2, 1) := by decide +kernel
theorem dX4_enter_13 : decode cX4_enter 13 = .ok (.iaload, 1) := by decide +kernel
theorem dX4_enter_14 : decode cX4_enter 14 = .ok (.aload_n 0, 1) := by decide +kernel
theorem dX4_enter_15 : decode cX4_enter 15 = .ok (.getfield 19, 3) := by decide +kernel
theorem dX4_enter_18 : decode cX4_enter 18 = .ok (.getfield 29, 3) := by decide +kernel
theorem dX4_enter_21 : decode cX4_enter 21 = .ok (.iload_n 2, 1) := by decide +kernel
theorem dX4_enter_22 : decode cX4_enter 22 = .ok (.iaload, 1) := by decide +kernel
theorem dX4_enter_23 : decode cX4_enter 23 = .ok (.invokestatic 32, 3) := by decide +kernel
theorem dX4_enter_26 : decode cX4_enter 26 = .ok (.lastore, 1) := by decide +kernel
theorem dX4_enter_27 : decode cX4_enter 27 = .ok (.return_, 1) := by decide +kernel
theorem dX4_takeUp_0 : decode cX4_takeUp 0 = .ok (.aload_n 0, 1) := by decide +kernel
theorem dX4_takeUp_1 : decode cX4_takeUp 1 = .ok (.getfield 7, 3) := by decide +kernel
theorem dX4_takeUp_4 : decode cX4_takeUp 4 = .ok (.iload_n 1, 1) := by decide +kernel
theorem dX4_takeUp_5 : decode cX4_takeUp 5 = .ok (.aload_n 0, 1) := by decide +kernel
theorem dX4_takeUp_6 : decode cX4_takeUp 6 = .ok (.getfield 7, 3) := by decide +kernel
theorem dX4_takeUp_9 : decode cX4_takeUp 9 = .ok (.iload_n 1, 1) := by decide +kernel
theorem dX4_takeUp_10 : decode cX4_takeUp 10 = .ok (.laload, 1) := by decide +kernel
theorem dX4_takeUp_11 : decode cX4_takeUp 11 = .ok (.aload_n 0, 1) := by decide +kernel
theorem dX4_takeUp_12 : decode cX4_takeUp 12 = .ok (.getfield 7, 3) := by decide +kernel
theorem dX4_takeUp_15 : decode cX4_takeUp 15 = .ok (.iload_n 1, 1) := by decide +kernel
theorem dX4_takeUp_16 : decode cX4_takeUp 16 = .ok (.iconst 1, 1) := by decide +kernel
theorem dX4_takeUp_17 : decode cX4_takeUp 17 = .ok (.iadd, 1) := by decide +kernel
theorem dX4_takeUp_18 : decode cX4_takeUp 18 = .ok (.laload, 1) := by decide +kernel
theorem dX4_takeUp_19 : decode cX4_takeUp 19 = .ok (.invokestatic 36, 3) := by decide +kernel
theorem dX4_takeUp_22 : decode cX4_takeUp 22 = .ok (.lastore, 1) := by decide +kernel
theorem dX4_takeUp_23 : decode cX4_takeUp 23 = .ok (.return_, 1) := by decide +kernel
theorem dX4_leave_0 : decode cX4_leave 0 = .ok (.aload_n 0, 1) := by decide +kernel
theorem dX4_leave_1 : decode cX4_leave 1 = .ok (.getfield 7, 3) := by decide +kernel
theorem dX4_leave_4 : decode cX4_leave 4 = .ok (.iload_n 1, 1) := by decide +kernel
theorem dX4_leave_5 : decode cX4_leave 5 = .ok (.aload_n 0, 1) := by decide +kernel
theorem dX4_leave_6 : decode cX4_leave 6 = .ok (.getfield 7, 3) := by decide +kernel
theorem dX4_leave_9 : decode cX4_leave 9 = .ok (.iload_n 1, 1) := by decide +kernel
theorem dX4_leave_10 : decode cX4_leave 10 = .ok (.laload, 1) := by decide +kernel
theorem dX4_leave_11 : decode cX4_leave 11 = .ok (.invokestatic 40, 3) := by decide +kernel
theorem dX4_leave_14 : decode cX4_leave 14 = .ok (.lastore, 1) := by decide +kernel
theorem dX4_leave_15 : decode cX4_leave 15 = .ok (.return_, 1) := by decide +kernel
theorem dX5_init_0 : decode cX5_init 0 = .ok (.aload_n 0, 1) := by decide +kernel
theorem dX5_init_1 : decode cX5_init 1 = .ok (.invokespecial 3, 3) := by decide +kernel
theorem dX5_init_4 : decode cX5_init 4 = .ok (.aload_n 0, 1) := by decide +kernel
theorem dX5_init_5 : decode cX5_init 5 = .ok (.sipush 6000, 3) := by decide +kernel
theorem dX5_init_8 : decode cX5_init 8 = .ok (.newarray .byte, 2) := by decide +kernel
theorem dX5_init_10 : decode cX5_init 10 = .ok (.putfield 9, 3) := by decide +kernel
theorem dX5_init_13 : decode cX5_init 13 = .ok (.return_, 1) := by decide +kernel
theorem dX5_clear_0 : decode cX5_clear 0 = .ok (.aload_n 0, 1) := by decide +kernel
theorem dX5_clear_1 : decode cX5_clear 1 = .ok (.iconst 0, 1) := by decide +kernel
theorem dX5_clear_2 : decode cX5_clear 2 = .ok (.putfield 15, 3) := by decide +kernel
theorem dX5_clear_5 : decode cX5_clear 5 = .ok (.aload_n 0, 1) := by decide +kernel
theorem dX5_clear_6 : decode cX5_clear 6 = .ok (.iconst 0, 1) := by decide +kernel
theorem dX5_clear_7 : decode cX5_clear 7 = .ok (.putfield 19, 3) := by decide +kernel
theorem dX5_clear_10 : decode cX5_clear 10 = .ok (.return_, 1) := by decide +kernel
theorem dX5_at_0 : decode cX5_at 0 = .ok (.iload_n 1, 1) := by decide +kernel
theorem dX5_at_1 : decode cX5_at 1 = .ok (.ifCond .lt 24, 3) := by decide +kernel
theorem dX5_at_4 : decode cX5_at 4 = .ok (.iload_n 1, 1) := by decide +kernel
theorem dX5_at_5 : decode cX5_at 5 = .ok (.aload_n 0, 1) := by decide +kernel
theorem dX5_at_6 : decode cX5_at 6 = .ok (.getfield 15, 3) := by decide +kernel
theorem dX5_at_9 : decode cX5_at 9 = .ok (.if_icmp .ge 16, 3) := by decide +kernel
theorem dX5_at_12 : decode cX5_at 12 = .ok (.aload_n 0, 1) := by decide +kernel
theorem dX5_at_13 : decode cX5_at 13 = .ok (.getfield 9, 3) := by decide +kernel
theorem dX5_at_16 : decode cX5_at 16 = .ok (.iload_n 1, 1) := by decide +kernel
theorem dX5_at_17 : decode cX5_at 17 = .ok (.baload, 1) := by decide +kernel
theorem dX5_at_18 : decode cX5_at 18 = .ok (.sipush 255, 3) := by decide +kernel
theorem dX5_at_21 : decode cX5_at 21 = .ok (.iand, 1) := by decide +kernel
theorem dX5_at_22 : decode cX5_at 22 = .ok (.goto 4, 3) := by decide +kernel
theorem dX5_at_25 : decode cX5_at 25 = .ok (.iconst (-1), 1) := by decide +kernel
theorem dX5_at_26 : decode cX5_at 26 = .ok (.ireturn, 1) := by decide +kernel
theorem dX5_add_0 : decode cX5_add 0 = .ok (.aload_n 0, 1) := by decide +kernel
theorem dX5_add_1 : decode cX5_add 1 = .ok (.getfield 15, 3) := by decide +kernel
theorem dX5_add_4 : decode cX5_add 4 = .ok (.sipush 6000, 3) := by decide +kernel
theorem dX5_add_7 : decode cX5_add 7 = .ok (.if_icmp .ne 9, 3) := by decide +kernel
theorem dX5_add_10 : decode cX5_add 10 = .ok (.aload_n 0, 1) := by decide +kernel
theorem dX5_add_11 : decode cX5_add 11 = .ok (.iconst 1, 1) := by decide +kernel
theorem dX5_add_12 : decode cX5_add 12 = .ok (.putfield 19, 3) := by decide +kernel
theorem dX5_add_15 : decode cX5_add 15 = .ok (.return_, 1) := by decide +kernel
theorem dX5_add_16 : decode cX5_add 16 = .ok (.aload_n 0, 1) := by decide +kernel
theorem dX5_add_17 : decode cX5_add 17 = .ok (.getfield 9, 3) := by decide +kernel
theorem dX5_add_20 : decode cX5_add 20 = .ok (.aload_n 0, 1) := by decide +kernel
theorem dX5_add_21 : decode cX5_add 21 = .ok (.getfield 15, 3) := by decide +kernel
theorem dX5_add_24 : decode cX5_add 24 = .ok (.iload_n 1, 1) := by decide +kernel
theorem dX5_add_25 : decode cX5_add 25 = .ok (.i2b, 1) := by decide +kernel
theorem dX5_add_26 : decode cX5_add 26 = .ok (.bastore, 1) := by decide +kernel
theorem dX5_add_27 : decode cX5_add 27 = .ok (.aload_n 0, 1) := by decide +kernel
theorem dX5_add_28 : decode cX5_add 28 = .ok (.dup, 1) := by decide +kernel
theorem dX5_add_29 : decode cX5_add 29 = .ok (.getfield 15, 3) := by decide +kernel
theorem dX5_add_32 : decode cX5_add 32 = .ok (.iconst 1, 1) := by decide +kernel
theorem dX5_add_33 : decode cX5_add 33 = .ok (.iadd, 1) := by decide +kernel
theorem dX5_add_34 : decode cX5_add 34 = .ok (.putfield 15, 3) := by decide +kernel
theorem dX5_add_37 : decode cX5_add 37 = .ok (.return_, 1) := by decide +kernel
theorem dX5_addFigures_0 : decode cX5_addFigures 0 = .ok (.iload_n 1, 1) := by decide +kernel
theorem dX5_addFigures_1 : decode cX5_addFigures 1 = .ok (.i2l, 1) := by decide +kernel
theorem dX5_addFigures_2 : decode cX5_addFigures 2 = .ok (.invokestatic 23, 3) := by decide +kernel
theorem dX5_addFigures_5 : decode cX5_addFigures 5 = .ok (.lstore_n 2, 1) := by decide +kernel
theorem dX5_addFigures_6 : decode cX5_addFigures 6 = .ok (.iload_n 1, 1) := by decide +kernel
theorem dX5_addFigures_7 : decode cX5_addFigures 7 = .ok (.ifCond .ge 9, 3) := by decide +kernel
theorem dX5_addFigures_10 : decode cX5_addFigures 10 = .ok (.aload_n 0, 1) := by decide +kernel
theorem dX5_addFigures_11 : decode cX5_addFigures 11 = .ok (.bipush 45, 2) := by decide +kernel
theorem dX5_addFigures_13 : decode cX5_addFigures 13 = .ok (.invokevirtual 29, 3) := by decide +kernel
theorem dX5_addFigures_16 : decode cX5_addFigures 16 = .ok (.lconst 1, 1) := by decide +kernel
theorem dX5_addFigures_17 : decode cX5_addFigures 17 = .ok (.lstore 4, 2) := by decide +kernel
theorem dX5_addFigures_19 : decode cX5_addFigures 19 = .ok (.iconst 1, 1) := by decide +kernel
theorem dX5_addFigures_20 : decode cX5_addFigures 20 = .ok (.istore 6, 2) := by decide +kernel
theorem dX5_addFigures_22 : decode cX5_addFigures 22 = .ok (.iload 6, 2) := by decide +kernel
theorem dX5_addFigures_24 : decode cX5_addFigures 24 = .ok (.bipush 10, 2) := by decide +kernel
theorem dX5_addFigures_26 : decode cX5_addFigures 26 = .ok (.if_icmp .ge 28, 3) := by decide +kernel
theorem dX5_addFigures_29 : decode cX5_addFigures 29 = .ok (.lload_n 2, 1) := by decide +kernel
theorem dX5_addFigures_30 : decode cX5_addFigures 30 = .ok (.lload 4, 2) := by decide +kernel
theorem dX5_addFigures_32 : decode cX5_addFigures 32 = .ok (.ldiv, 1) := by decide +kernel
theorem dX5_addFigures_33 : decode cX5_addFigures 33 = .ok (.ldc2_w 33, 3) := by decide +kernel
theorem dX5_addFigures_36 : decode cX5_addFigures 36 = .ok (.lcmp, 1) := by decide +kernel
theorem dX5_addFigures_37 : decode cX5_addFigures 37 = .ok (.ifCond .le 17, 3) := by decide +kernel
theorem dX5_addFigures_40 : decode cX5_addFigures 40 = .ok (.lload 4, 2) := by decide +kernel
theorem dX5_addFigures_42 : decode cX5_addFigures 42 = .ok (.ldc2_w 35, 3) := by decide +kernel
theorem dX5_addFigures_45 : decode cX5_addFigures 45 = .ok (.lmul, 1) := by decide +kernel
theorem dX5_addFigures_46 : decode cX5_addFigures 46 = .ok (.lstore 4, 2) := by decide +kernel
theorem dX5_addFigures_48 : decode cX5_addFigures 48 = .ok (.iinc 6 1, 3) := by decide +kernel
theorem dX5_addFigures_51 : decode cX5_addFigures 51 = .ok (.goto (-29), 3) := by decide +kernel
theorem dX5_addFigures_54 : decode cX5_addFigures 54 = .ok (.iconst 0, 1) := by decide +kernel
theorem dX5_addFigures_55 : decode cX5_addFigures 55 = .ok (.istore 6, 2) := by decide +kernel
theorem dX5_addFigures_57 : decode cX5_addFigures 57 = .ok (.iload 6, 2) := by decide +kernel
theorem dX5_addFigures_59 : decode cX5_addFigures 59 = .ok (.bipush 10, 2) := by decide +kernel
theorem dX5_addFigures_61 : decode cX5_addFigures 61 = .ok (.if_icmp .ge 42, 3) := by decide +kernel
theorem dX5_addFigures_64 : decode cX5_addFigures 64 = .ok (.lload 4, 2) := by decide +kernel
theorem dX5_addFigures_66 : decode cX5_addFigures 66 = .ok (.lconst 0, 1) := by decide +kernel
theorem dX5_addFigures_67 : decode cX5_addFigures 67 = .ok (.lcmp, 1) := by decide +kernel
theorem dX5_addFigures_68 : decode cX5_addFigures 68 = .ok (.ifCond .le 35, 3) := by decide +kernel
theorem dX5_addFigures_71 : decode cX5_addFigures 71 = .ok (.aload_n 0, 1) := by decide +kernel
theorem dX5_addFigures_72 : decode cX5_addFigures 72 = .ok (.ldc2_w 37, 3) := by decide +kernel
theorem dX5_addFigures_75 : decode cX5_addFigures 75 = .ok (.lload_n 2, 1) := by decide +kernel
theorem dX5_addFigures_76 : decode cX5_addFigures 76 = .ok (.lload 4, 2) := by decide +kernel
theorem dX5_addFigures_78 : decode cX5_addFigures 78 = .ok (.ldiv, 1) := by decide +kernel
theorem dX5_addFigures_79 : decode cX5_addFigures 79 = .ok (.ladd, 1) := by decide +kernel
theorem dX5_addFigures_80 : decode cX5_addFigures 80 = .ok (.l2i, 1) := by decide +kernel
theorem dX5_addFigures_81 : decode cX5_addFigures 81 = .ok (.invokevirtual 29, 3) := by decide +kernel
theorem dX5_addFigures_84 : decode cX5_addFigures 84 = .ok (.lload_n 2, 1) := by decide +kernel
theorem dX5_addFigures_85 : decode cX5_addFigures 85 = .ok (.lload 4, 2) := by decide +kernel
theorem dX5_addFigures_87 : decode cX5_addFigures 87 = .ok (.lrem, 1) := by decide +kernel
theorem dX5_addFigures_88 : decode cX5_addFigures 88 = .ok (.lstore_n 2, 1) := by decide +kernel
theorem dX5_addFigures_89 : decode cX5_addFigures 89 = .ok (.lload 4, 2) := by decide +kernel
theorem dX5_addFigures_91 : decode cX5_addFigures 91 = .ok (.ldc2_w 35, 3) := by decide +kernel
theorem dX5_addFigures_94 : decode cX5_addFigures 94 = .ok (.ldiv, 1) := by decide +kernel
theorem dX5_addFigures_95 : decode cX5_addFigures 95 = .ok (.lstore 4, 2) := by decide +kernel
theorem dX5_addFigures_97 : decode cX5_addFigures 97 = .ok (.iinc 6 1, 3) := by decide +kernel
theorem dX5_addFigures_100 : decode cX5_addFigures 100 = .ok (.goto (-43), 3) := by decide +kernel
theorem dX5_addFigures_103 : decode cX5_addFigures 103 = .ok (.return_, 1) := by decide +kernel
theorem dX5_become_0 : decode cX5_become 0 = .ok (.aload_n 1, 1) := by decide +kernel
theorem dX5_become_1 : decode cX5_become 1 = .ok (.getfield 9, 3) := by decide +kernel
theorem dX5_become_4 : decode cX5_become 4 = .ok (.iconst 0, 1) := by decide +kernel
theorem dX5_become_5 : decode cX5_become 5 = .ok (.aload_n 0, 1) := by decide +kernel
theorem dX5_become_6 : decode cX5_become 6 = .ok (.getfield 9, 3) := by decide +kernel
theorem dX5_become_9 : decode cX5_become 9 = .ok (.iconst 0, 1) := by decide +kernel
theorem dX5_become_10 : decode cX5_become 10 = .ok (.aload_n 1, 1) := by decide +kernel
theorem dX5_become_11 : decode cX5_become 11 = .ok (.getfield 15, 3) := by decide +kernel
theorem dX5_become_14 : decode cX5_become 14 = .ok (.invokestatic 39, 3) := by decide +kernel
theorem dX5_become_17 : decode cX5_become 17 = .ok (.aload_n 0, 1) := by decide +kernel
theorem dX5_become_18 : decode cX5_become 18 = .ok (.aload_n 1, 1) := by decide +kernel
theorem dX5_become_19 : decode cX5_become 19 = .ok (.getfield 15, 3) := by decide +kernel
theorem dX5_become_22 : decode cX5_become 22 = .ok (.putfield 15, 3) := by decide +kernel
theorem dX5_become_25 : decode cX5_become 25 = .ok (.return_, 1) := by decide +kernel
theorem dX6_init_0 : decode cX6_init 0 = .ok (.aload_n 0, 1) := by decide +kernel
theorem dX6_init_1 : decode cX6_init 1 = .ok (.invokespecial 3, 3) := by decide +kernel
theorem dX6_init_4 : decode cX6_init 4 = .ok (.aload_n 0, 1) := by decide +kernel
theorem dX6_init_5 : decode cX6_init 5 = .ok (.sipush 2001, 3) := by decide +kernel
theorem dX6_init_8 : decode cX6_init 8 = .ok (.newarray .int, 2) := by decide +kernel
theorem dX6_init_10 : decode cX6_init 10 = .ok (.putfield 11, 3) := by decide +kernel
theorem dX6_init_13 : decode cX6_init 13 = .ok (.aload_n 0, 1) := by decide +kernel
theorem dX6_init_14 : decode cX6_init 14 = .ok (.sipush 2001, 3) := by decide +kernel
theorem dX6_init_17 : decode cX6_init 17 = .ok (.newarray .int, 2) := by decide +kernel
theorem dX6_init_19 : decode cX6_init 19 = .ok (.putfield 15, 3) := by decide +kernel
theorem dX6_init_22 : decode cX6_init 22 = .ok (.aload_n 0, 1) := by decide +kernel
theorem dX6_init_23 : decode cX6_init 23 = .ok (.sipush 2001, 3) := by decide +kernel
theorem dX6_init_26 : decode cX6_init 26 = .ok (.newarray .int, 2) := by decide +kernel
theorem dX6_init_28 : decode cX6_init 28 = .ok (.putfield 18, 3) := by decide +kernel
theorem dX6_init_31 : decode cX6_init 31 = .ok (.aload_n 0, 1) := by decide +kernel
theorem dX6_init_32 : decode cX6_init 32 = .ok (.aload_n 1, 1) := by decide +kernel
theorem dX6_init_33 : decode cX6_init 33 = .ok (.putfield 21, 3) := by decide +kernel
theorem dX6_init_36 : decode cX6_init 36 = .ok (.aload_n 0, 1) := by decide +kernel
theorem dX6_init_37 : decode cX6_init 37 = .ok (.aload_n 2, 1) := by decide +kernel
theorem dX6_init_38 : decode cX6_init 38 = .ok (.putfield 25, 3) := by decide +kernel
theorem dX6_init_41 : decode cX6_init 41 = .ok (.return_, 1) := by decide +kernel
theorem dX6_scan_0 : decode cX6_scan 0 = .ok (.aload_n 0, 1) := by decide +kernel
theorem dX6_scan_1 : decode cX6_scan 1 = .ok (.iload_n 1, 1) := by decide +kernel
theorem dX6_scan_2 : decode cX6_scan 2 = .ok (.putfield 29, 3) := by decide +kernel
theorem dX6_scan_5 : decode cX6_scan 5 = .ok (.aload_n 0, 1) := by decide +kernel
theorem dX6_scan_6 : decode cX6_scan 6 = .ok (.iconst 0, 1) := by decide +kernel
theorem dX6_scan_7 : decode cX6_scan 7 = .ok (.putfield 33, 3) := by decide +kernel
theorem dX6_scan_10 : decode cX6_scan 10 = .ok (.aload_n 0, 1) := by decide +kernel
theorem dX6_scan_11 : decode cX6_scan 11 = .ok (.iconst 0, 1) := by decide +kernel
theorem dX6_scan_12 : decode cX6_scan 12 = .ok (.putfield 37, 3) := by decide +kernel
theorem dX6_scan_15 : decode cX6_scan 15 = .ok (.aload_n 0, 1) := by decide +kernel
theorem dX6_scan_16 : decode cX6_scan 16 = .ok (.iconst 0, 1) := by decide +kernel
theorem dX6_scan_17 : decode cX6_scan 17 = .ok (.putfield 40, 3) := by decide +kernel
theorem dX6_scan_20 : decode cX6_scan 20 = .ok (.iconst 0, 1) := by decide +kernel
theorem dX6_scan_21 : decode cX6_scan 21 = .ok (.istore_n 2, 1) := by decide +kernel
theorem dX6_scan_22 : decode cX6_scan 22 = .ok (.iload_n 2, 1) := by decide +kernel
theorem dX6_scan_23 : decode cX6_scan 23 = .ok (.sipush 6000, 3) := by decide +kernel
theorem dX6_scan_26 : decode cX6_scan 26 = .ok (.if_icmp .gt 139, 3) := by decide +kernel
theorem dX6_scan_29 : decode cX6_scan 29 = .ok (.aload_n 0, 1) := by decide +kernel
theorem dX6_scan_30 : decode cX6_scan 30 = .ok (.invokevirtual 43, 3) := by decide +kernel
theorem dX6_scan_33 : decode cX6_scan 33 = .ok (.ifCond .eq 10, 3) := by decide +kernel
theorem dX6_scan_36 : decode cX6_scan 36 = .ok (.aload_n 0, 1) := by decide +kernel
theorem dX6_scan_37 : decode cX6_scan 37 = .ok (.invokevirtual 47, 3) := by decide +kernel
theorem dX6_scan_40 : decode cX6_scan 40 = .ok (.ifCond .ne 8, 3) := by decide +kernel
theorem dX6_scan_43 : decode cX6_scan 43 = .ok (.aload_n 0, 1) := by decide +kernel
theorem dX6_scan_44 : decode cX6_scan 44 = .ok (.getfield 37, 3) := by decide +kernel
theorem dX6_scan_47 : decode cX6_scan 47 = .ok (.ireturn, 1) := by decide +kernel
theorem dX6_scan_48 : decode cX6_scan 48 = .ok (.aload_n 0, 1) := by decide +kernel
theorem dX6_scan_49 : decode cX6_scan 49 = .ok (.getfield 25, 3) := by decide +kernel
theorem dX6_scan_52 : decode cX6_scan 52 = .ok (.aload_n 0, 1) := by decide +kernel
theorem dX6_scan_53 : decode cX6_scan 53 = .ok (.getfield 37, 3) := by decide +kernel
theorem dX6_scan_56 : decode cX6_scan 56 = .ok (.invokevirtual 50, 3) := by decide +kernel
theorem dX6_scan_59 : decode cX6_scan 59 = .ok (.bipush 40, 2) := by decide +kernel
theorem dX6_scan_61 : decode cX6_scan 61 = .ok (.if_icmp .ne 20, 3) := by decide +kernel
theorem dX6_scan_64 : decode cX6_scan 64 = .ok (.aload_n 0, 1) := by decide +kernel
theorem dX6_scan_65 : decode cX6_scan 65 = .ok (.getfield 33, 3) := by decide +kernel
theorem dX6_scan_68 : decode cX6_scan 68 = .ok (.sipush 2001, 3) := by decide +kernel
theorem dX6_scan_71 : decode cX6_scan 71 = .ok (.if_icmp .ge 10, 3) := by decide +kernel
theorem dX6_scan_74 : decode cX6_scan 74 = .ok (.aload_n 0, 1) := by decide +kernel
theorem dX6_scan_75 : decode cX6_scan 75 = .ok (.invokevirtual 55, 3) := by decide +kernel
theorem dX6_scan_78 : decode cX6_scan 78 = .ok (.goto 81, 3) := by decide +kernel
theorem dX6_scan_81 : decode cX6_scan 81 = .ok (.aload_n 0, 1) := by decide +kernel
theorem dX6_scan_82 : decode cX6_scan 82 = .ok (.aload_n 0, 1) := by decide +kernel
theorem dX6_scan_83 : decode cX6_scan 83 = .ok (.getfield 58, 3) := by decide +kernel
theorem dX6_scan_86 : decode cX6_scan 86 = .ok (.aload_n 0, 1) := by decide +kernel
theorem dX6_scan_87 : decode cX6_scan 87 = .ok (.getfield 61, 3) := by decide +kernel
theorem dX6_scan_90 : decode cX6_scan 90 = .ok (.iconst 0, 1) := by decide +kernel
theorem dX6_scan_91 : decode cX6_scan 91 = .ok (.invokevirtual 64, 3) := by decide +kernel
theorem dX6_scan_94 : decode cX6_scan 94 = .ok (.aload_n 0, 1) := by decide +kernel
theorem dX6_scan_95 : decode cX6_scan 95 = .ok (.invokevirtual 68, 3) := by decide +kernel
theorem dX6_scan_98 : decode cX6_scan 98 = .ok (.aload_n 0, 1) := by decide +kernel
theorem dX6_scan_99 : decode cX6_scan 99 = .ok (.getfield 33, 3) := by decide +kernel
theorem dX6_scan_102 : decode cX6_scan 102 = .ok (.ifCond .ne 26, 3) := by decide +kernel
theorem dX6_scan_105 : decode cX6_scan 105 = .ok (.aload_n 0, 1) := by decide +kernel
theorem dX6_scan_106 : decode cX6_scan 106 = .ok (.getfield 37, 3) := by decide +kernel
theorem dX6_scan_109 : decode cX6_scan 109 = .ok (.aload_n 0, 1) := by decide +kernel
theorem dX6_scan_110 : decode cX6_scan 110 = .ok (.getfield 25, 3) := by decide +kernel
theorem dX6_scan_113 : decode cX6_scan 113 = .ok (.getfield 71, 3) := by decide +kernel
theorem dX6_scan_116 : decode cX6_scan 116 = .ok (.if_icmp .ne 7, 3) := by decide +kernel
theorem dX6_scan_119 : decode cX6_scan 119 = .ok (.iconst (-1), 1) := by decide +kernel
theorem dX6_scan_120 : decode cX6_scan 120 = .ok (.goto 7, 3) := by decide +kernel
theorem dX6_scan_123 : decode cX6_scan 123 = .ok (.aload_n 0, 1) := by decide +kernel
theorem dX6_scan_124 : decode cX6_scan 124 = .ok (.getfield 37, 3) := by decide +kernel
theorem dX6_scan_127 : decode cX6_scan 127 = .ok (.ireturn, 1) := by decide +kernel
theorem dX6_scan_128 : decode cX6_scan 128 = .ok (.aload_n 0, 1) := by decide +kernel
theorem dX6_scan_129 : decode cX6_scan 129 = .ok (.getfield 25, 3) := by decide +kernel
theorem dX6_scan_132 : decode cX6_scan 132 = .ok (.aload_n 0, 1) := by decide +kernel
theorem dX6_scan_133 : decode cX6_scan 133 = .ok (.getfield 37, 3) := by decide +kernel
theorem dX6_scan_136 : decode cX6_scan 136 = .ok (.invokevirtual 50, 3) := by decide +kernel
theorem dX6_scan_139 : decode cX6_scan 139 = .ok (.bipush 44, 2) := by decide +kernel
theorem dX6_scan_141 : decode cX6_scan 141 = .ok (.if_icmp .eq 8, 3) := by decide +kernel
theorem dX6_scan_144 : decode cX6_scan 144 = .ok (.aload_n 0, 1) := by decide +kernel
theorem dX6_scan_145 : decode cX6_scan 145 = .ok (.getfield 37, 3) := by decide +kernel
theorem dX6_scan_148 : decode cX6_scan 148 = .ok (.ireturn, 1) := by decide +kernel
theorem dX6_scan_149 : decode cX6_scan 149 = .ok (.aload_n 0, 1) := by decide +kernel
theorem dX6_scan_150 : decode cX6_scan 150 = .ok (.dup, 1) := by decide +kernel
theorem dX6_scan_151 : decode cX6_scan 151 = .ok (.getfield 37, 3) := by decide +kernel
theorem dX6_scan_154 : decode cX6_scan 154 = .ok (.iconst 1, 1) := by decide +kernel
theorem dX6_scan_155 : decode cX6_scan 155 = .ok (.iadd, 1) := by decide +kernel
theorem dX6_scan_156 : decode cX6_scan 156 = .ok (.putfield 37, 3) := by decide +kernel
theorem dX6_scan_159 : decode cX6_scan 159 = .ok (.iinc 2 1, 3) := by decide +kernel
theorem dX6_scan_162 : decode cX6_scan 162 = .ok (.goto (-140), 3) := by decide +kernel
theorem dX6_scan_165 : decode cX6_scan 165 = .ok (.aload_n 0, 1) := by decide +kernel
theorem dX6_scan_166 : decode cX6_scan 166 = .ok (.getfield 37, 3) := by decide +kernel
theorem dX6_scan_169 : decode cX6_scan 169 = .ok (.ireturn, 1) := by decide +kernel
theorem dX6_scanKind_0 : decode cX6_scanKind 0 = .ok (.aload_n 0, 1) := by decide +kernel
theorem dX6_scanKind_1 : decode cX6_scanKind 1 = .ok (.aload_n 0, 1) := by decide +kernel
theorem dX6_scanKind_2 : decode cX6_scanKind 2 = .ok (.getfield 25, 3) := by decide +kernel
theorem dX6_scanKind_5 : decode cX6_scanKind 5 = .ok (.aload_n 0, 1) := by decide +kernel
theorem dX6_scanKind_6 : decode cX6_scanKind 6 = .ok (.getfield 37, 3) := by decide +kernel
theorem dX6_scanKind_9 : decode cX6_scanKind 9 = .ok (.invokevirtual 50, 3) := by decide +kernel
theorem dX6_scanKind_12 : decode cX6_scanKind 12 = .ok (.bipush 97, 2) := by decide +kernel
theorem dX6_scanKind_14 : decode cX6_scanKind 14 = .ok (.isub, 1) := by decide +kernel
theorem dX6_scanKind_15 : decode cX6_scanKind 15 = .ok (.putfield 58, 3) := by decide +kernel
theorem dX6_scanKind_18 : decode cX6_scanKind 18 = .ok (.aload_n 0, 1) := by decide +kernel
theorem dX6_scanKind_19 : decode cX6_scanKind 19 = .ok (.getfield 58, 3) := by decide +kernel
theorem dX6_scanKind_22 : decode cX6_scanKind 22 = .ok (.invokestatic 74, 3) := by decide +kernel
theorem dX6_scanKind_25 : decode cX6_scanKind 25 = .ok (.ifCond .ne 5, 3) := by decide +kernel
theorem dX6_scanKind_28 : decode cX6_scanKind 28 = .ok (.iconst 0, 1) := by decide +kernel
theorem dX6_scanKind_29 : decode cX6_scanKind 29 = .ok (.ireturn, 1) := by decide +kernel
theorem dX6_scanKind_30 : decode cX6_scanKind 30 = .ok (.aload_n 0, 1) := by decide +kernel
theorem dX6_scanKind_31 : decode cX6_scanKind 31 = .ok (.dup, 1) := by decide +kernel
theorem dX6_scanKind_32 : decode cX6_scanKind 32 = .ok (.getfield 37, 3) := by decide +kernel
theorem dX6_scanKind_35 : decode cX6_scanKind 35 = .ok (.iconst 1, 1) := by decide +kernel
theorem dX6_scanKind_36 : decode cX6_scanKind 36 = .ok (.iadd, 1) := by decide +kernel
theorem dX6_scanKind_37 : decode cX6_scanKind 37 = .ok (.putfield 37, 3) := by decide +kernel
theorem dX6_scanKind_40 : decode cX6_scanKind 40 = .ok (.iconst 1, 1) := by decide +kernel
theorem dX6_scanKind_41 : decode cX6_scanKind 41 = .ok (.ireturn, 1) := by decide +kernel
theorem dX6_scanNumber_0 : decode cX6_scanNumber 0 = .ok (.aload_n 0, 1) := by decide +kernel
theorem dX6_scanNumber_1 : decode cX6_scanNumber 1 = .ok (.getfield 37, 3) := by decide +kernel
theorem dX6_scanNumber_4 : decode cX6_scanNumber 4 = .ok (.istore_n 1, 1) := by decide +kernel
theorem dX6_scanNumber_5 : decode cX6_scanNumber 5 = .ok (.aload_n 0, 1) := by decide +kernel
theorem dX6_scanNumber_6 : decode cX6_scanNumber 6 = .ok (.getfield 25, 3) := by decide +kernel
theorem dX6_scanNumber_9 : decode cX6_scanNumber 9 = .ok (.aload_n 0, 1) := by decide +kernel
theorem dX6_scanNumber_10 : decode cX6_scanNumber 10 = .ok (.getfield 37, 3) := by decide +kernel
theorem dX6_scanNumber_13 : decode cX6_scanNumber 13 = .ok (.invokevirtual 50, 3) := by decide +kernel
theorem dX6_scanNumber_16 : decode cX6_scanNumber 16 = .ok (.bipush 45, 2) := by decide +kernel
theorem dX6_scanNumber_18 : decode cX6_scanNumber 18 = .ok (.if_icmp .ne 7, 3) := by decide +kernel
theorem dX6_scanNumber_21 : decode cX6_scanNumber 21 = .ok (.iconst 1, 1) := by decide +kernel
theorem dX6_scanNumber_22 : decode cX6_scanNumber 22 = .ok (.goto 4, 3) := by decide +kernel
theorem dX6_scanNumber_25 : decode cX6_scanNumber 25 = .ok (.iconst 0, 1) := by decide +kernel
theorem dX6_scanNumber_26 : decode cX6_scanNumber 26 = .ok (.istore_n 2, 1) := by decide +kernel
theorem dX6_scanNumber_27 : decode cX6_scanNumber 27 = .ok (.iload_n 2, 1) := by decide +kernel
theorem dX6_scanNumber_28 : decode cX6_scanNumber 28 = .ok (.ifCond .eq 13, 3) := by decide +kernel
theorem dX6_scanNumber_31 : decode cX6_scanNumber 31 = .ok (.aload_n 0, 1) := by decide +kernel
theorem dX6_scanNumber_32 : decode cX6_scanNumber 32 = .ok (.dup, 1) := by decide +kernel
theorem dX6_scanNumber_33 : decode cX6_scanNumber 33 = .ok (.getfield 37, 3) := by decide +kernel
theorem dX6_scanNumber_36 : decode cX6_scanNumber 36 = .ok (.iconst 1, 1) := by decide +kernel
theorem dX6_scanNumber_37 : decode cX6_scanNumber 37 = .ok (.iadd, 1) := by decide +kernel
theorem dX6_scanNumber_38 : decode cX6_scanNumber 38 = .ok (.putfield 37, 3) := by decide +kernel
theorem dX6_scanNumber_41 : decode cX6_scanNumber 41 = .ok (.aload_n 0, 1) := by decide +kernel
theorem dX6_scanNumber_42 : decode cX6_scanNumber 42 = .ok (.getfield 25, 3) := by decide +kernel
theorem dX6_scanNumber_45 : decode cX6_scanNumber 45 = .ok (.aload_n 0, 1) := by decide +kernel
theorem dX6_scanNumber_46 : decode cX6_scanNumber 46 = .ok (.getfield 37, 3) := by decide +kernel
theorem dX6_scanNumber_49 : decode cX6_scanNumber 49 = .ok (.invokevirtual 50, 3) := by decide +kernel
theorem dX6_scanNumber_52 : decode cX6_scanNumber 52 = .ok (.invokestatic 78, 3) := by decide +kernel
theorem dX6_scanNumber_55 : decode cX6_scanNumber 55 = .ok (.ifCond .eq 23, 3) := by decide +kernel
theorem dX6_scanNumber_58 : decode cX6_scanNumber 58 = .ok (.iload_n 2, 1) := by decide +kernel
theorem dX6_scanNumber_59 : decode cX6_scanNumber 59 = .ok (.ifCond .eq 21, 3) := by decide +kernel
theorem dX6_scanNumber_62 : decode cX6_scanNumber 62 = .ok (.aload_n 0, 1) := by decide +kernel
theorem dX6_scanNumber_63 : decode cX6_scanNumber 63 = .ok (.getfield 25, 3) := by decide +kernel
theorem dX6_scanNumber_66 : decode cX6_scanNumber 66 = .ok (.aload_n 0, 1) := by decide +kernel
theorem dX6_scanNumber_67 : decode cX6_scanNumber 67 = .ok (.getfield 37, 3) := by decide +kernel
theorem dX6_scanNumber_70 : decode cX6_scanNumber 70 = .ok (.invokevirtual 50, 3) := by decide +kernel
theorem dX6_scanNumber_73 : decode cX6_scanNumber 73 = .ok (.bipush 48, 2) := by decide +kernel
theorem dX6_scanNumber_75 : decode cX6_scanNumber 75 = .ok (.if_icmp .ne 5, 3) := by decide +kernel
theorem dX6_scanNumber_78 : decode cX6_scanNumber 78 = .ok (.iconst 0, 1) := by decide +kernel
theorem dX6_scanNumber_79 : decode cX6_scanNumber 79 = .ok (.ireturn, 1) := by decide +kernel
theorem dX6_scanNumber_80 : decode cX6_scanNumber 80 = .ok (.aload_n 0, 1) := by decide +kernel
theorem dX6_scanNumber_81 : decode cX6_scanNumber 81 = .ok (.invokevirtual 81, 3) := by decide +kernel
theorem dX6_scanNumber_84 : decode cX6_scanNumber 84 = .ok (.lstore_n 3, 1) := by decide +kernel
theorem dX6_scanNumber_85 : decode cX6_scanNumber 85 = .ok (.iload_n 2, 1) := by decide +kernel
theorem dX6_scanNumber_86 : decode cX6_scanNumber 86 = .ok (.ifCond .eq 8, 3) := by decide +kernel
theorem dX6_scanNumber_89 : decode cX6_scanNumber 89 = .ok (.lload_n 3, 1) := by decide +kernel
theorem dX6_scanNumber_90 : decode cX6_scanNumber 90 = .ok (.lneg, 1) := by decide +kernel
theorem dX6_scanNumber_91 : decode cX6_scanNumber 91 = .ok (.goto 4, 3) := by decide +kernel
theorem dX6_scanNumber_94 : decode cX6_scanNumber 94 = .ok (.lload_n 3, 1) := by decide +kernel
theorem dX6_scanNumber_95 : decode cX6_scanNumber 95 = .ok (.lstore 5, 2) := by decide +kernel
theorem dX6_scanNumber_97 : decode cX6_scanNumber 97 = .ok (.lload 5, 2) := by decide +kernel
theorem dX6_scanNumber_99 : decode cX6_scanNumber 99 = .ok (.ldc2_w 85, 3) := by decide +kernel
theorem dX6_scanNumber_102 : decode cX6_scanNumber 102 = .ok (.lcmp, 1) := by decide +kernel
theorem dX6_scanNumber_103 : decode cX6_scanNumber 103 = .ok (.ifCond .lt 12, 3) := by decide +kernel
theorem dX6_scanNumber_106 : decode cX6_scanNumber 106 = .ok (.lload 5, 2) := by decide +kernel
theorem dX6_scanNumber_108 : decode cX6_scanNumber 108 = .ok (.ldc2_w 87, 3) := by decide +kernel
theorem dX6_scanNumber_111 : decode cX6_scanNumber 111 = .ok (.lcmp, 1) := by decide +kernel
theorem dX6_scanNumber_112 : decode cX6_scanNumber 112 = .ok (.ifCond .le 10, 3) := by decide +kernel
theorem dX6_scanNumber_115 : decode cX6_scanNumber 115 = .ok (.aload_n 0, 1) := by decide +kernel
theorem dX6_scanNumber_116 : decode cX6_scanNumber 116 = .ok (.iload_n 1, 1) := by decide +kernel
theorem dX6_scanNumber_117 : decode cX6_scanNumber 117 = .ok (.putfield 37, 3) := by decide +kernel
theorem dX6_scanNumber_120 : decode cX6_scanNumber 120 = .ok (.iconst 0, 1) := by decide +kernel
theorem dX6_scanNumber_121 : decode cX6_scanNumber 121 = .ok (.ireturn, 1) := by decide +kernel
theorem dX6_scanNumber_122 : decode cX6_scanNumber 122 = .ok (.aload_n 0, 1) := by decide +kernel
theorem dX6_scanNumber_123 : decode cX6_scanNumber 123 = .ok (.lload 5, 2) := by decide +kernel
theorem dX6_scanNumber_125 : decode cX6_scanNumber 125 = .ok (.l2i, 1) := by decide +kernel
theorem dX6_scanNumber_126 : decode cX6_scanNumber 126 = .ok (.putfield 61, 3) := by decide +kernel
theorem dX6_scanNumber_129 : decode cX6_scanNumber 129 = .ok (.iconst 1, 1) := by decide +kernel
theorem dX6_scanNumber_130 : decode cX6_scanNumber 130 = .ok (.ireturn, 1) := by decide +kernel
theorem dX6_scanFigures_0 : decode cX6_scanFigures 0 = .ok (.aload_n 0, 1) := by decide +kernel
theorem dX6_scanFigures_1 : decode cX6_scanFigures 1 = .ok (.getfield 25, 3) := by decide +kernel
theorem dX6_scanFigures_4 : decode cX6_scanFigures 4 = .ok (.aload_n 0, 1) := by decide +kernel
theorem dX6_scanFigures_5 : decode cX6_scanFigures 5 = .ok (.getfield 37, 3) := by decide +kernel
theorem dX6_scanFigures_8 : decode cX6_scanFigures 8 = .ok (.invokevirtual 50, 3) := by decide +kernel
theorem dX6_scanFigures_11 : decode cX6_scanFigures 11 = .ok (.bipush 48, 2) := by decide +kernel
theorem dX6_scanFigures_13 : decode cX6_scanFigures 13 = .ok (.if_icmp .ne 15, 3) := by decide +kernel
theorem dX6_scanFigures_16 : decode cX6_scanFigures 16 = .ok (.aload_n 0, 1) := by decide +kernel
theorem dX6_scanFigures_17 : decode cX6_scanFigures 17 = .ok (.dup, 1) := by decide +kernel
theorem dX6_scanFigures_18 : decode cX6_scanFigures 18 = .ok (.getfield 37, 3) := by decide +kernel
theorem dX6_scanFigures_21 : decode cX6_scanFigures 21 = .ok (.iconst 1, 1) := by decide +kernel
theorem dX6_scanFigures_22 : decode cX6_scanFigures 22 = .ok (.iadd, 1) := by decide +kernel
theorem dX6_scanFigures_23 : decode cX6_scanFigures 23 = .ok (.putfield 37, 3) := by decide +kernel
theorem dX6_scanFigures_26 : decode cX6_scanFigures 26 = .ok (.lconst 0, 1) := by decide +kernel
theorem dX6_scanFigures_27 : decode cX6_scanFigures 27 = .ok (.lreturn, 1) := by decide +kernel
theorem dX6_scanFigures_28 : decode cX6_scanFigures 28 = .ok (.lconst 0, 1) := by decide +kernel
theorem dX6_scanFigures_29 : decode cX6_scanFigures 29 = .ok (.lstore_n 1, 1) := by decide +kernel
theorem dX6_scanFigures_30 : decode cX6_scanFigures 30 = .ok (.aload_n 0, 1) := by decide +kernel
theorem dX6_scanFigures_31 : decode cX6_scanFigures 31 = .ok (.getfield 37, 3) := by decide +kernel
theorem dX6_scanFigures_34 : decode cX6_scanFigures 34 = .ok (.aload_n 0, 1) := by decide +kernel
theorem dX6_scanFigures_35 : decode cX6_scanFigures 35 = .ok (.getfield 25, 3) := by decide +kernel
theorem dX6_scanFigures_38 : decode cX6_scanFigures 38 = .ok (.getfield 71, 3) := by decide +kernel
theorem dX6_scanFigures_41 : decode cX6_scanFigures 41 = .ok (.if_icmp .ge 62, 3) := by decide +kernel
theorem dX6_scanFigures_44 : decode cX6_scanFigures 44 = .ok (.aload_n 0, 1) := by decide +kernel
theorem dX6_scanFigures_45 : decode cX6_scanFigures 45 = .ok (.getfield 25, 3) := by decide +kernel
theorem dX6_scanFigures_48 : decode cX6_scanFigures 48 = .ok (.aload_n 0, 1) := by decide +kernel
theorem dX6_scanFigures_49 : decode cX6_scanFigures 49 = .ok (.getfield 37, 3) := by decide +kernel
theorem dX6_scanFigures_52 : decode cX6_scanFigures 52 = .ok (.invokevirtual 50, 3) := by decide +kernel
theorem dX6_scanFigures_55 : decode cX6_scanFigures 55 = .ok (.invokestatic 78, 3) := by decide +kernel
theorem dX6_scanFigures_58 : decode cX6_scanFigures 58 = .ok (.ifCond .eq 45, 3) := by decide +kernel
theorem dX6_scanFigures_61 : decode cX6_scanFigures 61 = .ok (.ldc2_w 89, 3) := by decide +kernel
theorem dX6_scanFigures_64 : decode cX6_scanFigures 64 = .ok (.lload_n 1, 1) := by decide +kernel
theorem dX6_scanFigures_65 : decode cX6_scanFigures 65 = .ok (.lmul, 1) := by decide +kernel
theorem dX6_scanFigures_66 : decode cX6_scanFigures 66 = .ok (.aload_n 0, 1) := by decide +kernel
theorem dX6_scanFigures_67 : decode cX6_scanFigures 67 = .ok (.getfield 25, 3) := by decide +kernel
theorem dX6_scanFigures_70 : decode cX6_scanFigures 70 = .ok (.aload_n 0, 1) := by decide +kernel
theorem dX6_scanFigures_71 : decode cX6_scanFigures 71 = .ok (.getfield 37, 3) := by decide +kernel
theorem dX6_scanFigures_74 : decode cX6_scanFigures 74 = .ok (.invokevirtual 50, 3) := by decide +kernel
theorem dX6_scanFigures_77 : decode cX6_scanFigures 77 = .ok (.i2l, 1) := by decide +kernel
theorem dX6_scanFigures_78 : decode cX6_scanFigures 78 = .ok (.ladd, 1) := by decide +kernel
theorem dX6_scanFigures_79 : decode cX6_scanFigures 79 = .ok (.ldc2_w 91, 3) := by decide +kernel
theorem dX6_scanFigures_82 : decode cX6_scanFigures 82 = .ok (.lsub, 1) := by decide +kernel
theorem dX6_scanFigures_83 : decode cX6_scanFigures 83 = .ok (.ldc2_w 93, 3) := by decide +kernel
theorem dX6_scanFigures_86 : decode cX6_scanFigures 86 = .ok (.invokestatic 95, 3) := by decide +kernel
theorem dX6_scanFigures_89 : decode cX6_scanFigures 89 = .ok (.lstore_n 1, 1) := by decide +kernel
theorem dX6_scanFigures_90 : decode cX6_scanFigures 90 = .ok (.aload_n 0, 1) := by decide +kernel
theorem dX6_scanFigures_91 : decode cX6_scanFigures 91 = .ok (.dup, 1) := by decide +kernel
theorem dX6_scanFigures_92 : decode cX6_scanFigures 92 = .ok (.getfield 37, 3) := by decide +kernel
theorem dX6_scanFigures_95 : decode cX6_scanFigures 95 = .ok (.iconst 1, 1) := by decide +kernel
theorem dX6_scanFigures_96 : decode cX6_scanFigures 96 = .ok (.iadd, 1) := by decide +kernel
theorem dX6_scanFigures_97 : decode cX6_scanFigures 97 = .ok (.putfield 37, 3) := by decide +kernel
theorem dX6_scanFigures_100 : decode cX6_scanFigures 100 = .ok (.goto (-70), 3) := by decide +kernel
theorem dX6_scanFigures_103 : decode cX6_scanFigures 103 = .ok (.lload_n 1, 1) := by decide +kernel
theorem dX6_scanFigures_104 : decode cX6_scanFigures 104 = .ok (.lreturn, 1) := by decide +kernel
theorem dX6_isFigure_0 : decode cX6_isFigure 0 = .ok (.iload_n 0, 1) := by decide +kernel
theorem dX6_isFigure_1 : decode cX6_isFigure 1 = .ok (.bipush 48, 2) := by decide +kernel
theorem dX6_isFigure_3 : decode cX6_isFigure 3 = .ok (.if_icmp .lt 13, 3) := by decide +kernel
theorem dX6_isFigure_6 : decode cX6_isFigure 6 = .ok (.iload_n 0, 1) := by decide +kernel
theorem dX6_isFigure_7 : decode cX6_isFigure 7 = .ok (.bipush 57, 2) := by decide +kernel
theorem dX6_isFigure_9 : decode cX6_isFigure 9 = .ok (.if_icmp .gt 7, 3) := by decide +kernel
theorem dX6_isFigure_12 : decode cX6_isFigure 12 = .ok (.iconst 1, 1) := by decide +kernel
theorem dX6_isFigure_13 : decode cX6_isFigure 13 = .ok (.goto 4, 3) := by decide +kernel
theorem dX6_isFigure_16 : decode cX6_isFigure 16 = .ok (.iconst 0, 1) := by decide +kernel
theorem dX6_isFigure_17 : decode cX6_isFigure 17 = .ok (.ireturn, 1) := by decide +kernel
theorem dX6_openDeed_0 : decode cX6_openDeed 0 = .ok (.aload_n 0, 1) := by decide +kernel
theorem dX6_openDeed_1 : decode cX6_openDeed 1 = .ok (.dup, 1) := by decide +kernel
theorem dX6_openDeed_2 : decode cX6_openDeed 2 = .ok (.getfield 37, 3) := by decide +kernel
theorem dX6_openDeed_5 : decode cX6_openDeed 5 = .ok (.iconst 1, 1) := by decide +kernel
theorem dX6_openDeed_6 : decode cX6_openDeed 6 = .ok (.iadd, 1) := by decide +kernel
theorem dX6_openDeed_7 : decode cX6_openDeed 7 = .ok (.putfield 37, 3) := by decide +kernel
theorem dX6_openDeed_10 : decode cX6_openDeed 10 = .ok (.aload_n 0, 1) := by decide +kernel
theorem dX6_openDeed_11 : decode cX6_openDeed 11 = .ok (.getfield 11, 3) := by decide +kernel
theorem dX6_openDeed_14 : decode cX6_openDeed 14 = .ok (.aload_n 0, 1) := by decide +kernel
theorem dX6_openDeed_15 : decode cX6_openDeed 15 = .ok (.getfield 33, 3) := by decide +kernel
theorem dX6_openDeed_18 : decode cX6_openDeed 18 = .ok (.aload_n 0, 1) := by decide +kernel
theorem dX6_openDeed_19 : decode cX6_openDeed 19 = .ok (.getfield 58, 3) := by decide +kernel
theorem dX6_openDeed_22 : decode cX6_openDeed 22 = .ok (.iastore, 1) := by decide +kernel
theorem dX6_openDeed_23 : decode cX6_openDeed 23 = .ok (.aload_n 0, 1) := by decide +kernel
theorem dX6_openDeed_24 : decode cX6_openDeed 24 = .ok (.getfield 15, 3) := by decide +kernel
theorem dX6_openDeed_27 : decode cX6_openDeed 27 = .ok (.aload_n 0, 1) := by decide +kernel
theorem dX6_openDeed_28 : decode cX6_openDeed 28 = .ok (.getfield 33, 3) := by decide +kernel
theorem dX6_openDeed_31 : decode cX6_openDeed 31 = .ok (.aload_n 0, 1) := by decide +kernel
theorem dX6_openDeed_32 : decode cX6_openDeed 32 = .ok (.getfield 61, 3) := by decide +kernel
theorem dX6_openDeed_35 : decode cX6_openDeed 35 = .ok (.iastore, 1) := by decide +kernel
theorem dX6_openDeed_36 : decode cX6_openDeed 36 = .ok (.aload_n 0, 1) := by decide +kernel
theorem dX6_openDeed_37 : decode cX6_openDeed 37 = .ok (.getfield 18, 3) := by decide +kernel
theorem dX6_openDeed_40 : decode cX6_openDeed 40 = .ok (.aload_n 0, 1) := by decide +kernel
theorem dX6_openDeed_41 : decode cX6_openDeed 41 = .ok (.getfield 33, 3) := by decide +kernel
theorem dX6_openDeed_44 : decode cX6_openDeed 44 = .ok (.iconst 0, 1) := by decide +kernel
theorem dX6_openDeed_45 : decode cX6_openDeed 45 = .ok (.iastore, 1) := by decide +kernel
theorem dX6_openDeed_46 : decode cX6_openDeed 46 = .ok (.aload_n 0, 1) := by decide +kernel
theorem dX6_openDeed_47 : decode cX6_openDeed 47 = .ok (.dup, 1) := by decide +kernel
theorem dX6_openDeed_48 : decode cX6_openDeed 48 = .ok (.getfield 33, 3) := by decide +kernel
theorem dX6_openDeed_51 : decode cX6_openDeed 51 = .ok (.iconst 1, 1) := by decide +kernel
theorem dX6_openDeed_52 : decode cX6_openDeed 52 = .ok (.iadd, 1) := by decide +kernel
theorem dX6_openDeed_53 : decode cX6_openDeed 53 = .ok (.putfield 33, 3) := by decide +kernel
theorem dX6_openDeed_56 : decode cX6_openDeed 56 = .ok (.return_, 1) := by decide +kernel
theorem dX6_closeDeeds_0 : decode cX6_closeDeeds 0 = .ok (.aload_n 0, 1) := by decide +kernel
theorem dX6_closeDeeds_1 : decode cX6_closeDeeds 1 = .ok (.getfield 33, 3) := by decide +kernel
theorem dX6_closeDeeds_4 : decode cX6_closeDeeds 4 = .ok (.ifCond .le 73, 3) := by decide +kernel
theorem dX6_closeDeeds_7 : decode cX6_closeDeeds 7 = .ok (.aload_n 0, 1) := by decide +kernel
theorem dX6_closeDeeds_8 : decode cX6_closeDeeds 8 = .ok (.getfield 25, 3) := by decide +kernel
theorem dX6_closeDeeds_11 : decode cX6_closeDeeds 11 = .ok (.aload_n 0, 1) := by decide +kernel
theorem dX6_closeDeeds_12 : decode cX6_closeDeeds 12 = .ok (.getfield 37, 3) := by decide +kernel
theorem dX6_closeDeeds_15 : decode cX6_closeDeeds 15 = .ok (.invokevirtual 50, 3) := by decide +kernel
theorem dX6_closeDeeds_18 : decode cX6_closeDeeds 18 = .ok (.bipush 41, 2) := by decide +kernel
theorem dX6_closeDeeds_20 : decode cX6_closeDeeds 20 = .ok (.if_icmp .ne 57, 3) := by decide +kernel
theorem dX6_closeDeeds_23 : decode cX6_closeDeeds 23 = .ok (.aload_n 0, 1) := by decide +kernel
theorem dX6_closeDeeds_24 : decode cX6_closeDeeds 24 = .ok (.dup, 1) := by decide +kernel
theorem dX6_closeDeeds_25 : decode cX6_closeDeeds 25 = .ok (.getfield 33, 3) := by decide +kernel
theorem dX6_closeDeeds_28 : decode cX6_closeDeeds 28 = .ok (.iconst 1, 1) := by decide +kernel
theorem dX6_closeDeeds_29 : decode cX6_closeDeeds 29 = .ok (.isub, 1) := by decide +kernel
theorem dX6_closeDeeds_30 : decode cX6_closeDeeds 30 = .ok (.putfield 33, 3) := by decide +kernel
theorem dX6_closeDeeds_33 : decode cX6_closeDeeds 33 = .ok (.aload_n 0, 1) := by decide +kernel
theorem dX6_closeDeeds_34 : decode cX6_closeDeeds 34 = .ok (.aload_n 0, 1) := by decide +kernel
theorem dX6_closeDeeds_35 : decode cX6_closeDeeds 35 = .ok (.getfield 11, 3) := by decide +kernel
theorem dX6_closeDeeds_38 : decode cX6_closeDeeds 38 = .ok (.aload_n 0, 1) := by decide +kernel
theorem dX6_closeDeeds_39 : decode cX6_closeDeeds 39 = .ok (.getfield 33, 3) := by decide +kernel
theorem dX6_closeDeeds_42 : decode cX6_closeDeeds 42 = .ok (.iaload, 1) := by decide +kernel
theorem dX6_closeDeeds_43 : decode cX6_closeDeeds 43 = .ok (.aload_n 0, 1) := by decide +kernel
theorem dX6_closeDeeds_44 : decode cX6_closeDeeds 44 = .ok (.getfield 15, 3) := by decide +kernel
theorem dX6_closeDeeds_47 : decode cX6_closeDeeds 47 = .ok (.aload_n 0, 1) := by decide +kernel
theorem dX6_closeDeeds_48 : decode cX6_closeDeeds 48 = .ok (.getfield 33, 3) := by decide +kernel
theorem dX6_closeDeeds_51 : decode cX6_closeDeeds 51 = .ok (.iaload, 1) := by decide +kernel
theorem dX6_closeDeeds_52 : decode cX6_closeDeeds 52 = .ok (.aload_n 0, 1) := by decide +kernel
theorem dX6_closeDeeds_53 : decode cX6_closeDeeds 53 = .ok (.getfield 18, 3) := by decide +kernel
theorem dX6_closeDeeds_56 : decode cX6_closeDeeds 56 = .ok (.aload_n 0, 1) := by decide +kernel
theorem dX6_closeDeeds_57 : decode cX6_closeDeeds 57 = .ok (.getfield 33, 3) := by decide +kernel
theorem dX6_closeDeeds_60 : decode cX6_closeDeeds 60 = .ok (.iaload, 1) := by decide +kernel
theorem dX6_closeDeeds_61 : decode cX6_closeDeeds 61 = .ok (.invokevirtual 64, 3) := by decide +kernel
theorem dX6_closeDeeds_64 : decode cX6_closeDeeds 64 = .ok (.aload_n 0, 1) := by decide +kernel
theorem dX6_closeDeeds_65 : decode cX6_closeDeeds 65 = .ok (.dup, 1) := by decide +kernel
theorem dX6_closeDeeds_66 : decode cX6_closeDeeds 66 = .ok (.getfield 37, 3) := by decide +kernel
theorem dX6_closeDeeds_69 : decode cX6_closeDeeds 69 = .ok (.iconst 1, 1) := by decide +kernel
theorem dX6_closeDeeds_70 : decode cX6_closeDeeds 70 = .ok (.iadd, 1) := by decide +kernel
theorem dX6_closeDeeds_71 : decode cX6_closeDeeds 71 = .ok (.putfield 37, 3) := by decide +kernel
theorem dX6_closeDeeds_74 : decode cX6_closeDeeds 74 = .ok (.goto (-74), 3) := by decide +kernel
theorem dX6_closeDeeds_77 : decode cX6_closeDeeds 77 = .ok (.return_, 1) := by decide +kernel
theorem dX6_finishDeed_0 : decode cX6_finishDeed 0 = .ok (.aload_n 0, 1) := by decide +kernel
theorem dX6_finishDeed_1 : decode cX6_finishDeed 1 = .ok (.dup, 1) := by decide +kernel
theorem dX6_finishDeed_2 : decode cX6_finishDeed 2 = .ok (.getfield 40, 3) := by decide +kernel
theorem dX6_finishDeed_5 : decode cX6_finishDeed 5 = .ok (.iconst 1, 1) := by decide +kernel
theorem dX6_finishDeed_6 : decode cX6_finishDeed 6 = .ok (.iadd, 1) := by decide +kernel
theorem dX6_finishDeed_7 : decode cX6_finishDeed 7 = .ok (.putfield 40, 3) := by decide +kernel
theorem dX6_finishDeed_10 : decode cX6_finishDeed 10 = .ok (.aload_n 0, 1) := by decide +kernel
theorem dX6_finishDeed_11 : decode cX6_finishDeed 11 = .ok (.getfield 33, 3) := by decide +kernel
theorem dX6_finishDeed_14 : decode cX6_finishDeed 14 = .ok (.ifCond .le 18, 3) := by decide +kernel
theorem dX6_finishDeed_17 : decode cX6_finishDeed 17 = .ok (.aload_n 0, 1) := by decide +kernel
theorem dX6_finishDeed_18 : decode cX6_finishDeed 18 = .ok (.getfield 18, 3) := by decide +kernel
theorem dX6_finishDeed_21 : decode cX6_finishDeed 21 = .ok (.aload_n 0, 1) := by decide +kernel
theorem dX6_finishDeed_22 : decode cX6_finishDeed 22 = .ok (.getfield 33, 3) := by decide +kernel
theorem dX6_finishDeed_25 : decode cX6_finishDeed 25 = .ok (.iconst 1, 1) := by decide +kernel
theorem dX6_finishDeed_26 : decode cX6_finishDeed 26 = .ok (.isub, 1) := by decide +kernel
theorem dX6_finishDeed_27 : decode cX6_finishDeed 27 = .ok (.dup2, 1) := by decide +kernel
theorem dX6_finishDeed_28 : decode cX6_finishDeed 28 = .ok (.iaload, 1) := by decide +kernel
theorem dX6_finishDeed_29 : decode cX6_finishDeed 29 = .ok (.iconst 1, 1) := by decide +kernel
theorem dX6_finishDeed_30 : decode cX6_finishDeed 30 = .ok (.iadd, 1) := by decide +kernel
theorem dX6_finishDeed_31 : decode cX6_finishDeed 31 = .ok (.iastore, 1) := by decide +kernel
theorem dX6_finishDeed_32 : decode cX6_finishDeed 32 = .ok (.aload_n 0, 1) := by decide +kernel
theorem dX6_finishDeed_33 : decode cX6_finishDeed 33 = .ok (.getfield 29, 3) := by decide +kernel
theorem dX6_finishDeed_36 : decode cX6_finishDeed 36 = .ok (.ifCond .eq 13, 3) := by decide +kernel
theorem dX6_finishDeed_39 : decode cX6_finishDeed 39 = .ok (.aload_n 0, 1) := by decide +kernel
theorem dX6_finishDeed_40 : decode cX6_finishDeed 40 = .ok (.getfield 21, 3) := by decide +kernel
theorem dX6_finishDeed_43 : decode cX6_finishDeed 43 = .ok (.iload_n 1, 1) := by decide +kernel
theorem dX6_finishDeed_44 : decode cX6_finishDeed 44 = .ok (.iload_n 2, 1) := by decide +kernel
theorem dX6_finishDeed_45 : decode cX6_finishDeed 45 = .ok (.iload_n 3, 1) := by decide +kernel
theorem dX6_finishDeed_46 : decode cX6_finishDeed 46 = .ok (.invokevirtual 101, 3) := by decide +kernel
theorem dX6_finishDeed_49 : decode cX6_finishDeed 49 = .ok (.return_, 1) := by decide +kernel
theorem dX7_init_0 : decode cX7_init 0 = .ok (.aload_n 0, 1) := by decide +kernel
theorem dX7_init_1 : decode cX7_init 1 = .ok (.invokespecial 1, 3) := by decide +kernel
theorem dX7_init_4 : decode cX7_init 4 = .ok (.aload_n 0, 1) := by decide +kernel
theorem dX7_init_5 : decode cX7_init 5 = .ok (.aload_n 1, 1) := by decide +kernel
theorem dX7_init_6 : decode cX7_init 6 = .ok (.putfield 7, 3) := by decide +kernel
theorem dX7_init_9 : decode cX7_init 9 = .ok (.return_, 1) := by decide +kernel
theorem dX7_enter_0 : decode cX7_enter 0 = .ok (.return_, 1) := by decide +kernel
theorem dX7_choose_0 : decode cX7_choose 0 = .ok (.aload_n 0, 1) := by decide +kernel
theorem dX7_choose_1 : decode cX7_choose 1 = .ok (.getfield 7, 3) := by decide +kernel
theorem dX7_choose_4 : decode cX7_choose 4 = .ok (.iload_n 2, 1) := by decide +kernel
theorem dX7_choose_5 : decode cX7_choose 5 = .ok (.iload_n 3, 1) := by decide +kernel
theorem dX7_choose_6 : decode cX7_choose 6 = .ok (.invokevirtual 13, 3) := by decide +kernel
theorem dX7_choose_9 : decode cX7_choose 9 = .ok (.ireturn, 1) := by decide +kernel
theorem dX7_takeUp_0 : decode cX7_takeUp 0 = .ok (.return_, 1) := by decide +kernel
theorem dX7_leave_0 : decode cX7_leave 0 = .ok (.return_, 1) := by decide +kernel
theorem dX8_init_0 : decode cX8_init 0 = .ok (.aload_n 0, 1) := by decide +kernel
theorem dX8_init_1 : decode cX8_init 1 = .ok (.invokespecial 3, 3) := by decide +kernel
theorem dX8_init_4 : decode cX8_init 4 = .ok (.aload_n 0, 1) := by decide +kernel
theorem dX8_init_5 : decode cX8_init 5 = .ok (.sipush 1502, 3) := by decide +kernel
theorem dX8_init_8 : decode cX8_init 8 = .ok (.newarray .int, 2) := by decide +kernel
theorem dX8_init_10 : decode cX8_init 10 = .ok (.putfield 9, 3) := by decide +kernel
theorem dX8_init_13 : decode cX8_init 13 = .ok (.aload_n 0, 1) := by decide +kernel
theorem dX8_init_14 : decode cX8_init 14 = .ok (.sipush 1502, 3) := by decide +kernel
theorem dX8_init_17 : decode cX8_init 17 = .ok (.newarray .int, 2) := by decide +kernel
theorem dX8_init_19 : decode cX8_init 19 = .ok (.putfield 15, 3) := by decide +kernel
theorem dX8_init_22 : decode cX8_init 22 = .ok (.aload_n 0, 1) := by decide +kernel
theorem dX8_init_23 : decode cX8_init 23 = .ok (.sipush 1502, 3) := by decide +kernel
theorem dX8_init_26 : decode cX8_init 26 = .ok (.newarray .int, 2) := by decide +kernel
theorem dX8_init_28 : decode cX8_init 28 = .ok (.putfield 18, 3) := by decide +kernel
theorem dX8_init_31 : decode cX8_init 31 = .ok (.aload_n 0, 1) := by decide +kernel
theorem dX8_init_32 : decode cX8_init 32 = .ok (.iconst 0, 1) := by decide +kernel
theorem dX8_init_33 : decode cX8_init 33 = .ok (.putfield 21, 3) := by decide +kernel
theorem dX8_init_36 : decode cX8_init 36 = .ok (.aload_n 0, 1) := by decide +kernel
theorem dX8_init_37 : decode cX8_init 37 = .ok (.bipush 100, 2) := by decide +kernel
theorem dX8_init_39 : decode cX8_init 39 = .ok (.putfield 25, 3) := by decide +kernel
theorem dX8_init_42 : decode cX8_init 42 = .ok (.aload_n 0, 1) := by decide +kernel
theorem dX8_init_43 : decode cX8_init 43 = .ok (.aload_n 1, 1) := by decide +kernel
theorem dX8_init_44 : decode cX8_init 44 = .ok (.putfield 28, 3) := by decide +kernel
theorem dX8_init_47 : decode cX8_init 47 = .ok (.aload_n 0, 1) := by decide +kernel
theorem dX8_init_48 : decode cX8_init 48 = .ok (.aload_n 2, 1) := by decide +kernel
theorem dX8_init_49 : decode cX8_init 49 = .ok (.putfield 32, 3) := by decide +kernel
theorem dX8_init_52 : decode cX8_init 52 = .ok (.return_, 1) := by decide +kernel
theorem dX8_refuse_0 : decode cX8_refuse 0 = .ok (.aload_n 0, 1) := by decide +kernel
theorem dX8_refuse_1 : decode cX8_refuse 1 = .ok (.bipush (-2), 2) := by decide +kernel
theorem dX8_refuse_3 : decode cX8_refuse 3 = .ok (.putfield 36, 3) := by decide +kernel
theorem dX8_refuse_6 : decode cX8_refuse 6 = .ok (.bipush (-2), 2) := by decide +kernel
theorem dX8_refuse_8 : decode cX8_refuse 8 = .ok (.ireturn, 1) := by decide +kernel
theorem dX8_go_0 : decode cX8_go 0 = .ok (.aload_n 0, 1) := by decide +kernel
theorem dX8_go_1 : decode cX8_go 1 = .ok (.getfield 28, 3) := by decide +kernel
theorem dX8_go_4 : decode cX8_go 4 = .ok (.iload_n 2, 1) := by decide +kernel
theorem dX8_go_5 : decode cX8_go 5 = .ok (.invokevirtual 39, 3) := by decide +kernel
theorem dX8_go_8 : decode cX8_go 8 = .ok (.ifCond .ne 8, 3) := by decide +kernel
theorem dX8_go_11 : decode cX8_go 11 = .ok (.aload_n 0, 1) := by decide +kernel
theorem dX8_go_12 : decode cX8_go 12 = .ok (.invokevirtual 45, 3) := by decide +kernel
theorem dX8_go_15 : decode cX8_go 15 = .ok (.ireturn, 1) := by decide +kernel
theorem dX8_go_16 : decode cX8_go 16 = .ok (.aload_n 0, 1) := by decide +kernel
theorem dX8_go_17 : decode cX8_go 17 = .ok (.aload_n 1, 1) := by decide +kernel
theorem dX8_go_18 : decode cX8_go 18 = .ok (.putfield 32, 3) := by decide +kernel
theorem dX8_go_21 : decode cX8_go 21 = .ok (.aload_n 0, 1) := by decide +kernel
theorem dX8_go_22 : decode cX8_go 22 = .ok (.getfield 32, 3) := by decide +kernel
theorem dX8_go_25 : decode cX8_go 25 = .ok (.iconst 0, 1) := by decide +kernel
theorem dX8_go_26 : decode cX8_go 26 = .ok (.putfield 49, 3) := by decide +kernel
theorem dX8_go_29 : decode cX8_go 29 = .ok (.aload_n 0, 1) := by decide +kernel
theorem dX8_go_30 : decode cX8_go 30 = .ok (.iconst 0, 1) := by decide +kernel
theorem dX8_go_31 : decode cX8_go 31 = .ok (.putfield 36, 3) := by decide +kernel
theorem dX8_go_34 : decode cX8_go 34 = .ok (.aload_n 0, 1) := by decide +kernel
theorem dX8_go_35 : decode cX8_go 35 = .ok (.iconst 0, 1) := by decide +kernel
theorem dX8_go_36 : decode cX8_go 36 = .ok (.putfield 55, 3) := by decide +kernel
theorem dX8_go_39 : decode cX8_go 39 = .ok (.aload_n 0, 1) := by decide +kernel
theorem dX8_go_40 : decode cX8_go 40 = .ok (.iconst 0, 1) := by decide +kernel
theorem dX8_go_41 : decode cX8_go 41 = .ok (.putfield 58, 3) := by decide +kernel
theorem dX8_go_44 : decode cX8_go 44 = .ok (.aload_n 0, 1) := by decide +kernel
theorem dX8_go_45 : decode cX8_go 45 = .ok (.aload_n 0, 1) := by decide +kernel
theorem dX8_go_46 : decode cX8_go 46 = .ok (.getfield 21, 3) := by decide +kernel
theorem dX8_go_49 : decode cX8_go 49 = .ok (.ifCond .ne 10, 3) := by decide +kernel
theorem dX8_go_52 : decode cX8_go 52 = .ok (.aload_n 0, 1) := by decide +kernel
theorem dX8_go_53 : decode cX8_go 53 = .ok (.getfield 25, 3) := by decide +kernel
theorem dX8_go_56 : decode cX8_go 56 = .ok (.goto 6, 3) := by decide +kernel
theorem dX8_go_59 : decode cX8_go 59 = .ok (.sipush 1500, 3) := by decide +kernel
theorem dX8_go_62 : decode cX8_go 62 = .ok (.putfield 61, 3) := by decide +kernel
theorem dX8_go_65 : decode cX8_go 65 = .ok (.aload_n 0, 1) := by decide +kernel
theorem dX8_go_66 : decode cX8_go 66 = .ok (.iconst 1, 1) := by decide +kernel
theorem dX8_go_67 : decode cX8_go 67 = .ok (.iload_n 2, 1) := by decide +kernel
theorem dX8_go_68 : decode cX8_go 68 = .ok (.invokevirtual 64, 3) := by decide +kernel
theorem dX8_go_71 : decode cX8_go 71 = .ok (.ifCond .eq 49, 3) := by decide +kernel
theorem dX8_go_74 : decode cX8_go 74 = .ok (.aload_n 0, 1) := by decide +kernel
theorem dX8_go_75 : decode cX8_go 75 = .ok (.getfield 21, 3) := by decide +kernel
theorem dX8_go_78 : decode cX8_go 78 = .ok (.iconst 1, 1) := by decide +kernel
theorem dX8_go_79 : decode cX8_go 79 = .ok (.if_icmp .ne 11, 3) := by decide +kernel
theorem dX8_go_82 : decode cX8_go 82 = .ok (.aload_n 0, 1) := by decide +kernel
theorem dX8_go_83 : decode cX8_go 83 = .ok (.iconst 1, 1) := by decide +kernel
theorem dX8_go_84 : decode cX8_go 84 = .ok (.invokevirtual 68, 3) := by decide +kernel
theorem dX8_go_87 : decode cX8_go 87 = .ok (.goto 33, 3) := by decide +kernel
theorem dX8_go_90 : decode cX8_go 90 = .ok (.aload_n 0, 1) := by decide +kernel
theorem dX8_go_91 : decode cX8_go 91 = .ok (.getfield 21, 3) := by decide +kernel
theorem dX8_go_94 : decode cX8_go 94 = .ok (.iconst 2, 1) := by decide +kernel
theorem dX8_go_95 : decode cX8_go 95 = .ok (.if_icmp .ne 10, 3) := by decide +kernel
theorem dX8_go_98 : decode cX8_go 98 = .ok (.aload_n 0, 1) := by decide +kernel
theorem dX8_go_99 : decode cX8_go 99 = .ok (.invokevirtual 72, 3) := by decide +kernel
theorem dX8_go_102 : decode cX8_go 102 = .ok (.goto 18, 3) := by decide +kernel
theorem dX8_go_105 : decode cX8_go 105 = .ok (.aload_n 0, 1) := by decide +kernel
theorem dX8_go_106 : decode cX8_go 106 = .ok (.iconst 1, 1) := by decide +kernel
theorem dX8_go_107 : decode cX8_go 107 = .ok (.aload_n 0, 1) := by decide +kernel
theorem dX8_go_108 : decode cX8_go 108 = .ok (.getfield 25, 3) := by decide +kernel
theorem dX8_go_111 : decode cX8_go 111 = .ok (.sipush 250, 3) := by decide +kernel
theorem dX8_go_114 : decode cX8_go 114 = .ok (.invokestatic 75, 3) := by decide +kernel
theorem dX8_go_117 : decode cX8_go 117 = .ok (.invokevirtual 81, 3) := by decide +kernel
theorem dX8_go_120 : decode cX8_go 120 = .ok (.aload_n 0, 1) := by decide +kernel
theorem dX8_go_121 : decode cX8_go 121 = .ok (.getfield 21, 3) := by decide +kernel
theorem dX8_go_124 : decode cX8_go 124 = .ok (.ifCond .eq 11, 3) := by decide +kernel
theorem dX8_go_127 : decode cX8_go 127 = .ok (.aload_n 0, 1) := by decide +kernel
theorem dX8_go_128 : decode cX8_go 128 = .ok (.getfield 21, 3) := by decide +kernel
theorem dX8_go_131 : decode cX8_go 131 = .ok (.iconst 3, 1) := by decide +kernel
theorem dX8_go_132 : decode cX8_go 132 = .ok (.if_icmp .ne 7, 3) := by decide +kernel
theorem dX8_go_135 : decode cX8_go 135 = .ok (.iconst 1, 1) := by decide +kernel
theorem dX8_go_136 : decode cX8_go 136 = .ok (.goto 4, 3) := by decide +kernel
theorem dX8_go_139 : decode cX8_go 139 = .ok (.iconst 0, 1) := by decide +kernel
theorem dX8_go_140 : decode cX8_go 140 = .ok (.istore_n 3, 1) := by decide +kernel
theorem dX8_go_141 : decode cX8_go 141 = .ok (.aload_n 0, 1) := by decide +kernel
theorem dX8_go_142 : decode cX8_go 142 = .ok (.iload_n 3, 1) := by decide +kernel
theorem dX8_go_143 : decode cX8_go 143 = .ok (.ifCond .eq 17, 3) := by decide +kernel
theorem dX8_go_146 : decode cX8_go 146 = .ok (.aload_n 0, 1) := by decide +kernel
theorem dX8_go_147 : decode cX8_go 147 = .ok (.getfield 58, 3) := by decide +kernel
theorem dX8_go_150 : decode cX8_go 150 = .ok (.aload_n 0, 1) := by decide +kernel
theorem dX8_go_151 : decode cX8_go 151 = .ok (.getfield 25, 3) := by decide +kernel
theorem dX8_go_154 : decode cX8_go 154 = .ok (.invokestatic 75, 3) := by decide +kernel
theorem dX8_go_157 : decode cX8_go 157 = .ok (.goto 4, 3) := by decide +kernel
theorem dX8_go_160 : decode cX8_go 160 = .ok (.iconst 0, 1) := by decide +kernel
theorem dX8_go_161 : decode cX8_go 161 = .ok (.putfield 85, 3) := by decide +kernel
theorem dX8_go_164 : decode cX8_go 164 = .ok (.aload_n 0, 1) := by decide +kernel
theorem dX8_go_165 : decode cX8_go 165 = .ok (.getfield 36, 3) := by decide +kernel
theorem dX8_go_168 : decode cX8_go 168 = .ok (.ireturn, 1) := by decide +kernel
theorem dX8_widestDepth_0 : decode cX8_widestDepth 0 = .ok (.iconst 1, 1) := by decide +kernel
theorem dX8_widestDepth_1 : decode cX8_widestDepth 1 = .ok (.istore_n 1, 1) := by decide +kernel
theorem dX8_widestDepth_2 : decode cX8_widestDepth 2 = .ok (.iconst 2, 1) := by decide +kernel
theorem dX8_widestDepth_3 : decode cX8_widestDepth 3 = .ok (.istore_n 2, 1) := by decide +kernel
theorem dX8_widestDepth_4 : decode cX8_widestDepth 4 = .ok (.iload_n 2, 1) := by decide +kernel
theorem dX8_widestDepth_5 : decode cX8_widestDepth 5 = .ok (.aload_n 0, 1) := by decide +kernel
theorem dX8_widestDepth_6 : decode cX8_widestDepth 6 = .ok (.getfield 58, 3) := by decide +kernel
theorem dX8_widestDepth_9 : decode cX8_widestDepth 9 = .ok (.if_icmp .gt 26, 3) := by decide +kernel
theorem dX8_widestDepth_12 : decode cX8_widestDepth 12 = .ok (.aload_n 0, 1) := by decide +kernel
theorem dX8_widestDepth_13 : decode cX8_widestDepth 13 = .ok (.getfield 18, 3) := by decide +kernel
theorem dX8_widestDepth_16 : decode cX8_widestDepth 16 = .ok (.iload_n 2, 1) := by decide +kernel
theorem dX8_widestDepth_17 : decode cX8_widestDepth 17 = .ok (.iaload, 1) := by decide +kernel
theorem dX8_widestDepth_18 : decode cX8_widestDepth 18 = .ok (.aload_n 0, 1) := by decide +kernel
theorem dX8_widestDepth_19 : decode cX8_widestDepth 19 = .ok (.getfield 18, 3) := by decide +kernel
theorem dX8_widestDepth_22 : decode cX8_widestDepth 22 = .ok (.iload_n 1, 1) := by decide +kernel
theorem dX8_widestDepth_23 : decode cX8_widestDepth 23 = .ok (.iaload, 1) := by decide +kernel
theorem dX8_widestDepth_24 : decode cX8_widestDepth 24 = .ok (.if_icmp .le 5, 3) := by decide +kernel
theorem dX8_widestDepth_27 : decode cX8_widestDepth 27 = .ok (.iload_n 2, 1) := by decide +kernel
theorem dX8_widestDepth_28 : decode cX8_widestDepth 28 = .ok (.istore_n 1, 1) := by decide +kernel
theorem dX8_widestDepth_29 : decode cX8_widestDepth 29 = .ok (.iinc 2 1, 3) := by decide +kernel
theorem dX8_widestDepth_32 : decode cX8_widestDepth 32 = .ok (.goto (-28), 3) := by decide +kernel
theorem dX8_widestDepth_35 : decode cX8_widestDepth 35 = .ok (.iload_n 1, 1) := by decide +kernel
theorem dX8_widestDepth_36 : decode cX8_widestDepth 36 = .ok (.ireturn, 1) := by decide +kernel
theorem dX8_visit_0 : decode cX8_visit 0 = .ok (.aload_n 0, 1) := by decide +kernel
theorem dX8_visit_1 : decode cX8_visit 1 = .ok (.getfield 55, 3) := by decide +kernel
theorem dX8_visit_4 : decode cX8_visit 4 = .ok (.sipush 20000, 3) := by decide +kernel
theorem dX8_visit_7 : decode cX8_visit 7 = .ok (.if_icmp .ne 10, 3) := by decide +kernel
theorem dX8_visit_10 : decode cX8_visit 10 = .ok (.aload_n 0, 1) := by decide +kernel
theorem dX8_visit_11 : decode cX8_visit 11 = .ok (.bipush (-5), 2) := by decide +kernel
theorem dX8_visit_13 : decode cX8_visit 13 = .ok (.invokevirtual 88, 3) := by decide +kernel
theorem dX8_visit_16 : decode cX8_visit 16 = .ok (.ireturn, 1) := by decide +kernel
theorem dX8_visit_17 : decode cX8_visit 17 = .ok (.iload_n 1, 1) := by decide +kernel
theorem dX8_visit_18 : decode cX8_visit 18 = .ok (.aload_n 0, 1) := by decide +kernel
theorem dX8_visit_19 : decode cX8_visit 19 = .ok (.getfield 61, 3) := by decide +kernel
theorem dX8_visit_22 : decode cX8_visit 22 = .ok (.if_icmp .le 10, 3) := by decide +kernel
theorem dX8_visit_25 : decode cX8_visit 25 = .ok (.aload_n 0, 1) := by decide +kernel
theorem dX8_visit_26 : decode cX8_visit 26 = .ok (.bipush (-6), 2) := by decide +kernel
theorem dX8_visit_28 : decode cX8_visit 28 = .ok (.invokevirtual 88, 3) := by decide +kernel
theorem dX8_visit_31 : decode cX8_visit 31 = .ok (.ireturn, 1) := by decide +kernel
theorem dX8_visit_32 : decode cX8_visit 32 = .ok (.aload_n 0, 1) := by decide +kernel
theorem dX8_visit_33 : decode cX8_visit 33 = .ok (.dup, 1) := by decide +kernel
theorem dX8_visit_34 : decode cX8_visit 34 = .ok (.getfield 55, 3) := by decide +kernel
theorem dX8_visit_37 : decode cX8_visit 37 = .ok (.iconst 1, 1) := by decide +kernel
theorem dX8_visit_38 : decode cX8_visit 38 = .ok (.iadd, 1) := by decide +kernel
theorem dX8_visit_39 : decode cX8_visit 39 = .ok (.putfield 55, 3) := by decide +kernel
theorem dX8_visit_42 : decode cX8_visit 42 = .ok (.iload_n 1, 1) := by decide +kernel
theorem dX8_visit_43 : decode cX8_visit 43 = .ok (.aload_n 0, 1) := by decide +kernel
theorem dX8_visit_44 : decode cX8_visit 44 = .ok (.getfield 58, 3) := by decide +kernel
theorem dX8_visit_47 : decode cX8_visit 47 = .ok (.if_icmp .le 15, 3) := by decide +kernel
theorem dX8_visit_50 : decode cX8_visit 50 = .ok (.aload_n 0, 1) := by decide +kernel
theorem dX8_visit_51 : decode cX8_visit 51 = .ok (.iload_n 1, 1) := by decide +kernel
theorem dX8_visit_52 : decode cX8_visit 52 = .ok (.putfield 58, 3) := by decide +kernel
theorem dX8_visit_55 : decode cX8_visit 55 = .ok (.aload_n 0, 1) := by decide +kernel
theorem dX8_visit_56 : decode cX8_visit 56 = .ok (.getfield 18, 3) := by decide +kernel
theorem dX8_visit_59 : decode cX8_visit 59 = .ok (.iload_n 1, 1) := by decide +kernel
theorem dX8_visit_60 : decode cX8_visit 60 = .ok (.iconst 0, 1) := by decide +kernel
theorem dX8_visit_61 : decode cX8_visit 61 = .ok (.iastore, 1) := by decide +kernel
theorem dX8_visit_62 : decode cX8_visit 62 = .ok (.aload_n 0, 1) := by decide +kernel
theorem dX8_visit_63 : decode cX8_visit 63 = .ok (.getfield 18, 3) := by decide +kernel
theorem dX8_visit_66 : decode cX8_visit 66 = .ok (.iload_n 1, 1) := by decide +kernel
theorem dX8_visit_67 : decode cX8_visit 67 = .ok (.dup2, 1) := by decide +kernel
theorem dX8_visit_68 : decode cX8_visit 68 = .ok (.iaload, 1) := by decide +kernel
theorem dX8_visit_69 : decode cX8_visit 69 = .ok (.iconst 1, 1) := by decide +kernel
theorem dX8_visit_70 : decode cX8_visit 70 = .ok (.iadd, 1) := by decide +kernel
theorem dX8_visit_71 : decode cX8_visit 71 = .ok (.iastore, 1) := by decide +kernel
theorem dX8_visit_72 : decode cX8_visit 72 = .ok (.aload_n 0, 1) := by decide +kernel
theorem dX8_visit_73 : decode cX8_visit 73 = .ok (.getfield 9, 3) := by decide +kernel
theorem dX8_visit_76 : decode cX8_visit 76 = .ok (.iload_n 1, 1) := by decide +kernel
theorem dX8_visit_77 : decode cX8_visit 77 = .ok (.iload_n 2, 1) := by decide +kernel
theorem dX8_visit_78 : decode cX8_visit 78 = .ok (.iastore, 1) := by decide +kernel
theorem dX8_visit_79 : decode cX8_visit 79 = .ok (.aload_n 0, 1) := by decide +kernel
theorem dX8_visit_80 : decode cX8_visit 80 = .ok (.getfield 15, 3) := by decide +kernel
theorem dX8_visit_83 : decode cX8_visit 83 = .ok (.iload_n 1, 1) := by decide +kernel
theorem dX8_visit_84 : decode cX8_visit 84 = .ok (.iconst 0, 1) := by decide +kernel
theorem dX8_visit_85 : decode cX8_visit 85 = .ok (.iastore, 1) := by decide +kernel
theorem dX8_visit_86 : decode cX8_visit 86 = .ok (.aload_n 0, 1) := by decide +kernel
theorem dX8_visit_87 : decode cX8_visit 87 = .ok (.getfield 32, 3) := by decide +kernel
theorem dX8_visit_90 : decode cX8_visit 90 = .ok (.iload_n 1, 1) := by decide +kernel
theorem dX8_visit_91 : decode cX8_visit 91 = .ok (.iload_n 2, 1) := by decide +kernel
theorem dX8_visit_92 : decode cX8_visit 92 = .ok (.invokevirtual 91, 3) := by decide +kernel
theorem dX8_visit_95 : decode cX8_visit 95 = .ok (.aload_n 0, 1) := by decide +kernel
theorem dX8_visit_96 : decode cX8_visit 96 = .ok (.getfield 32, 3) := by decide +kernel
theorem dX8_visit_99 : decode cX8_visit 99 = .ok (.getfield 49, 3) := by decide +kernel
theorem dX8_visit_102 : decode cX8_visit 102 = .ok (.ifCond .ne 7, 3) := by decide +kernel
theorem dX8_visit_105 : decode cX8_visit 105 = .ok (.iconst 1, 1) := by decide +kernel
theorem dX8_visit_106 : decode cX8_visit 106 = .ok (.goto 4, 3) := by decide +kernel
theorem dX8_visit_109 : decode cX8_visit 109 = .ok (.iconst 0, 1) := by decide +kernel
theorem dX8_visit_110 : decode cX8_visit 110 = .ok (.ireturn, 1) := by decide +kernel
theorem dX8_halt_0 : decode cX8_halt 0 = .ok (.aload_n 0, 1) := by decide +kernel
theorem dX8_halt_1 : decode cX8_halt 1 = .ok (.iload_n 1, 1) := by decide +kernel
theorem dX8_halt_2 : decode cX8_halt 2 = .ok (.putfield 36, 3) := by decide +kernel
theorem dX8_halt_5 : decode cX8_halt 5 = .ok (.aload_n 0, 1) := by decide +kernel
theorem dX8_halt_6 : decode cX8_halt 6 = .ok (.getfield 32, 3) := by decide +kernel
theorem dX8_halt_9 : decode cX8_halt 9 = .ok (.iconst 1, 1) := by decide +kernel
theorem dX8_halt_10 : decode cX8_halt 10 = .ok (.putfield 49, 3) := by decide +kernel
theorem dX8_halt_13 : decode cX8_halt 13 = .ok (.iconst 0, 1) := by decide +kernel
theorem dX8_halt_14 : decode cX8_halt 14 = .ok (.ireturn, 1) := by decide +kernel
theorem dX8_nextPart_0 : decode cX8_nextPart 0 = .ok (.aload_n 0, 1) := by decide +kernel
theorem dX8_nextPart_1 : decode cX8_nextPart 1 = .ok (.getfield 9, 3) := by decide +kernel
theorem dX8_nextPart_4 : decode cX8_nextPart 4 = .ok (.iload_n 1, 1) := by decide +kernel
theorem dX8_nextPart_5 : decode cX8_nextPart 5 = .ok (.iaload, 1) := by decide +kernel
theorem dX8_nextPart_6 : decode cX8_nextPart 6 = .ok (.istore_n 2, 1) := by decide +kernel
theorem dX8_nextPart_7 : decode cX8_nextPart 7 = .ok (.aload_n 0, 1) := by decide +kernel
theorem dX8_nextPart_8 : decode cX8_nextPart 8 = .ok (.getfield 15, 3) := by decide +kernel
theorem dX8_nextPart_11 : decode cX8_nextPart 11 = .ok (.iload_n 1, 1) := by decide +kernel
theorem dX8_nextPart_12 : decode cX8_nextPart 12 = .ok (.iaload, 1) := by decide +kernel
theorem dX8_nextPart_13 : decode cX8_nextPart 13 = .ok (.istore_n 3, 1) := by decide +kernel
theorem dX8_nextPart_14 : decode cX8_nextPart 14 = .ok (.iload_n 3, 1) := by decide +kernel
theorem dX8_nextPart_15 : decode cX8_nextPart 15 = .ok (.aload_n 0, 1) := by decide +kernel
theorem dX8_nextPart_16 : decode cX8_nextPart 16 = .ok (.getfield 28, 3) := by decide +kernel
theorem dX8_nextPart_19 : decode cX8_nextPart 19 = .ok (.iload_n 2, 1) := by decide +kernel
theorem dX8_nextPart_20 : decode cX8_nextPart 20 = .ok (.invokevirtual 94, 3) := by decide +kernel
theorem dX8_nextPart_23 : decode cX8_nextPart 23 = .ok (.if_icmp .lt 5, 3) := by decide +kernel
theorem dX8_nextPart_26 : decode cX8_nextPart 26 = .ok (.iconst (-1), 1) := by decide +kernel
theorem dX8_nextPart_27 : decode cX8_nextPart 27 = .ok (.ireturn, 1) := by decide +kernel
theorem dX8_nextPart_28 : decode cX8_nextPart 28 = .ok (.aload_n 0, 1) := by decide +kernel
theorem dX8_nextPart_29 : decode cX8_nextPart 29 = .ok (.getfield 15, 3) := by decide +kernel
theorem dX8_nextPart_32 : decode cX8_nextPart 32 = .ok (.iload_n 1, 1) := by decide +kernel
theorem dX8_nextPart_33 : decode cX8_nextPart 33 = .ok (.iload_n 3, 1) := by decide +kernel
theorem dX8_nextPart_34 : decode cX8_nextPart 34 = .ok (.iconst 1, 1) := by decide +kernel
theorem dX8_nextPart_35 : decode cX8_nextPart 35 = .ok (.iadd, 1) := by decide +kernel
theorem dX8_nextPart_36 : decode cX8_nextPart 36 = .ok (.iastore, 1) := by decide +kernel
theorem dX8_nextPart_37 : decode cX8_nextPart 37 = .ok (.aload_n 0, 1) := by decide +kernel
theorem dX8_nextPart_38 : decode cX8_nextPart 38 = .ok (.getfield 32, 3) := by decide +kernel
theorem dX8_nextPart_41 : decode cX8_nextPart 41 = .ok (.iload_n 1, 1) := by decide +kernel
theorem dX8_nextPart_42 : decode cX8_nextPart 42 = .ok (.iload_n 2, 1) := by decide +kernel
theorem dX8_nextPart_43 : decode cX8_nextPart 43 = .ok (.iload_n 3, 1) := by decide +kernel
theorem dX8_nextPart_44 : decode cX8_nextPart 44 = .ok (.invokevirtual 98, 3) := by decide +kernel
theorem dX8_nextPart_47 : decode cX8_nextPart 47 = .ok (.ireturn, 1) := by decide +kernel
theorem dX8_byCalls_0 : decode cX8_byCalls 0 = .ok (.iconst 0, 1) := by decide +kernel
theorem dX8_byCalls_1 : decode cX8_byCalls 1 = .ok (.istore_n 3, 1) := by decide +kernel
theorem dX8_byCalls_2 : decode cX8_byCalls 2 = .ok (.iload_n 3, 1) := by decide +kernel
theorem dX8_byCalls_3 : decode cX8_byCalls 3 = .ok (.sipush 4000, 3) := by decide +kernel
theorem dX8_byCalls_6 : decode cX8_byCalls 6 = .ok (.if_icmp .ge 94, 3) := by decide +kernel
theorem dX8_byCalls_9 : decode cX8_byCalls 9 = .ok (.aload_n 0, 1) := by decide +kernel
theorem dX8_byCalls_10 : decode cX8_byCalls 10 = .ok (.iload_n 1, 1) := by decide +kernel
theorem dX8_byCalls_11 : decode cX8_byCalls 11 = .ok (.invokevirtual 102, 3) := by decide +kernel
theorem dX8_byCalls_14 : decode cX8_byCalls 14 = .ok (.istore 4, 2) := by decide +kernel
theorem dX8_byCalls_16 : decode cX8_byCalls 16 = .ok (.iload 4, 2) := by decide +kernel
theorem dX8_byCalls_18 : decode cX8_byCalls 18 = .ok (.iconst (-1), 1) := by decide +kernel
theorem dX8_byCalls_19 : decode cX8_byCalls 19 = .ok (.if_icmp .ne 6, 3) := by decide +kernel
theorem dX8_byCalls_22 : decode cX8_byCalls 22 = .ok (.goto 78, 3) := by decide +kernel
theorem dX8_byCalls_25 : decode cX8_byCalls 25 = .ok (.aload_n 0, 1) := by decide +kernel
theorem dX8_byCalls_26 : decode cX8_byCalls 26 = .ok (.iload_n 1, 1) := by decide +kernel
theorem dX8_byCalls_27 : decode cX8_byCalls 27 = .ok (.iconst 1, 1) := by decide +kernel
theorem dX8_byCalls_28 : decode cX8_byCalls 28 = .ok (.iadd, 1) := by decide +kernel
theorem dX8_byCalls_29 : decode cX8_byCalls 29 = .ok (.iload 4, 2) := by decide +kernel
theorem dX8_byCalls_31 : decode cX8_byCalls 31 = .ok (.invokevirtual 64, 3) := by decide +kernel
theorem dX8_byCalls_34 : decode cX8_byCalls 34 = .ok (.ifCond .ne 4, 3) := by decide +kernel
theorem dX8_byCalls_37 : decode cX8_byCalls 37 = .ok (.return_, 1) := by decide +kernel
theorem dX8_byCalls_38 : decode cX8_byCalls 38 = .ok (.iload_n 1, 1) := by decide +kernel
theorem dX8_byCalls_39 : decode cX8_byCalls 39 = .ok (.iload_n 2, 1) := by decide +kernel
theorem dX8_byCalls_40 : decode cX8_byCalls 40 = .ok (.if_icmp .ge 14, 3) := by decide +kernel
theorem dX8_byCalls_43 : decode cX8_byCalls 43 = .ok (.aload_n 0, 1) := by decide +kernel
theorem dX8_byCalls_44 : decode cX8_byCalls 44 = .ok (.iload_n 1, 1) := by decide +kernel
theorem dX8_byCalls_45 : decode cX8_byCalls 45 = .ok (.iconst 1, 1) := by decide +kernel
theorem dX8_byCalls_46 : decode cX8_byCalls 46 = .ok (.iadd, 1) := by decide +kernel
theorem dX8_byCalls_47 : decode cX8_byCalls 47 = .ok (.iload_n 2, 1) := by decide +kernel
theorem dX8_byCalls_48 : decode cX8_byCalls 48 = .ok (.invokevirtual 81, 3) := by decide +kernel
theorem dX8_byCalls_51 : decode cX8_byCalls 51 = .ok (.goto 10, 3) := by decide +kernel
theorem dX8_byCalls_54 : decode cX8_byCalls 54 = .ok (.aload_n 0, 1) := by decide +kernel
theorem dX8_byCalls_55 : decode cX8_byCalls 55 = .ok (.iload_n 1, 1) := by decide +kernel
theorem dX8_byCalls_56 : decode cX8_byCalls 56 = .ok (.iconst 1, 1) := by decide +kernel
theorem dX8_byCalls_57 : decode cX8_byCalls 57 = .ok (.iadd, 1) := by decide +kernel
theorem dX8_byCalls_58 : decode cX8_byCalls 58 = .ok (.invokevirtual 68, 3) := by decide +kernel
theorem dX8_byCalls_61 : decode cX8_byCalls 61 = .ok (.aload_n 0, 1) := by decide +kernel
theorem dX8_byCalls_62 : decode cX8_byCalls 62 = .ok (.getfield 32, 3) := by decide +kernel
theorem dX8_byCalls_65 : decode cX8_byCalls 65 = .ok (.getfield 49, 3) := by decide +kernel
theorem dX8_byCalls_68 : decode cX8_byCalls 68 = .ok (.ifCond .eq 4, 3) := by decide +kernel
theorem dX8_byCalls_71 : decode cX8_byCalls 71 = .ok (.return_, 1) := by decide +kernel
theorem dX8_byCalls_72 : decode cX8_byCalls 72 = .ok (.aload_n 0, 1) := by decide +kernel
theorem dX8_byCalls_73 : decode cX8_byCalls 73 = .ok (.getfield 32, 3) := by decide +kernel
theorem dX8_byCalls_76 : decode cX8_byCalls 76 = .ok (.iload_n 1, 1) := by decide +kernel
theorem dX8_byCalls_77 : decode cX8_byCalls 77 = .ok (.aload_n 0, 1) := by decide +kernel
theorem dX8_byCalls_78 : decode cX8_byCalls 78 = .ok (.getfield 9, 3) := by decide +kernel
theorem dX8_byCalls_81 : decode cX8_byCalls 81 = .ok (.iload_n 1, 1) := by decide +kernel
theorem dX8_byCalls_82 : decode cX8_byCalls 82 = .ok (.iaload, 1) := by decide +kernel
theorem dX8_byCalls_83 : decode cX8_byCalls 83 = .ok (.aload_n 0, 1) := by decide +kernel
theorem dX8_byCalls_84 : decode cX8_byCalls 84 = .ok (.getfield 15, 3) := by decide +kernel
theorem dX8_byCalls_87 : decode cX8_byCalls 87 = .ok (.iload_n 1, 1) := by decide +kernel
theorem dX8_byCalls_88 : decode cX8_byCalls 88 = .ok (.iaload, 1) := by decide +kernel
theorem dX8_byCalls_89 : decode cX8_byCalls 89 = .ok (.iconst 1, 1) := by decide +kernel
theorem dX8_byCalls_90 : decode cX8_byCalls 90 = .ok (.isub, 1) := by decide +kernel
theorem dX8_byCalls_91 : decode cX8_byCalls 91 = .ok (.invokevirtual 105, 3) := by decide +kernel
theorem dX8_byCalls_94 : decode cX8_byCalls 94 = .ok (.iinc 3 1, 3) := by decide +kernel
theorem dX8_byCalls_97 : decode cX8_byCalls 97 = .ok (.goto (-95), 3) := by decide +kernel
theorem dX8_byCalls_100 : decode cX8_byCalls 100 = .ok (.aload_n 0, 1) := by decide +kernel
theorem dX8_byCalls_101 : decode cX8_byCalls 101 = .ok (.getfield 32, 3) := by decide +kernel
theorem dX8_byCalls_104 : decode cX8_byCalls 104 = .ok (.iload_n 1, 1) := by decide +kernel
theorem dX8_byCalls_105 : decode cX8_byCalls 105 = .ok (.aload_n 0, 1) := by decide +kernel
theorem dX8_byCalls_106 : decode cX8_byCalls 106 = .ok (.getfield 9, 3) := by decide +kernel
theorem dX8_byCalls_109 : decode cX8_byCalls 109 = .ok (.iload_n 1, 1) := by decide +kernel
theorem dX8_byCalls_110 : decode cX8_byCalls 110 = .ok (.iaload, 1) := by decide +kernel
theorem dX8_byCalls_111 : decode cX8_byCalls 111 = .ok (.invokevirtual 109, 3) := by decide +kernel
theorem dX8_byCalls_114 : decode cX8_byCalls 114 = .ok (.return_, 1) := by decide +kernel
theorem dX8_byStack_0 : decode cX8_byStack 0 = .ok (.iload_n 1, 1) := by decide +kernel
theorem dX8_byStack_1 : decode cX8_byStack 1 = .ok (.istore_n 2, 1) := by decide +kernel
theorem dX8_byStack_2 : decode cX8_byStack 2 = .ok (.iconst 0, 1) := by decide +kernel
theorem dX8_byStack_3 : decode cX8_byStack 3 = .ok (.istore_n 3, 1) := by decide +kernel
theorem dX8_byStack_4 : decode cX8_byStack 4 = .ok (.iload_n 3, 1) := by decide +kernel
theorem dX8_byStack_5 : decode cX8_byStack 5 = .ok (.ldc 112, 2) := by decide +kernel
theorem dX8_byStack_7 : decode cX8_byStack 7 = .ok (.if_icmp .ge 95, 3) := by decide +kernel
theorem dX8_byStack_10 : decode cX8_byStack 10 = .ok (.iload_n 2, 1) := by decide +kernel
theorem dX8_byStack_11 : decode cX8_byStack 11 = .ok (.iload_n 1, 1) := by decide +kernel
theorem dX8_byStack_12 : decode cX8_byStack 12 = .ok (.if_icmp .lt 90, 3) := by decide +kernel
theorem dX8_byStack_15 : decode cX8_byStack 15 = .ok (.aload_n 0, 1) := by decide +kernel
theorem dX8_byStack_16 : decode cX8_byStack 16 = .ok (.getfield 32, 3) := by decide +kernel
theorem dX8_byStack_19 : decode cX8_byStack 19 = .ok (.getfield 49, 3) := by decide +kernel
theorem dX8_byStack_22 : decode cX8_byStack 22 = .ok (.ifCond .ne 80, 3) := by decide +kernel
theorem dX8_byStack_25 : decode cX8_byStack 25 = .ok (.aload_n 0, 1) := by decide +kernel
theorem dX8_byStack_26 : decode cX8_byStack 26 = .ok (.iload_n 2, 1) := by decide +kernel
theorem dX8_byStack_27 : decode cX8_byStack 27 = .ok (.invokevirtual 102, 3) := by decide +kernel
theorem dX8_byStack_30 : decode cX8_byStack 30 = .ok (.istore 4, 2) := by decide +kernel
theorem dX8_byStack_32 : decode cX8_byStack 32 = .ok (.iload 4, 2) := by decide +kernel
theorem dX8_byStack_34 : decode cX8_byStack 34 = .ok (.iconst (-1), 1) := by decide +kernel
theorem dX8_byStack_35 : decode cX8_byStack 35 = .ok (.if_icmp .eq 17, 3) := by decide +kernel
theorem dX8_byStack_38 : decode cX8_byStack 38 = .ok (.iinc 2 1, 3) := by decide +kernel
theorem dX8_byStack_41 : decode cX8_byStack 41 = .ok (.aload_n 0, 1) := by decide +kernel
theorem dX8_byStack_42 : decode cX8_byStack 42 = .ok (.iload_n 2, 1) := by decide +kernel
theorem dX8_byStack_43 : decode cX8_byStack 43 = .ok (.iload 4, 2) := by decide +kernel
theorem dX8_byStack_45 : decode cX8_byStack 45 = .ok (.invokevirtual 64, 3) := by decide +kernel
theorem dX8_byStack_48 : decode cX8_byStack 48 = .ok (.pop, 1) := by decide +kernel
theorem dX8_byStack_49 : decode cX8_byStack 49 = .ok (.goto 47, 3) := by decide +kernel
theorem dX8_byStack_52 : decode cX8_byStack 52 = .ok (.aload_n 0, 1) := by decide +kernel
theorem dX8_byStack_53 : decode cX8_byStack 53 = .ok (.getfield 32, 3) := by decide +kernel
theorem dX8_byStack_56 : decode cX8_byStack 56 = .ok (.iload_n 2, 1) := by decide +kernel
theorem dX8_byStack_57 : decode cX8_byStack 57 = .ok (.aload_n 0, 1) := by decide +kernel
theorem dX8_byStack_58 : decode cX8_byStack 58 = .ok (.getfield 9, 3) := by decide +kernel
theorem dX8_byStack_61 : decode cX8_byStack 61 = .ok (.iload_n 2, 1) := by decide +kernel
theorem dX8_byStack_62 : decode cX8_byStack 62 = .ok (.iaload, 1) := by decide +kernel
theorem dX8_byStack_63 : decode cX8_byStack 63 = .ok (.invokevirtual 109, 3) := by decide +kernel
theorem dX8_byStack_66 : decode cX8_byStack 66 = .ok (.iinc 2 (-1), 3) := by decide +kernel
theorem dX8_byStack_69 : decode cX8_byStack 69 = .ok (.iload_n 2, 1) := by decide +kernel
theorem dX8_byStack_70 : decode cX8_byStack 70 = .ok (.iload_n 1, 1) := by decide +kernel
theorem dX8_byStack_71 : decode cX8_byStack 71 = .ok (.if_icmp .lt 25, 3) := by decide +kernel
theorem dX8_byStack_74 : decode cX8_byStack 74 = .ok (.aload_n 0, 1) := by decide +kernel
theorem dX8_byStack_75 : decode cX8_byStack 75 = .ok (.getfield 32, 3) := by decide +kernel
theorem dX8_byStack_78 : decode cX8_byStack 78 = .ok (.iload_n 2, 1) := by decide +kernel
theorem dX8_byStack_79 : decode cX8_byStack 79 = .ok (.aload_n 0, 1) := by decide +kernel
theorem dX8_byStack_80 : decode cX8_byStack 80 = .ok (.getfield 9, 3) := by decide +kernel
theorem dX8_byStack_83 : decode cX8_byStack 83 = .ok (.iload_n 2, 1) := by decide +kernel
theorem dX8_byStack_84 : decode cX8_byStack 84 = .ok (.iaload, 1) := by decide +kernel
theorem dX8_byStack_85 : decode cX8_byStack 85 = .ok (.aload_n 0, 1) := by decide +kernel
theorem dX8_byStack_86 : decode cX8_byStack 86 = .ok (.getfield 15, 3) := by decide +kernel
theorem dX8_byStack_89 : decode cX8_byStack 89 = .ok (.iload_n 2, 1) := by decide +kernel
theorem dX8_byStack_90 : decode cX8_byStack 90 = .ok (.iaload, 1) := by decide +kernel
theorem dX8_byStack_91 : decode cX8_byStack 91 = .ok (.iconst 1, 1) := by decide +kernel
theorem dX8_byStack_92 : decode cX8_byStack 92 = .ok (.isub, 1) := by decide +kernel
theorem dX8_byStack_93 : decode cX8_byStack 93 = .ok (.invokevirtual 105, 3) := by decide +kernel
theorem dX8_byStack_96 : decode cX8_byStack 96 = .ok (.iinc 3 1, 3) := by decide +kernel
theorem dX8_byStack_99 : decode cX8_byStack 99 = .ok (.goto (-95), 3) := by decide +kernel
theorem dX8_byStack_102 : decode cX8_byStack 102 = .ok (.return_, 1) := by decide +kernel
theorem dX8_bySteps_0 : decode cX8_bySteps 0 = .ok (.aload_n 0, 1) := by decide +kernel
theorem dX8_bySteps_1 : decode cX8_bySteps 1 = .ok (.iconst 1, 1) := by decide +kernel
theorem dX8_bySteps_2 : decode cX8_bySteps 2 = .ok (.putfield 113, 3) := by decide +kernel
theorem dX8_bySteps_5 : decode cX8_bySteps 5 = .ok (.iconst 0, 1) := by decide +kernel
theorem dX8_bySteps_6 : decode cX8_bySteps 6 = .ok (.istore_n 1, 1) := by decide +kernel
theorem dX8_bySteps_7 : decode cX8_bySteps 7 = .ok (.iconst 0, 1) := by decide +kernel
theorem dX8_bySteps_8 : decode cX8_bySteps 8 = .ok (.istore_n 2, 1) := by decide +kernel
theorem dX8_bySteps_9 : decode cX8_bySteps 9 = .ok (.iload_n 2, 1) := by decide +kernel
theorem dX8_bySteps_10 : decode cX8_bySteps 10 = .ok (.ldc 112, 2) := by decide +kernel
theorem dX8_bySteps_12 : decode cX8_bySteps 12 = .ok (.if_icmp .ge 30, 3) := by decide +kernel
theorem dX8_bySteps_15 : decode cX8_bySteps 15 = .ok (.iload_n 1, 1) := by decide +kernel
theorem dX8_bySteps_16 : decode cX8_bySteps 16 = .ok (.iconst 4, 1) := by decide +kernel
theorem dX8_bySteps_17 : decode cX8_bySteps 17 = .ok (.if_icmp .eq 25, 3) := by decide +kernel
theorem dX8_bySteps_20 : decode cX8_bySteps 20 = .ok (.aload_n 0, 1) := by decide +kernel
theorem dX8_bySteps_21 : decode cX8_bySteps 21 = .ok (.getfield 32, 3) := by decide +kernel
theorem dX8_bySteps_24 : decode cX8_bySteps 24 = .ok (.getfield 49, 3) := by decide +kernel
theorem dX8_bySteps_27 : decode cX8_bySteps 27 = .ok (.ifCond .ne 15, 3) := by decide +kernel
theorem dX8_bySteps_30 : decode cX8_bySteps 30 = .ok (.aload_n 0, 1) := by decide +kernel
theorem dX8_bySteps_31 : decode cX8_bySteps 31 = .ok (.iload_n 1, 1) := by decide +kernel
theorem dX8_bySteps_32 : decode cX8_bySteps 32 = .ok (.invokevirtual 116, 3) := by decide +kernel
theorem dX8_bySteps_35 : decode cX8_bySteps 35 = .ok (.istore_n 1, 1) := by decide +kernel
theorem dX8_bySteps_36 : decode cX8_bySteps 36 = .ok (.iinc 2 1, 3) := by decide +kernel
theorem dX8_bySteps_39 : decode cX8_bySteps 39 = .ok (.goto (-30), 3) := by decide +kernel
theorem dX8_bySteps_42 : decode cX8_bySteps 42 = .ok (.return_, 1) := by decide +kernel
theorem dX8_take_0 : decode cX8_take 0 = .ok (.iload_n 1, 1) := by decide +kernel
theorem dX8_take_1 : decode cX8_take 1 = .ok (.tableswitch 158 0 3 #[31, 57, 82, 125], 31) := by decide +kernel
theorem dX8_take_32 : decode cX8_take 32 = .ok (.aload_n 0, 1) := by decide +kernel
theorem dX8_take_33 : decode cX8_take 33 = .ok (.aload_n 0, 1) := by decide +kernel
theorem dX8_take_34 : decode cX8_take 34 = .ok (.aload_n 0, 1) := by decide +kernel
theorem dX8_take_35 : decode cX8_take 35 = .ok (.getfield 113, 3) := by decide +kernel
theorem dX8_take_38 : decode cX8_take 38 = .ok (.invokevirtual 102, 3) := by decide +kernel
theorem dX8_take_41 : decode cX8_take 41 = .ok (.putfield 119, 3) := by decide +kernel
theorem dX8_take_44 : decode cX8_take 44 = .ok (.aload_n 0, 1) := by decide +kernel
theorem dX8_take_45 : decode cX8_take 45 = .ok (.getfield 119, 3) := by decide +kernel
theorem dX8_take_48 : decode cX8_take 48 = .ok (.iconst (-1), 1) := by decide +kernel
theorem dX8_take_49 : decode cX8_take 49 = .ok (.if_icmp .ne 7, 3) := by decide +kernel
theorem dX8_take_52 : decode cX8_take 52 = .ok (.iconst 2, 1) := by decide +kernel
theorem dX8_take_53 : decode cX8_take 53 = .ok (.goto 4, 3) := by decide +kernel
theorem dX8_take_56 : decode cX8_take 56 = .ok (.iconst 1, 1) := by decide +kernel
theorem dX8_take_57 : decode cX8_take 57 = .ok (.ireturn, 1) := by decide +kernel
theorem dX8_take_58 : decode cX8_take 58 = .ok (.aload_n 0, 1) := by decide +kernel
theorem dX8_take_59 : decode cX8_take 59 = .ok (.dup, 1) := by decide +kernel
theorem dX8_take_60 : decode cX8_take 60 = .ok (.getfield 113, 3) := by decide +kernel
theorem dX8_take_63 : decode cX8_take 63 = .ok (.iconst 1, 1) := by decide +kernel
theorem dX8_take_64 : decode cX8_take 64 = .ok (.iadd, 1) := by decide +kernel
theorem dX8_take_65 : decode cX8_take 65 = .ok (.putfield 113, 3) := by decide +kernel
theorem dX8_take_68 : decode cX8_take 68 = .ok (.aload_n 0, 1) := by decide +kernel
theorem dX8_take_69 : decode cX8_take 69 = .ok (.aload_n 0, 1) := by decide +kernel
theorem dX8_take_70 : decode cX8_take 70 = .ok (.getfield 113, 3) := by decide +kernel
theorem dX8_take_73 : decode cX8_take 73 = .ok (.aload_n 0, 1) := by decide +kernel
theorem dX8_take_74 : decode cX8_take 74 = .ok (.getfield 119, 3) := by decide +kernel
theorem dX8_take_77 : decode cX8_take 77 = .ok (.invokevirtual 64, 3) := by decide +kernel
theorem dX8_take_80 : decode cX8_take 80 = .ok (.pop, 1) := by decide +kernel
theorem dX8_take_81 : decode cX8_take 81 = .ok (.iconst 0, 1) := by decide +kernel
theorem dX8_take_82 : decode cX8_take 82 = .ok (.ireturn, 1) := by decide +kernel
theorem dX8_take_83 : decode cX8_take 83 = .ok (.aload_n 0, 1) := by decide +kernel
theorem dX8_take_84 : decode cX8_take 84 = .ok (.getfield 32, 3) := by decide +kernel
theorem dX8_take_87 : decode cX8_take 87 = .ok (.aload_n 0, 1) := by decide +kernel
theorem dX8_take_88 : decode cX8_take 88 = .ok (.getfield 113, 3) := by decide +kernel
theorem dX8_take_91 : decode cX8_take 91 = .ok (.aload_n 0, 1) := by decide +kernel
theorem dX8_take_92 : decode cX8_take 92 = .ok (.getfield 9, 3) := by decide +kernel
theorem dX8_take_95 : decode cX8_take 95 = .ok (.aload_n 0, 1) := by decide +kernel
theorem dX8_take_96 : decode cX8_take 96 = .ok (.getfield 113, 3) := by decide +kernel
theorem dX8_take_99 : decode cX8_take 99 = .ok (.iaload, 1) := by decide +kernel
theorem dX8_take_100 : decode cX8_take 100 = .ok (.invokevirtual 109, 3) := by decide +kernel
theorem dX8_take_103 : decode cX8_take 103 = .ok (.aload_n 0, 1) := by decide +kernel
theorem dX8_take_104 : decode cX8_take 104 = .ok (.dup, 1) := by decide +kernel
theorem dX8_take_105 : decode cX8_take 105 = .ok (.getfield 113, 3) := by decide +kernel
theorem dX8_take_108 : decode cX8_take 108 = .ok (.iconst 1, 1) := by decide +kernel
theorem dX8_take_109 : decode cX8_take 109 = .ok (.isub, 1) := by decide +kernel
theorem dX8_take_110 : decode cX8_take 110 = .ok (.putfield 113, 3) := by decide +kernel
theorem dX8_take_113 : decode cX8_take 113 = .ok (.aload_n 0, 1) := by decide +kernel
theorem dX8_take_114 : decode cX8_take 114 = .ok (.getfield 113, 3) := by decide +kernel
theorem dX8_take_117 : decode cX8_take 117 = .ok (.ifCond .ne 7, 3) := by decide +kernel
theorem dX8_take_120 : decode cX8_take 120 = .ok (.iconst 4, 1) := by decide +kernel
theorem dX8_take_121 : decode cX8_take 121 = .ok (.goto 4, 3) := by decide +kernel
theorem dX8_take_124 : decode cX8_take 124 = .ok (.iconst 3, 1) := by decide +kernel
theorem dX8_take_125 : decode cX8_take 125 = .ok (.ireturn, 1) := by decide +kernel
theorem dX8_take_126 : decode cX8_take 126 = .ok (.aload_n 0, 1) := by decide +kernel
theorem dX8_take_127 : decode cX8_take 127 = .ok (.getfield 32, 3) := by decide +kernel
theorem dX8_take_130 : decode cX8_take 130 = .ok (.aload_n 0, 1) := by decide +kernel
theorem dX8_take_131 : decode cX8_take 131 = .ok (.getfield 113, 3) := by decide +kernel
theorem dX8_take_134 : decode cX8_take 134 = .ok (.aload_n 0, 1) := by decide +kernel
theorem dX8_take_135 : decode cX8_take 135 = .ok (.getfield 9, 3) := by decide +kernel
theorem dX8_take_138 : decode cX8_take 138 = .ok (.aload_n 0, 1) := by decide +kernel
theorem dX8_take_139 : decode cX8_take 139 = .ok (.getfield 113, 3) := by decide +kernel
theorem dX8_take_142 : decode cX8_take 142 = .ok (.iaload, 1) := by decide +kernel
theorem dX8_take_143 : decode cX8_take 143 = .ok (.aload_n 0, 1) := by decide +kernel
theorem dX8_take_144 : decode cX8_take 144 = .ok (.getfield 15, 3) := by decide +kernel
theorem dX8_take_147 : decode cX8_take 147 = .ok (.aload_n 0, 1) := by decide +kernel
theorem dX8_take_148 : decode cX8_take 148 = .ok (.getfield 113, 3) := by decide +kernel
theorem dX8_take_151 : decode cX8_take 151 = .ok (.iaload, 1) := by decide +kernel
theorem dX8_take_152 : decode cX8_take 152 = .ok (.iconst 1, 1) := by decide +kernel
theorem dX8_take_153 : decode cX8_take 153 = .ok (.isub, 1) := by decide +kernel
theorem dX8_take_154 : decode cX8_take 154 = .ok (.invokevirtual 105, 3) := by decide +kernel
theorem dX8_take_157 : decode cX8_take 157 = .ok (.iconst 0, 1) := by decide +kernel
theorem dX8_take_158 : decode cX8_take 158 = .ok (.ireturn, 1) := by decide +kernel
theorem dX8_take_159 : decode cX8_take 159 = .ok (.iconst 4, 1) := by decide +kernel
theorem dX8_take_160 : decode cX8_take 160 = .ok (.ireturn, 1) := by decide +kernel
theorem dX9_init_0 : decode cX9_init 0 = .ok (.aload_n 0, 1) := by decide +kernel
theorem dX9_init_1 : decode cX9_init 1 = .ok (.aload_n 1, 1) := by decide +kernel
theorem dX9_init_2 : decode cX9_init 2 = .ok (.invokespecial 3, 3) := by decide +kernel
theorem dX9_init_5 : decode cX9_init 5 = .ok (.aload_n 0, 1) := by decide +kernel
theorem dX9_init_6 : decode cX9_init 6 = .ok (.sipush 1502, 3) := by decide +kernel
theorem dX9_init_9 : decode cX9_init 9 = .ok (.newarray .long, 2) := by decide +kernel
theorem dX9_init_11 : decode cX9_init 11 = .ok (.putfield 9, 3) := by decide +kernel
theorem dX9_init_14 : decode cX9_init 14 = .ok (.aload_n 0, 1) := by decide +kernel
theorem dX9_init_15 : decode cX9_init 15 = .ok (.aload_n 2, 1) := by decide +kernel
theorem dX9_init_16 : decode cX9_init 16 = .ok (.putfield 15, 3) := by decide +kernel
theorem dX9_init_19 : decode cX9_init 19 = .ok (.return_, 1) := by decide +kernel
theorem dX9_enter_0 : decode cX9_enter 0 = .ok (.aload_n 0, 1) := by decide +kernel
theorem dX9_enter_1 : decode cX9_enter 1 = .ok (.getfield 18, 3) := by decide +kernel
theorem dX9_enter_4 : decode cX9_enter 4 = .ok (.getfield 22, 3) := by decide +kernel
theorem dX9_enter_7 : decode cX9_enter 7 = .ok (.iload_n 2, 1) := by decide +kernel
theorem dX9_enter_8 : decode cX9_enter 8 = .ok (.iaload, 1) := by decide +kernel
theorem dX9_enter_9 : decode cX9_enter 9 = .ok (.istore_n 3, 1) := by decide +kernel
theorem dX9_enter_10 : decode cX9_enter 10 = .ok (.aload_n 0, 1) := by decide +kernel
theorem dX9_enter_11 : decode cX9_enter 11 = .ok (.getfield 18, 3) := by decide +kernel
theorem dX9_enter_14 : decode cX9_enter 14 = .ok (.getfield 28, 3) := by decide +kernel
theorem dX9_enter_17 : decode cX9_enter 17 = .ok (.iload_n 2, 1) := by decide +kernel
theorem dX9_enter_18 : decode cX9_enter 18 = .ok (.iaload, 1) := by decide +kernel
theorem dX9_enter_19 : decode cX9_enter 19 = .ok (.lookupswitch 74 #[(6, 33), (9, 43), (11, 53)], 33) := by decide +kernel
theorem dX9_enter_52 : decode cX9_enter 52 = .ok (.aload_n 0, 1) := by decide +kernel
theorem dX9_enter_53 : decode cX9_enter 53 = .ok (.getfield 15, 3) := by decide +kernel
theorem dX9_enter_56 : decode cX9_enter 56 = .ok (.iload_n 1, 1) := by decide +kernel
theorem dX9_enter_57 : decode cX9_enter 57 = .ok (.lconst 0, 1) := by decide +kernel
theorem dX9_enter_58 : decode cX9_enter 58 = .ok (.lastore, 1) := by decide +kernel
theorem dX9_enter_59 : decode cX9_enter 59 = .ok (.goto 42, 3) := by decide +kernel
theorem dX9_enter_62 : decode cX9_enter 62 = .ok (.aload_n 0, 1) := by decide +kernel
theorem dX9_enter_63 : decode cX9_enter 63 = .ok (.getfield 15, 3) := by decide +kernel
theorem dX9_enter_66 : decode cX9_enter 66 = .ok (.iload_n 1, 1) := by decide +kernel
theorem dX9_enter_67 : decode cX9_enter 67 = .ok (.lconst 1, 1) := by decide +kernel
theorem dX9_enter_68 : decode cX9_enter 68 = .ok (.lastore, 1) := by decide +kernel
theorem dX9_enter_69 : decode cX9_enter 69 = .ok (.goto 32, 3) := by decide +kernel
theorem dX9_enter_72 : decode cX9_enter 72 = .ok (.aload_n 0, 1) := by decide +kernel
theorem dX9_enter_73 : decode cX9_enter 73 = .ok (.getfield 15, 3) := by decide +kernel
theorem dX9_enter_76 : decode cX9_enter 76 = .ok (.iload_n 1, 1) := by decide +kernel
theorem dX9_enter_77 : decode cX9_enter 77 = .ok (.iload_n 3, 1) := by decide +kernel
theorem dX9_enter_78 : decode cX9_enter 78 = .ok (.i2l, 1) := by decide +kernel
theorem dX9_enter_79 : decode cX9_enter 79 = .ok (.aload_n 0, 1) := by decide +kernel
theorem dX9_enter_80 : decode cX9_enter 80 = .ok (.getfield 18, 3) := by decide +kernel
theorem dX9_enter_83 : decode cX9_enter 83 = .ok (.iload_n 2, 1) := by decide +kernel
theorem dX9_enter_84 : decode cX9_enter 84 = .ok (.invokevirtual 31, 3) := by decide +kernel
theorem dX9_enter_87 : decode cX9_enter 87 = .ok (.i2l, 1) := by decide +kernel
theorem dX9_enter_88 : decode cX9_enter 88 = .ok (.ladd, 1) := by decide +kernel
theorem dX9_enter_89 : decode cX9_enter 89 = .ok (.lastore, 1) := by decide +kernel
theorem dX9_enter_90 : decode cX9_enter 90 = .ok (.goto 11, 3) := by decide +kernel
theorem dX9_enter_93 : decode cX9_enter 93 = .ok (.aload_n 0, 1) := by decide +kernel
theorem dX9_enter_94 : decode cX9_enter 94 = .ok (.getfield 15, 3) := by decide +kernel
theorem dX9_enter_97 : decode cX9_enter 97 = .ok (.iload_n 1, 1) := by decide +kernel
theorem dX9_enter_98 : decode cX9_enter 98 = .ok (.iload_n 3, 1) := by decide +kernel
theorem dX9_enter_99 : decode cX9_enter 99 = .ok (.i2l, 1) := by decide +kernel
theorem dX9_enter_100 : decode cX9_enter 100 = .ok (.lastore, 1) := by decide +kernel
theorem dX9_enter_101 : decode cX9_enter 101 = .ok (.return_, 1) := by decide +kernel
theorem dX9_choose_0 : decode cX9_choose 0 = .ok (.aload_n 0, 1) := by decide +kernel
theorem dX9_choose_1 : decode cX9_choose 1 = .ok (.getfield 18, 3) := by decide +kernel
theorem dX9_choose_4 : decode cX9_choose 4 = .ok (.getfield 28, 3) := by decide +kernel
theorem dX9_choose_7 : decode cX9_choose 7 = .ok (.iload_n 2, 1) := by decide +kernel
theorem dX9_choose_8 : decode cX9_choose 8 = .ok (.iaload, 1) := by decide +kernel
theorem dX9_choose_9 : decode cX9_choose 9 = .ok (.lookupswitch 84 #[(0, 35), (7, 37), (8, 53)], 35) := by decide +kernel
theorem dX9_choose_44 : decode cX9_choose 44 = .ok (.iconst (-1), 1) := by decide +kernel
theorem dX9_choose_45 : decode cX9_choose 45 = .ok (.ireturn, 1) := by decide +kernel
theorem dX9_choose_46 : decode cX9_choose 46 = .ok (.aload_n 0, 1) := by decide +kernel
theorem dX9_choose_47 : decode cX9_choose 47 = .ok (.getfield 18, 3) := by decide +kernel
theorem dX9_choose_50 : decode cX9_choose 50 = .ok (.iload_n 2, 1) := by decide +kernel
theorem dX9_choose_51 : decode cX9_choose 51 = .ok (.aload_n 0, 1) := by decide +kernel
theorem dX9_choose_52 : decode cX9_choose 52 = .ok (.iload_n 1, 1) := by decide +kernel
theorem dX9_choose_53 : decode cX9_choose 53 = .ok (.iload_n 2, 1) := by decide +kernel
theorem dX9_choose_54 : decode cX9_choose 54 = .ok (.iload_n 3, 1) := by decide +kernel
theorem dX9_choose_55 : decode cX9_choose 55 = .ok (.invokevirtual 35, 3) := by decide +kernel
theorem dX9_choose_58 : decode cX9_choose 58 = .ok (.invokevirtual 39, 3) := by decide +kernel
theorem dX9_choose_61 : decode cX9_choose 61 = .ok (.ireturn, 1) := by decide +kernel
theorem dX9_choose_62 : decode cX9_choose 62 = .ok (.iload_n 3, 1) := by decide +kernel
theorem dX9_choose_63 : decode cX9_choose 63 = .ok (.ifCond .le 20, 3) := by decide +kernel
theorem dX9_choose_66 : decode cX9_choose 66 = .ok (.aload_n 0, 1) := by decide +kernel
theorem dX9_choose_67 : decode cX9_choose 67 = .ok (.getfield 15, 3) := by decide +kernel
theorem dX9_choose_70 : decode cX9_choose 70 = .ok (.iload_n 1, 1) := by decide +kernel
theorem dX9_choose_71 : decode cX9_choose 71 = .ok (.iconst 1, 1) := by decide +kernel
theorem dX9_choose_72 : decode cX9_choose 72 = .ok (.iadd, 1) := by decide +kernel
theorem dX9_choose_73 : decode cX9_choose 73 = .ok (.laload, 1) := by decide +kernel
theorem dX9_choose_74 : decode cX9_choose 74 = .ok (.lconst 0, 1) := by decide +kernel
theorem dX9_choose_75 : decode cX9_choose 75 = .ok (.lcmp, 1) := by decide +kernel
theorem dX9_choose_76 : decode cX9_choose 76 = .ok (.ifCond .eq 7, 3) := by decide +kernel
theorem dX9_choose_79 : decode cX9_choose 79 = .ok (.iconst (-1), 1) := by decide +kernel
theorem dX9_choose_80 : decode cX9_choose 80 = .ok (.goto 12, 3) := by decide +kernel
theorem dX9_choose_83 : decode cX9_choose 83 = .ok (.aload_n 0, 1) := by decide +kernel
theorem dX9_choose_84 : decode cX9_choose 84 = .ok (.getfield 18, 3) := by decide +kernel
theorem dX9_choose_87 : decode cX9_choose 87 = .ok (.iload_n 2, 1) := by decide +kernel
theorem dX9_choose_88 : decode cX9_choose 88 = .ok (.iload_n 3, 1) := by decide +kernel
theorem dX9_choose_89 : decode cX9_choose 89 = .ok (.invokevirtual 39, 3) := by decide +kernel
theorem dX9_choose_92 : decode cX9_choose 92 = .ok (.ireturn, 1) := by decide +kernel
theorem dX9_choose_93 : decode cX9_choose 93 = .ok (.aload_n 0, 1) := by decide +kernel
theorem dX9_choose_94 : decode cX9_choose 94 = .ok (.getfield 18, 3) := by decide +kernel
theorem dX9_choose_97 : decode cX9_choose 97 = .ok (.iload_n 2, 1) := by decide +kernel
theorem dX9_choose_98 : decode cX9_choose 98 = .ok (.iload_n 3, 1) := by decide +kernel
theorem dX9_choose_99 : decode cX9_choose 99 = .ok (.invokevirtual 39, 3) := by decide +kernel
theorem dX9_choose_102 : decode cX9_choose 102 = .ok (.ireturn, 1) := by decide +kernel
theorem dX9_placeOfChoice_0 : decode cX9_placeOfChoice 0 = .ok (.iload_n 3, 1) := by decide +kernel
theorem dX9_placeOfChoice_1 : decode cX9_placeOfChoice 1 = .ok (.ifCond .ne 5, 3) := by decide +kernel
theorem dX9_placeOfChoice_4 : decode cX9_placeOfChoice 4 = .ok (.iconst 0, 1) := by decide +kernel
theorem dX9_placeOfChoice_5 : decode cX9_placeOfChoice 5 = .ok (.ireturn, 1) := by decide +kernel
theorem dX9_placeOfChoice_6 : decode cX9_placeOfChoice 6 = .ok (.aload_n 0, 1) := by decide +kernel
theorem dX9_placeOfChoice_7 : decode cX9_placeOfChoice 7 = .ok (.getfield 18, 3) := by decide +kernel
theorem dX9_placeOfChoice_10 : decode cX9_placeOfChoice 10 = .ok (.iload_n 2, 1) := by decide +kernel
theorem dX9_placeOfChoice_11 : decode cX9_placeOfChoice 11 = .ok (.invokevirtual 31, 3) := by decide +kernel
theorem dX9_placeOfChoice_14 : decode cX9_placeOfChoice 14 = .ok (.iconst 1, 1) := by decide +kernel
theorem dX9_placeOfChoice_15 : decode cX9_placeOfChoice 15 = .ok (.isub, 1) := by decide +kernel
theorem dX9_placeOfChoice_16 : decode cX9_placeOfChoice 16 = .ok (.i2l, 1) := by decide +kernel
theorem dX9_placeOfChoice_17 : decode cX9_placeOfChoice 17 = .ok (.lstore 4, 2) := by decide +kernel
theorem dX9_placeOfChoice_19 : decode cX9_placeOfChoice 19 = .ok (.iload_n 3, 1) := by decide +kernel
theorem dX9_placeOfChoice_20 : decode cX9_placeOfChoice 20 = .ok (.iconst 1, 1) := by decide +kernel
theorem dX9_placeOfChoice_21 : decode cX9_placeOfChoice 21 = .ok (.if_icmp .gt 10, 3) := by decide +kernel
theorem dX9_placeOfChoice_24 : decode cX9_placeOfChoice 24 = .ok (.lload 4, 2) := by decide +kernel
theorem dX9_placeOfChoice_26 : decode cX9_placeOfChoice 26 = .ok (.lconst 1, 1) := by decide +kernel
theorem dX9_placeOfChoice_27 : decode cX9_placeOfChoice 27 = .ok (.lcmp, 1) := by decide +kernel
theorem dX9_placeOfChoice_28 : decode cX9_placeOfChoice 28 = .ok (.ifCond .ge 5, 3) := by decide +kernel
theorem dX9_placeOfChoice_31 : decode cX9_placeOfChoice 31 = .ok (.iconst (-1), 1) := by decide +kernel
theorem dX9_placeOfChoice_32 : decode cX9_placeOfChoice 32 = .ok (.ireturn, 1) := by decide +kernel
theorem dX9_placeOfChoice_33 : decode cX9_placeOfChoice 33 = .ok (.iconst 1, 1) := by decide +kernel
theorem dX9_placeOfChoice_34 : decode cX9_placeOfChoice 34 = .ok (.aload_n 0, 1) := by decide +kernel
theorem dX9_placeOfChoice_35 : decode cX9_placeOfChoice 35 = .ok (.getfield 15, 3) := by decide +kernel
theorem dX9_placeOfChoice_38 : decode cX9_placeOfChoice 38 = .ok (.iload_n 1, 1) := by decide +kernel
theorem dX9_placeOfChoice_39 : decode cX9_placeOfChoice 39 = .ok (.laload, 1) := by decide +kernel
theorem dX9_placeOfChoice_40 : decode cX9_placeOfChoice 40 = .ok (.lload 4, 2) := by decide +kernel
theorem dX9_placeOfChoice_42 : decode cX9_placeOfChoice 42 = .ok (.invokestatic 43, 3) := by decide +kernel
theorem dX9_placeOfChoice_45 : decode cX9_placeOfChoice 45 = .ok (.l2i, 1) := by decide +kernel
theorem dX9_placeOfChoice_46 : decode cX9_placeOfChoice 46 = .ok (.iadd, 1) := by decide +kernel
theorem dX9_placeOfChoice_47 : decode cX9_placeOfChoice 47 = .ok (.ireturn, 1) := by decide +kernel
theorem dX9_takeUp_0 : decode cX9_takeUp 0 = .ok (.aload_n 0, 1) := by decide +kernel
theorem dX9_takeUp_1 : decode cX9_takeUp 1 = .ok (.getfield 15, 3) := by decide +kernel
theorem dX9_takeUp_4 : decode cX9_takeUp 4 = .ok (.iload_n 1, 1) := by decide +kernel
theorem dX9_takeUp_5 : decode cX9_takeUp 5 = .ok (.iconst 1, 1) := by decide +kernel
theorem dX9_takeUp_6 : decode cX9_takeUp 6 = .ok (.iadd, 1) := by decide +kernel
theorem dX9_takeUp_7 : decode cX9_takeUp 7 = .ok (.laload, 1) := by decide +kernel
theorem dX9_takeUp_8 : decode cX9_takeUp 8 = .ok (.lstore 4, 2) := by decide +kernel
theorem dX9_takeUp_10 : decode cX9_takeUp 10 = .ok (.aload_n 0, 1) := by decide +kernel
theorem dX9_takeUp_11 : decode cX9_takeUp 11 = .ok (.getfield 15, 3) := by decide +kernel
theorem dX9_takeUp_14 : decode cX9_takeUp 14 = .ok (.iload_n 1, 1) := by decide +kernel
theorem dX9_takeUp_15 : decode cX9_takeUp 15 = .ok (.laload, 1) := by decide +kernel
theorem dX9_takeUp_16 : decode cX9_takeUp 16 = .ok (.lstore 6, 2) := by decide +kernel
theorem dX9_takeUp_18 : decode cX9_takeUp 18 = .ok (.aload_n 0, 1) := by decide +kernel
theorem dX9_takeUp_19 : decode cX9_takeUp 19 = .ok (.getfield 18, 3) := by decide +kernel
theorem dX9_takeUp_22 : decode cX9_takeUp 22 = .ok (.getfield 28, 3) := by decide +kernel
theorem dX9_takeUp_25 : decode cX9_takeUp 25 = .ok (.iload_n 2, 1) := by decide +kernel
theorem dX9_takeUp_26 : decode cX9_takeUp 26 = .ok (.iaload, 1) := by decide +kernel
theorem dX9_takeUp_27 : decode cX9_takeUp 27 = .ok (.tableswitch 227 1 10 #[53, 67, 81, 104, 120, 136, 161, 172, 195, 206], 53) := by decide +kernel
theorem dX9_takeUp_80 : decode cX9_takeUp 80 = .ok (.aload_n 0, 1) := by decide +kernel
theorem dX9_takeUp_81 : decode cX9_takeUp 81 = .ok (.getfield 15, 3) := by decide +kernel
theorem dX9_takeUp_84 : decode cX9_takeUp 84 = .ok (.iload_n 1, 1) := by decide +kernel
theorem dX9_takeUp_85 : decode cX9_takeUp 85 = .ok (.lload 6, 2) := by decide +kernel
theorem dX9_takeUp_87 : decode cX9_takeUp 87 = .ok (.lload 4, 2) := by decide +kernel
theorem dX9_takeUp_89 : decode cX9_takeUp 89 = .ok (.ladd, 1) := by decide +kernel
theorem dX9_takeUp_90 : decode cX9_takeUp 90 = .ok (.lastore, 1) := by decide +kernel
theorem dX9_takeUp_91 : decode cX9_takeUp 91 = .ok (.goto 163, 3) := by decide +kernel
theorem dX9_takeUp_94 : decode cX9_takeUp 94 = .ok (.aload_n 0, 1) := by decide +kernel
theorem dX9_takeUp_95 : decode cX9_takeUp 95 = .ok (.getfield 15, 3) := by decide +kernel
theorem dX9_takeUp_98 : decode cX9_takeUp 98 = .ok (.iload_n 1, 1) := by decide +kernel
theorem dX9_takeUp_99 : decode cX9_takeUp 99 = .ok (.lload 6, 2) := by decide +kernel
theorem dX9_takeUp_101 : decode cX9_takeUp 101 = .ok (.lload 4, 2) := by decide +kernel
theorem dX9_takeUp_103 : decode cX9_takeUp 103 = .ok (.lmul, 1) := by decide +kernel
theorem dX9_takeUp_104 : decode cX9_takeUp 104 = .ok (.lastore, 1) := by decide +kernel
theorem dX9_takeUp_105 : decode cX9_takeUp 105 = .ok (.goto 149, 3) := by decide +kernel
theorem dX9_takeUp_108 : decode cX9_takeUp 108 = .ok (.aload_n 0, 1) := by decide +kernel
theorem dX9_takeUp_109 : decode cX9_takeUp 109 = .ok (.getfield 15, 3) := by decide +kernel
theorem dX9_takeUp_112 : decode cX9_takeUp 112 = .ok (.iload_n 1, 1) := by decide +kernel
theorem dX9_takeUp_113 : decode cX9_takeUp 113 = .ok (.iload_n 3, 1) := by decide +kernel
theorem dX9_takeUp_114 : decode cX9_takeUp 114 = .ok (.ifCond .ne 8, 3) := by decide +kernel
theorem dX9_takeUp_117 : decode cX9_takeUp 117 = .ok (.lload 4, 2) := by decide +kernel
theorem dX9_takeUp_119 : decode cX9_takeUp 119 = .ok (.goto 8, 3) := by decide +kernel
theorem dX9_takeUp_122 : decode cX9_takeUp 122 = .ok (.lload 6, 2) := by decide +kernel
theorem dX9_takeUp_124 : decode cX9_takeUp 124 = .ok (.lload 4, 2) := by decide +kernel
theorem dX9_takeUp_126 : decode cX9_takeUp 126 = .ok (.lsub, 1) := by decide +kernel
theorem dX9_takeUp_127 : decode cX9_takeUp 127 = .ok (.lastore, 1) := by decide +kernel
theorem dX9_takeUp_128 : decode cX9_takeUp 128 = .ok (.goto 126, 3) := by decide +kernel
theorem dX9_takeUp_131 : decode cX9_takeUp 131 = .ok (.aload_n 0, 1) := by decide +kernel
theorem dX9_takeUp_132 : decode cX9_takeUp 132 = .ok (.getfield 15, 3) := by decide +kernel
theorem dX9_takeUp_135 : decode cX9_takeUp 135 = .ok (.iload_n 1, 1) := by decide +kernel
theorem dX9_takeUp_136 : decode cX9_takeUp 136 = .ok (.lload 6, 2) := by decide +kernel
theorem dX9_takeUp_138 : decode cX9_takeUp 138 = .ok (.lload 4, 2) := by decide +kernel
theorem dX9_takeUp_140 : decode cX9_takeUp 140 = .ok (.invokestatic 49, 3) := by decide +kernel
theorem dX9_takeUp_143 : decode cX9_takeUp 143 = .ok (.lastore, 1) := by decide +kernel
theorem dX9_takeUp_144 : decode cX9_takeUp 144 = .ok (.goto 110, 3) := by decide +kernel
theorem dX9_takeUp_147 : decode cX9_takeUp 147 = .ok (.aload_n 0, 1) := by decide +kernel
theorem dX9_takeUp_148 : decode cX9_takeUp 148 = .ok (.getfield 15, 3) := by decide +kernel
theorem dX9_takeUp_151 : decode cX9_takeUp 151 = .ok (.iload_n 1, 1) := by decide +kernel
theorem dX9_takeUp_152 : decode cX9_takeUp 152 = .ok (.lload 6, 2) := by decide +kernel
theorem dX9_takeUp_154 : decode cX9_takeUp 154 = .ok (.lload 4, 2) := by decide +kernel
theorem dX9_takeUp_156 : decode cX9_takeUp 156 = .ok (.invokestatic 52, 3) := by decide +kernel
theorem dX9_takeUp_159 : decode cX9_takeUp 159 = .ok (.lastore, 1) := by decide +kernel
theorem dX9_takeUp_160 : decode cX9_takeUp 160 = .ok (.goto 94, 3) := by decide +kernel
theorem dX9_takeUp_163 : decode cX9_takeUp 163 = .ok (.aload_n 0, 1) := by decide +kernel
theorem dX9_takeUp_164 : decode cX9_takeUp 164 = .ok (.getfield 15, 3) := by decide +kernel
theorem dX9_takeUp_167 : decode cX9_takeUp 167 = .ok (.iload_n 1, 1) := by decide +kernel
theorem dX9_takeUp_168 : decode cX9_takeUp 168 = .ok (.lload 6, 2) := by decide +kernel
theorem dX9_takeUp_170 : decode cX9_takeUp 170 = .ok (.aload_n 0, 1) := by decide +kernel
theorem dX9_takeUp_171 : decode cX9_takeUp 171 = .ok (.getfield 18, 3) := by decide +kernel
theorem dX9_takeUp_174 : decode cX9_takeUp 174 = .ok (.getfield 22, 3) := by decide +kernel
theorem dX9_takeUp_177 : decode cX9_takeUp 177 = .ok (.iload_n 2, 1) := by decide +kernel
theorem dX9_takeUp_178 : decode cX9_takeUp 178 = .ok (.iaload, 1) := by decide +kernel
theorem dX9_takeUp_179 : decode cX9_takeUp 179 = .ok (.i2l, 1) := by decide +kernel
theorem dX9_takeUp_180 : decode cX9_takeUp 180 = .ok (.lmul, 1) := by decide +kernel
theorem dX9_takeUp_181 : decode cX9_takeUp 181 = .ok (.lload 4, 2) := by decide +kernel
theorem dX9_takeUp_183 : decode cX9_takeUp 183 = .ok (.ladd, 1) := by decide +kernel
theorem dX9_takeUp_184 : decode cX9_takeUp 184 = .ok (.lastore, 1) := by decide +kernel
theorem dX9_takeUp_185 : decode cX9_takeUp 185 = .ok (.goto 69, 3) := by decide +kernel
theorem dX9_takeUp_188 : decode cX9_takeUp 188 = .ok (.aload_n 0, 1) := by decide +kernel
theorem dX9_takeUp_189 : decode cX9_takeUp 189 = .ok (.getfield 15, 3) := by decide +kernel
theorem dX9_takeUp_192 : decode cX9_takeUp 192 = .ok (.iload_n 1, 1) := by decide +kernel
theorem dX9_takeUp_193 : decode cX9_takeUp 193 = .ok (.lload 4, 2) := by decide +kernel
theorem dX9_takeUp_195 : decode cX9_takeUp 195 = .ok (.lastore, 1) := by decide +kernel
theorem dX9_takeUp_196 : decode cX9_takeUp 196 = .ok (.goto 58, 3) := by decide +kernel
theorem dX9_takeUp_199 : decode cX9_takeUp 199 = .ok (.aload_n 0, 1) := by decide +kernel
theorem dX9_takeUp_200 : decode cX9_takeUp 200 = .ok (.getfield 15, 3) := by decide +kernel
theorem dX9_takeUp_203 : decode cX9_takeUp 203 = .ok (.iload_n 1, 1) := by decide +kernel
theorem dX9_takeUp_204 : decode cX9_takeUp 204 = .ok (.lload 4, 2) := by decide +kernel
theorem dX9_takeUp_206 : decode cX9_takeUp 206 = .ok (.lconst 0, 1) := by decide +kernel
theorem dX9_takeUp_207 : decode cX9_takeUp 207 = .ok (.lcmp, 1) := by decide +kernel
theorem dX9_takeUp_208 : decode cX9_takeUp 208 = .ok (.ifCond .eq 8, 3) := by decide +kernel
theorem dX9_takeUp_211 : decode cX9_takeUp 211 = .ok (.lload 4, 2) := by decide +kernel
theorem dX9_takeUp_213 : decode cX9_takeUp 213 = .ok (.goto 5, 3) := by decide +kernel
theorem dX9_takeUp_216 : decode cX9_takeUp 216 = .ok (.lload 6, 2) := by decide +kernel
theorem dX9_takeUp_218 : decode cX9_takeUp 218 = .ok (.lastore, 1) := by decide +kernel
theorem dX9_takeUp_219 : decode cX9_takeUp 219 = .ok (.goto 35, 3) := by decide +kernel
theorem dX9_takeUp_222 : decode cX9_takeUp 222 = .ok (.aload_n 0, 1) := by decide +kernel
theorem dX9_takeUp_223 : decode cX9_takeUp 223 = .ok (.iload_n 1, 1) := by decide +kernel
theorem dX9_takeUp_224 : decode cX9_takeUp 224 = .ok (.iload_n 3, 1) := by decide +kernel
theorem dX9_takeUp_225 : decode cX9_takeUp 225 = .ok (.lload 4, 2) := by decide +kernel
theorem dX9_takeUp_227 : decode cX9_takeUp 227 = .ok (.invokevirtual 55, 3) := by decide +kernel
theorem dX9_takeUp_230 : decode cX9_takeUp 230 = .ok (.goto 24, 3) := by decide +kernel
theorem dX9_takeUp_233 : decode cX9_takeUp 233 = .ok (.aload_n 0, 1) := by decide +kernel
theorem dX9_takeUp_234 : decode cX9_takeUp 234 = .ok (.getfield 15, 3) := by decide +kernel
theorem dX9_takeUp_237 : decode cX9_takeUp 237 = .ok (.iload_n 1, 1) := by decide +kernel
theorem dX9_takeUp_238 : decode cX9_takeUp 238 = .ok (.lload 6, 2) := by decide +kernel
theorem dX9_takeUp_240 : decode cX9_takeUp 240 = .ok (.lload 4, 2) := by decide +kernel
theorem dX9_takeUp_242 : decode cX9_takeUp 242 = .ok (.iload_n 3, 1) := by decide +kernel
theorem dX9_takeUp_243 : decode cX9_takeUp 243 = .ok (.bipush 64, 2) := by decide +kernel
theorem dX9_takeUp_245 : decode cX9_takeUp 245 = .ok (.irem, 1) := by decide +kernel
theorem dX9_takeUp_246 : decode cX9_takeUp 246 = .ok (.invokestatic 59, 3) := by decide +kernel
theorem dX9_takeUp_249 : decode cX9_takeUp 249 = .ok (.lxor, 1) := by decide +kernel
theorem dX9_takeUp_250 : decode cX9_takeUp 250 = .ok (.lastore, 1) := by decide +kernel
theorem dX9_takeUp_251 : decode cX9_takeUp 251 = .ok (.goto 3, 3) := by decide +kernel
theorem dX9_takeUp_254 : decode cX9_takeUp 254 = .ok (.return_, 1) := by decide +kernel
theorem dX9_takeUpLike_0 : decode cX9_takeUpLike 0 = .ok (.iload_n 2, 1) := by decide +kernel
theorem dX9_takeUpLike_1 : decode cX9_takeUpLike 1 = .ok (.ifCond .ne 13, 3) := by decide +kernel
theorem dX9_takeUpLike_4 : decode cX9_takeUpLike 4 = .ok (.aload_n 0, 1) := by decide +kernel
theorem dX9_takeUpLike_5 : decode cX9_takeUpLike 5 = .ok (.getfield 9, 3) := by decide +kernel
theorem dX9_takeUpLike_8 : decode cX9_takeUpLike 8 = .ok (.iload_n 1, 1) := by decide +kernel
theorem dX9_takeUpLike_9 : decode cX9_takeUpLike 9 = .ok (.lload_n 3, 1) := by decide +kernel
theorem dX9_takeUpLike_10 : decode cX9_takeUpLike 10 = .ok (.lastore, 1) := by decide +kernel
theorem dX9_takeUpLike_11 : decode cX9_takeUpLike 11 = .ok (.goto 21, 3) := by decide +kernel
theorem dX9_takeUpLike_14 : decode cX9_takeUpLike 14 = .ok (.aload_n 0, 1) := by decide +kernel
theorem dX9_takeUpLike_15 : decode cX9_takeUpLike 15 = .ok (.getfield 9, 3) := by decide +kernel
theorem dX9_takeUpLike_18 : decode cX9_takeUpLike 18 = .ok (.iload_n 1, 1) := by decide +kernel
theorem dX9_takeUpLike_19 : decode cX9_takeUpLike 19 = .ok (.laload, 1) := by decide +kernel
theorem dX9_takeUpLike_20 : decode cX9_takeUpLike 20 = .ok (.lload_n 3, 1) := by decide +kernel
theorem dX9_takeUpLike_21 : decode cX9_takeUpLike 21 = .ok (.lcmp, 1) := by decide +kernel
theorem dX9_takeUpLike_22 : decode cX9_takeUpLike 22 = .ok (.ifCond .eq 10, 3) := by decide +kernel
theorem dX9_takeUpLike_25 : decode cX9_takeUpLike 25 = .ok (.aload_n 0, 1) := by decide +kernel
theorem dX9_takeUpLike_26 : decode cX9_takeUpLike 26 = .ok (.getfield 15, 3) := by decide +kernel
theorem dX9_takeUpLike_29 : decode cX9_takeUpLike 29 = .ok (.iload_n 1, 1) := by decide +kernel
theorem dX9_takeUpLike_30 : decode cX9_takeUpLike 30 = .ok (.lconst 0, 1) := by decide +kernel
theorem dX9_takeUpLike_31 : decode cX9_takeUpLike 31 = .ok (.lastore, 1) := by decide +kernel
theorem dX9_takeUpLike_32 : decode cX9_takeUpLike 32 = .ok (.return_, 1) := by decide +kernel
theorem dX10_init_0 : decode cX10_init 0 = .ok (.aload_n 0, 1) := by decide +kernel
theorem dX10_init_1 : decode cX10_init 1 = .ok (.aload_n 1, 1) := by decide +kernel
theorem dX10_init_2 : decode cX10_init 2 = .ok (.invokespecial 3, 3) := by decide +kernel
theorem dX10_init_5 : decode cX10_init 5 = .ok (.aload_n 0, 1) := by decide +kernel
theorem dX10_init_6 : decode cX10_init 6 = .ok (.aload_n 2, 1) := by decide +kernel
theorem dX10_init_7 : decode cX10_init 7 = .ok (.putfield 9, 3) := by decide +kernel
theorem dX10_init_10 : decode cX10_init 10 = .ok (.return_, 1) := by decide +kernel
theorem dX10_enter_0 : decode cX10_enter 0 = .ok (.aload_n 0, 1) := by decide +kernel
theorem dX10_enter_1 : decode cX10_enter 1 = .ok (.getfield 9, 3) := by decide +kernel
theorem dX10_enter_4 : decode cX10_enter 4 = .ok (.bipush 97, 2) := by decide +kernel
theorem dX10_enter_6 : decode cX10_enter 6 = .ok (.aload_n 0, 1) := by decide +kernel
theorem dX10_enter_7 : decode cX10_enter 7 = .ok (.getfield 15, 3) := by decide +kernel
theorem dX10_enter_10 : decode cX10_enter 10 = .ok (.getfield 19, 3) := by decide +kernel
theorem dX10_enter_13 : decode cX10_enter 13 = .ok (.iload_n 2, 1) := by decide +kernel
theorem dX10_enter_14 : decode cX10_enter 14 = .ok (.iaload, 1) := by decide +kernel
theorem dX10_enter_15 : decode cX10_enter 15 = .ok (.iadd, 1) := by decide +kernel
theorem dX10_enter_16 : decode cX10_enter 16 = .ok (.invokevirtual 25, 3) := by decide +kernel
theorem dX10_enter_19 : decode cX10_enter 19 = .ok (.aload_n 0, 1) := by decide +kernel
theorem dX10_enter_20 : decode cX10_enter 20 = .ok (.getfield 9, 3) := by decide +kernel
theorem dX10_enter_23 : decode cX10_enter 23 = .ok (.aload_n 0, 1) := by decide +kernel
theorem dX10_enter_24 : decode cX10_enter 24 = .ok (.getfield 15, 3) := by decide +kernel
theorem dX10_enter_27 : decode cX10_enter 27 = .ok (.getfield 31, 3) := by decide +kernel
theorem dX10_enter_30 : decode cX10_enter 30 = .ok (.iload_n 2, 1) := by decide +kernel
theorem dX10_enter_31 : decode cX10_enter 31 = .ok (.iaload, 1) := by decide +kernel
theorem dX10_enter_32 : decode cX10_enter 32 = .ok (.invokevirtual 34, 3) := by decide +kernel
theorem dX10_enter_35 : decode cX10_enter 35 = .ok (.aload_n 0, 1) := by decide +kernel
theorem dX10_enter_36 : decode cX10_enter 36 = .ok (.getfield 15, 3) := by decide +kernel
theorem dX10_enter_39 : decode cX10_enter 39 = .ok (.iload_n 2, 1) := by decide +kernel
theorem dX10_enter_40 : decode cX10_enter 40 = .ok (.invokevirtual 37, 3) := by decide +kernel
theorem dX10_enter_43 : decode cX10_enter 43 = .ok (.ifCond .le 12, 3) := by decide +kernel
theorem dX10_enter_46 : decode cX10_enter 46 = .ok (.aload_n 0, 1) := by decide +kernel
theorem dX10_enter_47 : decode cX10_enter 47 = .ok (.getfield 9, 3) := by decide +kernel
theorem dX10_enter_50 : decode cX10_enter 50 = .ok (.bipush 40, 2) := by decide +kernel
theorem dX10_enter_52 : decode cX10_enter 52 = .ok (.invokevirtual 25, 3) := by decide +kernel
theorem dX10_enter_55 : decode cX10_enter 55 = .ok (.return_, 1) := by decide +kernel
theorem dX10_choose_0 : decode cX10_choose 0 = .ok (.iload_n 3, 1) := by decide +kernel
theorem dX10_choose_1 : decode cX10_choose 1 = .ok (.ifCond .le 12, 3) := by decide +kernel
theorem dX10_choose_4 : decode cX10_choose 4 = .ok (.aload_n 0, 1) := by decide +kernel
theorem dX10_choose_5 : decode cX10_choose 5 = .ok (.getfield 9, 3) := by decide +kernel
theorem dX10_choose_8 : decode cX10_choose 8 = .ok (.bipush 44, 2) := by decide +kernel
theorem dX10_choose_10 : decode cX10_choose 10 = .ok (.invokevirtual 25, 3) := by decide +kernel
theorem dX10_choose_13 : decode cX10_choose 13 = .ok (.aload_n 0, 1) := by decide +kernel
theorem dX10_choose_14 : decode cX10_choose 14 = .ok (.aload_n 0, 1) := by decide +kernel
theorem dX10_choose_15 : decode cX10_choose 15 = .ok (.getfield 9, 3) := by decide +kernel
theorem dX10_choose_18 : decode cX10_choose 18 = .ok (.getfield 41, 3) := by decide +kernel
theorem dX10_choose_21 : decode cX10_choose 21 = .ok (.putfield 45, 3) := by decide +kernel
theorem dX10_choose_24 : decode cX10_choose 24 = .ok (.aload_n 0, 1) := by decide +kernel
theorem dX10_choose_25 : decode cX10_choose 25 = .ok (.getfield 45, 3) := by decide +kernel
theorem dX10_choose_28 : decode cX10_choose 28 = .ok (.ifCond .eq 7, 3) := by decide +kernel
theorem dX10_choose_31 : decode cX10_choose 31 = .ok (.iconst (-1), 1) := by decide +kernel
theorem dX10_choose_32 : decode cX10_choose 32 = .ok (.goto 12, 3) := by decide +kernel
theorem dX10_choose_35 : decode cX10_choose 35 = .ok (.aload_n 0, 1) := by decide +kernel
theorem dX10_choose_36 : decode cX10_choose 36 = .ok (.getfield 15, 3) := by decide +kernel
theorem dX10_choose_39 : decode cX10_choose 39 = .ok (.iload_n 2, 1) := by decide +kernel
theorem dX10_choose_40 : decode cX10_choose 40 = .ok (.iload_n 3, 1) := by decide +kernel
theorem dX10_choose_41 : decode cX10_choose 41 = .ok (.invokevirtual 48, 3) := by decide +kernel
theorem dX10_choose_44 : decode cX10_choose 44 = .ok (.ireturn, 1) := by decide +kernel
theorem dX10_leave_0 : decode cX10_leave 0 = .ok (.aload_n 0, 1) := by decide +kernel
theorem dX10_leave_1 : decode cX10_leave 1 = .ok (.getfield 15, 3) := by decide +kernel
theorem dX10_leave_4 : decode cX10_leave 4 = .ok (.iload_n 2, 1) := by decide +kernel
theorem dX10_leave_5 : decode cX10_leave 5 = .ok (.invokevirtual 37, 3) := by decide +kernel
theorem dX10_leave_8 : decode cX10_leave 8 = .ok (.ifCond .le 12, 3) := by decide +kernel
theorem dX10_leave_11 : decode cX10_leave 11 = .ok (.aload_n 0, 1) := by decide +kernel
theorem dX10_leave_12 : decode cX10_leave 12 = .ok (.getfield 9, 3) := by decide +kernel
theorem dX10_leave_15 : decode cX10_leave 15 = .ok (.bipush 41, 2) := by decide +kernel
theorem dX10_leave_17 : decode cX10_leave 17 = .ok (.invokevirtual 25, 3) := by decide +kernel
theorem dX10_leave_20 : decode cX10_leave 20 = .ok (.return_, 1) := by decide +kernel
theorem dX11_init_0 : decode cX11_init 0 = .ok (.aload_n 0, 1) := by decide +kernel
theorem dX11_init_1 : decode cX11_init 1 = .ok (.invokespecial 3, 3) := by decide +kernel
theorem dX11_init_4 : decode cX11_init 4 = .ok (.aload_n 0, 1) := by decide +kernel
theorem dX11_init_5 : decode cX11_init 5 = .ok (.new 9, 3) := by decide +kernel
theorem dX11_init_8 : decode cX11_init 8 = .ok (.dup, 1) := by decide +kernel
theorem dX11_init_9 : decode cX11_init 9 = .ok (.invokespecial 11, 3) := by decide +kernel
theorem dX11_init_12 : decode cX11_init 12 = .ok (.putfield 12, 3) := by decide +kernel
theorem dX11_init_15 : decode cX11_init 15 = .ok (.aload_n 0, 1) := by decide +kernel
theorem dX11_init_16 : decode cX11_init 16 = .ok (.new 16, 3) := by decide +kernel
theorem dX11_init_19 : decode cX11_init 19 = .ok (.dup, 1) := by decide +kernel
theorem dX11_init_20 : decode cX11_init 20 = .ok (.invokespecial 18, 3) := by decide +kernel
theorem dX11_init_23 : decode cX11_init 23 = .ok (.putfield 19, 3) := by decide +kernel
theorem dX11_init_26 : decode cX11_init 26 = .ok (.aload_n 0, 1) := by decide +kernel
theorem dX11_init_27 : decode cX11_init 27 = .ok (.new 16, 3) := by decide +kernel
theorem dX11_init_30 : decode cX11_init 30 = .ok (.dup, 1) := by decide +kernel
theorem dX11_init_31 : decode cX11_init 31 = .ok (.invokespecial 18, 3) := by decide +kernel
theorem dX11_init_34 : decode cX11_init 34 = .ok (.putfield 23, 3) := by decide +kernel
theorem dX11_init_37 : decode cX11_init 37 = .ok (.aload_n 0, 1) := by decide +kernel
theorem dX11_init_38 : decode cX11_init 38 = .ok (.new 26, 3) := by decide +kernel
theorem dX11_init_41 : decode cX11_init 41 = .ok (.dup, 1) := by decide +kernel
theorem dX11_init_42 : decode cX11_init 42 = .ok (.aload_n 0, 1) := by decide +kernel
theorem dX11_init_43 : decode cX11_init 43 = .ok (.getfield 12, 3) := by decide +kernel
theorem dX11_init_46 : decode cX11_init 46 = .ok (.aload_n 0, 1) := by decide +kernel
theorem dX11_init_47 : decode cX11_init 47 = .ok (.getfield 19, 3) := by decide +kernel
theorem dX11_init_50 : decode cX11_init 50 = .ok (.invokespecial 28, 3) := by decide +kernel
theorem dX11_init_53 : decode cX11_init 53 = .ok (.putfield 31, 3) := by decide +kernel
theorem dX11_init_56 : decode cX11_init 56 = .ok (.aload_n 0, 1) := by decide +kernel
theorem dX11_init_57 : decode cX11_init 57 = .ok (.sipush 1502, 3) := by decide +kernel
theorem dX11_init_60 : decode cX11_init 60 = .ok (.newarray .long, 2) := by decide +kernel
theorem dX11_init_62 : decode cX11_init 62 = .ok (.putfield 35, 3) := by decide +kernel
theorem dX11_init_65 : decode cX11_init 65 = .ok (.aload_n 0, 1) := by decide +kernel
theorem dX11_init_66 : decode cX11_init 66 = .ok (.new 39, 3) := by decide +kernel
theorem dX11_init_69 : decode cX11_init 69 = .ok (.dup, 1) := by decide +kernel
theorem dX11_init_70 : decode cX11_init 70 = .ok (.aload_n 0, 1) := by decide +kernel
theorem dX11_init_71 : decode cX11_init 71 = .ok (.getfield 12, 3) := by decide +kernel
theorem dX11_init_74 : decode cX11_init 74 = .ok (.invokespecial 41, 3) := by decide +kernel
theorem dX11_init_77 : decode cX11_init 77 = .ok (.putfield 44, 3) := by decide +kernel
theorem dX11_init_80 : decode cX11_init 80 = .ok (.aload_n 0, 1) := by decide +kernel
theorem dX11_init_81 : decode cX11_init 81 = .ok (.new 48, 3) := by decide +kernel
theorem dX11_init_84 : decode cX11_init 84 = .ok (.dup, 1) := by decide +kernel
theorem dX11_init_85 : decode cX11_init 85 = .ok (.aload_n 0, 1) := by decide +kernel
theorem dX11_init_86 : decode cX11_init 86 = .ok (.getfield 12, 3) := by decide +kernel
theorem dX11_init_89 : decode cX11_init 89 = .ok (.aload_n 0, 1) := by decide +kernel
theorem dX11_init_90 : decode cX11_init 90 = .ok (.getfield 35, 3) := by decide +kernel
theorem dX11_init_93 : decode cX11_init 93 = .ok (.invokespecial 50, 3) := by decide +kernel
theorem dX11_init_96 : decode cX11_init 96 = .ok (.putfield 53, 3) := by decide +kernel
theorem dX11_init_99 : decode cX11_init 99 = .ok (.aload_n 0, 1) := by decide +kernel
theorem dX11_init_100 : decode cX11_init 100 = .ok (.new 57, 3) := by decide +kernel
theorem dX11_init_103 : decode cX11_init 103 = .ok (.dup, 1) := by decide +kernel
theorem dX11_init_104 : decode cX11_init 104 = .ok (.aload_n 0, 1) := by decide +kernel
theorem dX11_init_105 : decode cX11_init 105 = .ok (.getfield 12, 3) := by decide +kernel
theorem dX11_init_108 : decode cX11_init 108 = .ok (.aload_n 0, 1) := by decide +kernel
theorem dX11_init_109 : decode cX11_init 109 = .ok (.getfield 35, 3) := by decide +kernel
theorem dX11_init_112 : decode cX11_init 112 = .ok (.invokespecial 59, 3) := by decide +kernel
theorem dX11_init_115 : decode cX11_init 115 = .ok (.putfield 60, 3) := by decide +kernel
theorem dX11_init_118 : decode cX11_init 118 = .ok (.aload_n 0, 1) := by decide +kernel
theorem dX11_init_119 : decode cX11_init 119 = .ok (.new 64, 3) := by decide +kernel
theorem dX11_init_122 : decode cX11_init 122 = .ok (.dup, 1) := by decide +kernel
theorem dX11_init_123 : decode cX11_init 123 = .ok (.aload_n 0, 1) := by decide +kernel
theorem dX11_init_124 : decode cX11_init 124 = .ok (.getfield 12, 3) := by decide +kernel
theorem dX11_init_127 : decode cX11_init 127 = .ok (.invokespecial 66, 3) := by decide +kernel
theorem dX11_init_130 : decode cX11_init 130 = .ok (.putfield 67, 3) := by decide +kernel
theorem dX11_init_133 : decode cX11_init 133 = .ok (.aload_n 0, 1) := by decide +kernel
theorem dX11_init_134 : decode cX11_init 134 = .ok (.new 71, 3) := by decide +kernel
theorem dX11_init_137 : decode cX11_init 137 = .ok (.dup, 1) := by decide +kernel
theorem dX11_init_138 : decode cX11_init 138 = .ok (.aload_n 0, 1) := by decide +kernel
theorem dX11_init_139 : decode cX11_init 139 = .ok (.getfield 12, 3) := by decide +kernel
theorem dX11_init_142 : decode cX11_init 142 = .ok (.aload_n 0, 1) := by decide +kernel
theorem dX11_init_143 : decode cX11_init 143 = .ok (.getfield 23, 3) := by decide +kernel
theorem dX11_init_146 : decode cX11_init 146 = .ok (.invokespecial 73, 3) := by decide +kernel
theorem dX11_init_149 : decode cX11_init 149 = .ok (.putfield 74, 3) := by decide +kernel
theorem dX11_init_152 : decode cX11_init 152 = .ok (.aload_n 0, 1) := by decide +kernel
theorem dX11_init_153 : decode cX11_init 153 = .ok (.new 78, 3) := by decide +kernel
theorem dX11_init_156 : decode cX11_init 156 = .ok (.dup, 1) := by decide +kernel
theorem dX11_init_157 : decode cX11_init 157 = .ok (.aload_n 0, 1) := by decide +kernel
theorem dX11_init_158 : decode cX11_init 158 = .ok (.getfield 12, 3) := by decide +kernel
theorem dX11_init_161 : decode cX11_init 161 = .ok (.invokespecial 80, 3) := by decide +kernel
theorem dX11_init_164 : decode cX11_init 164 = .ok (.putfield 81, 3) := by decide +kernel
theorem dX11_init_167 : decode cX11_init 167 = .ok (.aload_n 0, 1) := by decide +kernel
theorem dX11_init_168 : decode cX11_init 168 = .ok (.new 85, 3) := by decide +kernel
theorem dX11_init_171 : decode cX11_init 171 = .ok (.dup, 1) := by decide +kernel
theorem dX11_init_172 : decode cX11_init 172 = .ok (.aload_n 0, 1) := by decide +kernel
theorem dX11_init_173 : decode cX11_init 173 = .ok (.getfield 12, 3) := by decide +kernel
theorem dX11_init_176 : decode cX11_init 176 = .ok (.invokespecial 87, 3) := by decide +kernel
theorem dX11_init_179 : decode cX11_init 179 = .ok (.putfield 88, 3) := by decide +kernel
theorem dX11_init_182 : decode cX11_init 182 = .ok (.aload_n 0, 1) := by decide +kernel
theorem dX11_init_183 : decode cX11_init 183 = .ok (.new 92, 3) := by decide +kernel
theorem dX11_init_186 : decode cX11_init 186 = .ok (.dup, 1) := by decide +kernel
theorem dX11_init_187 : decode cX11_init 187 = .ok (.aload_n 0, 1) := by decide +kernel
theorem dX11_init_188 : decode cX11_init 188 = .ok (.getfield 12, 3) := by decide +kernel
theorem dX11_init_191 : decode cX11_init 191 = .ok (.aload_n 0, 1) := by decide +kernel
theorem dX11_init_192 : decode cX11_init 192 = .ok (.getfield 44, 3) := by decide +kernel
theorem dX11_init_195 : decode cX11_init 195 = .ok (.invokespecial 94, 3) := by decide +kernel
theorem dX11_init_198 : decode cX11_init 198 = .ok (.putfield 97, 3) := by decide +kernel
theorem dX11_init_201 : decode cX11_init 201 = .ok (.return_, 1) := by decide +kernel
theorem dX11_deed_0 : decode cX11_deed 0 = .ok (.iload_n 1, 1) := by decide +kernel
theorem dX11_deed_1 : decode cX11_deed 1 = .ok (.invokestatic 101, 3) := by decide +kernel
theorem dX11_deed_4 : decode cX11_deed 4 = .ok (.ifCond .ne 6, 3) := by decide +kernel
theorem dX11_deed_7 : decode cX11_deed 7 = .ok (.bipush (-2), 2) := by decide +kernel
theorem dX11_deed_9 : decode cX11_deed 9 = .ok (.ireturn, 1) := by decide +kernel
theorem dX11_deed_10 : decode cX11_deed 10 = .ok (.aload_n 0, 1) := by decide +kernel
theorem dX11_deed_11 : decode cX11_deed 11 = .ok (.getfield 12, 3) := by decide +kernel
theorem dX11_deed_14 : decode cX11_deed 14 = .ok (.iconst 1, 1) := by decide +kernel
theorem dX11_deed_15 : decode cX11_deed 15 = .ok (.iconst 0, 1) := by decide +kernel
theorem dX11_deed_16 : decode cX11_deed 16 = .ok (.invokevirtual 105, 3) := by decide +kernel
theorem dX11_deed_19 : decode cX11_deed 19 = .ok (.ifCond .eq 15, 3) := by decide +kernel
theorem dX11_deed_22 : decode cX11_deed 22 = .ok (.aload_n 0, 1) := by decide +kernel
theorem dX11_deed_23 : decode cX11_deed 23 = .ok (.getfield 12, 3) := by decide +kernel
theorem dX11_deed_26 : decode cX11_deed 26 = .ok (.iload_n 1, 1) := by decide +kernel
theorem dX11_deed_27 : decode cX11_deed 27 = .ok (.iload_n 2, 1) := by decide +kernel
theorem dX11_deed_28 : decode cX11_deed 28 = .ok (.invokevirtual 109, 3) := by decide +kernel
theorem dX11_deed_31 : decode cX11_deed 31 = .ok (.goto 5, 3) := by decide +kernel
theorem dX11_deed_34 : decode cX11_deed 34 = .ok (.bipush (-4), 2) := by decide +kernel
theorem dX11_deed_36 : decode cX11_deed 36 = .ok (.ireturn, 1) := by decide +kernel
theorem dX11_enclose_0 : decode cX11_enclose 0 = .ok (.aload_n 0, 1) := by decide +kernel
theorem dX11_enclose_1 : decode cX11_enclose 1 = .ok (.getfield 12, 3) := by decide +kernel
theorem dX11_enclose_4 : decode cX11_enclose 4 = .ok (.iload_n 1, 1) := by decide +kernel
theorem dX11_enclose_5 : decode cX11_enclose 5 = .ok (.invokevirtual 113, 3) := by decide +kernel
theorem dX11_enclose_8 : decode cX11_enclose 8 = .ok (.ifCond .eq 14, 3) := by decide +kernel
theorem dX11_enclose_11 : decode cX11_enclose 11 = .ok (.aload_n 0, 1) := by decide +kernel
theorem dX11_enclose_12 : decode cX11_enclose 12 = .ok (.getfield 12, 3) := by decide +kernel
theorem dX11_enclose_15 : decode cX11_enclose 15 = .ok (.iload_n 2, 1) := by decide +kernel
theorem dX11_enclose_16 : decode cX11_enclose 16 = .ok (.invokevirtual 113, 3) := by decide +kernel
theorem dX11_enclose_19 : decode cX11_enclose 19 = .ok (.ifCond .ne 6, 3) := by decide +kernel
theorem dX11_enclose_22 : decode cX11_enclose 22 = .ok (.bipush (-2), 2) := by decide +kernel
theorem dX11_enclose_24 : decode cX11_enclose 24 = .ok (.ireturn, 1) := by decide +kernel
theorem dX11_enclose_25 : decode cX11_enclose 25 = .ok (.iload_n 2, 1) := by decide +kernel
theorem dX11_enclose_26 : decode cX11_enclose 26 = .ok (.iload_n 1, 1) := by decide +kernel
theorem dX11_enclose_27 : decode cX11_enclose 27 = .ok (.if_icmp .lt 6, 3) := by decide +kernel
theorem dX11_enclose_30 : decode cX11_enclose 30 = .ok (.bipush (-3), 2) := by decide +kernel
theorem dX11_enclose_32 : decode cX11_enclose 32 = .ok (.ireturn, 1) := by decide +kernel
theorem dX11_enclose_33 : decode cX11_enclose 33 = .ok (.aload_n 0, 1) := by decide +kernel
theorem dX11_enclose_34 : decode cX11_enclose 34 = .ok (.getfield 12, 3) := by decide +kernel
theorem dX11_enclose_37 : decode cX11_enclose 37 = .ok (.iconst 0, 1) := by decide +kernel
theorem dX11_enclose_38 : decode cX11_enclose 38 = .ok (.iconst 1, 1) := by decide +kernel
theorem dX11_enclose_39 : decode cX11_enclose 39 = .ok (.invokevirtual 105, 3) := by decide +kernel
theorem dX11_enclose_42 : decode cX11_enclose 42 = .ok (.ifCond .ne 6, 3) := by decide +kernel
theorem dX11_enclose_45 : decode cX11_enclose 45 = .ok (.bipush (-4), 2) := by decide +kernel
theorem dX11_enclose_47 : decode cX11_enclose 47 = .ok (.ireturn, 1) := by decide +kernel
theorem dX11_enclose_48 : decode cX11_enclose 48 = .ok (.aload_n 0, 1) := by decide +kernel
theorem dX11_enclose_49 : decode cX11_enclose 49 = .ok (.getfield 12, 3) := by decide +kernel
theorem dX11_enclose_52 : decode cX11_enclose 52 = .ok (.iload_n 1, 1) := by decide +kernel
theorem dX11_enclose_53 : decode cX11_enclose 53 = .ok (.iload_n 2, 1) := by decide +kernel
theorem dX11_enclose_54 : decode cX11_enclose 54 = .ok (.invokevirtual 116, 3) := by decide +kernel
theorem dX11_enclose_57 : decode cX11_enclose 57 = .ok (.aload_n 0, 1) := by decide +kernel
theorem dX11_enclose_58 : decode cX11_enclose 58 = .ok (.getfield 12, 3) := by decide +kernel
theorem dX11_enclose_61 : decode cX11_enclose 61 = .ok (.iload_n 1, 1) := by decide +kernel
theorem dX11_enclose_62 : decode cX11_enclose 62 = .ok (.invokevirtual 120, 3) := by decide +kernel
theorem dX11_enclose_65 : decode cX11_enclose 65 = .ok (.ireturn, 1) := by decide +kernel
theorem dX11_chain_0 : decode cX11_chain 0 = .ok (.iload_n 1, 1) := by decide +kernel
theorem dX11_chain_1 : decode cX11_chain 1 = .ok (.iconst 1, 1) := by decide +kernel
theorem dX11_chain_2 : decode cX11_chain 2 = .ok (.if_icmp .lt 26, 3) := by decide +kernel
theorem dX11_chain_5 : decode cX11_chain 5 = .ok (.iload_n 1, 1) := by decide +kernel
theorem dX11_chain_6 : decode cX11_chain 6 = .ok (.sipush 400, 3) := by decide +kernel
theorem dX11_chain_9 : decode cX11_chain 9 = .ok (.if_icmp .gt 19, 3) := by decide +kernel
theorem dX11_chain_12 : decode cX11_chain 12 = .ok (.iload 4, 2) := by decide +kernel
theorem dX11_chain_14 : decode cX11_chain 14 = .ok (.iconst 1, 1) := by decide +kernel
theorem dX11_chain_15 : decode cX11_chain 15 = .ok (.if_icmp .lt 13, 3) := by decide +kernel
theorem dX11_chain_18 : decode cX11_chain 18 = .ok (.iload 4, 2) := by decide +kernel
theorem dX11_chain_20 : decode cX11_chain 20 = .ok (.iconst 4, 1) := by decide +kernel
theorem dX11_chain_21 : decode cX11_chain 21 = .ok (.if_icmp .gt 7, 3) := by decide +kernel
theorem dX11_chain_24 : decode cX11_chain 24 = .ok (.iconst 1, 1) := by decide +kernel
theorem dX11_chain_25 : decode cX11_chain 25 = .ok (.goto 4, 3) := by decide +kernel
theorem dX11_chain_28 : decode cX11_chain 28 = .ok (.iconst 0, 1) := by decide +kernel
theorem dX11_chain_29 : decode cX11_chain 29 = .ok (.istore 6, 2) := by decide +kernel
theorem dX11_chain_31 : decode cX11_chain 31 = .ok (.iload 6, 2) := by decide +kernel
theorem dX11_chain_33 : decode cX11_chain 33 = .ok (.ifCond .eq 28, 3) := by decide +kernel
theorem dX11_chain_36 : decode cX11_chain 36 = .ok (.iload_n 2, 1) := by decide +kernel
theorem dX11_chain_37 : decode cX11_chain 37 = .ok (.invokestatic 101, 3) := by decide +kernel
theorem dX11_chain_40 : decode cX11_chain 40 = .ok (.ifCond .eq 21, 3) := by decide +kernel
theorem dX11_chain_43 : decode cX11_chain 43 = .ok (.iload 5, 2) := by decide +kernel
theorem dX11_chain_45 : decode cX11_chain 45 = .ok (.iconst (-1), 1) := by decide +kernel
theorem dX11_chain_46 : decode cX11_chain 46 = .ok (.if_icmp .eq 18, 3) := by decide +kernel
theorem dX11_chain_49 : decode cX11_chain 49 = .ok (.aload_n 0, 1) := by decide +kernel
theorem dX11_chain_50 : decode cX11_chain 50 = .ok (.getfield 12, 3) := by decide +kernel
theorem dX11_chain_53 : decode cX11_chain 53 = .ok (.iload 5, 2) := by decide +kernel
theorem dX11_chain_55 : decode cX11_chain 55 = .ok (.invokevirtual 113, 3) := by decide +kernel
theorem dX11_chain_58 : decode cX11_chain 58 = .ok (.ifCond .ne 6, 3) := by decide +kernel
theorem dX11_chain_61 : decode cX11_chain 61 = .ok (.bipush (-2), 2) := by decide +kernel
theorem dX11_chain_63 : decode cX11_chain 63 = .ok (.ireturn, 1) := by decide +kernel
theorem dX11_chain_64 : decode cX11_chain 64 = .ok (.iload 5, 2) := by decide +kernel
theorem dX11_chain_66 : decode cX11_chain 66 = .ok (.iconst (-1), 1) := by decide +kernel
theorem dX11_chain_67 : decode cX11_chain 67 = .ok (.if_icmp .ne 9, 3) := by decide +kernel
theorem dX11_chain_70 : decode cX11_chain 70 = .ok (.iload_n 1, 1) := by decide +kernel
theorem dX11_chain_71 : decode cX11_chain 71 = .ok (.iconst 1, 1) := by decide +kernel
theorem dX11_chain_72 : decode cX11_chain 72 = .ok (.isub, 1) := by decide +kernel
theorem dX11_chain_73 : decode cX11_chain 73 = .ok (.goto 4, 3) := by decide +kernel
theorem dX11_chain_76 : decode cX11_chain 76 = .ok (.iload_n 1, 1) := by decide +kernel
theorem dX11_chain_77 : decode cX11_chain 77 = .ok (.istore 7, 2) := by decide +kernel
theorem dX11_chain_79 : decode cX11_chain 79 = .ok (.aload_n 0, 1) := by decide +kernel
theorem dX11_chain_80 : decode cX11_chain 80 = .ok (.getfield 12, 3) := by decide +kernel
theorem dX11_chain_83 : decode cX11_chain 83 = .ok (.iload_n 1, 1) := by decide +kernel
theorem dX11_chain_84 : decode cX11_chain 84 = .ok (.iload 7, 2) := by decide +kernel
theorem dX11_chain_86 : decode cX11_chain 86 = .ok (.iload 4, 2) := by decide +kernel
theorem dX11_chain_88 : decode cX11_chain 88 = .ok (.imul, 1) := by decide +kernel
theorem dX11_chain_89 : decode cX11_chain 89 = .ok (.invokevirtual 105, 3) := by decide +kernel
theorem dX11_chain_92 : decode cX11_chain 92 = .ok (.ifCond .ne 6, 3) := by decide +kernel
theorem dX11_chain_95 : decode cX11_chain 95 = .ok (.bipush (-4), 2) := by decide +kernel
theorem dX11_chain_97 : decode cX11_chain 97 = .ok (.ireturn, 1) := by decide +kernel
theorem dX11_chain_98 : decode cX11_chain 98 = .ok (.iload 5, 2) := by decide +kernel
theorem dX11_chain_100 : decode cX11_chain 100 = .ok (.istore 8, 2) := by decide +kernel
theorem dX11_chain_102 : decode cX11_chain 102 = .ok (.iconst 0, 1) := by decide +kernel
theorem dX11_chain_103 : decode cX11_chain 103 = .ok (.istore 9, 2) := by decide +kernel
theorem dX11_chain_105 : decode cX11_chain 105 = .ok (.iload 9, 2) := by decide +kernel
theorem dX11_chain_107 : decode cX11_chain 107 = .ok (.iload_n 1, 1) := by decide +kernel
theorem dX11_chain_108 : decode cX11_chain 108 = .ok (.if_icmp .ge 21, 3) := by decide +kernel
theorem dX11_chain_111 : decode cX11_chain 111 = .ok (.aload_n 0, 1) := by decide +kernel
theorem dX11_chain_112 : decode cX11_chain 112 = .ok (.iload_n 2, 1) := by decide +kernel
theorem dX11_chain_113 : decode cX11_chain 113 = .ok (.iload_n 3, 1) := by decide +kernel
theorem dX11_chain_114 : decode cX11_chain 114 = .ok (.iload 4, 2) := by decide +kernel
theorem dX11_chain_116 : decode cX11_chain 116 = .ok (.iload 8, 2) := by decide +kernel
theorem dX11_chain_118 : decode cX11_chain 118 = .ok (.invokevirtual 124, 3) := by decide +kernel
theorem dX11_chain_121 : decode cX11_chain 121 = .ok (.istore 8, 2) := by decide +kernel
theorem dX11_chain_123 : decode cX11_chain 123 = .ok (.iinc 9 1, 3) := by decide +kernel
theorem dX11_chain_126 : decode cX11_chain 126 = .ok (.goto (-21), 3) := by decide +kernel
theorem dX11_chain_129 : decode cX11_chain 129 = .ok (.iload 8, 2) := by decide +kernel
theorem dX11_chain_131 : decode cX11_chain 131 = .ok (.ireturn, 1) := by decide +kernel
theorem dX11_link_0 : decode cX11_link 0 = .ok (.aload_n 0, 1) := by decide +kernel
theorem dX11_link_1 : decode cX11_link 1 = .ok (.getfield 12, 3) := by decide +kernel
theorem dX11_link_4 : decode cX11_link 4 = .ok (.iload_n 1, 1) := by decide +kernel
theorem dX11_link_5 : decode cX11_link 5 = .ok (.iload_n 2, 1) := by decide +kernel
theorem dX11_link_6 : decode cX11_link 6 = .ok (.invokevirtual 109, 3) := by decide +kernel
theorem dX11_link_9 : decode cX11_link 9 = .ok (.istore 5, 2) := by decide +kernel
theorem dX11_link_11 : decode cX11_link 11 = .ok (.iconst 0, 1) := by decide +kernel
theorem dX11_link_12 : decode cX11_link 12 = .ok (.istore 6, 2) := by decide +kernel
theorem dX11_link_14 : decode cX11_link 14 = .ok (.iload 6, 2) := by decide +kernel
theorem dX11_link_16 : decode cX11_link 16 = .ok (.iload_n 3, 1) := by decide +kernel
theorem dX11_link_17 : decode cX11_link 17 = .ok (.if_icmp .ge 26, 3) := by decide +kernel
theorem dX11_link_20 : decode cX11_link 20 = .ok (.iload 4, 2) := by decide +kernel
theorem dX11_link_22 : decode cX11_link 22 = .ok (.iconst (-1), 1) := by decide +kernel
theorem dX11_link_23 : decode cX11_link 23 = .ok (.if_icmp .eq 20, 3) := by decide +kernel
theorem dX11_link_26 : decode cX11_link 26 = .ok (.aload_n 0, 1) := by decide +kernel
theorem dX11_link_27 : decode cX11_link 27 = .ok (.getfield 12, 3) := by decide +kernel
theorem dX11_link_30 : decode cX11_link 30 = .ok (.iload 5, 2) := by decide +kernel
theorem dX11_link_32 : decode cX11_link 32 = .ok (.iload 4, 2) := by decide +kernel
theorem dX11_link_34 : decode cX11_link 34 = .ok (.invokevirtual 116, 3) := by decide +kernel
theorem dX11_link_37 : decode cX11_link 37 = .ok (.iinc 6 1, 3) := by decide +kernel
theorem dX11_link_40 : decode cX11_link 40 = .ok (.goto (-26), 3) := by decide +kernel
theorem dX11_link_43 : decode cX11_link 43 = .ok (.iload 5, 2) := by decide +kernel
theorem dX11_link_45 : decode cX11_link 45 = .ok (.ireturn, 1) := by decide +kernel
theorem dX11_way_0 : decode cX11_way 0 = .ok (.iload_n 1, 1) := by decide +kernel
theorem dX11_way_1 : decode cX11_way 1 = .ok (.ifCond .lt 8, 3) := by decide +kernel
theorem dX11_way_4 : decode cX11_way 4 = .ok (.iload_n 1, 1) := by decide +kernel
theorem dX11_way_5 : decode cX11_way 5 = .ok (.iconst 3, 1) := by decide +kernel
theorem dX11_way_6 : decode cX11_way 6 = .ok (.if_icmp .le 6, 3) := by decide +kernel
theorem dX11_way_9 : decode cX11_way 9 = .ok (.bipush (-2), 2) := by decide +kernel
theorem dX11_way_11 : decode cX11_way 11 = .ok (.ireturn, 1) := by decide +kernel
theorem dX11_way_12 : decode cX11_way 12 = .ok (.aload_n 0, 1) := by decide +kernel
theorem dX11_way_13 : decode cX11_way 13 = .ok (.getfield 97, 3) := by decide +kernel
theorem dX11_way_16 : decode cX11_way 16 = .ok (.getfield 128, 3) := by decide +kernel
theorem dX11_way_19 : decode cX11_way 19 = .ok (.istore_n 2, 1) := by decide +kernel
theorem dX11_way_20 : decode cX11_way 20 = .ok (.aload_n 0, 1) := by decide +kernel
theorem dX11_way_21 : decode cX11_way 21 = .ok (.getfield 97, 3) := by decide +kernel
theorem dX11_way_24 : decode cX11_way 24 = .ok (.iload_n 1, 1) := by decide +kernel
theorem dX11_way_25 : decode cX11_way 25 = .ok (.putfield 128, 3) := by decide +kernel
theorem dX11_way_28 : decode cX11_way 28 = .ok (.iload_n 2, 1) := by decide +kernel
theorem dX11_way_29 : decode cX11_way 29 = .ok (.ireturn, 1) := by decide +kernel
theorem dX11_meter_0 : decode cX11_meter 0 = .ok (.iload_n 1, 1) := by decide +kernel
theorem dX11_meter_1 : decode cX11_meter 1 = .ok (.iconst 1, 1) := by decide +kernel
theorem dX11_meter_2 : decode cX11_meter 2 = .ok (.if_icmp .lt 10, 3) := by decide +kernel
theorem dX11_meter_5 : decode cX11_meter 5 = .ok (.iload_n 1, 1) := by decide +kernel
theorem dX11_meter_6 : decode cX11_meter 6 = .ok (.sipush 300, 3) := by decide +kernel
theorem dX11_meter_9 : decode cX11_meter 9 = .ok (.if_icmp .le 6, 3) := by decide +kernel
theorem dX11_meter_12 : decode cX11_meter 12 = .ok (.bipush (-2), 2) := by decide +kernel
theorem dX11_meter_14 : decode cX11_meter 14 = .ok (.ireturn, 1) := by decide +kernel
theorem dX11_meter_15 : decode cX11_meter 15 = .ok (.aload_n 0, 1) := by decide +kernel
theorem dX11_meter_16 : decode cX11_meter 16 = .ok (.getfield 97, 3) := by decide +kernel
theorem dX11_meter_19 : decode cX11_meter 19 = .ok (.getfield 132, 3) := by decide +kernel
theorem dX11_meter_22 : decode cX11_meter 22 = .ok (.istore_n 2, 1) := by decide +kernel
theorem dX11_meter_23 : decode cX11_meter 23 = .ok (.aload_n 0, 1) := by decide +kernel
theorem dX11_meter_24 : decode cX11_meter 24 = .ok (.getfield 97, 3) := by decide +kernel
theorem dX11_meter_27 : decode cX11_meter 27 = .ok (.iload_n 1, 1) := by decide +kernel
theorem dX11_meter_28 : decode cX11_meter 28 = .ok (.putfield 132, 3) := by decide +kernel
theorem dX11_meter_31 : decode cX11_meter 31 = .ok (.iload_n 2, 1) := by decide +kernel
theorem dX11_meter_32 : decode cX11_meter 32 = .ok (.ireturn, 1) := by decide +kernel
theorem dX11_of_0 : decode cX11_of 0 = .ok (.aload_n 0, 1) := by decide +kernel
theorem dX11_of_1 : decode cX11_of 1 = .ok (.getfield 12, 3) := by decide +kernel
theorem dX11_of_4 : decode cX11_of 4 = .ok (.iload_n 1, 1) := by decide +kernel
theorem dX11_of_5 : decode cX11_of 5 = .ok (.invokevirtual 113, 3) := by decide +kernel
theorem dX11_of_8 : decode cX11_of 8 = .ok (.ifCond .ne 6, 3) := by decide +kernel
theorem dX11_of_11 : decode cX11_of 11 = .ok (.ldc 135, 2) := by decide +kernel
theorem dX11_of_13 : decode cX11_of 13 = .ok (.ireturn, 1) := by decide +kernel
theorem dX11_of_14 : decode cX11_of 14 = .ok (.iload_n 2, 1) := by decide +kernel
theorem dX11_of_15 : decode cX11_of 15 = .ok (.tableswitch 54 0 2 #[25, 35, 44], 25) := by decide +kernel
theorem dX11_of_40 : decode cX11_of 40 = .ok (.aload_n 0, 1) := by decide +kernel
theorem dX11_of_41 : decode cX11_of 41 = .ok (.getfield 12, 3) := by decide +kernel
theorem dX11_of_44 : decode cX11_of 44 = .ok (.getfield 136, 3) := by decide +kernel
theorem dX11_of_47 : decode cX11_of 47 = .ok (.iload_n 1, 1) := by decide +kernel
theorem dX11_of_48 : decode cX11_of 48 = .ok (.iaload, 1) := by decide +kernel
theorem dX11_of_49 : decode cX11_of 49 = .ok (.ireturn, 1) := by decide +kernel
theorem dX11_of_50 : decode cX11_of 50 = .ok (.aload_n 0, 1) := by decide +kernel
theorem dX11_of_51 : decode cX11_of 51 = .ok (.getfield 12, 3) := by decide +kernel
theorem dX11_of_54 : decode cX11_of 54 = .ok (.iload_n 1, 1) := by decide +kernel
theorem dX11_of_55 : decode cX11_of 55 = .ok (.invokevirtual 120, 3) := by decide +kernel
theorem dX11_of_58 : decode cX11_of 58 = .ok (.ireturn, 1) := by decide +kernel
theorem dX11_of_59 : decode cX11_of 59 = .ok (.aload_n 0, 1) := by decide +kernel
theorem dX11_of_60 : decode cX11_of 60 = .ok (.getfield 12, 3) := by decide +kernel
theorem dX11_of_63 : decode cX11_of 63 = .ok (.getfield 140, 3) := by decide +kernel
theorem dX11_of_66 : decode cX11_of 66 = .ok (.iload_n 1, 1) := by decide +kernel
theorem dX11_of_67 : decode cX11_of 67 = .ok (.iaload, 1) := by decide +kernel
theorem dX11_of_68 : decode cX11_of 68 = .ok (.ireturn, 1) := by decide +kernel
theorem dX11_of_69 : decode cX11_of 69 = .ok (.ldc 135, 2) := by decide +kernel
theorem dX11_of_71 : decode cX11_of 71 = .ok (.ireturn, 1) := by decide +kernel
theorem dX11_part_0 : decode cX11_part 0 = .ok (.aload_n 0, 1) := by decide +kernel
theorem dX11_part_1 : decode cX11_part 1 = .ok (.getfield 12, 3) := by decide +kernel
theorem dX11_part_4 : decode cX11_part 4 = .ok (.iload_n 1, 1) := by decide +kernel
theorem dX11_part_5 : decode cX11_part 5 = .ok (.invokevirtual 113, 3) := by decide +kernel
theorem dX11_part_8 : decode cX11_part 8 = .ok (.ifCond .eq 19, 3) := by decide +kernel
theorem dX11_part_11 : decode cX11_part 11 = .ok (.iload_n 2, 1) := by decide +kernel
theorem dX11_part_12 : decode cX11_part 12 = .ok (.ifCond .lt 15, 3) := by decide +kernel
theorem dX11_part_15 : decode cX11_part 15 = .ok (.iload_n 2, 1) := by decide +kernel
theorem dX11_part_16 : decode cX11_part 16 = .ok (.aload_n 0, 1) := by decide +kernel
theorem dX11_part_17 : decode cX11_part 17 = .ok (.getfield 12, 3) := by decide +kernel
theorem dX11_part_20 : decode cX11_part 20 = .ok (.iload_n 1, 1) := by decide +kernel
theorem dX11_part_21 : decode cX11_part 21 = .ok (.invokevirtual 120, 3) := by decide +kernel
theorem dX11_part_24 : decode cX11_part 24 = .ok (.if_icmp .lt 6, 3) := by decide +kernel
theorem dX11_part_27 : decode cX11_part 27 = .ok (.bipush (-2), 2) := by decide +kernel
theorem dX11_part_29 : decode cX11_part 29 = .ok (.ireturn, 1) := by decide +kernel
theorem dX11_part_30 : decode cX11_part 30 = .ok (.aload_n 0, 1) := by decide +kernel
theorem dX11_part_31 : decode cX11_part 31 = .ok (.getfield 12, 3) := by decide +kernel
theorem dX11_part_34 : decode cX11_part 34 = .ok (.iload_n 1, 1) := by decide +kernel
theorem dX11_part_35 : decode cX11_part 35 = .ok (.iload_n 2, 1) := by decide +kernel
theorem dX11_part_36 : decode cX11_part 36 = .ok (.invokevirtual 143, 3) := by decide +kernel
theorem dX11_part_39 : decode cX11_part 39 = .ok (.ireturn, 1) := by decide +kernel
theorem dX11_size_0 : decode cX11_size 0 = .ok (.aload_n 0, 1) := by decide +kernel
theorem dX11_size_1 : decode cX11_size 1 = .ok (.getfield 97, 3) := by decide +kernel
theorem dX11_size_4 : decode cX11_size 4 = .ok (.aload_n 0, 1) := by decide +kernel
theorem dX11_size_5 : decode cX11_size 5 = .ok (.getfield 44, 3) := by decide +kernel
theorem dX11_size_8 : decode cX11_size 8 = .ok (.iload_n 1, 1) := by decide +kernel
theorem dX11_size_9 : decode cX11_size 9 = .ok (.invokevirtual 146, 3) := by decide +kernel
theorem dX11_size_12 : decode cX11_size 12 = .ok (.istore_n 2, 1) := by decide +kernel
theorem dX11_size_13 : decode cX11_size 13 = .ok (.iload_n 2, 1) := by decide +kernel
theorem dX11_size_14 : decode cX11_size 14 = .ok (.ifCond .ne 13, 3) := by decide +kernel
theorem dX11_size_17 : decode cX11_size 17 = .ok (.aload_n 0, 1) := by decide +kernel
theorem dX11_size_18 : decode cX11_size 18 = .ok (.getfield 97, 3) := by decide +kernel
theorem dX11_size_21 : decode cX11_size 21 = .ok (.getfield 150, 3) := by decide +kernel
theorem dX11_size_24 : decode cX11_size 24 = .ok (.goto 4, 3) := by decide +kernel
theorem dX11_size_27 : decode cX11_size 27 = .ok (.iload_n 2, 1) := by decide +kernel
theorem dX11_size_28 : decode cX11_size 28 = .ok (.ireturn, 1) := by decide +kernel
theorem dX11_depth_0 : decode cX11_depth 0 = .ok (.aload_n 0, 1) := by decide +kernel
theorem dX11_depth_1 : decode cX11_depth 1 = .ok (.getfield 97, 3) := by decide +kernel
theorem dX11_depth_4 : decode cX11_depth 4 = .ok (.aload_n 0, 1) := by decide +kernel
theorem dX11_depth_5 : decode cX11_depth 5 = .ok (.getfield 44, 3) := by decide +kernel
theorem dX11_depth_8 : decode cX11_depth 8 = .ok (.iload_n 1, 1) := by decide +kernel
theorem dX11_depth_9 : decode cX11_depth 9 = .ok (.invokevirtual 146, 3) := by decide +kernel
theorem dX11_depth_12 : decode cX11_depth 12 = .ok (.istore_n 2, 1) := by decide +kernel
theorem dX11_depth_13 : decode cX11_depth 13 = .ok (.iload_n 2, 1) := by decide +kernel
theorem dX11_depth_14 : decode cX11_depth 14 = .ok (.ifCond .ne 13, 3) := by decide +kernel
theorem dX11_depth_17 : decode cX11_depth 17 = .ok (.aload_n 0, 1) := by decide +kernel
theorem dX11_depth_18 : decode cX11_depth 18 = .ok (.getfield 97, 3) := by decide +kernel
theorem dX11_depth_21 : decode cX11_depth 21 = .ok (.getfield 153, 3) := by decide +kernel
theorem dX11_depth_24 : decode cX11_depth 24 = .ok (.goto 4, 3) := by decide +kernel
theorem dX11_depth_27 : decode cX11_depth 27 = .ok (.iload_n 2, 1) := by decide +kernel
theorem dX11_depth_28 : decode cX11_depth 28 = .ok (.ireturn, 1) := by decide +kernel
theorem dX11_worth_0 : decode cX11_worth 0 = .ok (.aload_n 0, 1) := by decide +kernel
theorem dX11_worth_1 : decode cX11_worth 1 = .ok (.getfield 97, 3) := by decide +kernel
theorem dX11_worth_4 : decode cX11_worth 4 = .ok (.aload_n 0, 1) := by decide +kernel
theorem dX11_worth_5 : decode cX11_worth 5 = .ok (.getfield 53, 3) := by decide +kernel
theorem dX11_worth_8 : decode cX11_worth 8 = .ok (.iload_n 1, 1) := by decide +kernel
theorem dX11_worth_9 : decode cX11_worth 9 = .ok (.invokevirtual 146, 3) := by decide +kernel
theorem dX11_worth_12 : decode cX11_worth 12 = .ok (.ifCond .ne 12, 3) := by decide +kernel
theorem dX11_worth_15 : decode cX11_worth 15 = .ok (.aload_n 0, 1) := by decide +kernel
theorem dX11_worth_16 : decode cX11_worth 16 = .ok (.getfield 35, 3) := by decide +kernel
theorem dX11_worth_19 : decode cX11_worth 19 = .ok (.iconst 1, 1) := by decide +kernel
theorem dX11_worth_20 : decode cX11_worth 20 = .ok (.laload, 1) := by decide +kernel
theorem dX11_worth_21 : decode cX11_worth 21 = .ok (.goto 4, 3) := by decide +kernel
theorem dX11_worth_24 : decode cX11_worth 24 = .ok (.lconst 0, 1) := by decide +kernel
theorem dX11_worth_25 : decode cX11_worth 25 = .ok (.lreturn, 1) := by decide +kernel
theorem dX11_mark_0 : decode cX11_mark 0 = .ok (.aload_n 0, 1) := by decide +kernel
theorem dX11_mark_1 : decode cX11_mark 1 = .ok (.getfield 97, 3) := by decide +kernel
theorem dX11_mark_4 : decode cX11_mark 4 = .ok (.aload_n 0, 1) := by decide +kernel
theorem dX11_mark_5 : decode cX11_mark 5 = .ok (.getfield 60, 3) := by decide +kernel
theorem dX11_mark_8 : decode cX11_mark 8 = .ok (.iload_n 1, 1) := by decide +kernel
theorem dX11_mark_9 : decode cX11_mark 9 = .ok (.invokevirtual 146, 3) := by decide +kernel
theorem dX11_mark_12 : decode cX11_mark 12 = .ok (.ifCond .ne 12, 3) := by decide +kernel
theorem dX11_mark_15 : decode cX11_mark 15 = .ok (.aload_n 0, 1) := by decide +kernel
theorem dX11_mark_16 : decode cX11_mark 16 = .ok (.getfield 35, 3) := by decide +kernel
theorem dX11_mark_19 : decode cX11_mark 19 = .ok (.iconst 1, 1) := by decide +kernel
theorem dX11_mark_20 : decode cX11_mark 20 = .ok (.laload, 1) := by decide +kernel
theorem dX11_mark_21 : decode cX11_mark 21 = .ok (.goto 4, 3) := by decide +kernel
theorem dX11_mark_24 : decode cX11_mark 24 = .ok (.lconst 0, 1) := by decide +kernel
theorem dX11_mark_25 : decode cX11_mark 25 = .ok (.lreturn, 1) := by decide +kernel
theorem dX11_alike_0 : decode cX11_alike 0 = .ok (.aload_n 0, 1) := by decide +kernel
theorem dX11_alike_1 : decode cX11_alike 1 = .ok (.getfield 12, 3) := by decide +kernel
theorem dX11_alike_4 : decode cX11_alike 4 = .ok (.iload_n 2, 1) := by decide +kernel
theorem dX11_alike_5 : decode cX11_alike 5 = .ok (.invokevirtual 113, 3) := by decide +kernel
theorem dX11_alike_8 : decode cX11_alike 8 = .ok (.ifCond .ne 11, 3) := by decide +kernel
theorem dX11_alike_11 : decode cX11_alike 11 = .ok (.aload_n 0, 1) := by decide +kernel
theorem dX11_alike_12 : decode cX11_alike 12 = .ok (.getfield 97, 3) := by decide +kernel
theorem dX11_alike_15 : decode cX11_alike 15 = .ok (.invokevirtual 156, 3) := by decide +kernel
theorem dX11_alike_18 : decode cX11_alike 18 = .ok (.ireturn, 1) := by decide +kernel
theorem dX11_alike_19 : decode cX11_alike 19 = .ok (.aload_n 0, 1) := by decide +kernel
theorem dX11_alike_20 : decode cX11_alike 20 = .ok (.getfield 67, 3) := by decide +kernel
theorem dX11_alike_23 : decode cX11_alike 23 = .ok (.iload_n 2, 1) := by decide +kernel
theorem dX11_alike_24 : decode cX11_alike 24 = .ok (.invokevirtual 160, 3) := by decide +kernel
theorem dX11_alike_27 : decode cX11_alike 27 = .ok (.aload_n 0, 1) := by decide +kernel
theorem dX11_alike_28 : decode cX11_alike 28 = .ok (.getfield 97, 3) := by decide +kernel
theorem dX11_alike_31 : decode cX11_alike 31 = .ok (.aload_n 0, 1) := by decide +kernel
theorem dX11_alike_32 : decode cX11_alike 32 = .ok (.getfield 67, 3) := by decide +kernel
theorem dX11_alike_35 : decode cX11_alike 35 = .ok (.iload_n 1, 1) := by decide +kernel
theorem dX11_alike_36 : decode cX11_alike 36 = .ok (.invokevirtual 146, 3) := by decide +kernel
theorem dX11_alike_39 : decode cX11_alike 39 = .ok (.istore_n 3, 1) := by decide +kernel
theorem dX11_alike_40 : decode cX11_alike 40 = .ok (.iload_n 3, 1) := by decide +kernel
theorem dX11_alike_41 : decode cX11_alike 41 = .ok (.ifCond .eq 5, 3) := by decide +kernel
theorem dX11_alike_44 : decode cX11_alike 44 = .ok (.iload_n 3, 1) := by decide +kernel
theorem dX11_alike_45 : decode cX11_alike 45 = .ok (.ireturn, 1) := by decide +kernel
theorem dX11_alike_46 : decode cX11_alike 46 = .ok (.aload_n 0, 1) := by decide +kernel
theorem dX11_alike_47 : decode cX11_alike 47 = .ok (.getfield 67, 3) := by decide +kernel
theorem dX11_alike_50 : decode cX11_alike 50 = .ok (.getfield 164, 3) := by decide +kernel
theorem dX11_alike_53 : decode cX11_alike 53 = .ok (.ifCond .eq 7, 3) := by decide +kernel
theorem dX11_alike_56 : decode cX11_alike 56 = .ok (.iconst 0, 1) := by decide +kernel
theorem dX11_alike_57 : decode cX11_alike 57 = .ok (.goto 4, 3) := by decide +kernel
theorem dX11_alike_60 : decode cX11_alike 60 = .ok (.iconst 1, 1) := by decide +kernel
theorem dX11_alike_61 : decode cX11_alike 61 = .ok (.ireturn, 1) := by decide +kernel
theorem dX11_write_0 : decode cX11_write 0 = .ok (.aload_n 0, 1) := by decide +kernel
theorem dX11_write_1 : decode cX11_write 1 = .ok (.getfield 23, 3) := by decide +kernel
theorem dX11_write_4 : decode cX11_write 4 = .ok (.invokevirtual 168, 3) := by decide +kernel
theorem dX11_write_7 : decode cX11_write 7 = .ok (.aload_n 0, 1) := by decide +kernel
theorem dX11_write_8 : decode cX11_write 8 = .ok (.getfield 97, 3) := by decide +kernel
theorem dX11_write_11 : decode cX11_write 11 = .ok (.aload_n 0, 1) := by decide +kernel
theorem dX11_write_12 : decode cX11_write 12 = .ok (.getfield 74, 3) := by decide +kernel
theorem dX11_write_15 : decode cX11_write 15 = .ok (.iload_n 1, 1) := by decide +kernel
theorem dX11_write_16 : decode cX11_write 16 = .ok (.invokevirtual 146, 3) := by decide +kernel
theorem dX11_write_19 : decode cX11_write 19 = .ok (.istore_n 2, 1) := by decide +kernel
theorem dX11_write_20 : decode cX11_write 20 = .ok (.iload_n 2, 1) := by decide +kernel
theorem dX11_write_21 : decode cX11_write 21 = .ok (.ifCond .eq 5, 3) := by decide +kernel
theorem dX11_write_24 : decode cX11_write 24 = .ok (.iload_n 2, 1) := by decide +kernel
theorem dX11_write_25 : decode cX11_write 25 = .ok (.ireturn, 1) := by decide +kernel
theorem dX11_write_26 : decode cX11_write 26 = .ok (.aload_n 0, 1) := by decide +kernel
theorem dX11_write_27 : decode cX11_write 27 = .ok (.getfield 23, 3) := by decide +kernel
theorem dX11_write_30 : decode cX11_write 30 = .ok (.getfield 171, 3) := by decide +kernel
theorem dX11_write_33 : decode cX11_write 33 = .ok (.ifCond .eq 6, 3) := by decide +kernel
theorem dX11_write_36 : decode cX11_write 36 = .ok (.bipush (-4), 2) := by decide +kernel
theorem dX11_write_38 : decode cX11_write 38 = .ok (.ireturn, 1) := by decide +kernel
theorem dX11_write_39 : decode cX11_write 39 = .ok (.aload_n 0, 1) := by decide +kernel
theorem dX11_write_40 : decode cX11_write 40 = .ok (.getfield 19, 3) := by decide +kernel
theorem dX11_write_43 : decode cX11_write 43 = .ok (.aload_n 0, 1) := by decide +kernel
theorem dX11_write_44 : decode cX11_write 44 = .ok (.getfield 23, 3) := by decide +kernel
theorem dX11_write_47 : decode cX11_write 47 = .ok (.invokevirtual 174, 3) := by decide +kernel
theorem dX11_write_50 : decode cX11_write 50 = .ok (.aload_n 0, 1) := by decide +kernel
theorem dX11_write_51 : decode cX11_write 51 = .ok (.getfield 19, 3) := by decide +kernel
theorem dX11_write_54 : decode cX11_write 54 = .ok (.getfield 178, 3) := by decide +kernel
theorem dX11_write_57 : decode cX11_write 57 = .ok (.ireturn, 1) := by decide +kernel
theorem dX11_find_0 : decode cX11_find 0 = .ok (.iload_n 2, 1) := by decide +kernel
theorem dX11_find_1 : decode cX11_find 1 = .ok (.invokestatic 101, 3) := by decide +kernel
theorem dX11_find_4 : decode cX11_find 4 = .ok (.ifCond .ne 11, 3) := by decide +kernel
theorem dX11_find_7 : decode cX11_find 7 = .ok (.aload_n 0, 1) := by decide +kernel
theorem dX11_find_8 : decode cX11_find 8 = .ok (.getfield 97, 3) := by decide +kernel
theorem dX11_find_11 : decode cX11_find 11 = .ok (.invokevirtual 156, 3) := by decide +kernel
theorem dX11_find_14 : decode cX11_find 14 = .ok (.ireturn, 1) := by decide +kernel
theorem dX11_find_15 : decode cX11_find 15 = .ok (.aload_n 0, 1) := by decide +kernel
theorem dX11_find_16 : decode cX11_find 16 = .ok (.getfield 81, 3) := by decide +kernel
theorem dX11_find_19 : decode cX11_find 19 = .ok (.iload_n 2, 1) := by decide +kernel
theorem dX11_find_20 : decode cX11_find 20 = .ok (.iload_n 3, 1) := by decide +kernel
theorem dX11_find_21 : decode cX11_find 21 = .ok (.invokevirtual 181, 3) := by decide +kernel
theorem dX11_find_24 : decode cX11_find 24 = .ok (.aload_n 0, 1) := by decide +kernel
theorem dX11_find_25 : decode cX11_find 25 = .ok (.getfield 97, 3) := by decide +kernel
theorem dX11_find_28 : decode cX11_find 28 = .ok (.aload_n 0, 1) := by decide +kernel
theorem dX11_find_29 : decode cX11_find 29 = .ok (.getfield 81, 3) := by decide +kernel
theorem dX11_find_32 : decode cX11_find 32 = .ok (.iload_n 1, 1) := by decide +kernel
theorem dX11_find_33 : decode cX11_find 33 = .ok (.invokevirtual 146, 3) := by decide +kernel
theorem dX11_find_36 : decode cX11_find 36 = .ok (.istore 4, 2) := by decide +kernel
theorem dX11_find_38 : decode cX11_find 38 = .ok (.iload 4, 2) := by decide +kernel
theorem dX11_find_40 : decode cX11_find 40 = .ok (.ifCond .eq 6, 3) := by decide +kernel
theorem dX11_find_43 : decode cX11_find 43 = .ok (.iload 4, 2) := by decide +kernel
theorem dX11_find_45 : decode cX11_find 45 = .ok (.ireturn, 1) := by decide +kernel
theorem dX11_find_46 : decode cX11_find 46 = .ok (.aload_n 0, 1) := by decide +kernel
theorem dX11_find_47 : decode cX11_find 47 = .ok (.getfield 81, 3) := by decide +kernel
theorem dX11_find_50 : decode cX11_find 50 = .ok (.getfield 183, 3) := by decide +kernel
theorem dX11_find_53 : decode cX11_find 53 = .ok (.ifCond .eq 15, 3) := by decide +kernel
theorem dX11_find_56 : decode cX11_find 56 = .ok (.aload_n 0, 1) := by decide +kernel
theorem dX11_find_57 : decode cX11_find 57 = .ok (.getfield 97, 3) := by decide +kernel
theorem dX11_find_60 : decode cX11_find 60 = .ok (.getfield 150, 3) := by decide +kernel
theorem dX11_find_63 : decode cX11_find 63 = .ok (.iconst 1, 1) := by decide +kernel
theorem dX11_find_64 : decode cX11_find 64 = .ok (.isub, 1) := by decide +kernel
theorem dX11_find_65 : decode cX11_find 65 = .ok (.goto 4, 3) := by decide +kernel
theorem dX11_find_68 : decode cX11_find 68 = .ok (.iconst (-1), 1) := by decide +kernel
theorem dX11_find_69 : decode cX11_find 69 = .ok (.ireturn, 1) := by decide +kernel
theorem dX11_widest_0 : decode cX11_widest 0 = .ok (.iload_n 2, 1) := by decide +kernel
theorem dX11_widest_1 : decode cX11_widest 1 = .ok (.ifCond .lt 8, 3) := by decide +kernel
theorem dX11_widest_4 : decode cX11_widest 4 = .ok (.iload_n 2, 1) := by decide +kernel
theorem dX11_widest_5 : decode cX11_widest 5 = .ok (.iconst 1, 1) := by decide +kernel
theorem dX11_widest_6 : decode cX11_widest 6 = .ok (.if_icmp .le 11, 3) := by decide +kernel
theorem dX11_widest_9 : decode cX11_widest 9 = .ok (.aload_n 0, 1) := by decide +kernel
theorem dX11_widest_10 : decode cX11_widest 10 = .ok (.getfield 97, 3) := by decide +kernel
theorem dX11_widest_13 : decode cX11_widest 13 = .ok (.invokevirtual 156, 3) := by decide +kernel
theorem dX11_widest_16 : decode cX11_widest 16 = .ok (.ireturn, 1) := by decide +kernel
theorem dX11_widest_17 : decode cX11_widest 17 = .ok (.aload_n 0, 1) := by decide +kernel
theorem dX11_widest_18 : decode cX11_widest 18 = .ok (.getfield 97, 3) := by decide +kernel
theorem dX11_widest_21 : decode cX11_widest 21 = .ok (.aload_n 0, 1) := by decide +kernel
theorem dX11_widest_22 : decode cX11_widest 22 = .ok (.getfield 44, 3) := by decide +kernel
theorem dX11_widest_25 : decode cX11_widest 25 = .ok (.iload_n 1, 1) := by decide +kernel
theorem dX11_widest_26 : decode cX11_widest 26 = .ok (.invokevirtual 146, 3) := by decide +kernel
theorem dX11_widest_29 : decode cX11_widest 29 = .ok (.istore_n 3, 1) := by decide +kernel
theorem dX11_widest_30 : decode cX11_widest 30 = .ok (.iload_n 3, 1) := by decide +kernel
theorem dX11_widest_31 : decode cX11_widest 31 = .ok (.ifCond .eq 5, 3) := by decide +kernel
theorem dX11_widest_34 : decode cX11_widest 34 = .ok (.iload_n 3, 1) := by decide +kernel
theorem dX11_widest_35 : decode cX11_widest 35 = .ok (.ireturn, 1) := by decide +kernel
theorem dX11_widest_36 : decode cX11_widest 36 = .ok (.aload_n 0, 1) := by decide +kernel
theorem dX11_widest_37 : decode cX11_widest 37 = .ok (.getfield 97, 3) := by decide +kernel
theorem dX11_widest_40 : decode cX11_widest 40 = .ok (.invokevirtual 184, 3) := by decide +kernel
theorem dX11_widest_43 : decode cX11_widest 43 = .ok (.istore 4, 2) := by decide +kernel
theorem dX11_widest_45 : decode cX11_widest 45 = .ok (.iload_n 2, 1) := by decide +kernel
theorem dX11_widest_46 : decode cX11_widest 46 = .ok (.ifCond .ne 8, 3) := by decide +kernel
theorem dX11_widest_49 : decode cX11_widest 49 = .ok (.iload 4, 2) := by decide +kernel
theorem dX11_widest_51 : decode cX11_widest 51 = .ok (.goto 13, 3) := by decide +kernel
theorem dX11_widest_54 : decode cX11_widest 54 = .ok (.aload_n 0, 1) := by decide +kernel
theorem dX11_widest_55 : decode cX11_widest 55 = .ok (.getfield 97, 3) := by decide +kernel
theorem dX11_widest_58 : decode cX11_widest 58 = .ok (.getfield 187, 3) := by decide +kernel
theorem dX11_widest_61 : decode cX11_widest 61 = .ok (.iload 4, 2) := by decide +kernel
theorem dX11_widest_63 : decode cX11_widest 63 = .ok (.iaload, 1) := by decide +kernel
theorem dX11_widest_64 : decode cX11_widest 64 = .ok (.ireturn, 1) := by decide +kernel
theorem dX11_copy_0 : decode cX11_copy 0 = .ok (.aload_n 0, 1) := by decide +kernel
theorem dX11_copy_1 : decode cX11_copy 1 = .ok (.iload_n 1, 1) := by decide +kernel
theorem dX11_copy_2 : decode cX11_copy 2 = .ok (.ldc 190, 2) := by decide +kernel
theorem dX11_copy_4 : decode cX11_copy 4 = .ok (.iconst 0, 1) := by decide +kernel
theorem dX11_copy_5 : decode cX11_copy 5 = .ok (.invokevirtual 191, 3) := by decide +kernel
theorem dX11_copy_8 : decode cX11_copy 8 = .ok (.ireturn, 1) := by decide +kernel
theorem dX11_thin_0 : decode cX11_thin 0 = .ok (.aload_n 0, 1) := by decide +kernel
theorem dX11_thin_1 : decode cX11_thin 1 = .ok (.iload_n 1, 1) := by decide +kernel
theorem dX11_thin_2 : decode cX11_thin 2 = .ok (.iload_n 2, 1) := by decide +kernel
theorem dX11_thin_3 : decode cX11_thin 3 = .ok (.iconst 0, 1) := by decide +kernel
theorem dX11_thin_4 : decode cX11_thin 4 = .ok (.invokevirtual 191, 3) := by decide +kernel
theorem dX11_thin_7 : decode cX11_thin 7 = .ok (.ireturn, 1) := by decide +kernel
theorem dX11_order_0 : decode cX11_order 0 = .ok (.aload_n 0, 1) := by decide +kernel
theorem dX11_order_1 : decode cX11_order 1 = .ok (.iload_n 1, 1) := by decide +kernel
theorem dX11_order_2 : decode cX11_order 2 = .ok (.ldc 190, 2) := by decide +kernel
theorem dX11_order_4 : decode cX11_order 4 = .ok (.iconst 1, 1) := by decide +kernel
theorem dX11_order_5 : decode cX11_order 5 = .ok (.invokevirtual 191, 3) := by decide +kernel
theorem dX11_order_8 : decode cX11_order 8 = .ok (.ireturn, 1) := by decide +kernel
theorem dX11_remake_0 : decode cX11_remake 0 = .ok (.aload_n 0, 1) := by decide +kernel
theorem dX11_remake_1 : decode cX11_remake 1 = .ok (.getfield 88, 3) := by decide +kernel
theorem dX11_remake_4 : decode cX11_remake 4 = .ok (.iload_n 2, 1) := by decide +kernel
theorem dX11_remake_5 : decode cX11_remake 5 = .ok (.invokevirtual 195, 3) := by decide +kernel
theorem dX11_remake_8 : decode cX11_remake 8 = .ok (.aload_n 0, 1) := by decide +kernel
theorem dX11_remake_9 : decode cX11_remake 9 = .ok (.getfield 97, 3) := by decide +kernel
theorem dX11_remake_12 : decode cX11_remake 12 = .ok (.aload_n 0, 1) := by decide +kernel
theorem dX11_remake_13 : decode cX11_remake 13 = .ok (.getfield 88, 3) := by decide +kernel
theorem dX11_remake_16 : decode cX11_remake 16 = .ok (.iload_n 1, 1) := by decide +kernel
theorem dX11_remake_17 : decode cX11_remake 17 = .ok (.invokevirtual 146, 3) := by decide +kernel
theorem dX11_remake_20 : decode cX11_remake 20 = .ok (.istore 4, 2) := by decide +kernel
theorem dX11_remake_22 : decode cX11_remake 22 = .ok (.iload 4, 2) := by decide +kernel
theorem dX11_remake_24 : decode cX11_remake 24 = .ok (.ifCond .eq 6, 3) := by decide +kernel
theorem dX11_remake_27 : decode cX11_remake 27 = .ok (.iload 4, 2) := by decide +kernel
theorem dX11_remake_29 : decode cX11_remake 29 = .ok (.ireturn, 1) := by decide +kernel
theorem dX11_remake_30 : decode cX11_remake 30 = .ok (.aload_n 0, 1) := by decide +kernel
theorem dX11_remake_31 : decode cX11_remake 31 = .ok (.getfield 12, 3) := by decide +kernel
theorem dX11_remake_34 : decode cX11_remake 34 = .ok (.aload_n 0, 1) := by decide +kernel
theorem dX11_remake_35 : decode cX11_remake 35 = .ok (.getfield 88, 3) := by decide +kernel
theorem dX11_remake_38 : decode cX11_remake 38 = .ok (.getfield 198, 3) := by decide +kernel
theorem dX11_remake_41 : decode cX11_remake 41 = .ok (.aload_n 0, 1) := by decide +kernel
theorem dX11_remake_42 : decode cX11_remake 42 = .ok (.getfield 88, 3) := by decide +kernel
theorem dX11_remake_45 : decode cX11_remake 45 = .ok (.getfield 198, 3) := by decide +kernel
theorem dX11_remake_48 : decode cX11_remake 48 = .ok (.iconst 1, 1) := by decide +kernel
theorem dX11_remake_49 : decode cX11_remake 49 = .ok (.isub, 1) := by decide +kernel
theorem dX11_remake_50 : decode cX11_remake 50 = .ok (.invokevirtual 105, 3) := by decide +kernel
theorem dX11_remake_53 : decode cX11_remake 53 = .ok (.ifCond .ne 6, 3) := by decide +kernel
theorem dX11_remake_56 : decode cX11_remake 56 = .ok (.bipush (-4), 2) := by decide +kernel
theorem dX11_remake_58 : decode cX11_remake 58 = .ok (.ireturn, 1) := by decide +kernel
theorem dX11_remake_59 : decode cX11_remake 59 = .ok (.aload_n 0, 1) := by decide +kernel
theorem dX11_remake_60 : decode cX11_remake 60 = .ok (.getfield 88, 3) := by decide +kernel
theorem dX11_remake_63 : decode cX11_remake 63 = .ok (.iload_n 1, 1) := by decide +kernel
theorem dX11_remake_64 : decode cX11_remake 64 = .ok (.iload_n 3, 1) := by decide +kernel
theorem dX11_remake_65 : decode cX11_remake 65 = .ok (.invokevirtual 201, 3) := by decide +kernel
theorem dX11_remake_68 : decode cX11_remake 68 = .ok (.aload_n 0, 1) := by decide +kernel
theorem dX11_remake_69 : decode cX11_remake 69 = .ok (.getfield 97, 3) := by decide +kernel
theorem dX11_remake_72 : decode cX11_remake 72 = .ok (.aload_n 0, 1) := by decide +kernel
theorem dX11_remake_73 : decode cX11_remake 73 = .ok (.getfield 88, 3) := by decide +kernel
theorem dX11_remake_76 : decode cX11_remake 76 = .ok (.iload_n 1, 1) := by decide +kernel
theorem dX11_remake_77 : decode cX11_remake 77 = .ok (.invokevirtual 146, 3) := by decide +kernel
theorem dX11_remake_80 : decode cX11_remake 80 = .ok (.pop, 1) := by decide +kernel
theorem dX11_remake_81 : decode cX11_remake 81 = .ok (.aload_n 0, 1) := by decide +kernel
theorem dX11_remake_82 : decode cX11_remake 82 = .ok (.getfield 12, 3) := by decide +kernel
theorem dX11_remake_85 : decode cX11_remake 85 = .ok (.invokevirtual 205, 3) := by decide +kernel
theorem dX11_remake_88 : decode cX11_remake 88 = .ok (.ireturn, 1) := by decide +kernel
theorem dX11_feed_0 : decode cX11_feed 0 = .ok (.iload_n 3, 1) := by decide +kernel
theorem dX11_feed_1 : decode cX11_feed 1 = .ok (.iconst 1, 1) := by decide +kernel
theorem dX11_feed_2 : decode cX11_feed 2 = .ok (.if_icmp .lt 9, 3) := by decide +kernel
theorem dX11_feed_5 : decode cX11_feed 5 = .ok (.iload_n 3, 1) := by decide +kernel
theorem dX11_feed_6 : decode cX11_feed 6 = .ok (.bipush 8, 2) := by decide +kernel
theorem dX11_feed_8 : decode cX11_feed 8 = .ok (.if_icmp .le 6, 3) := by decide +kernel
theorem dX11_feed_11 : decode cX11_feed 11 = .ok (.bipush (-2), 2) := by decide +kernel
theorem dX11_feed_13 : decode cX11_feed 13 = .ok (.ireturn, 1) := by decide +kernel
theorem dX11_feed_14 : decode cX11_feed 14 = .ok (.aload_n 0, 1) := by decide +kernel
theorem dX11_feed_15 : decode cX11_feed 15 = .ok (.getfield 19, 3) := by decide +kernel
theorem dX11_feed_18 : decode cX11_feed 18 = .ok (.getfield 178, 3) := by decide +kernel
theorem dX11_feed_21 : decode cX11_feed 21 = .ok (.iload_n 3, 1) := by decide +kernel
theorem dX11_feed_22 : decode cX11_feed 22 = .ok (.iadd, 1) := by decide +kernel
theorem dX11_feed_23 : decode cX11_feed 23 = .ok (.sipush 6000, 3) := by decide +kernel
theorem dX11_feed_26 : decode cX11_feed 26 = .ok (.if_icmp .le 6, 3) := by decide +kernel
theorem dX11_feed_29 : decode cX11_feed 29 = .ok (.bipush (-4), 2) := by decide +kernel
theorem dX11_feed_31 : decode cX11_feed 31 = .ok (.ireturn, 1) := by decide +kernel
theorem dX11_feed_32 : decode cX11_feed 32 = .ok (.iload_n 3, 1) := by decide +kernel
theorem dX11_feed_33 : decode cX11_feed 33 = .ok (.iconst 1, 1) := by decide +kernel
theorem dX11_feed_34 : decode cX11_feed 34 = .ok (.isub, 1) := by decide +kernel
theorem dX11_feed_35 : decode cX11_feed 35 = .ok (.istore 4, 2) := by decide +kernel
theorem dX11_feed_37 : decode cX11_feed 37 = .ok (.iload 4, 2) := by decide +kernel
theorem dX11_feed_39 : decode cX11_feed 39 = .ok (.ifCond .lt 28, 3) := by decide +kernel
theorem dX11_feed_42 : decode cX11_feed 42 = .ok (.aload_n 0, 1) := by decide +kernel
theorem dX11_feed_43 : decode cX11_feed 43 = .ok (.getfield 19, 3) := by decide +kernel
theorem dX11_feed_46 : decode cX11_feed 46 = .ok (.lload_n 1, 1) := by decide +kernel
theorem dX11_feed_47 : decode cX11_feed 47 = .ok (.bipush 8, 2) := by decide +kernel
theorem dX11_feed_49 : decode cX11_feed 49 = .ok (.iload 4, 2) := by decide +kernel
theorem dX11_feed_51 : decode cX11_feed 51 = .ok (.imul, 1) := by decide +kernel
theorem dX11_feed_52 : decode cX11_feed 52 = .ok (.lushr, 1) := by decide +kernel
theorem dX11_feed_53 : decode cX11_feed 53 = .ok (.l2i, 1) := by decide +kernel
theorem dX11_feed_54 : decode cX11_feed 54 = .ok (.sipush 255, 3) := by decide +kernel
theorem dX11_feed_57 : decode cX11_feed 57 = .ok (.iand, 1) := by decide +kernel
theorem dX11_feed_58 : decode cX11_feed 58 = .ok (.invokevirtual 208, 3) := by decide +kernel
theorem dX11_feed_61 : decode cX11_feed 61 = .ok (.iinc 4 (-1), 3) := by decide +kernel
theorem dX11_feed_64 : decode cX11_feed 64 = .ok (.goto (-27), 3) := by decide +kernel
theorem dX11_feed_67 : decode cX11_feed 67 = .ok (.aload_n 0, 1) := by decide +kernel
theorem dX11_feed_68 : decode cX11_feed 68 = .ok (.getfield 19, 3) := by decide +kernel
theorem dX11_feed_71 : decode cX11_feed 71 = .ok (.getfield 178, 3) := by decide +kernel
theorem dX11_feed_74 : decode cX11_feed 74 = .ok (.ireturn, 1) := by decide +kernel
theorem dX11_tear_0 : decode cX11_tear 0 = .ok (.aload_n 0, 1) := by decide +kernel
theorem dX11_tear_1 : decode cX11_tear 1 = .ok (.getfield 19, 3) := by decide +kernel
theorem dX11_tear_4 : decode cX11_tear 4 = .ok (.getfield 178, 3) := by decide +kernel
theorem dX11_tear_7 : decode cX11_tear 7 = .ok (.istore_n 1, 1) := by decide +kernel
theorem dX11_tear_8 : decode cX11_tear 8 = .ok (.aload_n 0, 1) := by decide +kernel
theorem dX11_tear_9 : decode cX11_tear 9 = .ok (.getfield 19, 3) := by decide +kernel
theorem dX11_tear_12 : decode cX11_tear 12 = .ok (.invokevirtual 168, 3) := by decide +kernel
theorem dX11_tear_15 : decode cX11_tear 15 = .ok (.iload_n 1, 1) := by decide +kernel
theorem dX11_tear_16 : decode cX11_tear 16 = .ok (.ireturn, 1) := by decide +kernel
theorem dX11_byteAt_0 : decode cX11_byteAt 0 = .ok (.aload_n 0, 1) := by decide +kernel
theorem dX11_byteAt_1 : decode cX11_byteAt 1 = .ok (.getfield 19, 3) := by decide +kernel
theorem dX11_byteAt_4 : decode cX11_byteAt 4 = .ok (.iload_n 1, 1) := by decide +kernel
theorem dX11_byteAt_5 : decode cX11_byteAt 5 = .ok (.invokevirtual 210, 3) := by decide +kernel
theorem dX11_byteAt_8 : decode cX11_byteAt 8 = .ok (.ireturn, 1) := by decide +kernel
theorem dX11_read_0 : decode cX11_read 0 = .ok (.aload_n 0, 1) := by decide +kernel
theorem dX11_read_1 : decode cX11_read 1 = .ok (.getfield 31, 3) := by decide +kernel
theorem dX11_read_4 : decode cX11_read 4 = .ok (.iconst 0, 1) := by decide +kernel
theorem dX11_read_5 : decode cX11_read 5 = .ok (.invokevirtual 213, 3) := by decide +kernel
theorem dX11_read_8 : decode cX11_read 8 = .ok (.istore_n 1, 1) := by decide +kernel
theorem dX11_read_9 : decode cX11_read 9 = .ok (.iload_n 1, 1) := by decide +kernel
theorem dX11_read_10 : decode cX11_read 10 = .ok (.iconst (-1), 1) := by decide +kernel
theorem dX11_read_11 : decode cX11_read 11 = .ok (.if_icmp .eq 8, 3) := by decide +kernel
theorem dX11_read_14 : decode cX11_read 14 = .ok (.bipush (-10), 2) := by decide +kernel
theorem dX11_read_16 : decode cX11_read 16 = .ok (.iload_n 1, 1) := by decide +kernel
theorem dX11_read_17 : decode cX11_read 17 = .ok (.isub, 1) := by decide +kernel
theorem dX11_read_18 : decode cX11_read 18 = .ok (.ireturn, 1) := by decide +kernel
theorem dX11_read_19 : decode cX11_read 19 = .ok (.aload_n 0, 1) := by decide +kernel
theorem dX11_read_20 : decode cX11_read 20 = .ok (.getfield 12, 3) := by decide +kernel
theorem dX11_read_23 : decode cX11_read 23 = .ok (.aload_n 0, 1) := by decide +kernel
theorem dX11_read_24 : decode cX11_read 24 = .ok (.getfield 31, 3) := by decide +kernel
theorem dX11_read_27 : decode cX11_read 27 = .ok (.getfield 217, 3) := by decide +kernel
theorem dX11_read_30 : decode cX11_read 30 = .ok (.aload_n 0, 1) := by decide +kernel
theorem dX11_read_31 : decode cX11_read 31 = .ok (.getfield 31, 3) := by decide +kernel
theorem dX11_read_34 : decode cX11_read 34 = .ok (.getfield 217, 3) := by decide +kernel
theorem dX11_read_37 : decode cX11_read 37 = .ok (.iconst 1, 1) := by decide +kernel
theorem dX11_read_38 : decode cX11_read 38 = .ok (.isub, 1) := by decide +kernel
theorem dX11_read_39 : decode cX11_read 39 = .ok (.invokevirtual 105, 3) := by decide +kernel
theorem dX11_read_42 : decode cX11_read 42 = .ok (.ifCond .ne 6, 3) := by decide +kernel
theorem dX11_read_45 : decode cX11_read 45 = .ok (.bipush (-4), 2) := by decide +kernel
theorem dX11_read_47 : decode cX11_read 47 = .ok (.ireturn, 1) := by decide +kernel
theorem dX11_read_48 : decode cX11_read 48 = .ok (.aload_n 0, 1) := by decide +kernel
theorem dX11_read_49 : decode cX11_read 49 = .ok (.getfield 31, 3) := by decide +kernel
theorem dX11_read_52 : decode cX11_read 52 = .ok (.iconst 1, 1) := by decide +kernel
theorem dX11_read_53 : decode cX11_read 53 = .ok (.invokevirtual 213, 3) := by decide +kernel
theorem dX11_read_56 : decode cX11_read 56 = .ok (.pop, 1) := by decide +kernel
theorem dX11_read_57 : decode cX11_read 57 = .ok (.aload_n 0, 1) := by decide +kernel
theorem dX11_read_58 : decode cX11_read 58 = .ok (.getfield 12, 3) := by decide +kernel
theorem dX11_read_61 : decode cX11_read 61 = .ok (.invokevirtual 205, 3) := by decide +kernel
theorem dX11_read_64 : decode cX11_read 64 = .ok (.ireturn, 1) := by decide +kernel
theorem dX11_answer_0 : decode cX11_answer 0 = .ok (.aload_n 0, 1) := by decide +kernel
theorem dX11_answer_1 : decode cX11_answer 1 = .ok (.getfield 97, 3) := by decide +kernel
theorem dX11_answer_4 : decode cX11_answer 4 = .ok (.getfield 220, 3) := by decide +kernel
theorem dX11_answer_7 : decode cX11_answer 7 = .ok (.ireturn, 1) := by decide +kernel
theorem dX11_count_0 : decode cX11_count 0 = .ok (.iload_n 1, 1) := by decide +kernel
theorem dX11_count_1 : decode cX11_count 1 = .ok (.tableswitch 75 0 4 #[35, 43, 51, 59, 67], 35) := by decide +kernel
theorem dX11_count_36 : decode cX11_count 36 = .ok (.aload_n 0, 1) := by decide +kernel
theorem dX11_count_37 : decode cX11_count 37 = .ok (.getfield 12, 3) := by decide +kernel
theorem dX11_count_40 : decode cX11_count 40 = .ok (.getfield 223, 3) := by decide +kernel
theorem dX11_count_43 : decode cX11_count 43 = .ok (.ireturn, 1) := by decide +kernel
theorem dX11_count_44 : decode cX11_count 44 = .ok (.aload_n 0, 1) := by decide +kernel
theorem dX11_count_45 : decode cX11_count 45 = .ok (.getfield 12, 3) := by decide +kernel
theorem dX11_count_48 : decode cX11_count 48 = .ok (.invokevirtual 226, 3) := by decide +kernel
theorem dX11_count_51 : decode cX11_count 51 = .ok (.ireturn, 1) := by decide +kernel
theorem dX11_count_52 : decode cX11_count 52 = .ok (.aload_n 0, 1) := by decide +kernel
theorem dX11_count_53 : decode cX11_count 53 = .ok (.getfield 19, 3) := by decide +kernel
theorem dX11_count_56 : decode cX11_count 56 = .ok (.getfield 178, 3) := by decide +kernel
theorem dX11_count_59 : decode cX11_count 59 = .ok (.ireturn, 1) := by decide +kernel
theorem dX11_count_60 : decode cX11_count 60 = .ok (.aload_n 0, 1) := by decide +kernel
theorem dX11_count_61 : decode cX11_count 61 = .ok (.getfield 97, 3) := by decide +kernel
theorem dX11_count_64 : decode cX11_count 64 = .ok (.getfield 150, 3) := by decide +kernel
theorem dX11_count_67 : decode cX11_count 67 = .ok (.ireturn, 1) := by decide +kernel
theorem dX11_count_68 : decode cX11_count 68 = .ok (.aload_n 0, 1) := by decide +kernel
theorem dX11_count_69 : decode cX11_count 69 = .ok (.getfield 97, 3) := by decide +kernel
theorem dX11_count_72 : decode cX11_count 72 = .ok (.getfield 229, 3) := by decide +kernel
theorem dX11_count_75 : decode cX11_count 75 = .ok (.ireturn, 1) := by decide +kernel
theorem dX11_count_76 : decode cX11_count 76 = .ok (.bipush (-2), 2) := by decide +kernel
theorem dX11_count_78 : decode cX11_count 78 = .ok (.ireturn, 1) := by decide +kernel
theorem dX11_isKind_0 : decode cX11_isKind 0 = .ok (.iload_n 0, 1) := by decide +kernel
theorem dX11_isKind_1 : decode cX11_isKind 1 = .ok (.ifCond .lt 13, 3) := by decide +kernel
theorem dX11_isKind_4 : decode cX11_isKind 4 = .ok (.iload_n 0, 1) := by decide +kernel
theorem dX11_isKind_5 : decode cX11_isKind 5 = .ok (.bipush 12, 2) := by decide +kernel
theorem dX11_isKind_7 : decode cX11_isKind 7 = .ok (.if_icmp .ge 7, 3) := by decide +kernel
theorem dX11_isKind_10 : decode cX11_isKind 10 = .ok (.iconst 1, 1) := by decide +kernel
theorem dX11_isKind_11 : decode cX11_isKind 11 = .ok (.goto 4, 3) := by decide +kernel
theorem dX11_isKind_14 : decode cX11_isKind 14 = .ok (.iconst 0, 1) := by decide +kernel
theorem dX11_isKind_15 : decode cX11_isKind 15 = .ok (.ireturn, 1) := by decide +kernel
