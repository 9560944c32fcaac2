theorem zd_Pr_turn_0 : decode zb_Pr_turn 0 = .ok (.aload_n 0, 1) := by decide +kernel
theorem zd_Pr_turn_1 : decode zb_Pr_turn 1 = .ok (.getfield 23, 3) := by decide +kernel
theorem zd_Pr_turn_4 : decode zb_Pr_turn 4 = .ok (.invokevirtual 57, 3) := by decide +kernel
theorem zd_Pr_turn_7 : decode zb_Pr_turn 7 = .ok (.ldc 11, 2) := by decide +kernel
theorem zd_Pr_turn_9 : decode zb_Pr_turn 9 = .ok (.if_icmp .le 13, 3) := by decide +kernel
theorem zd_Pr_turn_12 : decode zb_Pr_turn 12 = .ok (.new 62, 3) := by decide +kernel
theorem zd_Pr_turn_15 : decode zb_Pr_turn 15 = .ok (.dup, 1) := by decide +kernel
theorem zd_Pr_turn_16 : decode zb_Pr_turn 16 = .ok (.ldc 64, 2) := by decide +kernel
theorem zd_Pr_turn_18 : decode zb_Pr_turn 18 = .ok (.invokespecial 66, 3) := by decide +kernel
theorem zd_Pr_turn_21 : decode zb_Pr_turn 21 = .ok (.athrow, 1) := by decide +kernel
theorem zd_Pr_turn_22 : decode zb_Pr_turn 22 = .ok (.aload_n 0, 1) := by decide +kernel
theorem zd_Pr_turn_23 : decode zb_Pr_turn 23 = .ok (.getfield 15, 3) := by decide +kernel
theorem zd_Pr_turn_26 : decode zb_Pr_turn 26 = .ok (.iconst 0, 1) := by decide +kernel
theorem zd_Pr_turn_27 : decode zb_Pr_turn 27 = .ok (.invokevirtual 77, 3) := by decide +kernel
theorem zd_Pr_turn_30 : decode zb_Pr_turn 30 = .ok (.aload_n 0, 1) := by decide +kernel
theorem zd_Pr_turn_31 : decode zb_Pr_turn 31 = .ok (.getfield 15, 3) := by decide +kernel
theorem zd_Pr_turn_34 : decode zb_Pr_turn 34 = .ok (.aload_n 0, 1) := by decide +kernel
theorem zd_Pr_turn_35 : decode zb_Pr_turn 35 = .ok (.getfield 23, 3) := by decide +kernel
theorem zd_Pr_turn_38 : decode zb_Pr_turn 38 = .ok (.iconst 0, 1) := by decide +kernel
theorem zd_Pr_turn_39 : decode zb_Pr_turn 39 = .ok (.aload_n 0, 1) := by decide +kernel
theorem zd_Pr_turn_40 : decode zb_Pr_turn 40 = .ok (.getfield 23, 3) := by decide +kernel
theorem zd_Pr_turn_43 : decode zb_Pr_turn 43 = .ok (.invokevirtual 57, 3) := by decide +kernel
theorem zd_Pr_turn_46 : decode zb_Pr_turn 46 = .ok (.invokevirtual 119, 3) := by decide +kernel
theorem zd_Pr_turn_49 : decode zb_Pr_turn 49 = .ok (.aload_n 0, 1) := by decide +kernel
theorem zd_Pr_turn_50 : decode zb_Pr_turn 50 = .ok (.getfield 15, 3) := by decide +kernel
theorem zd_Pr_turn_53 : decode zb_Pr_turn 53 = .ok (.invokevirtual 57, 3) := by decide +kernel
theorem zd_Pr_turn_56 : decode zb_Pr_turn 56 = .ok (.ireturn, 1) := by decide +kernel
theorem zd_La_longest_0 : decode zb_La_longest 0 = .ok (.aload_n 3, 1) := by decide +kernel
theorem zd_La_longest_1 : decode zb_La_longest 1 = .ok (.iconst 0, 1) := by decide +kernel
theorem zd_La_longest_2 : decode zb_La_longest 2 = .ok (.aload_n 0, 1) := by decide +kernel
theorem zd_La_longest_3 : decode zb_La_longest 3 = .ok (.iload_n 1, 1) := by decide +kernel
theorem zd_La_longest_4 : decode zb_La_longest 4 = .ok (.iload_n 2, 1) := by decide +kernel
theorem zd_La_longest_5 : decode zb_La_longest 5 = .ok (.invokevirtual 34, 3) := by decide +kernel
theorem zd_La_longest_8 : decode zb_La_longest 8 = .ok (.i2l, 1) := by decide +kernel
theorem zd_La_longest_9 : decode zb_La_longest 9 = .ok (.lastore, 1) := by decide +kernel
theorem zd_La_longest_10 : decode zb_La_longest 10 = .ok (.goto 7, 3) := by decide +kernel
theorem zd_La_longest_13 : decode zb_La_longest 13 = .ok (.astore 4, 2) := by decide +kernel
theorem zd_La_longest_15 : decode zb_La_longest 15 = .ok (.iconst 1, 1) := by decide +kernel
theorem zd_La_longest_16 : decode zb_La_longest 16 = .ok (.ireturn, 1) := by decide +kernel
theorem zd_La_longest_17 : decode zb_La_longest 17 = .ok (.iconst 0, 1) := by decide +kernel
theorem zd_La_longest_18 : decode zb_La_longest 18 = .ok (.ireturn, 1) := by decide +kernel
theorem zd_Pr_longest_0 : decode zb_Pr_longest 0 = .ok (.aload_n 0, 1) := by decide +kernel
theorem zd_Pr_longest_1 : decode zb_Pr_longest 1 = .ok (.getfield 15, 3) := by decide +kernel
theorem zd_Pr_longest_4 : decode zb_Pr_longest 4 = .ok (.iload_n 1, 1) := by decide +kernel
theorem zd_Pr_longest_5 : decode zb_Pr_longest 5 = .ok (.invokevirtual 80, 3) := by decide +kernel
theorem zd_Pr_longest_8 : decode zb_Pr_longest 8 = .ok (.ifCond .ne 13, 3) := by decide +kernel
theorem zd_Pr_longest_11 : decode zb_Pr_longest 11 = .ok (.new 72, 3) := by decide +kernel
theorem zd_Pr_longest_14 : decode zb_Pr_longest 14 = .ok (.dup, 1) := by decide +kernel
theorem zd_Pr_longest_15 : decode zb_Pr_longest 15 = .ok (.ldc 84, 2) := by decide +kernel
theorem zd_Pr_longest_17 : decode zb_Pr_longest 17 = .ok (.invokespecial 76, 3) := by decide +kernel
theorem zd_Pr_longest_20 : decode zb_Pr_longest 20 = .ok (.athrow, 1) := by decide +kernel
theorem zd_Pr_longest_21 : decode zb_Pr_longest 21 = .ok (.iload_n 2, 1) := by decide +kernel
theorem zd_Pr_longest_22 : decode zb_Pr_longest 22 = .ok (.ifCond .eq 18, 3) := by decide +kernel
theorem zd_Pr_longest_25 : decode zb_Pr_longest 25 = .ok (.iload_n 2, 1) := by decide +kernel
theorem zd_Pr_longest_26 : decode zb_Pr_longest 26 = .ok (.iconst 1, 1) := by decide +kernel
theorem zd_Pr_longest_27 : decode zb_Pr_longest 27 = .ok (.if_icmp .eq 13, 3) := by decide +kernel
theorem zd_Pr_longest_30 : decode zb_Pr_longest 30 = .ok (.new 72, 3) := by decide +kernel
theorem zd_Pr_longest_33 : decode zb_Pr_longest 33 = .ok (.dup, 1) := by decide +kernel
theorem zd_Pr_longest_34 : decode zb_Pr_longest 34 = .ok (.ldc 123, 2) := by decide +kernel
theorem zd_Pr_longest_36 : decode zb_Pr_longest 36 = .ok (.invokespecial 76, 3) := by decide +kernel
theorem zd_Pr_longest_39 : decode zb_Pr_longest 39 = .ok (.athrow, 1) := by decide +kernel
theorem zd_Pr_longest_40 : decode zb_Pr_longest 40 = .ok (.aload_n 0, 1) := by decide +kernel
theorem zd_Pr_longest_41 : decode zb_Pr_longest 41 = .ok (.iload_n 1, 1) := by decide +kernel
theorem zd_Pr_longest_42 : decode zb_Pr_longest 42 = .ok (.invokevirtual 95, 3) := by decide +kernel
theorem zd_Pr_longest_45 : decode zb_Pr_longest 45 = .ok (.aload_n 0, 1) := by decide +kernel
theorem zd_Pr_longest_46 : decode zb_Pr_longest 46 = .ok (.getfield 32, 3) := by decide +kernel
theorem zd_Pr_longest_49 : decode zb_Pr_longest 49 = .ok (.invokevirtual 98, 3) := by decide +kernel
theorem zd_Pr_longest_52 : decode zb_Pr_longest 52 = .ok (.bipush 8, 2) := by decide +kernel
theorem zd_Pr_longest_54 : decode zb_Pr_longest 54 = .ok (.if_icmp .lt 7, 3) := by decide +kernel
theorem zd_Pr_longest_57 : decode zb_Pr_longest 57 = .ok (.iconst 1, 1) := by decide +kernel
theorem zd_Pr_longest_58 : decode zb_Pr_longest 58 = .ok (.goto 4, 3) := by decide +kernel
theorem zd_Pr_longest_61 : decode zb_Pr_longest 61 = .ok (.iconst 0, 1) := by decide +kernel
theorem zd_Pr_longest_62 : decode zb_Pr_longest 62 = .ok (.istore_n 3, 1) := by decide +kernel
theorem zd_Pr_longest_63 : decode zb_Pr_longest 63 = .ok (.iload_n 2, 1) := by decide +kernel
theorem zd_Pr_longest_64 : decode zb_Pr_longest 64 = .ok (.ifCond .ne 19, 3) := by decide +kernel
theorem zd_Pr_longest_67 : decode zb_Pr_longest 67 = .ok (.iload_n 3, 1) := by decide +kernel
theorem zd_Pr_longest_68 : decode zb_Pr_longest 68 = .ok (.ifCond .eq 13, 3) := by decide +kernel
theorem zd_Pr_longest_71 : decode zb_Pr_longest 71 = .ok (.aload_n 0, 1) := by decide +kernel
theorem zd_Pr_longest_72 : decode zb_Pr_longest 72 = .ok (.getfield 32, 3) := by decide +kernel
theorem zd_Pr_longest_75 : decode zb_Pr_longest 75 = .ok (.invokevirtual 98, 3) := by decide +kernel
theorem zd_Pr_longest_78 : decode zb_Pr_longest 78 = .ok (.goto 4, 3) := by decide +kernel
theorem zd_Pr_longest_81 : decode zb_Pr_longest 81 = .ok (.iconst 0, 1) := by decide +kernel
theorem zd_Pr_longest_82 : decode zb_Pr_longest 82 = .ok (.ireturn, 1) := by decide +kernel
theorem zd_Pr_longest_83 : decode zb_Pr_longest 83 = .ok (.iload_n 3, 1) := by decide +kernel
theorem zd_Pr_longest_84 : decode zb_Pr_longest 84 = .ok (.ifCond .eq 13, 3) := by decide +kernel
theorem zd_Pr_longest_87 : decode zb_Pr_longest 87 = .ok (.aload_n 0, 1) := by decide +kernel
theorem zd_Pr_longest_88 : decode zb_Pr_longest 88 = .ok (.getfield 32, 3) := by decide +kernel
theorem zd_Pr_longest_91 : decode zb_Pr_longest 91 = .ok (.invokevirtual 104, 3) := by decide +kernel
theorem zd_Pr_longest_94 : decode zb_Pr_longest 94 = .ok (.goto 4, 3) := by decide +kernel
theorem zd_Pr_longest_97 : decode zb_Pr_longest 97 = .ok (.iconst (-1), 1) := by decide +kernel
theorem zd_Pr_longest_98 : decode zb_Pr_longest 98 = .ok (.ireturn, 1) := by decide +kernel
theorem zd_La_letter_0 : decode zb_La_letter 0 = .ok (.aload_n 2, 1) := by decide +kernel
theorem zd_La_letter_1 : decode zb_La_letter 1 = .ok (.iconst 0, 1) := by decide +kernel
theorem zd_La_letter_2 : decode zb_La_letter 2 = .ok (.aload_n 0, 1) := by decide +kernel
theorem zd_La_letter_3 : decode zb_La_letter 3 = .ok (.iload_n 1, 1) := by decide +kernel
theorem zd_La_letter_4 : decode zb_La_letter 4 = .ok (.invokevirtual 38, 3) := by decide +kernel
theorem zd_La_letter_7 : decode zb_La_letter 7 = .ok (.i2l, 1) := by decide +kernel
theorem zd_La_letter_8 : decode zb_La_letter 8 = .ok (.lastore, 1) := by decide +kernel
theorem zd_La_letter_9 : decode zb_La_letter 9 = .ok (.goto 6, 3) := by decide +kernel
theorem zd_La_letter_12 : decode zb_La_letter 12 = .ok (.astore_n 3, 1) := by decide +kernel
theorem zd_La_letter_13 : decode zb_La_letter 13 = .ok (.iconst 1, 1) := by decide +kernel
theorem zd_La_letter_14 : decode zb_La_letter 14 = .ok (.ireturn, 1) := by decide +kernel
theorem zd_La_letter_15 : decode zb_La_letter 15 = .ok (.iconst 0, 1) := by decide +kernel
theorem zd_La_letter_16 : decode zb_La_letter 16 = .ok (.ireturn, 1) := by decide +kernel
theorem zd_Pr_letter_0 : decode zb_Pr_letter 0 = .ok (.aload_n 0, 1) := by decide +kernel
theorem zd_Pr_letter_1 : decode zb_Pr_letter 1 = .ok (.getfield 23, 3) := by decide +kernel
theorem zd_Pr_letter_4 : decode zb_Pr_letter 4 = .ok (.iload_n 1, 1) := by decide +kernel
theorem zd_Pr_letter_5 : decode zb_Pr_letter 5 = .ok (.invokevirtual 80, 3) := by decide +kernel
theorem zd_Pr_letter_8 : decode zb_Pr_letter 8 = .ok (.ifCond .ne 13, 3) := by decide +kernel
theorem zd_Pr_letter_11 : decode zb_Pr_letter 11 = .ok (.new 125, 3) := by decide +kernel
theorem zd_Pr_letter_14 : decode zb_Pr_letter 14 = .ok (.dup, 1) := by decide +kernel
theorem zd_Pr_letter_15 : decode zb_Pr_letter 15 = .ok (.ldc 127, 2) := by decide +kernel
theorem zd_Pr_letter_17 : decode zb_Pr_letter 17 = .ok (.invokespecial 129, 3) := by decide +kernel
theorem zd_Pr_letter_20 : decode zb_Pr_letter 20 = .ok (.athrow, 1) := by decide +kernel
theorem zd_Pr_letter_21 : decode zb_Pr_letter 21 = .ok (.aload_n 0, 1) := by decide +kernel
theorem zd_Pr_letter_22 : decode zb_Pr_letter 22 = .ok (.getfield 23, 3) := by decide +kernel
theorem zd_Pr_letter_25 : decode zb_Pr_letter 25 = .ok (.iload_n 1, 1) := by decide +kernel
theorem zd_Pr_letter_26 : decode zb_Pr_letter 26 = .ok (.invokevirtual 130, 3) := by decide +kernel
theorem zd_Pr_letter_29 : decode zb_Pr_letter 29 = .ok (.ireturn, 1) := by decide +kernel
theorem zd_Mo_init_0 : decode zb_Mo_init 0 = .ok (.aload_n 0, 1) := by decide +kernel
theorem zd_Mo_init_1 : decode zb_Mo_init 1 = .ok (.invokespecial 1, 3) := by decide +kernel
theorem zd_Mo_init_4 : decode zb_Mo_init 4 = .ok (.aload_n 0, 1) := by decide +kernel
theorem zd_Mo_init_5 : decode zb_Mo_init 5 = .ok (.ldc 7, 2) := by decide +kernel
theorem zd_Mo_init_7 : decode zb_Mo_init 7 = .ok (.newarray .byte, 2) := by decide +kernel
theorem zd_Mo_init_9 : decode zb_Mo_init 9 = .ok (.putfield 8, 3) := by decide +kernel
theorem zd_Mo_init_12 : decode zb_Mo_init 12 = .ok (.aload_n 0, 1) := by decide +kernel
theorem zd_Mo_init_13 : decode zb_Mo_init 13 = .ok (.ldc 7, 2) := by decide +kernel
theorem zd_Mo_init_15 : decode zb_Mo_init 15 = .ok (.newarray .byte, 2) := by decide +kernel
theorem zd_Mo_init_17 : decode zb_Mo_init 17 = .ok (.putfield 14, 3) := by decide +kernel
theorem zd_Mo_init_20 : decode zb_Mo_init 20 = .ok (.aload_n 0, 1) := by decide +kernel
theorem zd_Mo_init_21 : decode zb_Mo_init 21 = .ok (.ldc 17, 2) := by decide +kernel
theorem zd_Mo_init_23 : decode zb_Mo_init 23 = .ok (.newarray .byte, 2) := by decide +kernel
theorem zd_Mo_init_25 : decode zb_Mo_init 25 = .ok (.putfield 18, 3) := by decide +kernel
theorem zd_Mo_init_28 : decode zb_Mo_init 28 = .ok (.aload_n 0, 1) := by decide +kernel
theorem zd_Mo_init_29 : decode zb_Mo_init 29 = .ok (.ldc 7, 2) := by decide +kernel
theorem zd_Mo_init_31 : decode zb_Mo_init 31 = .ok (.newarray .byte, 2) := by decide +kernel
theorem zd_Mo_init_33 : decode zb_Mo_init 33 = .ok (.putfield 21, 3) := by decide +kernel
theorem zd_Mo_init_36 : decode zb_Mo_init 36 = .ok (.return_, 1) := by decide +kernel
theorem zd_Mo_thrown_0 : decode zb_Mo_thrown 0 = .ok (.aload_n 0, 1) := by decide +kernel
theorem zd_Mo_thrown_1 : decode zb_Mo_thrown 1 = .ok (.getfield 24, 3) := by decide +kernel
theorem zd_Mo_thrown_4 : decode zb_Mo_thrown 4 = .ok (.ireturn, 1) := by decide +kernel
theorem zd_Mo_feed_0 : decode zb_Mo_feed 0 = .ok (.aload_n 0, 1) := by decide +kernel
theorem zd_Mo_feed_1 : decode zb_Mo_feed 1 = .ok (.iconst 0, 1) := by decide +kernel
theorem zd_Mo_feed_2 : decode zb_Mo_feed 2 = .ok (.putfield 24, 3) := by decide +kernel
theorem zd_Mo_feed_5 : decode zb_Mo_feed 5 = .ok (.aload_n 0, 1) := by decide +kernel
theorem zd_Mo_feed_6 : decode zb_Mo_feed 6 = .ok (.getfield 28, 3) := by decide +kernel
theorem zd_Mo_feed_9 : decode zb_Mo_feed 9 = .ok (.bipush 20, 2) := by decide +kernel
theorem zd_Mo_feed_11 : decode zb_Mo_feed 11 = .ok (.iadd, 1) := by decide +kernel
theorem zd_Mo_feed_12 : decode zb_Mo_feed 12 = .ok (.ldc 7, 2) := by decide +kernel
theorem zd_Mo_feed_14 : decode zb_Mo_feed 14 = .ok (.if_icmp .le 9, 3) := by decide +kernel
theorem zd_Mo_feed_17 : decode zb_Mo_feed 17 = .ok (.aload_n 0, 1) := by decide +kernel
theorem zd_Mo_feed_18 : decode zb_Mo_feed 18 = .ok (.iconst 1, 1) := by decide +kernel
theorem zd_Mo_feed_19 : decode zb_Mo_feed 19 = .ok (.invokevirtual 31, 3) := by decide +kernel
theorem zd_Mo_feed_22 : decode zb_Mo_feed 22 = .ok (.ireturn, 1) := by decide +kernel
theorem zd_Mo_feed_23 : decode zb_Mo_feed 23 = .ok (.iconst 0, 1) := by decide +kernel
theorem zd_Mo_feed_24 : decode zb_Mo_feed 24 = .ok (.istore 6, 2) := by decide +kernel
theorem zd_Mo_feed_26 : decode zb_Mo_feed 26 = .ok (.iload 6, 2) := by decide +kernel
theorem zd_Mo_feed_28 : decode zb_Mo_feed 28 = .ok (.bipush 20, 2) := by decide +kernel
theorem zd_Mo_feed_30 : decode zb_Mo_feed 30 = .ok (.if_icmp .ge 90, 3) := by decide +kernel
theorem zd_Mo_feed_33 : decode zb_Mo_feed 33 = .ok (.iload 6, 2) := by decide +kernel
theorem zd_Mo_feed_35 : decode zb_Mo_feed 35 = .ok (.iconst 4, 1) := by decide +kernel
theorem zd_Mo_feed_36 : decode zb_Mo_feed 36 = .ok (.if_icmp .ge 7, 3) := by decide +kernel
theorem zd_Mo_feed_39 : decode zb_Mo_feed 39 = .ok (.iload_n 1, 1) := by decide +kernel
theorem zd_Mo_feed_40 : decode zb_Mo_feed 40 = .ok (.goto 39, 3) := by decide +kernel
theorem zd_Mo_feed_43 : decode zb_Mo_feed 43 = .ok (.iload 6, 2) := by decide +kernel
theorem zd_Mo_feed_45 : decode zb_Mo_feed 45 = .ok (.bipush 8, 2) := by decide +kernel
theorem zd_Mo_feed_47 : decode zb_Mo_feed 47 = .ok (.if_icmp .ge 7, 3) := by decide +kernel
theorem zd_Mo_feed_50 : decode zb_Mo_feed 50 = .ok (.iload_n 2, 1) := by decide +kernel
theorem zd_Mo_feed_51 : decode zb_Mo_feed 51 = .ok (.goto 28, 3) := by decide +kernel
theorem zd_Mo_feed_54 : decode zb_Mo_feed 54 = .ok (.iload 6, 2) := by decide +kernel
theorem zd_Mo_feed_56 : decode zb_Mo_feed 56 = .ok (.bipush 12, 2) := by decide +kernel
theorem zd_Mo_feed_58 : decode zb_Mo_feed 58 = .ok (.if_icmp .ge 7, 3) := by decide +kernel
theorem zd_Mo_feed_61 : decode zb_Mo_feed 61 = .ok (.iload_n 3, 1) := by decide +kernel
theorem zd_Mo_feed_62 : decode zb_Mo_feed 62 = .ok (.goto 17, 3) := by decide +kernel
theorem zd_Mo_feed_65 : decode zb_Mo_feed 65 = .ok (.iload 6, 2) := by decide +kernel
theorem zd_Mo_feed_67 : decode zb_Mo_feed 67 = .ok (.bipush 16, 2) := by decide +kernel
theorem zd_Mo_feed_69 : decode zb_Mo_feed 69 = .ok (.if_icmp .ge 8, 3) := by decide +kernel
theorem zd_Mo_feed_72 : decode zb_Mo_feed 72 = .ok (.iload 4, 2) := by decide +kernel
theorem zd_Mo_feed_74 : decode zb_Mo_feed 74 = .ok (.goto 5, 3) := by decide +kernel
theorem zd_Mo_feed_77 : decode zb_Mo_feed 77 = .ok (.iload 5, 2) := by decide +kernel
theorem zd_Mo_feed_79 : decode zb_Mo_feed 79 = .ok (.istore 7, 2) := by decide +kernel
theorem zd_Mo_feed_81 : decode zb_Mo_feed 81 = .ok (.aload_n 0, 1) := by decide +kernel
theorem zd_Mo_feed_82 : decode zb_Mo_feed 82 = .ok (.getfield 8, 3) := by decide +kernel
theorem zd_Mo_feed_85 : decode zb_Mo_feed 85 = .ok (.aload_n 0, 1) := by decide +kernel
theorem zd_Mo_feed_86 : decode zb_Mo_feed 86 = .ok (.getfield 28, 3) := by decide +kernel
theorem zd_Mo_feed_89 : decode zb_Mo_feed 89 = .ok (.iload 7, 2) := by decide +kernel
theorem zd_Mo_feed_91 : decode zb_Mo_feed 91 = .ok (.bipush 24, 2) := by decide +kernel
theorem zd_Mo_feed_93 : decode zb_Mo_feed 93 = .ok (.iload 6, 2) := by decide +kernel
theorem zd_Mo_feed_95 : decode zb_Mo_feed 95 = .ok (.iconst 4, 1) := by decide +kernel
theorem zd_Mo_feed_96 : decode zb_Mo_feed 96 = .ok (.irem, 1) := by decide +kernel
theorem zd_Mo_feed_97 : decode zb_Mo_feed 97 = .ok (.bipush 8, 2) := by decide +kernel
theorem zd_Mo_feed_99 : decode zb_Mo_feed 99 = .ok (.imul, 1) := by decide +kernel
theorem zd_Mo_feed_100 : decode zb_Mo_feed 100 = .ok (.isub, 1) := by decide +kernel
theorem zd_Mo_feed_101 : decode zb_Mo_feed 101 = .ok (.iushr, 1) := by decide +kernel
theorem zd_Mo_feed_102 : decode zb_Mo_feed 102 = .ok (.i2b, 1) := by decide +kernel
theorem zd_Mo_feed_103 : decode zb_Mo_feed 103 = .ok (.bastore, 1) := by decide +kernel
theorem zd_Mo_feed_104 : decode zb_Mo_feed 104 = .ok (.aload_n 0, 1) := by decide +kernel
theorem zd_Mo_feed_105 : decode zb_Mo_feed 105 = .ok (.dup, 1) := by decide +kernel
theorem zd_Mo_feed_106 : decode zb_Mo_feed 106 = .ok (.getfield 28, 3) := by decide +kernel
theorem zd_Mo_feed_109 : decode zb_Mo_feed 109 = .ok (.iconst 1, 1) := by decide +kernel
theorem zd_Mo_feed_110 : decode zb_Mo_feed 110 = .ok (.iadd, 1) := by decide +kernel
theorem zd_Mo_feed_111 : decode zb_Mo_feed 111 = .ok (.putfield 28, 3) := by decide +kernel
theorem zd_Mo_feed_114 : decode zb_Mo_feed 114 = .ok (.iinc 6 1, 3) := by decide +kernel
theorem zd_Mo_feed_117 : decode zb_Mo_feed 117 = .ok (.goto (-91), 3) := by decide +kernel
theorem zd_Mo_feed_120 : decode zb_Mo_feed 120 = .ok (.aload_n 0, 1) := by decide +kernel
theorem zd_Mo_feed_121 : decode zb_Mo_feed 121 = .ok (.getfield 28, 3) := by decide +kernel
theorem zd_Mo_feed_124 : decode zb_Mo_feed 124 = .ok (.ireturn, 1) := by decide +kernel
theorem zd_Mo_refuse_0 : decode zb_Mo_refuse 0 = .ok (.aload_n 0, 1) := by decide +kernel
theorem zd_Mo_refuse_1 : decode zb_Mo_refuse 1 = .ok (.iload_n 1, 1) := by decide +kernel
theorem zd_Mo_refuse_2 : decode zb_Mo_refuse 2 = .ok (.putfield 24, 3) := by decide +kernel
theorem zd_Mo_refuse_5 : decode zb_Mo_refuse 5 = .ok (.iconst 0, 1) := by decide +kernel
theorem zd_Mo_refuse_6 : decode zb_Mo_refuse 6 = .ok (.ireturn, 1) := by decide +kernel
theorem zd_Mo_end_0 : decode zb_Mo_end 0 = .ok (.aload_n 0, 1) := by decide +kernel
theorem zd_Mo_end_1 : decode zb_Mo_end 1 = .ok (.iconst 0, 1) := by decide +kernel
theorem zd_Mo_end_2 : decode zb_Mo_end 2 = .ok (.putfield 24, 3) := by decide +kernel
theorem zd_Mo_end_5 : decode zb_Mo_end 5 = .ok (.iload_n 1, 1) := by decide +kernel
theorem zd_Mo_end_6 : decode zb_Mo_end 6 = .ok (.ifCond .lt 11, 3) := by decide +kernel
theorem zd_Mo_end_9 : decode zb_Mo_end 9 = .ok (.iload_n 1, 1) := by decide +kernel
theorem zd_Mo_end_10 : decode zb_Mo_end 10 = .ok (.aload_n 0, 1) := by decide +kernel
theorem zd_Mo_end_11 : decode zb_Mo_end 11 = .ok (.getfield 28, 3) := by decide +kernel
theorem zd_Mo_end_14 : decode zb_Mo_end 14 = .ok (.if_icmp .le 9, 3) := by decide +kernel
theorem zd_Mo_end_17 : decode zb_Mo_end 17 = .ok (.aload_n 0, 1) := by decide +kernel
theorem zd_Mo_end_18 : decode zb_Mo_end 18 = .ok (.iconst 1, 1) := by decide +kernel
theorem zd_Mo_end_19 : decode zb_Mo_end 19 = .ok (.invokevirtual 31, 3) := by decide +kernel
theorem zd_Mo_end_22 : decode zb_Mo_end 22 = .ok (.ireturn, 1) := by decide +kernel
theorem zd_Mo_end_23 : decode zb_Mo_end 23 = .ok (.aload_n 0, 1) := by decide +kernel
theorem zd_Mo_end_24 : decode zb_Mo_end 24 = .ok (.dup, 1) := by decide +kernel
theorem zd_Mo_end_25 : decode zb_Mo_end 25 = .ok (.getfield 28, 3) := by decide +kernel
theorem zd_Mo_end_28 : decode zb_Mo_end 28 = .ok (.iload_n 1, 1) := by decide +kernel
theorem zd_Mo_end_29 : decode zb_Mo_end 29 = .ok (.isub, 1) := by decide +kernel
theorem zd_Mo_end_30 : decode zb_Mo_end 30 = .ok (.putfield 28, 3) := by decide +kernel
theorem zd_Mo_end_33 : decode zb_Mo_end 33 = .ok (.aload_n 0, 1) := by decide +kernel
theorem zd_Mo_end_34 : decode zb_Mo_end 34 = .ok (.getfield 28, 3) := by decide +kernel
theorem zd_Mo_end_37 : decode zb_Mo_end 37 = .ok (.ireturn, 1) := by decide +kernel
theorem zd_Mo_change_0 : decode zb_Mo_change 0 = .ok (.aload_n 0, 1) := by decide +kernel
theorem zd_Mo_change_1 : decode zb_Mo_change 1 = .ok (.iconst 0, 1) := by decide +kernel
theorem zd_Mo_change_2 : decode zb_Mo_change 2 = .ok (.putfield 24, 3) := by decide +kernel
theorem zd_Mo_change_5 : decode zb_Mo_change 5 = .ok (.iload_n 1, 1) := by decide +kernel
theorem zd_Mo_change_6 : decode zb_Mo_change 6 = .ok (.ifCond .lt 22, 3) := by decide +kernel
theorem zd_Mo_change_9 : decode zb_Mo_change 9 = .ok (.iload_n 1, 1) := by decide +kernel
theorem zd_Mo_change_10 : decode zb_Mo_change 10 = .ok (.aload_n 0, 1) := by decide +kernel
theorem zd_Mo_change_11 : decode zb_Mo_change 11 = .ok (.getfield 28, 3) := by decide +kernel
theorem zd_Mo_change_14 : decode zb_Mo_change 14 = .ok (.if_icmp .ge 14, 3) := by decide +kernel
theorem zd_Mo_change_17 : decode zb_Mo_change 17 = .ok (.iload_n 2, 1) := by decide +kernel
theorem zd_Mo_change_18 : decode zb_Mo_change 18 = .ok (.ifCond .lt 10, 3) := by decide +kernel
theorem zd_Mo_change_21 : decode zb_Mo_change 21 = .ok (.iload_n 2, 1) := by decide +kernel
theorem zd_Mo_change_22 : decode zb_Mo_change 22 = .ok (.sipush 255, 3) := by decide +kernel
theorem zd_Mo_change_25 : decode zb_Mo_change 25 = .ok (.if_icmp .le 11, 3) := by decide +kernel
theorem zd_Mo_change_28 : decode zb_Mo_change 28 = .ok (.aload_n 0, 1) := by decide +kernel
theorem zd_Mo_change_29 : decode zb_Mo_change 29 = .ok (.iconst 1, 1) := by decide +kernel
theorem zd_Mo_change_30 : decode zb_Mo_change 30 = .ok (.putfield 24, 3) := by decide +kernel
theorem zd_Mo_change_33 : decode zb_Mo_change 33 = .ok (.goto 18, 3) := by decide +kernel
theorem zd_Mo_change_36 : decode zb_Mo_change 36 = .ok (.aload_n 0, 1) := by decide +kernel
theorem zd_Mo_change_37 : decode zb_Mo_change 37 = .ok (.getfield 8, 3) := by decide +kernel
theorem zd_Mo_change_40 : decode zb_Mo_change 40 = .ok (.iload_n 1, 1) := by decide +kernel
theorem zd_Mo_change_41 : decode zb_Mo_change 41 = .ok (.aload_n 0, 1) := by decide +kernel
theorem zd_Mo_change_42 : decode zb_Mo_change 42 = .ok (.getfield 8, 3) := by decide +kernel
theorem zd_Mo_change_45 : decode zb_Mo_change 45 = .ok (.iload_n 1, 1) := by decide +kernel
theorem zd_Mo_change_46 : decode zb_Mo_change 46 = .ok (.baload, 1) := by decide +kernel
theorem zd_Mo_change_47 : decode zb_Mo_change 47 = .ok (.iload_n 2, 1) := by decide +kernel
theorem zd_Mo_change_48 : decode zb_Mo_change 48 = .ok (.ixor, 1) := by decide +kernel
theorem zd_Mo_change_49 : decode zb_Mo_change 49 = .ok (.i2b, 1) := by decide +kernel
theorem zd_Mo_change_50 : decode zb_Mo_change 50 = .ok (.bastore, 1) := by decide +kernel
theorem zd_Mo_change_51 : decode zb_Mo_change 51 = .ok (.return_, 1) := by decide +kernel
theorem zd_Mo_base_0 : decode zb_Mo_base 0 = .ok (.aload_n 0, 1) := by decide +kernel
theorem zd_Mo_base_1 : decode zb_Mo_base 1 = .ok (.iconst 0, 1) := by decide +kernel
theorem zd_Mo_base_2 : decode zb_Mo_base 2 = .ok (.putfield 24, 3) := by decide +kernel
theorem zd_Mo_base_5 : decode zb_Mo_base 5 = .ok (.iconst 0, 1) := by decide +kernel
theorem zd_Mo_base_6 : decode zb_Mo_base 6 = .ok (.istore_n 1, 1) := by decide +kernel
theorem zd_Mo_base_7 : decode zb_Mo_base 7 = .ok (.iload_n 1, 1) := by decide +kernel
theorem zd_Mo_base_8 : decode zb_Mo_base 8 = .ok (.aload_n 0, 1) := by decide +kernel
theorem zd_Mo_base_9 : decode zb_Mo_base 9 = .ok (.getfield 28, 3) := by decide +kernel
theorem zd_Mo_base_12 : decode zb_Mo_base 12 = .ok (.if_icmp .ge 21, 3) := by decide +kernel
theorem zd_Mo_base_15 : decode zb_Mo_base 15 = .ok (.aload_n 0, 1) := by decide +kernel
theorem zd_Mo_base_16 : decode zb_Mo_base 16 = .ok (.getfield 14, 3) := by decide +kernel
theorem zd_Mo_base_19 : decode zb_Mo_base 19 = .ok (.iload_n 1, 1) := by decide +kernel
theorem zd_Mo_base_20 : decode zb_Mo_base 20 = .ok (.aload_n 0, 1) := by decide +kernel
theorem zd_Mo_base_21 : decode zb_Mo_base 21 = .ok (.getfield 8, 3) := by decide +kernel
theorem zd_Mo_base_24 : decode zb_Mo_base 24 = .ok (.iload_n 1, 1) := by decide +kernel
theorem zd_Mo_base_25 : decode zb_Mo_base 25 = .ok (.baload, 1) := by decide +kernel
theorem zd_Mo_base_26 : decode zb_Mo_base 26 = .ok (.bastore, 1) := by decide +kernel
theorem zd_Mo_base_27 : decode zb_Mo_base 27 = .ok (.iinc 1 1, 3) := by decide +kernel
theorem zd_Mo_base_30 : decode zb_Mo_base 30 = .ok (.goto (-23), 3) := by decide +kernel
theorem zd_Mo_base_33 : decode zb_Mo_base 33 = .ok (.aload_n 0, 1) := by decide +kernel
theorem zd_Mo_base_34 : decode zb_Mo_base 34 = .ok (.aload_n 0, 1) := by decide +kernel
theorem zd_Mo_base_35 : decode zb_Mo_base 35 = .ok (.getfield 28, 3) := by decide +kernel
theorem zd_Mo_base_38 : decode zb_Mo_base 38 = .ok (.putfield 35, 3) := by decide +kernel
theorem zd_Mo_base_41 : decode zb_Mo_base 41 = .ok (.aload_n 0, 1) := by decide +kernel
theorem zd_Mo_base_42 : decode zb_Mo_base 42 = .ok (.iconst 0, 1) := by decide +kernel
theorem zd_Mo_base_43 : decode zb_Mo_base 43 = .ok (.putfield 28, 3) := by decide +kernel
theorem zd_Mo_base_46 : decode zb_Mo_base 46 = .ok (.aload_n 0, 1) := by decide +kernel
theorem zd_Mo_base_47 : decode zb_Mo_base 47 = .ok (.getfield 35, 3) := by decide +kernel
theorem zd_Mo_base_50 : decode zb_Mo_base 50 = .ok (.ireturn, 1) := by decide +kernel
theorem zd_Mo_make_0 : decode zb_Mo_make 0 = .ok (.aload_n 0, 1) := by decide +kernel
theorem zd_Mo_make_1 : decode zb_Mo_make 1 = .ok (.iconst 0, 1) := by decide +kernel
theorem zd_Mo_make_2 : decode zb_Mo_make 2 = .ok (.putfield 24, 3) := by decide +kernel
theorem zd_Mo_make_5 : decode zb_Mo_make 5 = .ok (.aload_n 0, 1) := by decide +kernel
theorem zd_Mo_make_6 : decode zb_Mo_make 6 = .ok (.iconst 0, 1) := by decide +kernel
theorem zd_Mo_make_7 : decode zb_Mo_make 7 = .ok (.putfield 45, 3) := by decide +kernel
theorem zd_Mo_make_10 : decode zb_Mo_make 10 = .ok (.aload_n 0, 1) := by decide +kernel
theorem zd_Mo_make_11 : decode zb_Mo_make 11 = .ok (.iconst 0, 1) := by decide +kernel
theorem zd_Mo_make_12 : decode zb_Mo_make 12 = .ok (.putfield 52, 3) := by decide +kernel
theorem zd_Mo_make_15 : decode zb_Mo_make 15 = .ok (.aload_n 0, 1) := by decide +kernel
theorem zd_Mo_make_16 : decode zb_Mo_make 16 = .ok (.iconst 0, 1) := by decide +kernel
theorem zd_Mo_make_17 : decode zb_Mo_make 17 = .ok (.putfield 55, 3) := by decide +kernel
theorem zd_Mo_make_20 : decode zb_Mo_make 20 = .ok (.aload_n 0, 1) := by decide +kernel
theorem zd_Mo_make_21 : decode zb_Mo_make 21 = .ok (.aload_n 0, 1) := by decide +kernel
theorem zd_Mo_make_22 : decode zb_Mo_make 22 = .ok (.getfield 35, 3) := by decide +kernel
theorem zd_Mo_make_25 : decode zb_Mo_make 25 = .ok (.invokevirtual 58, 3) := by decide +kernel
theorem zd_Mo_make_28 : decode zb_Mo_make 28 = .ok (.aload_n 0, 1) := by decide +kernel
theorem zd_Mo_make_29 : decode zb_Mo_make 29 = .ok (.aload_n 0, 1) := by decide +kernel
theorem zd_Mo_make_30 : decode zb_Mo_make 30 = .ok (.getfield 28, 3) := by decide +kernel
theorem zd_Mo_make_33 : decode zb_Mo_make 33 = .ok (.invokevirtual 58, 3) := by decide +kernel
theorem zd_Mo_make_36 : decode zb_Mo_make 36 = .ok (.iconst 0, 1) := by decide +kernel
theorem zd_Mo_make_37 : decode zb_Mo_make 37 = .ok (.istore_n 1, 1) := by decide +kernel
theorem zd_Mo_make_38 : decode zb_Mo_make 38 = .ok (.iconst 0, 1) := by decide +kernel
theorem zd_Mo_make_39 : decode zb_Mo_make 39 = .ok (.istore_n 2, 1) := by decide +kernel
theorem zd_Mo_make_40 : decode zb_Mo_make 40 = .ok (.iload_n 1, 1) := by decide +kernel
theorem zd_Mo_make_41 : decode zb_Mo_make 41 = .ok (.aload_n 0, 1) := by decide +kernel
theorem zd_Mo_make_42 : decode zb_Mo_make 42 = .ok (.getfield 28, 3) := by decide +kernel
theorem zd_Mo_make_45 : decode zb_Mo_make 45 = .ok (.if_icmp .ge 45, 3) := by decide +kernel
theorem zd_Mo_make_48 : decode zb_Mo_make 48 = .ok (.aload_n 0, 1) := by decide +kernel
theorem zd_Mo_make_49 : decode zb_Mo_make 49 = .ok (.iload_n 1, 1) := by decide +kernel
theorem zd_Mo_make_50 : decode zb_Mo_make 50 = .ok (.invokevirtual 61, 3) := by decide +kernel
theorem zd_Mo_make_53 : decode zb_Mo_make 53 = .ok (.aload_n 0, 1) := by decide +kernel
theorem zd_Mo_make_54 : decode zb_Mo_make 54 = .ok (.getfield 38, 3) := by decide +kernel
theorem zd_Mo_make_57 : decode zb_Mo_make 57 = .ok (.bipush 8, 2) := by decide +kernel
theorem zd_Mo_make_59 : decode zb_Mo_make 59 = .ok (.if_icmp .ge 9, 3) := by decide +kernel
theorem zd_Mo_make_62 : decode zb_Mo_make 62 = .ok (.iinc 1 1, 3) := by decide +kernel
theorem zd_Mo_make_65 : decode zb_Mo_make 65 = .ok (.goto (-25), 3) := by decide +kernel
theorem zd_Mo_make_68 : decode zb_Mo_make 68 = .ok (.aload_n 0, 1) := by decide +kernel
theorem zd_Mo_make_69 : decode zb_Mo_make 69 = .ok (.iload_n 2, 1) := by decide +kernel
theorem zd_Mo_make_70 : decode zb_Mo_make 70 = .ok (.iload_n 1, 1) := by decide +kernel
theorem zd_Mo_make_71 : decode zb_Mo_make 71 = .ok (.invokevirtual 64, 3) := by decide +kernel
theorem zd_Mo_make_74 : decode zb_Mo_make 74 = .ok (.aload_n 0, 1) := by decide +kernel
theorem zd_Mo_make_75 : decode zb_Mo_make 75 = .ok (.invokevirtual 68, 3) := by decide +kernel
theorem zd_Mo_make_78 : decode zb_Mo_make 78 = .ok (.iload_n 1, 1) := by decide +kernel
theorem zd_Mo_make_79 : decode zb_Mo_make 79 = .ok (.aload_n 0, 1) := by decide +kernel
theorem zd_Mo_make_80 : decode zb_Mo_make 80 = .ok (.getfield 38, 3) := by decide +kernel
theorem zd_Mo_make_83 : decode zb_Mo_make 83 = .ok (.iadd, 1) := by decide +kernel
theorem zd_Mo_make_84 : decode zb_Mo_make 84 = .ok (.istore_n 1, 1) := by decide +kernel
theorem zd_Mo_make_85 : decode zb_Mo_make 85 = .ok (.iload_n 1, 1) := by decide +kernel
theorem zd_Mo_make_86 : decode zb_Mo_make 86 = .ok (.istore_n 2, 1) := by decide +kernel
theorem zd_Mo_make_87 : decode zb_Mo_make 87 = .ok (.goto (-47), 3) := by decide +kernel
theorem zd_Mo_make_90 : decode zb_Mo_make 90 = .ok (.aload_n 0, 1) := by decide +kernel
theorem zd_Mo_make_91 : decode zb_Mo_make 91 = .ok (.iload_n 2, 1) := by decide +kernel
theorem zd_Mo_make_92 : decode zb_Mo_make 92 = .ok (.aload_n 0, 1) := by decide +kernel
theorem zd_Mo_make_93 : decode zb_Mo_make 93 = .ok (.getfield 28, 3) := by decide +kernel
theorem zd_Mo_make_96 : decode zb_Mo_make 96 = .ok (.invokevirtual 64, 3) := by decide +kernel
theorem zd_Mo_make_99 : decode zb_Mo_make 99 = .ok (.aload_n 0, 1) := by decide +kernel
theorem zd_Mo_make_100 : decode zb_Mo_make 100 = .ok (.getfield 45, 3) := by decide +kernel
theorem zd_Mo_make_103 : decode zb_Mo_make 103 = .ok (.ireturn, 1) := by decide +kernel
theorem zd_Mo_putNumber_0 : decode zb_Mo_putNumber 0 = .ok (.iload_n 1, 1) := by decide +kernel
theorem zd_Mo_putNumber_1 : decode zb_Mo_putNumber 1 = .ok (.istore_n 2, 1) := by decide +kernel
theorem zd_Mo_putNumber_2 : decode zb_Mo_putNumber 2 = .ok (.iload_n 2, 1) := by decide +kernel
theorem zd_Mo_putNumber_3 : decode zb_Mo_putNumber 3 = .ok (.sipush 128, 3) := by decide +kernel
theorem zd_Mo_putNumber_6 : decode zb_Mo_putNumber 6 = .ok (.if_icmp .lt 25, 3) := by decide +kernel
theorem zd_Mo_putNumber_9 : decode zb_Mo_putNumber 9 = .ok (.aload_n 0, 1) := by decide +kernel
theorem zd_Mo_putNumber_10 : decode zb_Mo_putNumber 10 = .ok (.iload_n 2, 1) := by decide +kernel
theorem zd_Mo_putNumber_11 : decode zb_Mo_putNumber 11 = .ok (.sipush 128, 3) := by decide +kernel
theorem zd_Mo_putNumber_14 : decode zb_Mo_putNumber 14 = .ok (.irem, 1) := by decide +kernel
theorem zd_Mo_putNumber_15 : decode zb_Mo_putNumber 15 = .ok (.sipush 128, 3) := by decide +kernel
theorem zd_Mo_putNumber_18 : decode zb_Mo_putNumber 18 = .ok (.iadd, 1) := by decide +kernel
theorem zd_Mo_putNumber_19 : decode zb_Mo_putNumber 19 = .ok (.invokevirtual 48, 3) := by decide +kernel
theorem zd_Mo_putNumber_22 : decode zb_Mo_putNumber 22 = .ok (.iload_n 2, 1) := by decide +kernel
theorem zd_Mo_putNumber_23 : decode zb_Mo_putNumber 23 = .ok (.sipush 128, 3) := by decide +kernel
theorem zd_Mo_putNumber_26 : decode zb_Mo_putNumber 26 = .ok (.idiv, 1) := by decide +kernel
theorem zd_Mo_putNumber_27 : decode zb_Mo_putNumber 27 = .ok (.istore_n 2, 1) := by decide +kernel
theorem zd_Mo_putNumber_28 : decode zb_Mo_putNumber 28 = .ok (.goto (-26), 3) := by decide +kernel
theorem zd_Mo_putNumber_31 : decode zb_Mo_putNumber 31 = .ok (.aload_n 0, 1) := by decide +kernel
theorem zd_Mo_putNumber_32 : decode zb_Mo_putNumber 32 = .ok (.iload_n 2, 1) := by decide +kernel
theorem zd_Mo_putNumber_33 : decode zb_Mo_putNumber 33 = .ok (.invokevirtual 48, 3) := by decide +kernel
theorem zd_Mo_putNumber_36 : decode zb_Mo_putNumber 36 = .ok (.return_, 1) := by decide +kernel
theorem zd_Mo_put_0 : decode zb_Mo_put 0 = .ok (.aload_n 0, 1) := by decide +kernel
theorem zd_Mo_put_1 : decode zb_Mo_put 1 = .ok (.getfield 18, 3) := by decide +kernel
theorem zd_Mo_put_4 : decode zb_Mo_put 4 = .ok (.aload_n 0, 1) := by decide +kernel
theorem zd_Mo_put_5 : decode zb_Mo_put 5 = .ok (.getfield 45, 3) := by decide +kernel
theorem zd_Mo_put_8 : decode zb_Mo_put 8 = .ok (.iload_n 1, 1) := by decide +kernel
theorem zd_Mo_put_9 : decode zb_Mo_put 9 = .ok (.i2b, 1) := by decide +kernel
theorem zd_Mo_put_10 : decode zb_Mo_put 10 = .ok (.bastore, 1) := by decide +kernel
theorem zd_Mo_put_11 : decode zb_Mo_put 11 = .ok (.aload_n 0, 1) := by decide +kernel
theorem zd_Mo_put_12 : decode zb_Mo_put 12 = .ok (.dup, 1) := by decide +kernel
theorem zd_Mo_put_13 : decode zb_Mo_put 13 = .ok (.getfield 45, 3) := by decide +kernel
theorem zd_Mo_put_16 : decode zb_Mo_put 16 = .ok (.iconst 1, 1) := by decide +kernel
theorem zd_Mo_put_17 : decode zb_Mo_put 17 = .ok (.iadd, 1) := by decide +kernel
theorem zd_Mo_put_18 : decode zb_Mo_put 18 = .ok (.putfield 45, 3) := by decide +kernel
theorem zd_Mo_put_21 : decode zb_Mo_put 21 = .ok (.return_, 1) := by decide +kernel
