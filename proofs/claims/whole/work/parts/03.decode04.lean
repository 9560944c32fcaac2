theorem zd_Pr_end_0 : decode zb_Pr_end 0 = .ok (.iload_n 1, 1) := by decide +kernel
theorem zd_Pr_end_1 : decode zb_Pr_end 1 = .ok (.ifCond .lt 14, 3) := by decide +kernel
theorem zd_Pr_end_4 : decode zb_Pr_end 4 = .ok (.iload_n 1, 1) := by decide +kernel
theorem zd_Pr_end_5 : decode zb_Pr_end 5 = .ok (.aload_n 0, 1) := by decide +kernel
theorem zd_Pr_end_6 : decode zb_Pr_end 6 = .ok (.getfield 15, 3) := by decide +kernel
theorem zd_Pr_end_9 : decode zb_Pr_end 9 = .ok (.invokevirtual 57, 3) := by decide +kernel
theorem zd_Pr_end_12 : decode zb_Pr_end 12 = .ok (.if_icmp .le 13, 3) := by decide +kernel
theorem zd_Pr_end_15 : decode zb_Pr_end 15 = .ok (.new 72, 3) := by decide +kernel
theorem zd_Pr_end_18 : decode zb_Pr_end 18 = .ok (.dup, 1) := by decide +kernel
theorem zd_Pr_end_19 : decode zb_Pr_end 19 = .ok (.ldc 74, 2) := by decide +kernel
theorem zd_Pr_end_21 : decode zb_Pr_end 21 = .ok (.invokespecial 76, 3) := by decide +kernel
theorem zd_Pr_end_24 : decode zb_Pr_end 24 = .ok (.athrow, 1) := by decide +kernel
theorem zd_Pr_end_25 : decode zb_Pr_end 25 = .ok (.aload_n 0, 1) := by decide +kernel
theorem zd_Pr_end_26 : decode zb_Pr_end 26 = .ok (.getfield 15, 3) := by decide +kernel
theorem zd_Pr_end_29 : decode zb_Pr_end 29 = .ok (.aload_n 0, 1) := by decide +kernel
theorem zd_Pr_end_30 : decode zb_Pr_end 30 = .ok (.getfield 15, 3) := by decide +kernel
theorem zd_Pr_end_33 : decode zb_Pr_end 33 = .ok (.invokevirtual 57, 3) := by decide +kernel
theorem zd_Pr_end_36 : decode zb_Pr_end 36 = .ok (.iload_n 1, 1) := by decide +kernel
theorem zd_Pr_end_37 : decode zb_Pr_end 37 = .ok (.isub, 1) := by decide +kernel
theorem zd_Pr_end_38 : decode zb_Pr_end 38 = .ok (.invokevirtual 77, 3) := by decide +kernel
theorem zd_Pr_end_41 : decode zb_Pr_end 41 = .ok (.aload_n 0, 1) := by decide +kernel
theorem zd_Pr_end_42 : decode zb_Pr_end 42 = .ok (.getfield 15, 3) := by decide +kernel
theorem zd_Pr_end_45 : decode zb_Pr_end 45 = .ok (.invokevirtual 57, 3) := by decide +kernel
theorem zd_Pr_end_48 : decode zb_Pr_end 48 = .ok (.ireturn, 1) := by decide +kernel
theorem zd_La_change_0 : decode zb_La_change 0 = .ok (.aload_n 0, 1) := by decide +kernel
theorem zd_La_change_1 : decode zb_La_change 1 = .ok (.iload_n 1, 1) := by decide +kernel
theorem zd_La_change_2 : decode zb_La_change 2 = .ok (.iload_n 2, 1) := by decide +kernel
theorem zd_La_change_3 : decode zb_La_change 3 = .ok (.invokevirtual 21, 3) := by decide +kernel
theorem zd_La_change_6 : decode zb_La_change 6 = .ok (.goto 6, 3) := by decide +kernel
theorem zd_La_change_9 : decode zb_La_change 9 = .ok (.astore_n 3, 1) := by decide +kernel
theorem zd_La_change_10 : decode zb_La_change 10 = .ok (.iconst 1, 1) := by decide +kernel
theorem zd_La_change_11 : decode zb_La_change 11 = .ok (.ireturn, 1) := by decide +kernel
theorem zd_La_change_12 : decode zb_La_change 12 = .ok (.iconst 0, 1) := by decide +kernel
theorem zd_La_change_13 : decode zb_La_change 13 = .ok (.ireturn, 1) := by decide +kernel
theorem zd_Pr_change_0 : decode zb_Pr_change 0 = .ok (.aload_n 0, 1) := by decide +kernel
theorem zd_Pr_change_1 : decode zb_Pr_change 1 = .ok (.getfield 15, 3) := by decide +kernel
theorem zd_Pr_change_4 : decode zb_Pr_change 4 = .ok (.iload_n 1, 1) := by decide +kernel
theorem zd_Pr_change_5 : decode zb_Pr_change 5 = .ok (.invokevirtual 80, 3) := by decide +kernel
theorem zd_Pr_change_8 : decode zb_Pr_change 8 = .ok (.ifCond .ne 13, 3) := by decide +kernel
theorem zd_Pr_change_11 : decode zb_Pr_change 11 = .ok (.new 72, 3) := by decide +kernel
theorem zd_Pr_change_14 : decode zb_Pr_change 14 = .ok (.dup, 1) := by decide +kernel
theorem zd_Pr_change_15 : decode zb_Pr_change 15 = .ok (.ldc 84, 2) := by decide +kernel
theorem zd_Pr_change_17 : decode zb_Pr_change 17 = .ok (.invokespecial 76, 3) := by decide +kernel
theorem zd_Pr_change_20 : decode zb_Pr_change 20 = .ok (.athrow, 1) := by decide +kernel
theorem zd_Pr_change_21 : decode zb_Pr_change 21 = .ok (.iload_n 2, 1) := by decide +kernel
theorem zd_Pr_change_22 : decode zb_Pr_change 22 = .ok (.ifCond .lt 10, 3) := by decide +kernel
theorem zd_Pr_change_25 : decode zb_Pr_change 25 = .ok (.iload_n 2, 1) := by decide +kernel
theorem zd_Pr_change_26 : decode zb_Pr_change 26 = .ok (.sipush 255, 3) := by decide +kernel
theorem zd_Pr_change_29 : decode zb_Pr_change 29 = .ok (.if_icmp .le 13, 3) := by decide +kernel
theorem zd_Pr_change_32 : decode zb_Pr_change 32 = .ok (.new 72, 3) := by decide +kernel
theorem zd_Pr_change_35 : decode zb_Pr_change 35 = .ok (.dup, 1) := by decide +kernel
theorem zd_Pr_change_36 : decode zb_Pr_change 36 = .ok (.ldc 86, 2) := by decide +kernel
theorem zd_Pr_change_38 : decode zb_Pr_change 38 = .ok (.invokespecial 76, 3) := by decide +kernel
theorem zd_Pr_change_41 : decode zb_Pr_change 41 = .ok (.athrow, 1) := by decide +kernel
theorem zd_Pr_change_42 : decode zb_Pr_change 42 = .ok (.aload_n 0, 1) := by decide +kernel
theorem zd_Pr_change_43 : decode zb_Pr_change 43 = .ok (.getfield 15, 3) := by decide +kernel
theorem zd_Pr_change_46 : decode zb_Pr_change 46 = .ok (.iload_n 1, 1) := by decide +kernel
theorem zd_Pr_change_47 : decode zb_Pr_change 47 = .ok (.iload_n 2, 1) := by decide +kernel
theorem zd_Pr_change_48 : decode zb_Pr_change 48 = .ok (.invokevirtual 88, 3) := by decide +kernel
theorem zd_Pr_change_51 : decode zb_Pr_change 51 = .ok (.return_, 1) := by decide +kernel
theorem zd_Tx_has_0 : decode zb_Tx_has 0 = .ok (.iload_n 1, 1) := by decide +kernel
theorem zd_Tx_has_1 : decode zb_Tx_has 1 = .ok (.ifCond .lt 15, 3) := by decide +kernel
theorem zd_Tx_has_4 : decode zb_Tx_has 4 = .ok (.iload_n 1, 1) := by decide +kernel
theorem zd_Tx_has_5 : decode zb_Tx_has 5 = .ok (.aload_n 0, 1) := by decide +kernel
theorem zd_Tx_has_6 : decode zb_Tx_has 6 = .ok (.getfield 7, 3) := by decide +kernel
theorem zd_Tx_has_9 : decode zb_Tx_has 9 = .ok (.if_icmp .ge 7, 3) := by decide +kernel
theorem zd_Tx_has_12 : decode zb_Tx_has 12 = .ok (.iconst 1, 1) := by decide +kernel
theorem zd_Tx_has_13 : decode zb_Tx_has 13 = .ok (.goto 4, 3) := by decide +kernel
theorem zd_Tx_has_16 : decode zb_Tx_has 16 = .ok (.iconst 0, 1) := by decide +kernel
theorem zd_Tx_has_17 : decode zb_Tx_has 17 = .ok (.ireturn, 1) := by decide +kernel
theorem zd_Tx_flip_0 : decode zb_Tx_flip 0 = .ok (.aload_n 0, 1) := by decide +kernel
theorem zd_Tx_flip_1 : decode zb_Tx_flip 1 = .ok (.getfield 13, 3) := by decide +kernel
theorem zd_Tx_flip_4 : decode zb_Tx_flip 4 = .ok (.iload_n 1, 1) := by decide +kernel
theorem zd_Tx_flip_5 : decode zb_Tx_flip 5 = .ok (.dup2, 1) := by decide +kernel
theorem zd_Tx_flip_6 : decode zb_Tx_flip 6 = .ok (.baload, 1) := by decide +kernel
theorem zd_Tx_flip_7 : decode zb_Tx_flip 7 = .ok (.iload_n 2, 1) := by decide +kernel
theorem zd_Tx_flip_8 : decode zb_Tx_flip 8 = .ok (.i2b, 1) := by decide +kernel
theorem zd_Tx_flip_9 : decode zb_Tx_flip 9 = .ok (.ixor, 1) := by decide +kernel
theorem zd_Tx_flip_10 : decode zb_Tx_flip 10 = .ok (.i2b, 1) := by decide +kernel
theorem zd_Tx_flip_11 : decode zb_Tx_flip 11 = .ok (.bastore, 1) := by decide +kernel
theorem zd_Tx_flip_12 : decode zb_Tx_flip 12 = .ok (.return_, 1) := by decide +kernel
theorem zd_La_use_0 : decode zb_La_use 0 = .ok (.aload_n 1, 1) := by decide +kernel
theorem zd_La_use_1 : decode zb_La_use 1 = .ok (.iconst 0, 1) := by decide +kernel
theorem zd_La_use_2 : decode zb_La_use 2 = .ok (.aload_n 0, 1) := by decide +kernel
theorem zd_La_use_3 : decode zb_La_use 3 = .ok (.invokevirtual 25, 3) := by decide +kernel
theorem zd_La_use_6 : decode zb_La_use 6 = .ok (.i2l, 1) := by decide +kernel
theorem zd_La_use_7 : decode zb_La_use 7 = .ok (.lastore, 1) := by decide +kernel
theorem zd_La_use_8 : decode zb_La_use 8 = .ok (.goto 6, 3) := by decide +kernel
theorem zd_La_use_11 : decode zb_La_use 11 = .ok (.astore_n 2, 1) := by decide +kernel
theorem zd_La_use_12 : decode zb_La_use 12 = .ok (.iconst 1, 1) := by decide +kernel
theorem zd_La_use_13 : decode zb_La_use 13 = .ok (.ireturn, 1) := by decide +kernel
theorem zd_La_use_14 : decode zb_La_use 14 = .ok (.iconst 0, 1) := by decide +kernel
theorem zd_La_use_15 : decode zb_La_use 15 = .ok (.ireturn, 1) := by decide +kernel
theorem zd_Pr_use_0 : decode zb_Pr_use 0 = .ok (.aload_n 0, 1) := by decide +kernel
theorem zd_Pr_use_1 : decode zb_Pr_use 1 = .ok (.getfield 43, 3) := by decide +kernel
theorem zd_Pr_use_4 : decode zb_Pr_use 4 = .ok (.aload_n 0, 1) := by decide +kernel
theorem zd_Pr_use_5 : decode zb_Pr_use 5 = .ok (.getfield 15, 3) := by decide +kernel
theorem zd_Pr_use_8 : decode zb_Pr_use 8 = .ok (.aload_n 0, 1) := by decide +kernel
theorem zd_Pr_use_9 : decode zb_Pr_use 9 = .ok (.getfield 19, 3) := by decide +kernel
theorem zd_Pr_use_12 : decode zb_Pr_use 12 = .ok (.aload_n 0, 1) := by decide +kernel
theorem zd_Pr_use_13 : decode zb_Pr_use 13 = .ok (.getfield 26, 3) := by decide +kernel
theorem zd_Pr_use_16 : decode zb_Pr_use 16 = .ok (.invokevirtual 110, 3) := by decide +kernel
theorem zd_Pr_use_19 : decode zb_Pr_use 19 = .ok (.ifCond .ne 23, 3) := by decide +kernel
theorem zd_Pr_use_22 : decode zb_Pr_use 22 = .ok (.aload_n 0, 1) := by decide +kernel
theorem zd_Pr_use_23 : decode zb_Pr_use 23 = .ok (.dup, 1) := by decide +kernel
theorem zd_Pr_use_24 : decode zb_Pr_use 24 = .ok (.getfield 54, 3) := by decide +kernel
theorem zd_Pr_use_27 : decode zb_Pr_use 27 = .ok (.iconst 1, 1) := by decide +kernel
theorem zd_Pr_use_28 : decode zb_Pr_use 28 = .ok (.iadd, 1) := by decide +kernel
theorem zd_Pr_use_29 : decode zb_Pr_use 29 = .ok (.putfield 54, 3) := by decide +kernel
theorem zd_Pr_use_32 : decode zb_Pr_use 32 = .ok (.new 114, 3) := by decide +kernel
theorem zd_Pr_use_35 : decode zb_Pr_use 35 = .ok (.dup, 1) := by decide +kernel
theorem zd_Pr_use_36 : decode zb_Pr_use 36 = .ok (.ldc 116, 2) := by decide +kernel
theorem zd_Pr_use_38 : decode zb_Pr_use 38 = .ok (.invokespecial 118, 3) := by decide +kernel
theorem zd_Pr_use_41 : decode zb_Pr_use 41 = .ok (.athrow, 1) := by decide +kernel
theorem zd_Pr_use_42 : decode zb_Pr_use 42 = .ok (.aload_n 0, 1) := by decide +kernel
theorem zd_Pr_use_43 : decode zb_Pr_use 43 = .ok (.getfield 23, 3) := by decide +kernel
theorem zd_Pr_use_46 : decode zb_Pr_use 46 = .ok (.astore_n 1, 1) := by decide +kernel
theorem zd_Pr_use_47 : decode zb_Pr_use 47 = .ok (.aload_n 0, 1) := by decide +kernel
theorem zd_Pr_use_48 : decode zb_Pr_use 48 = .ok (.aload_n 0, 1) := by decide +kernel
theorem zd_Pr_use_49 : decode zb_Pr_use 49 = .ok (.getfield 26, 3) := by decide +kernel
theorem zd_Pr_use_52 : decode zb_Pr_use 52 = .ok (.putfield 23, 3) := by decide +kernel
theorem zd_Pr_use_55 : decode zb_Pr_use 55 = .ok (.aload_n 0, 1) := by decide +kernel
theorem zd_Pr_use_56 : decode zb_Pr_use 56 = .ok (.aload_n 1, 1) := by decide +kernel
theorem zd_Pr_use_57 : decode zb_Pr_use 57 = .ok (.putfield 26, 3) := by decide +kernel
theorem zd_Pr_use_60 : decode zb_Pr_use 60 = .ok (.aload_n 0, 1) := by decide +kernel
theorem zd_Pr_use_61 : decode zb_Pr_use 61 = .ok (.getfield 23, 3) := by decide +kernel
theorem zd_Pr_use_64 : decode zb_Pr_use 64 = .ok (.invokevirtual 57, 3) := by decide +kernel
theorem zd_Pr_use_67 : decode zb_Pr_use 67 = .ok (.ireturn, 1) := by decide +kernel
theorem zd_De_isRead_0 : decode zb_De_isRead 0 = .ok (.aload_n 3, 1) := by decide +kernel
theorem zd_De_isRead_1 : decode zb_De_isRead 1 = .ok (.iconst 0, 1) := by decide +kernel
theorem zd_De_isRead_2 : decode zb_De_isRead 2 = .ok (.invokevirtual 15, 3) := by decide +kernel
theorem zd_De_isRead_5 : decode zb_De_isRead 5 = .ok (.aload_n 0, 1) := by decide +kernel
theorem zd_De_isRead_6 : decode zb_De_isRead 6 = .ok (.iconst 0, 1) := by decide +kernel
theorem zd_De_isRead_7 : decode zb_De_isRead 7 = .ok (.putfield 9, 3) := by decide +kernel
theorem zd_De_isRead_10 : decode zb_De_isRead 10 = .ok (.aload_n 0, 1) := by decide +kernel
theorem zd_De_isRead_11 : decode zb_De_isRead 11 = .ok (.aload_n 1, 1) := by decide +kernel
theorem zd_De_isRead_12 : decode zb_De_isRead 12 = .ok (.invokevirtual 21, 3) := by decide +kernel
theorem zd_De_isRead_15 : decode zb_De_isRead 15 = .ok (.aload_n 2, 1) := by decide +kernel
theorem zd_De_isRead_16 : decode zb_De_isRead 16 = .ok (.invokevirtual 25, 3) := by decide +kernel
theorem zd_De_isRead_19 : decode zb_De_isRead 19 = .ok (.if_icmp .eq 5, 3) := by decide +kernel
theorem zd_De_isRead_22 : decode zb_De_isRead 22 = .ok (.iconst 0, 1) := by decide +kernel
theorem zd_De_isRead_23 : decode zb_De_isRead 23 = .ok (.ireturn, 1) := by decide +kernel
theorem zd_De_isRead_24 : decode zb_De_isRead 24 = .ok (.aload_n 0, 1) := by decide +kernel
theorem zd_De_isRead_25 : decode zb_De_isRead 25 = .ok (.aload_n 1, 1) := by decide +kernel
theorem zd_De_isRead_26 : decode zb_De_isRead 26 = .ok (.invokevirtual 21, 3) := by decide +kernel
theorem zd_De_isRead_29 : decode zb_De_isRead 29 = .ok (.istore 4, 2) := by decide +kernel
theorem zd_De_isRead_31 : decode zb_De_isRead 31 = .ok (.iload 4, 2) := by decide +kernel
theorem zd_De_isRead_33 : decode zb_De_isRead 33 = .ok (.iconst (-1), 1) := by decide +kernel
theorem zd_De_isRead_34 : decode zb_De_isRead 34 = .ok (.if_icmp .eq 10, 3) := by decide +kernel
theorem zd_De_isRead_37 : decode zb_De_isRead 37 = .ok (.iload 4, 2) := by decide +kernel
theorem zd_De_isRead_39 : decode zb_De_isRead 39 = .ok (.ldc 29, 2) := by decide +kernel
theorem zd_De_isRead_41 : decode zb_De_isRead 41 = .ok (.if_icmp .le 5, 3) := by decide +kernel
theorem zd_De_isRead_44 : decode zb_De_isRead 44 = .ok (.iconst 0, 1) := by decide +kernel
theorem zd_De_isRead_45 : decode zb_De_isRead 45 = .ok (.ireturn, 1) := by decide +kernel
theorem zd_De_isRead_46 : decode zb_De_isRead 46 = .ok (.aload_n 0, 1) := by decide +kernel
theorem zd_De_isRead_47 : decode zb_De_isRead 47 = .ok (.getfield 9, 3) := by decide +kernel
theorem zd_De_isRead_50 : decode zb_De_isRead 50 = .ok (.aload_n 1, 1) := by decide +kernel
theorem zd_De_isRead_51 : decode zb_De_isRead 51 = .ok (.invokevirtual 25, 3) := by decide +kernel
theorem zd_De_isRead_54 : decode zb_De_isRead 54 = .ok (.if_icmp .ge 67, 3) := by decide +kernel
theorem zd_De_isRead_57 : decode zb_De_isRead 57 = .ok (.aload_n 1, 1) := by decide +kernel
theorem zd_De_isRead_58 : decode zb_De_isRead 58 = .ok (.aload_n 0, 1) := by decide +kernel
theorem zd_De_isRead_59 : decode zb_De_isRead 59 = .ok (.getfield 9, 3) := by decide +kernel
theorem zd_De_isRead_62 : decode zb_De_isRead 62 = .ok (.invokevirtual 30, 3) := by decide +kernel
theorem zd_De_isRead_65 : decode zb_De_isRead 65 = .ok (.istore 5, 2) := by decide +kernel
theorem zd_De_isRead_67 : decode zb_De_isRead 67 = .ok (.aload_n 0, 1) := by decide +kernel
theorem zd_De_isRead_68 : decode zb_De_isRead 68 = .ok (.dup, 1) := by decide +kernel
theorem zd_De_isRead_69 : decode zb_De_isRead 69 = .ok (.getfield 9, 3) := by decide +kernel
theorem zd_De_isRead_72 : decode zb_De_isRead 72 = .ok (.iconst 1, 1) := by decide +kernel
theorem zd_De_isRead_73 : decode zb_De_isRead 73 = .ok (.iadd, 1) := by decide +kernel
theorem zd_De_isRead_74 : decode zb_De_isRead 74 = .ok (.putfield 9, 3) := by decide +kernel
theorem zd_De_isRead_77 : decode zb_De_isRead 77 = .ok (.iload 5, 2) := by decide +kernel
theorem zd_De_isRead_79 : decode zb_De_isRead 79 = .ok (.sipush 128, 3) := by decide +kernel
theorem zd_De_isRead_82 : decode zb_De_isRead 82 = .ok (.if_icmp .lt 17, 3) := by decide +kernel
theorem zd_De_isRead_85 : decode zb_De_isRead 85 = .ok (.aload_n 0, 1) := by decide +kernel
theorem zd_De_isRead_86 : decode zb_De_isRead 86 = .ok (.aload_n 1, 1) := by decide +kernel
theorem zd_De_isRead_87 : decode zb_De_isRead 87 = .ok (.iload 5, 2) := by decide +kernel
theorem zd_De_isRead_89 : decode zb_De_isRead 89 = .ok (.aload_n 2, 1) := by decide +kernel
theorem zd_De_isRead_90 : decode zb_De_isRead 90 = .ok (.aload_n 3, 1) := by decide +kernel
theorem zd_De_isRead_91 : decode zb_De_isRead 91 = .ok (.iload 4, 2) := by decide +kernel
theorem zd_De_isRead_93 : decode zb_De_isRead 93 = .ok (.invokevirtual 34, 3) := by decide +kernel
theorem zd_De_isRead_96 : decode zb_De_isRead 96 = .ok (.goto 13, 3) := by decide +kernel
theorem zd_De_isRead_99 : decode zb_De_isRead 99 = .ok (.aload_n 0, 1) := by decide +kernel
theorem zd_De_isRead_100 : decode zb_De_isRead 100 = .ok (.aload_n 1, 1) := by decide +kernel
theorem zd_De_isRead_101 : decode zb_De_isRead 101 = .ok (.iload 5, 2) := by decide +kernel
theorem zd_De_isRead_103 : decode zb_De_isRead 103 = .ok (.aload_n 3, 1) := by decide +kernel
theorem zd_De_isRead_104 : decode zb_De_isRead 104 = .ok (.iload 4, 2) := by decide +kernel
theorem zd_De_isRead_106 : decode zb_De_isRead 106 = .ok (.invokevirtual 38, 3) := by decide +kernel
theorem zd_De_isRead_109 : decode zb_De_isRead 109 = .ok (.istore 6, 2) := by decide +kernel
theorem zd_De_isRead_111 : decode zb_De_isRead 111 = .ok (.iload 6, 2) := by decide +kernel
theorem zd_De_isRead_113 : decode zb_De_isRead 113 = .ok (.ifCond .ne 5, 3) := by decide +kernel
theorem zd_De_isRead_116 : decode zb_De_isRead 116 = .ok (.iconst 0, 1) := by decide +kernel
theorem zd_De_isRead_117 : decode zb_De_isRead 117 = .ok (.ireturn, 1) := by decide +kernel
theorem zd_De_isRead_118 : decode zb_De_isRead 118 = .ok (.goto (-72), 3) := by decide +kernel
theorem zd_De_isRead_121 : decode zb_De_isRead 121 = .ok (.aload_n 3, 1) := by decide +kernel
theorem zd_De_isRead_122 : decode zb_De_isRead 122 = .ok (.invokevirtual 25, 3) := by decide +kernel
theorem zd_De_isRead_125 : decode zb_De_isRead 125 = .ok (.iload 4, 2) := by decide +kernel
theorem zd_De_isRead_127 : decode zb_De_isRead 127 = .ok (.if_icmp .ne 7, 3) := by decide +kernel
theorem zd_De_isRead_130 : decode zb_De_isRead 130 = .ok (.iconst 1, 1) := by decide +kernel
theorem zd_De_isRead_131 : decode zb_De_isRead 131 = .ok (.goto 4, 3) := by decide +kernel
theorem zd_De_isRead_134 : decode zb_De_isRead 134 = .ok (.iconst 0, 1) := by decide +kernel
theorem zd_De_isRead_135 : decode zb_De_isRead 135 = .ok (.ireturn, 1) := by decide +kernel
theorem zd_De_readNumber_0 : decode zb_De_readNumber 0 = .ok (.iconst 0, 1) := by decide +kernel
theorem zd_De_readNumber_1 : decode zb_De_readNumber 1 = .ok (.istore_n 2, 1) := by decide +kernel
theorem zd_De_readNumber_2 : decode zb_De_readNumber 2 = .ok (.iconst 0, 1) := by decide +kernel
theorem zd_De_readNumber_3 : decode zb_De_readNumber 3 = .ok (.istore_n 3, 1) := by decide +kernel
theorem zd_De_readNumber_4 : decode zb_De_readNumber 4 = .ok (.iload_n 3, 1) := by decide +kernel
theorem zd_De_readNumber_5 : decode zb_De_readNumber 5 = .ok (.iconst 4, 1) := by decide +kernel
theorem zd_De_readNumber_6 : decode zb_De_readNumber 6 = .ok (.if_icmp .ge 63, 3) := by decide +kernel
theorem zd_De_readNumber_9 : decode zb_De_readNumber 9 = .ok (.aload_n 0, 1) := by decide +kernel
theorem zd_De_readNumber_10 : decode zb_De_readNumber 10 = .ok (.getfield 9, 3) := by decide +kernel
theorem zd_De_readNumber_13 : decode zb_De_readNumber 13 = .ok (.aload_n 1, 1) := by decide +kernel
theorem zd_De_readNumber_14 : decode zb_De_readNumber 14 = .ok (.invokevirtual 25, 3) := by decide +kernel
theorem zd_De_readNumber_17 : decode zb_De_readNumber 17 = .ok (.if_icmp .ge 52, 3) := by decide +kernel
theorem zd_De_readNumber_20 : decode zb_De_readNumber 20 = .ok (.aload_n 1, 1) := by decide +kernel
theorem zd_De_readNumber_21 : decode zb_De_readNumber 21 = .ok (.aload_n 0, 1) := by decide +kernel
theorem zd_De_readNumber_22 : decode zb_De_readNumber 22 = .ok (.getfield 9, 3) := by decide +kernel
theorem zd_De_readNumber_25 : decode zb_De_readNumber 25 = .ok (.invokevirtual 30, 3) := by decide +kernel
theorem zd_De_readNumber_28 : decode zb_De_readNumber 28 = .ok (.istore 4, 2) := by decide +kernel
theorem zd_De_readNumber_30 : decode zb_De_readNumber 30 = .ok (.aload_n 0, 1) := by decide +kernel
theorem zd_De_readNumber_31 : decode zb_De_readNumber 31 = .ok (.dup, 1) := by decide +kernel
theorem zd_De_readNumber_32 : decode zb_De_readNumber 32 = .ok (.getfield 9, 3) := by decide +kernel
theorem zd_De_readNumber_35 : decode zb_De_readNumber 35 = .ok (.iconst 1, 1) := by decide +kernel
theorem zd_De_readNumber_36 : decode zb_De_readNumber 36 = .ok (.iadd, 1) := by decide +kernel
theorem zd_De_readNumber_37 : decode zb_De_readNumber 37 = .ok (.putfield 9, 3) := by decide +kernel
theorem zd_De_readNumber_40 : decode zb_De_readNumber 40 = .ok (.iload_n 2, 1) := by decide +kernel
theorem zd_De_readNumber_41 : decode zb_De_readNumber 41 = .ok (.iload 4, 2) := by decide +kernel
theorem zd_De_readNumber_43 : decode zb_De_readNumber 43 = .ok (.bipush 127, 2) := by decide +kernel
theorem zd_De_readNumber_45 : decode zb_De_readNumber 45 = .ok (.iand, 1) := by decide +kernel
theorem zd_De_readNumber_46 : decode zb_De_readNumber 46 = .ok (.bipush 7, 2) := by decide +kernel
theorem zd_De_readNumber_48 : decode zb_De_readNumber 48 = .ok (.iload_n 3, 1) := by decide +kernel
theorem zd_De_readNumber_49 : decode zb_De_readNumber 49 = .ok (.imul, 1) := by decide +kernel
theorem zd_De_readNumber_50 : decode zb_De_readNumber 50 = .ok (.ishl, 1) := by decide +kernel
theorem zd_De_readNumber_51 : decode zb_De_readNumber 51 = .ok (.ior, 1) := by decide +kernel
theorem zd_De_readNumber_52 : decode zb_De_readNumber 52 = .ok (.istore_n 2, 1) := by decide +kernel
theorem zd_De_readNumber_53 : decode zb_De_readNumber 53 = .ok (.iload 4, 2) := by decide +kernel
theorem zd_De_readNumber_55 : decode zb_De_readNumber 55 = .ok (.sipush 128, 3) := by decide +kernel
theorem zd_De_readNumber_58 : decode zb_De_readNumber 58 = .ok (.if_icmp .ge 5, 3) := by decide +kernel
theorem zd_De_readNumber_61 : decode zb_De_readNumber 61 = .ok (.iload_n 2, 1) := by decide +kernel
theorem zd_De_readNumber_62 : decode zb_De_readNumber 62 = .ok (.ireturn, 1) := by decide +kernel
theorem zd_De_readNumber_63 : decode zb_De_readNumber 63 = .ok (.iinc 3 1, 3) := by decide +kernel
theorem zd_De_readNumber_66 : decode zb_De_readNumber 66 = .ok (.goto (-62), 3) := by decide +kernel
theorem zd_De_readNumber_69 : decode zb_De_readNumber 69 = .ok (.iconst (-1), 1) := by decide +kernel
theorem zd_De_readNumber_70 : decode zb_De_readNumber 70 = .ok (.ireturn, 1) := by decide +kernel
theorem zd_Tx_at_0 : decode zb_Tx_at 0 = .ok (.aload_n 0, 1) := by decide +kernel
theorem zd_Tx_at_1 : decode zb_Tx_at 1 = .ok (.getfield 13, 3) := by decide +kernel
theorem zd_Tx_at_4 : decode zb_Tx_at 4 = .ok (.iload_n 1, 1) := by decide +kernel
theorem zd_Tx_at_5 : decode zb_Tx_at 5 = .ok (.baload, 1) := by decide +kernel
theorem zd_Tx_at_6 : decode zb_Tx_at 6 = .ok (.sipush 255, 3) := by decide +kernel
theorem zd_Tx_at_9 : decode zb_Tx_at 9 = .ok (.iand, 1) := by decide +kernel
theorem zd_Tx_at_10 : decode zb_Tx_at 10 = .ok (.ireturn, 1) := by decide +kernel
theorem zd_De_isCopyRead_0 : decode zb_De_isCopyRead 0 = .ok (.aload_n 0, 1) := by decide +kernel
theorem zd_De_isCopyRead_1 : decode zb_De_isCopyRead 1 = .ok (.aload_n 1, 1) := by decide +kernel
theorem zd_De_isCopyRead_2 : decode zb_De_isCopyRead 2 = .ok (.iload_n 2, 1) := by decide +kernel
theorem zd_De_isCopyRead_3 : decode zb_De_isCopyRead 3 = .ok (.iconst 4, 1) := by decide +kernel
theorem zd_De_isCopyRead_4 : decode zb_De_isCopyRead 4 = .ok (.invokevirtual 42, 3) := by decide +kernel
theorem zd_De_isCopyRead_7 : decode zb_De_isCopyRead 7 = .ok (.istore 6, 2) := by decide +kernel
theorem zd_De_isCopyRead_9 : decode zb_De_isCopyRead 9 = .ok (.aload_n 0, 1) := by decide +kernel
theorem zd_De_isCopyRead_10 : decode zb_De_isCopyRead 10 = .ok (.aload_n 1, 1) := by decide +kernel
theorem zd_De_isCopyRead_11 : decode zb_De_isCopyRead 11 = .ok (.iload_n 2, 1) := by decide +kernel
theorem zd_De_isCopyRead_12 : decode zb_De_isCopyRead 12 = .ok (.iconst 4, 1) := by decide +kernel
theorem zd_De_isCopyRead_13 : decode zb_De_isCopyRead 13 = .ok (.iushr, 1) := by decide +kernel
theorem zd_De_isCopyRead_14 : decode zb_De_isCopyRead 14 = .ok (.iconst 3, 1) := by decide +kernel
theorem zd_De_isCopyRead_15 : decode zb_De_isCopyRead 15 = .ok (.invokevirtual 42, 3) := by decide +kernel
theorem zd_De_isCopyRead_18 : decode zb_De_isCopyRead 18 = .ok (.istore 7, 2) := by decide +kernel
theorem zd_De_isCopyRead_20 : decode zb_De_isCopyRead 20 = .ok (.iload 7, 2) := by decide +kernel
theorem zd_De_isCopyRead_22 : decode zb_De_isCopyRead 22 = .ok (.ifCond .ne 7, 3) := by decide +kernel
theorem zd_De_isCopyRead_25 : decode zb_De_isCopyRead 25 = .ok (.ldc 29, 2) := by decide +kernel
theorem zd_De_isCopyRead_27 : decode zb_De_isCopyRead 27 = .ok (.istore 7, 2) := by decide +kernel
theorem zd_De_isCopyRead_29 : decode zb_De_isCopyRead 29 = .ok (.iload 6, 2) := by decide +kernel
theorem zd_De_isCopyRead_31 : decode zb_De_isCopyRead 31 = .ok (.ifCond .lt 20, 3) := by decide +kernel
theorem zd_De_isCopyRead_34 : decode zb_De_isCopyRead 34 = .ok (.iload 7, 2) := by decide +kernel
theorem zd_De_isCopyRead_36 : decode zb_De_isCopyRead 36 = .ok (.ifCond .lt 15, 3) := by decide +kernel
theorem zd_De_isCopyRead_39 : decode zb_De_isCopyRead 39 = .ok (.iload 6, 2) := by decide +kernel
theorem zd_De_isCopyRead_41 : decode zb_De_isCopyRead 41 = .ok (.aload_n 3, 1) := by decide +kernel
theorem zd_De_isCopyRead_42 : decode zb_De_isCopyRead 42 = .ok (.invokevirtual 25, 3) := by decide +kernel
theorem zd_De_isCopyRead_45 : decode zb_De_isCopyRead 45 = .ok (.iload 7, 2) := by decide +kernel
theorem zd_De_isCopyRead_47 : decode zb_De_isCopyRead 47 = .ok (.isub, 1) := by decide +kernel
theorem zd_De_isCopyRead_48 : decode zb_De_isCopyRead 48 = .ok (.if_icmp .le 5, 3) := by decide +kernel
theorem zd_De_isCopyRead_51 : decode zb_De_isCopyRead 51 = .ok (.iconst 0, 1) := by decide +kernel
theorem zd_De_isCopyRead_52 : decode zb_De_isCopyRead 52 = .ok (.ireturn, 1) := by decide +kernel
theorem zd_De_isCopyRead_53 : decode zb_De_isCopyRead 53 = .ok (.iload 7, 2) := by decide +kernel
theorem zd_De_isCopyRead_55 : decode zb_De_isCopyRead 55 = .ok (.iload 5, 2) := by decide +kernel
theorem zd_De_isCopyRead_57 : decode zb_De_isCopyRead 57 = .ok (.aload 4, 2) := by decide +kernel
theorem zd_De_isCopyRead_59 : decode zb_De_isCopyRead 59 = .ok (.invokevirtual 25, 3) := by decide +kernel
theorem zd_De_isCopyRead_62 : decode zb_De_isCopyRead 62 = .ok (.isub, 1) := by decide +kernel
theorem zd_De_isCopyRead_63 : decode zb_De_isCopyRead 63 = .ok (.if_icmp .le 5, 3) := by decide +kernel
theorem zd_De_isCopyRead_66 : decode zb_De_isCopyRead 66 = .ok (.iconst 0, 1) := by decide +kernel
theorem zd_De_isCopyRead_67 : decode zb_De_isCopyRead 67 = .ok (.ireturn, 1) := by decide +kernel
theorem zd_De_isCopyRead_68 : decode zb_De_isCopyRead 68 = .ok (.aload 4, 2) := by decide +kernel
theorem zd_De_isCopyRead_70 : decode zb_De_isCopyRead 70 = .ok (.aload_n 3, 1) := by decide +kernel
theorem zd_De_isCopyRead_71 : decode zb_De_isCopyRead 71 = .ok (.iload 6, 2) := by decide +kernel
theorem zd_De_isCopyRead_73 : decode zb_De_isCopyRead 73 = .ok (.iload 7, 2) := by decide +kernel
theorem zd_De_isCopyRead_75 : decode zb_De_isCopyRead 75 = .ok (.invokevirtual 46, 3) := by decide +kernel
theorem zd_De_isCopyRead_78 : decode zb_De_isCopyRead 78 = .ok (.iconst 1, 1) := by decide +kernel
theorem zd_De_isCopyRead_79 : decode zb_De_isCopyRead 79 = .ok (.ireturn, 1) := by decide +kernel
theorem zd_De_readChosenBytes_0 : decode zb_De_readChosenBytes 0 = .ok (.iconst 0, 1) := by decide +kernel
theorem zd_De_readChosenBytes_1 : decode zb_De_readChosenBytes 1 = .ok (.istore 4, 2) := by decide +kernel
theorem zd_De_readChosenBytes_3 : decode zb_De_readChosenBytes 3 = .ok (.iconst 0, 1) := by decide +kernel
theorem zd_De_readChosenBytes_4 : decode zb_De_readChosenBytes 4 = .ok (.istore 5, 2) := by decide +kernel
theorem zd_De_readChosenBytes_6 : decode zb_De_readChosenBytes 6 = .ok (.iload 5, 2) := by decide +kernel
theorem zd_De_readChosenBytes_8 : decode zb_De_readChosenBytes 8 = .ok (.iload_n 3, 1) := by decide +kernel
theorem zd_De_readChosenBytes_9 : decode zb_De_readChosenBytes 9 = .ok (.if_icmp .ge 61, 3) := by decide +kernel
theorem zd_De_readChosenBytes_12 : decode zb_De_readChosenBytes 12 = .ok (.iload_n 2, 1) := by decide +kernel
theorem zd_De_readChosenBytes_13 : decode zb_De_readChosenBytes 13 = .ok (.iload 5, 2) := by decide +kernel
theorem zd_De_readChosenBytes_15 : decode zb_De_readChosenBytes 15 = .ok (.iushr, 1) := by decide +kernel
theorem zd_De_readChosenBytes_16 : decode zb_De_readChosenBytes 16 = .ok (.iconst 1, 1) := by decide +kernel
theorem zd_De_readChosenBytes_17 : decode zb_De_readChosenBytes 17 = .ok (.iand, 1) := by decide +kernel
theorem zd_De_readChosenBytes_18 : decode zb_De_readChosenBytes 18 = .ok (.iconst 1, 1) := by decide +kernel
theorem zd_De_readChosenBytes_19 : decode zb_De_readChosenBytes 19 = .ok (.if_icmp .ne 45, 3) := by decide +kernel
theorem zd_De_readChosenBytes_22 : decode zb_De_readChosenBytes 22 = .ok (.aload_n 0, 1) := by decide +kernel
theorem zd_De_readChosenBytes_23 : decode zb_De_readChosenBytes 23 = .ok (.getfield 9, 3) := by decide +kernel
theorem zd_De_readChosenBytes_26 : decode zb_De_readChosenBytes 26 = .ok (.aload_n 1, 1) := by decide +kernel
theorem zd_De_readChosenBytes_27 : decode zb_De_readChosenBytes 27 = .ok (.invokevirtual 25, 3) := by decide +kernel
theorem zd_De_readChosenBytes_30 : decode zb_De_readChosenBytes 30 = .ok (.if_icmp .lt 5, 3) := by decide +kernel
theorem zd_De_readChosenBytes_33 : decode zb_De_readChosenBytes 33 = .ok (.iconst (-1), 1) := by decide +kernel
theorem zd_De_readChosenBytes_34 : decode zb_De_readChosenBytes 34 = .ok (.ireturn, 1) := by decide +kernel
theorem zd_De_readChosenBytes_35 : decode zb_De_readChosenBytes 35 = .ok (.iload 4, 2) := by decide +kernel
theorem zd_De_readChosenBytes_37 : decode zb_De_readChosenBytes 37 = .ok (.aload_n 1, 1) := by decide +kernel
theorem zd_De_readChosenBytes_38 : decode zb_De_readChosenBytes 38 = .ok (.aload_n 0, 1) := by decide +kernel
theorem zd_De_readChosenBytes_39 : decode zb_De_readChosenBytes 39 = .ok (.getfield 9, 3) := by decide +kernel
theorem zd_De_readChosenBytes_42 : decode zb_De_readChosenBytes 42 = .ok (.invokevirtual 30, 3) := by decide +kernel
theorem zd_De_readChosenBytes_45 : decode zb_De_readChosenBytes 45 = .ok (.bipush 8, 2) := by decide +kernel
theorem zd_De_readChosenBytes_47 : decode zb_De_readChosenBytes 47 = .ok (.iload 5, 2) := by decide +kernel
theorem zd_De_readChosenBytes_49 : decode zb_De_readChosenBytes 49 = .ok (.imul, 1) := by decide +kernel
theorem zd_De_readChosenBytes_50 : decode zb_De_readChosenBytes 50 = .ok (.ishl, 1) := by decide +kernel
theorem zd_De_readChosenBytes_51 : decode zb_De_readChosenBytes 51 = .ok (.ior, 1) := by decide +kernel
theorem zd_De_readChosenBytes_52 : decode zb_De_readChosenBytes 52 = .ok (.istore 4, 2) := by decide +kernel
theorem zd_De_readChosenBytes_54 : decode zb_De_readChosenBytes 54 = .ok (.aload_n 0, 1) := by decide +kernel
theorem zd_De_readChosenBytes_55 : decode zb_De_readChosenBytes 55 = .ok (.dup, 1) := by decide +kernel
theorem zd_De_readChosenBytes_56 : decode zb_De_readChosenBytes 56 = .ok (.getfield 9, 3) := by decide +kernel
theorem zd_De_readChosenBytes_59 : decode zb_De_readChosenBytes 59 = .ok (.iconst 1, 1) := by decide +kernel
theorem zd_De_readChosenBytes_60 : decode zb_De_readChosenBytes 60 = .ok (.iadd, 1) := by decide +kernel
theorem zd_De_readChosenBytes_61 : decode zb_De_readChosenBytes 61 = .ok (.putfield 9, 3) := by decide +kernel
theorem zd_De_readChosenBytes_64 : decode zb_De_readChosenBytes 64 = .ok (.iinc 5 1, 3) := by decide +kernel
theorem zd_De_readChosenBytes_67 : decode zb_De_readChosenBytes 67 = .ok (.goto (-61), 3) := by decide +kernel
theorem zd_De_readChosenBytes_70 : decode zb_De_readChosenBytes 70 = .ok (.iload 4, 2) := by decide +kernel
theorem zd_De_readChosenBytes_72 : decode zb_De_readChosenBytes 72 = .ok (.ireturn, 1) := by decide +kernel
theorem zd_De_isNewRead_0 : decode zb_De_isNewRead 0 = .ok (.iload_n 2, 1) := by decide +kernel
theorem zd_De_isNewRead_1 : decode zb_De_isNewRead 1 = .ok (.ifCond .eq 27, 3) := by decide +kernel
theorem zd_De_isNewRead_4 : decode zb_De_isNewRead 4 = .ok (.iload_n 2, 1) := by decide +kernel
theorem zd_De_isNewRead_5 : decode zb_De_isNewRead 5 = .ok (.aload_n 1, 1) := by decide +kernel
theorem zd_De_isNewRead_6 : decode zb_De_isNewRead 6 = .ok (.invokevirtual 25, 3) := by decide +kernel
theorem zd_De_isNewRead_9 : decode zb_De_isNewRead 9 = .ok (.aload_n 0, 1) := by decide +kernel
theorem zd_De_isNewRead_10 : decode zb_De_isNewRead 10 = .ok (.getfield 9, 3) := by decide +kernel
theorem zd_De_isNewRead_13 : decode zb_De_isNewRead 13 = .ok (.isub, 1) := by decide +kernel
theorem zd_De_isNewRead_14 : decode zb_De_isNewRead 14 = .ok (.if_icmp .gt 14, 3) := by decide +kernel
theorem zd_De_isNewRead_17 : decode zb_De_isNewRead 17 = .ok (.iload_n 2, 1) := by decide +kernel
theorem zd_De_isNewRead_18 : decode zb_De_isNewRead 18 = .ok (.iload 4, 2) := by decide +kernel
theorem zd_De_isNewRead_20 : decode zb_De_isNewRead 20 = .ok (.aload_n 3, 1) := by decide +kernel
theorem zd_De_isNewRead_21 : decode zb_De_isNewRead 21 = .ok (.invokevirtual 25, 3) := by decide +kernel
theorem zd_De_isNewRead_24 : decode zb_De_isNewRead 24 = .ok (.isub, 1) := by decide +kernel
theorem zd_De_isNewRead_25 : decode zb_De_isNewRead 25 = .ok (.if_icmp .le 5, 3) := by decide +kernel
theorem zd_De_isNewRead_28 : decode zb_De_isNewRead 28 = .ok (.iconst 0, 1) := by decide +kernel
theorem zd_De_isNewRead_29 : decode zb_De_isNewRead 29 = .ok (.ireturn, 1) := by decide +kernel
theorem zd_De_isNewRead_30 : decode zb_De_isNewRead 30 = .ok (.aload_n 3, 1) := by decide +kernel
theorem zd_De_isNewRead_31 : decode zb_De_isNewRead 31 = .ok (.aload_n 1, 1) := by decide +kernel
theorem zd_De_isNewRead_32 : decode zb_De_isNewRead 32 = .ok (.aload_n 0, 1) := by decide +kernel
theorem zd_De_isNewRead_33 : decode zb_De_isNewRead 33 = .ok (.getfield 9, 3) := by decide +kernel
theorem zd_De_isNewRead_36 : decode zb_De_isNewRead 36 = .ok (.iload_n 2, 1) := by decide +kernel
theorem zd_De_isNewRead_37 : decode zb_De_isNewRead 37 = .ok (.invokevirtual 46, 3) := by decide +kernel
theorem zd_De_isNewRead_40 : decode zb_De_isNewRead 40 = .ok (.aload_n 0, 1) := by decide +kernel
theorem zd_De_isNewRead_41 : decode zb_De_isNewRead 41 = .ok (.dup, 1) := by decide +kernel
theorem zd_De_isNewRead_42 : decode zb_De_isNewRead 42 = .ok (.getfield 9, 3) := by decide +kernel
theorem zd_De_isNewRead_45 : decode zb_De_isNewRead 45 = .ok (.iload_n 2, 1) := by decide +kernel
theorem zd_De_isNewRead_46 : decode zb_De_isNewRead 46 = .ok (.iadd, 1) := by decide +kernel
theorem zd_De_isNewRead_47 : decode zb_De_isNewRead 47 = .ok (.putfield 9, 3) := by decide +kernel
theorem zd_De_isNewRead_50 : decode zb_De_isNewRead 50 = .ok (.iconst 1, 1) := by decide +kernel
theorem zd_De_isNewRead_51 : decode zb_De_isNewRead 51 = .ok (.ireturn, 1) := by decide +kernel
theorem zd_La_turn_0 : decode zb_La_turn 0 = .ok (.aload_n 1, 1) := by decide +kernel
theorem zd_La_turn_1 : decode zb_La_turn 1 = .ok (.iconst 0, 1) := by decide +kernel
theorem zd_La_turn_2 : decode zb_La_turn 2 = .ok (.aload_n 0, 1) := by decide +kernel
theorem zd_La_turn_3 : decode zb_La_turn 3 = .ok (.invokevirtual 31, 3) := by decide +kernel
theorem zd_La_turn_6 : decode zb_La_turn 6 = .ok (.i2l, 1) := by decide +kernel
theorem zd_La_turn_7 : decode zb_La_turn 7 = .ok (.lastore, 1) := by decide +kernel
theorem zd_La_turn_8 : decode zb_La_turn 8 = .ok (.goto 6, 3) := by decide +kernel
theorem zd_La_turn_11 : decode zb_La_turn 11 = .ok (.astore_n 2, 1) := by decide +kernel
theorem zd_La_turn_12 : decode zb_La_turn 12 = .ok (.iconst 1, 1) := by decide +kernel
theorem zd_La_turn_13 : decode zb_La_turn 13 = .ok (.ireturn, 1) := by decide +kernel
theorem zd_La_turn_14 : decode zb_La_turn 14 = .ok (.iconst 0, 1) := by decide +kernel
theorem zd_La_turn_15 : decode zb_La_turn 15 = .ok (.ireturn, 1) := by decide +kernel
