theorem zd_Pr_init_0 : decode zb_Pr_init 0 = .ok (.aload_n 0, 1) := by decide +kernel
theorem zd_Pr_init_1 : decode zb_Pr_init 1 = .ok (.invokespecial 3, 3) := by decide +kernel
theorem zd_Pr_init_4 : decode zb_Pr_init 4 = .ok (.aload_n 0, 1) := by decide +kernel
theorem zd_Pr_init_5 : decode zb_Pr_init 5 = .ok (.new 9, 3) := by decide +kernel
theorem zd_Pr_init_8 : decode zb_Pr_init 8 = .ok (.dup, 1) := by decide +kernel
theorem zd_Pr_init_9 : decode zb_Pr_init 9 = .ok (.ldc 11, 2) := by decide +kernel
theorem zd_Pr_init_11 : decode zb_Pr_init 11 = .ok (.invokespecial 12, 3) := by decide +kernel
theorem zd_Pr_init_14 : decode zb_Pr_init 14 = .ok (.putfield 15, 3) := by decide +kernel
theorem zd_Pr_init_17 : decode zb_Pr_init 17 = .ok (.aload_n 0, 1) := by decide +kernel
theorem zd_Pr_init_18 : decode zb_Pr_init 18 = .ok (.new 9, 3) := by decide +kernel
theorem zd_Pr_init_21 : decode zb_Pr_init 21 = .ok (.dup, 1) := by decide +kernel
theorem zd_Pr_init_22 : decode zb_Pr_init 22 = .ok (.ldc 11, 2) := by decide +kernel
theorem zd_Pr_init_24 : decode zb_Pr_init 24 = .ok (.invokespecial 12, 3) := by decide +kernel
theorem zd_Pr_init_27 : decode zb_Pr_init 27 = .ok (.putfield 19, 3) := by decide +kernel
theorem zd_Pr_init_30 : decode zb_Pr_init 30 = .ok (.aload_n 0, 1) := by decide +kernel
theorem zd_Pr_init_31 : decode zb_Pr_init 31 = .ok (.new 9, 3) := by decide +kernel
theorem zd_Pr_init_34 : decode zb_Pr_init 34 = .ok (.dup, 1) := by decide +kernel
theorem zd_Pr_init_35 : decode zb_Pr_init 35 = .ok (.ldc 22, 2) := by decide +kernel
theorem zd_Pr_init_37 : decode zb_Pr_init 37 = .ok (.invokespecial 12, 3) := by decide +kernel
theorem zd_Pr_init_40 : decode zb_Pr_init 40 = .ok (.putfield 23, 3) := by decide +kernel
theorem zd_Pr_init_43 : decode zb_Pr_init 43 = .ok (.aload_n 0, 1) := by decide +kernel
theorem zd_Pr_init_44 : decode zb_Pr_init 44 = .ok (.new 9, 3) := by decide +kernel
theorem zd_Pr_init_47 : decode zb_Pr_init 47 = .ok (.dup, 1) := by decide +kernel
theorem zd_Pr_init_48 : decode zb_Pr_init 48 = .ok (.ldc 22, 2) := by decide +kernel
theorem zd_Pr_init_50 : decode zb_Pr_init 50 = .ok (.invokespecial 12, 3) := by decide +kernel
theorem zd_Pr_init_53 : decode zb_Pr_init 53 = .ok (.putfield 26, 3) := by decide +kernel
theorem zd_Pr_init_56 : decode zb_Pr_init 56 = .ok (.aload_n 0, 1) := by decide +kernel
theorem zd_Pr_init_57 : decode zb_Pr_init 57 = .ok (.new 29, 3) := by decide +kernel
theorem zd_Pr_init_60 : decode zb_Pr_init 60 = .ok (.dup, 1) := by decide +kernel
theorem zd_Pr_init_61 : decode zb_Pr_init 61 = .ok (.invokespecial 31, 3) := by decide +kernel
theorem zd_Pr_init_64 : decode zb_Pr_init 64 = .ok (.putfield 32, 3) := by decide +kernel
theorem zd_Pr_init_67 : decode zb_Pr_init 67 = .ok (.aload_n 0, 1) := by decide +kernel
theorem zd_Pr_init_68 : decode zb_Pr_init 68 = .ok (.iconst 0, 1) := by decide +kernel
theorem zd_Pr_init_69 : decode zb_Pr_init 69 = .ok (.putfield 36, 3) := by decide +kernel
theorem zd_Pr_init_72 : decode zb_Pr_init 72 = .ok (.aload_n 0, 1) := by decide +kernel
theorem zd_Pr_init_73 : decode zb_Pr_init 73 = .ok (.new 40, 3) := by decide +kernel
theorem zd_Pr_init_76 : decode zb_Pr_init 76 = .ok (.dup, 1) := by decide +kernel
theorem zd_Pr_init_77 : decode zb_Pr_init 77 = .ok (.invokespecial 42, 3) := by decide +kernel
theorem zd_Pr_init_80 : decode zb_Pr_init 80 = .ok (.putfield 43, 3) := by decide +kernel
theorem zd_Pr_init_83 : decode zb_Pr_init 83 = .ok (.aload_n 0, 1) := by decide +kernel
theorem zd_Pr_init_84 : decode zb_Pr_init 84 = .ok (.iconst 0, 1) := by decide +kernel
theorem zd_Pr_init_85 : decode zb_Pr_init 85 = .ok (.putfield 47, 3) := by decide +kernel
theorem zd_Pr_init_88 : decode zb_Pr_init 88 = .ok (.aload_n 0, 1) := by decide +kernel
theorem zd_Pr_init_89 : decode zb_Pr_init 89 = .ok (.iconst 0, 1) := by decide +kernel
theorem zd_Pr_init_90 : decode zb_Pr_init 90 = .ok (.putfield 51, 3) := by decide +kernel
theorem zd_Pr_init_93 : decode zb_Pr_init 93 = .ok (.aload_n 0, 1) := by decide +kernel
theorem zd_Pr_init_94 : decode zb_Pr_init 94 = .ok (.iconst 0, 1) := by decide +kernel
theorem zd_Pr_init_95 : decode zb_Pr_init 95 = .ok (.putfield 54, 3) := by decide +kernel
theorem zd_Pr_init_98 : decode zb_Pr_init 98 = .ok (.return_, 1) := by decide +kernel
theorem zd_Tx_init_0 : decode zb_Tx_init 0 = .ok (.aload_n 0, 1) := by decide +kernel
theorem zd_Tx_init_1 : decode zb_Tx_init 1 = .ok (.invokespecial 1, 3) := by decide +kernel
theorem zd_Tx_init_4 : decode zb_Tx_init 4 = .ok (.aload_n 0, 1) := by decide +kernel
theorem zd_Tx_init_5 : decode zb_Tx_init 5 = .ok (.iconst 0, 1) := by decide +kernel
theorem zd_Tx_init_6 : decode zb_Tx_init 6 = .ok (.putfield 7, 3) := by decide +kernel
theorem zd_Tx_init_9 : decode zb_Tx_init 9 = .ok (.aload_n 0, 1) := by decide +kernel
theorem zd_Tx_init_10 : decode zb_Tx_init 10 = .ok (.iload_n 1, 1) := by decide +kernel
theorem zd_Tx_init_11 : decode zb_Tx_init 11 = .ok (.newarray .byte, 2) := by decide +kernel
theorem zd_Tx_init_13 : decode zb_Tx_init 13 = .ok (.putfield 13, 3) := by decide +kernel
theorem zd_Tx_init_16 : decode zb_Tx_init 16 = .ok (.return_, 1) := by decide +kernel
theorem zd_Su_init_0 : decode zb_Su_init 0 = .ok (.aload_n 0, 1) := by decide +kernel
theorem zd_Su_init_1 : decode zb_Su_init 1 = .ok (.invokespecial 3, 3) := by decide +kernel
theorem zd_Su_init_4 : decode zb_Su_init 4 = .ok (.aload_n 0, 1) := by decide +kernel
theorem zd_Su_init_5 : decode zb_Su_init 5 = .ok (.iconst 0, 1) := by decide +kernel
theorem zd_Su_init_6 : decode zb_Su_init 6 = .ok (.newarray .byte, 2) := by decide +kernel
theorem zd_Su_init_8 : decode zb_Su_init 8 = .ok (.putfield 9, 3) := by decide +kernel
theorem zd_Su_init_11 : decode zb_Su_init 11 = .ok (.aload_n 0, 1) := by decide +kernel
theorem zd_Su_init_12 : decode zb_Su_init 12 = .ok (.iconst 0, 1) := by decide +kernel
theorem zd_Su_init_13 : decode zb_Su_init 13 = .ok (.putfield 15, 3) := by decide +kernel
theorem zd_Su_init_16 : decode zb_Su_init 16 = .ok (.aload_n 0, 1) := by decide +kernel
theorem zd_Su_init_17 : decode zb_Su_init 17 = .ok (.ldc 19, 2) := by decide +kernel
theorem zd_Su_init_19 : decode zb_Su_init 19 = .ok (.newarray .int, 2) := by decide +kernel
theorem zd_Su_init_21 : decode zb_Su_init 21 = .ok (.putfield 20, 3) := by decide +kernel
theorem zd_Su_init_24 : decode zb_Su_init 24 = .ok (.aload_n 0, 1) := by decide +kernel
theorem zd_Su_init_25 : decode zb_Su_init 25 = .ok (.ldc 19, 2) := by decide +kernel
theorem zd_Su_init_27 : decode zb_Su_init 27 = .ok (.newarray .int, 2) := by decide +kernel
theorem zd_Su_init_29 : decode zb_Su_init 29 = .ok (.putfield 24, 3) := by decide +kernel
theorem zd_Su_init_32 : decode zb_Su_init 32 = .ok (.aload_n 0, 1) := by decide +kernel
theorem zd_Su_init_33 : decode zb_Su_init 33 = .ok (.ldc 19, 2) := by decide +kernel
theorem zd_Su_init_35 : decode zb_Su_init 35 = .ok (.newarray .int, 2) := by decide +kernel
theorem zd_Su_init_37 : decode zb_Su_init 37 = .ok (.putfield 27, 3) := by decide +kernel
theorem zd_Su_init_40 : decode zb_Su_init 40 = .ok (.aload_n 0, 1) := by decide +kernel
theorem zd_Su_init_41 : decode zb_Su_init 41 = .ok (.ldc 19, 2) := by decide +kernel
theorem zd_Su_init_43 : decode zb_Su_init 43 = .ok (.newarray .int, 2) := by decide +kernel
theorem zd_Su_init_45 : decode zb_Su_init 45 = .ok (.putfield 30, 3) := by decide +kernel
theorem zd_Su_init_48 : decode zb_Su_init 48 = .ok (.aload_n 0, 1) := by decide +kernel
theorem zd_Su_init_49 : decode zb_Su_init 49 = .ok (.iconst 1, 1) := by decide +kernel
theorem zd_Su_init_50 : decode zb_Su_init 50 = .ok (.putfield 33, 3) := by decide +kernel
theorem zd_Su_init_53 : decode zb_Su_init 53 = .ok (.aload_n 0, 1) := by decide +kernel
theorem zd_Su_init_54 : decode zb_Su_init 54 = .ok (.ldc 36, 2) := by decide +kernel
theorem zd_Su_init_56 : decode zb_Su_init 56 = .ok (.newarray .int, 2) := by decide +kernel
theorem zd_Su_init_58 : decode zb_Su_init 58 = .ok (.putfield 37, 3) := by decide +kernel
theorem zd_Su_init_61 : decode zb_Su_init 61 = .ok (.aload_n 0, 1) := by decide +kernel
theorem zd_Su_init_62 : decode zb_Su_init 62 = .ok (.iconst 0, 1) := by decide +kernel
theorem zd_Su_init_63 : decode zb_Su_init 63 = .ok (.putfield 40, 3) := by decide +kernel
theorem zd_Su_init_66 : decode zb_Su_init 66 = .ok (.aload_n 0, 1) := by decide +kernel
theorem zd_Su_init_67 : decode zb_Su_init 67 = .ok (.iconst 0, 1) := by decide +kernel
theorem zd_Su_init_68 : decode zb_Su_init 68 = .ok (.putfield 43, 3) := by decide +kernel
theorem zd_Su_init_71 : decode zb_Su_init 71 = .ok (.aload_n 0, 1) := by decide +kernel
theorem zd_Su_init_72 : decode zb_Su_init 72 = .ok (.iconst 0, 1) := by decide +kernel
theorem zd_Su_init_73 : decode zb_Su_init 73 = .ok (.putfield 46, 3) := by decide +kernel
theorem zd_Su_init_76 : decode zb_Su_init 76 = .ok (.aload_n 0, 1) := by decide +kernel
theorem zd_Su_init_77 : decode zb_Su_init 77 = .ok (.iconst 0, 1) := by decide +kernel
theorem zd_Su_init_78 : decode zb_Su_init 78 = .ok (.putfield 49, 3) := by decide +kernel
theorem zd_Su_init_81 : decode zb_Su_init 81 = .ok (.aload_n 0, 1) := by decide +kernel
theorem zd_Su_init_82 : decode zb_Su_init 82 = .ok (.iconst 0, 1) := by decide +kernel
theorem zd_Su_init_83 : decode zb_Su_init 83 = .ok (.putfield 52, 3) := by decide +kernel
theorem zd_Su_init_86 : decode zb_Su_init 86 = .ok (.aload_n 0, 1) := by decide +kernel
theorem zd_Su_init_87 : decode zb_Su_init 87 = .ok (.iconst 0, 1) := by decide +kernel
theorem zd_Su_init_88 : decode zb_Su_init 88 = .ok (.putfield 55, 3) := by decide +kernel
theorem zd_Su_init_91 : decode zb_Su_init 91 = .ok (.aload_n 0, 1) := by decide +kernel
theorem zd_Su_init_92 : decode zb_Su_init 92 = .ok (.iconst (-1), 1) := by decide +kernel
theorem zd_Su_init_93 : decode zb_Su_init 93 = .ok (.putfield 58, 3) := by decide +kernel
theorem zd_Su_init_96 : decode zb_Su_init 96 = .ok (.return_, 1) := by decide +kernel
theorem zd_De_init_0 : decode zb_De_init 0 = .ok (.aload_n 0, 1) := by decide +kernel
theorem zd_De_init_1 : decode zb_De_init 1 = .ok (.invokespecial 3, 3) := by decide +kernel
theorem zd_De_init_4 : decode zb_De_init 4 = .ok (.aload_n 0, 1) := by decide +kernel
theorem zd_De_init_5 : decode zb_De_init 5 = .ok (.iconst 0, 1) := by decide +kernel
theorem zd_De_init_6 : decode zb_De_init 6 = .ok (.putfield 9, 3) := by decide +kernel
theorem zd_De_init_9 : decode zb_De_init 9 = .ok (.return_, 1) := by decide +kernel
theorem zd_Pr_base_0 : decode zb_Pr_base 0 = .ok (.aload_n 0, 1) := by decide +kernel
theorem zd_Pr_base_1 : decode zb_Pr_base 1 = .ok (.getfield 19, 3) := by decide +kernel
theorem zd_Pr_base_4 : decode zb_Pr_base 4 = .ok (.astore_n 1, 1) := by decide +kernel
theorem zd_Pr_base_5 : decode zb_Pr_base 5 = .ok (.aload_n 0, 1) := by decide +kernel
theorem zd_Pr_base_6 : decode zb_Pr_base 6 = .ok (.aload_n 0, 1) := by decide +kernel
theorem zd_Pr_base_7 : decode zb_Pr_base 7 = .ok (.getfield 15, 3) := by decide +kernel
theorem zd_Pr_base_10 : decode zb_Pr_base 10 = .ok (.putfield 19, 3) := by decide +kernel
theorem zd_Pr_base_13 : decode zb_Pr_base 13 = .ok (.aload_n 0, 1) := by decide +kernel
theorem zd_Pr_base_14 : decode zb_Pr_base 14 = .ok (.aload_n 1, 1) := by decide +kernel
theorem zd_Pr_base_15 : decode zb_Pr_base 15 = .ok (.putfield 15, 3) := by decide +kernel
theorem zd_Pr_base_18 : decode zb_Pr_base 18 = .ok (.aload_n 0, 1) := by decide +kernel
theorem zd_Pr_base_19 : decode zb_Pr_base 19 = .ok (.getfield 15, 3) := by decide +kernel
theorem zd_Pr_base_22 : decode zb_Pr_base 22 = .ok (.iconst 0, 1) := by decide +kernel
theorem zd_Pr_base_23 : decode zb_Pr_base 23 = .ok (.invokevirtual 77, 3) := by decide +kernel
theorem zd_Pr_base_26 : decode zb_Pr_base 26 = .ok (.aload_n 0, 1) := by decide +kernel
theorem zd_Pr_base_27 : decode zb_Pr_base 27 = .ok (.iconst 0, 1) := by decide +kernel
theorem zd_Pr_base_28 : decode zb_Pr_base 28 = .ok (.putfield 36, 3) := by decide +kernel
theorem zd_Pr_base_31 : decode zb_Pr_base 31 = .ok (.aload_n 0, 1) := by decide +kernel
theorem zd_Pr_base_32 : decode zb_Pr_base 32 = .ok (.getfield 19, 3) := by decide +kernel
theorem zd_Pr_base_35 : decode zb_Pr_base 35 = .ok (.invokevirtual 57, 3) := by decide +kernel
theorem zd_Pr_base_38 : decode zb_Pr_base 38 = .ok (.ireturn, 1) := by decide +kernel
theorem zd_Tx_cut_0 : decode zb_Tx_cut 0 = .ok (.aload_n 0, 1) := by decide +kernel
theorem zd_Tx_cut_1 : decode zb_Tx_cut 1 = .ok (.iload_n 1, 1) := by decide +kernel
theorem zd_Tx_cut_2 : decode zb_Tx_cut 2 = .ok (.putfield 7, 3) := by decide +kernel
theorem zd_Tx_cut_5 : decode zb_Tx_cut 5 = .ok (.return_, 1) := by decide +kernel
theorem zd_Tx_size_0 : decode zb_Tx_size 0 = .ok (.aload_n 0, 1) := by decide +kernel
theorem zd_Tx_size_1 : decode zb_Tx_size 1 = .ok (.getfield 7, 3) := by decide +kernel
theorem zd_Tx_size_4 : decode zb_Tx_size 4 = .ok (.ireturn, 1) := by decide +kernel
theorem zd_Pr_make_0 : decode zb_Pr_make 0 = .ok (.aload_n 0, 1) := by decide +kernel
theorem zd_Pr_make_1 : decode zb_Pr_make 1 = .ok (.getfield 23, 3) := by decide +kernel
theorem zd_Pr_make_4 : decode zb_Pr_make 4 = .ok (.iconst 0, 1) := by decide +kernel
theorem zd_Pr_make_5 : decode zb_Pr_make 5 = .ok (.invokevirtual 77, 3) := by decide +kernel
theorem zd_Pr_make_8 : decode zb_Pr_make 8 = .ok (.aload_n 0, 1) := by decide +kernel
theorem zd_Pr_make_9 : decode zb_Pr_make 9 = .ok (.getfield 23, 3) := by decide +kernel
theorem zd_Pr_make_12 : decode zb_Pr_make 12 = .ok (.aload_n 0, 1) := by decide +kernel
theorem zd_Pr_make_13 : decode zb_Pr_make 13 = .ok (.getfield 19, 3) := by decide +kernel
theorem zd_Pr_make_16 : decode zb_Pr_make 16 = .ok (.invokevirtual 57, 3) := by decide +kernel
theorem zd_Pr_make_19 : decode zb_Pr_make 19 = .ok (.invokevirtual 92, 3) := by decide +kernel
theorem zd_Pr_make_22 : decode zb_Pr_make 22 = .ok (.aload_n 0, 1) := by decide +kernel
theorem zd_Pr_make_23 : decode zb_Pr_make 23 = .ok (.getfield 23, 3) := by decide +kernel
theorem zd_Pr_make_26 : decode zb_Pr_make 26 = .ok (.aload_n 0, 1) := by decide +kernel
theorem zd_Pr_make_27 : decode zb_Pr_make 27 = .ok (.getfield 15, 3) := by decide +kernel
theorem zd_Pr_make_30 : decode zb_Pr_make 30 = .ok (.invokevirtual 57, 3) := by decide +kernel
theorem zd_Pr_make_33 : decode zb_Pr_make 33 = .ok (.invokevirtual 92, 3) := by decide +kernel
theorem zd_Pr_make_36 : decode zb_Pr_make 36 = .ok (.aload_n 0, 1) := by decide +kernel
theorem zd_Pr_make_37 : decode zb_Pr_make 37 = .ok (.iconst 0, 1) := by decide +kernel
theorem zd_Pr_make_38 : decode zb_Pr_make 38 = .ok (.putfield 47, 3) := by decide +kernel
theorem zd_Pr_make_41 : decode zb_Pr_make 41 = .ok (.aload_n 0, 1) := by decide +kernel
theorem zd_Pr_make_42 : decode zb_Pr_make 42 = .ok (.iconst 0, 1) := by decide +kernel
theorem zd_Pr_make_43 : decode zb_Pr_make 43 = .ok (.putfield 51, 3) := by decide +kernel
theorem zd_Pr_make_46 : decode zb_Pr_make 46 = .ok (.iconst 0, 1) := by decide +kernel
theorem zd_Pr_make_47 : decode zb_Pr_make 47 = .ok (.istore_n 1, 1) := by decide +kernel
theorem zd_Pr_make_48 : decode zb_Pr_make 48 = .ok (.iconst 0, 1) := by decide +kernel
theorem zd_Pr_make_49 : decode zb_Pr_make 49 = .ok (.istore_n 2, 1) := by decide +kernel
theorem zd_Pr_make_50 : decode zb_Pr_make 50 = .ok (.iload_n 2, 1) := by decide +kernel
theorem zd_Pr_make_51 : decode zb_Pr_make 51 = .ok (.aload_n 0, 1) := by decide +kernel
theorem zd_Pr_make_52 : decode zb_Pr_make 52 = .ok (.getfield 15, 3) := by decide +kernel
theorem zd_Pr_make_55 : decode zb_Pr_make 55 = .ok (.invokevirtual 57, 3) := by decide +kernel
theorem zd_Pr_make_58 : decode zb_Pr_make 58 = .ok (.if_icmp .ge 55, 3) := by decide +kernel
theorem zd_Pr_make_61 : decode zb_Pr_make 61 = .ok (.aload_n 0, 1) := by decide +kernel
theorem zd_Pr_make_62 : decode zb_Pr_make 62 = .ok (.iload_n 2, 1) := by decide +kernel
theorem zd_Pr_make_63 : decode zb_Pr_make 63 = .ok (.invokevirtual 95, 3) := by decide +kernel
theorem zd_Pr_make_66 : decode zb_Pr_make 66 = .ok (.aload_n 0, 1) := by decide +kernel
theorem zd_Pr_make_67 : decode zb_Pr_make 67 = .ok (.getfield 32, 3) := by decide +kernel
theorem zd_Pr_make_70 : decode zb_Pr_make 70 = .ok (.invokevirtual 98, 3) := by decide +kernel
theorem zd_Pr_make_73 : decode zb_Pr_make 73 = .ok (.istore_n 3, 1) := by decide +kernel
theorem zd_Pr_make_74 : decode zb_Pr_make 74 = .ok (.iload_n 3, 1) := by decide +kernel
theorem zd_Pr_make_75 : decode zb_Pr_make 75 = .ok (.bipush 8, 2) := by decide +kernel
theorem zd_Pr_make_77 : decode zb_Pr_make 77 = .ok (.if_icmp .lt 30, 3) := by decide +kernel
theorem zd_Pr_make_80 : decode zb_Pr_make 80 = .ok (.aload_n 0, 1) := by decide +kernel
theorem zd_Pr_make_81 : decode zb_Pr_make 81 = .ok (.iload_n 1, 1) := by decide +kernel
theorem zd_Pr_make_82 : decode zb_Pr_make 82 = .ok (.iload_n 2, 1) := by decide +kernel
theorem zd_Pr_make_83 : decode zb_Pr_make 83 = .ok (.invokevirtual 101, 3) := by decide +kernel
theorem zd_Pr_make_86 : decode zb_Pr_make 86 = .ok (.aload_n 0, 1) := by decide +kernel
theorem zd_Pr_make_87 : decode zb_Pr_make 87 = .ok (.aload_n 0, 1) := by decide +kernel
theorem zd_Pr_make_88 : decode zb_Pr_make 88 = .ok (.getfield 32, 3) := by decide +kernel
theorem zd_Pr_make_91 : decode zb_Pr_make 91 = .ok (.invokevirtual 104, 3) := by decide +kernel
theorem zd_Pr_make_94 : decode zb_Pr_make 94 = .ok (.iload_n 3, 1) := by decide +kernel
theorem zd_Pr_make_95 : decode zb_Pr_make 95 = .ok (.invokevirtual 107, 3) := by decide +kernel
theorem zd_Pr_make_98 : decode zb_Pr_make 98 = .ok (.iload_n 2, 1) := by decide +kernel
theorem zd_Pr_make_99 : decode zb_Pr_make 99 = .ok (.iload_n 3, 1) := by decide +kernel
theorem zd_Pr_make_100 : decode zb_Pr_make 100 = .ok (.iadd, 1) := by decide +kernel
theorem zd_Pr_make_101 : decode zb_Pr_make 101 = .ok (.istore_n 2, 1) := by decide +kernel
theorem zd_Pr_make_102 : decode zb_Pr_make 102 = .ok (.iload_n 2, 1) := by decide +kernel
theorem zd_Pr_make_103 : decode zb_Pr_make 103 = .ok (.istore_n 1, 1) := by decide +kernel
theorem zd_Pr_make_104 : decode zb_Pr_make 104 = .ok (.goto 6, 3) := by decide +kernel
theorem zd_Pr_make_107 : decode zb_Pr_make 107 = .ok (.iinc 2 1, 3) := by decide +kernel
theorem zd_Pr_make_110 : decode zb_Pr_make 110 = .ok (.goto (-60), 3) := by decide +kernel
theorem zd_Pr_make_113 : decode zb_Pr_make 113 = .ok (.aload_n 0, 1) := by decide +kernel
theorem zd_Pr_make_114 : decode zb_Pr_make 114 = .ok (.iload_n 1, 1) := by decide +kernel
theorem zd_Pr_make_115 : decode zb_Pr_make 115 = .ok (.aload_n 0, 1) := by decide +kernel
theorem zd_Pr_make_116 : decode zb_Pr_make 116 = .ok (.getfield 15, 3) := by decide +kernel
theorem zd_Pr_make_119 : decode zb_Pr_make 119 = .ok (.invokevirtual 57, 3) := by decide +kernel
theorem zd_Pr_make_122 : decode zb_Pr_make 122 = .ok (.invokevirtual 101, 3) := by decide +kernel
theorem zd_Pr_make_125 : decode zb_Pr_make 125 = .ok (.aload_n 0, 1) := by decide +kernel
theorem zd_Pr_make_126 : decode zb_Pr_make 126 = .ok (.getfield 23, 3) := by decide +kernel
theorem zd_Pr_make_129 : decode zb_Pr_make 129 = .ok (.invokevirtual 57, 3) := by decide +kernel
theorem zd_Pr_make_132 : decode zb_Pr_make 132 = .ok (.ireturn, 1) := by decide +kernel
theorem zd_Tx_addNumber_0 : decode zb_Tx_addNumber 0 = .ok (.iload_n 1, 1) := by decide +kernel
theorem zd_Tx_addNumber_1 : decode zb_Tx_addNumber 1 = .ok (.istore_n 2, 1) := by decide +kernel
theorem zd_Tx_addNumber_2 : decode zb_Tx_addNumber 2 = .ok (.iconst 0, 1) := by decide +kernel
theorem zd_Tx_addNumber_3 : decode zb_Tx_addNumber 3 = .ok (.istore_n 3, 1) := by decide +kernel
theorem zd_Tx_addNumber_4 : decode zb_Tx_addNumber 4 = .ok (.iload_n 3, 1) := by decide +kernel
theorem zd_Tx_addNumber_5 : decode zb_Tx_addNumber 5 = .ok (.iconst 4, 1) := by decide +kernel
theorem zd_Tx_addNumber_6 : decode zb_Tx_addNumber 6 = .ok (.if_icmp .ge 32, 3) := by decide +kernel
theorem zd_Tx_addNumber_9 : decode zb_Tx_addNumber 9 = .ok (.iload_n 2, 1) := by decide +kernel
theorem zd_Tx_addNumber_10 : decode zb_Tx_addNumber 10 = .ok (.bipush 127, 2) := by decide +kernel
theorem zd_Tx_addNumber_12 : decode zb_Tx_addNumber 12 = .ok (.if_icmp .le 26, 3) := by decide +kernel
theorem zd_Tx_addNumber_15 : decode zb_Tx_addNumber 15 = .ok (.aload_n 0, 1) := by decide +kernel
theorem zd_Tx_addNumber_16 : decode zb_Tx_addNumber 16 = .ok (.iload_n 2, 1) := by decide +kernel
theorem zd_Tx_addNumber_17 : decode zb_Tx_addNumber 17 = .ok (.bipush 127, 2) := by decide +kernel
theorem zd_Tx_addNumber_19 : decode zb_Tx_addNumber 19 = .ok (.iand, 1) := by decide +kernel
theorem zd_Tx_addNumber_20 : decode zb_Tx_addNumber 20 = .ok (.sipush 128, 3) := by decide +kernel
theorem zd_Tx_addNumber_23 : decode zb_Tx_addNumber 23 = .ok (.ior, 1) := by decide +kernel
theorem zd_Tx_addNumber_24 : decode zb_Tx_addNumber 24 = .ok (.invokevirtual 17, 3) := by decide +kernel
theorem zd_Tx_addNumber_27 : decode zb_Tx_addNumber 27 = .ok (.iload_n 2, 1) := by decide +kernel
theorem zd_Tx_addNumber_28 : decode zb_Tx_addNumber 28 = .ok (.bipush 7, 2) := by decide +kernel
theorem zd_Tx_addNumber_30 : decode zb_Tx_addNumber 30 = .ok (.iushr, 1) := by decide +kernel
theorem zd_Tx_addNumber_31 : decode zb_Tx_addNumber 31 = .ok (.istore_n 2, 1) := by decide +kernel
theorem zd_Tx_addNumber_32 : decode zb_Tx_addNumber 32 = .ok (.iinc 3 1, 3) := by decide +kernel
theorem zd_Tx_addNumber_35 : decode zb_Tx_addNumber 35 = .ok (.goto (-31), 3) := by decide +kernel
theorem zd_Tx_addNumber_38 : decode zb_Tx_addNumber 38 = .ok (.aload_n 0, 1) := by decide +kernel
theorem zd_Tx_addNumber_39 : decode zb_Tx_addNumber 39 = .ok (.iload_n 2, 1) := by decide +kernel
theorem zd_Tx_addNumber_40 : decode zb_Tx_addNumber 40 = .ok (.invokevirtual 17, 3) := by decide +kernel
theorem zd_Tx_addNumber_43 : decode zb_Tx_addNumber 43 = .ok (.return_, 1) := by decide +kernel
theorem zd_Tx_add_0 : decode zb_Tx_add 0 = .ok (.aload_n 0, 1) := by decide +kernel
theorem zd_Tx_add_1 : decode zb_Tx_add 1 = .ok (.getfield 13, 3) := by decide +kernel
theorem zd_Tx_add_4 : decode zb_Tx_add 4 = .ok (.aload_n 0, 1) := by decide +kernel
theorem zd_Tx_add_5 : decode zb_Tx_add 5 = .ok (.getfield 7, 3) := by decide +kernel
theorem zd_Tx_add_8 : decode zb_Tx_add 8 = .ok (.iload_n 1, 1) := by decide +kernel
theorem zd_Tx_add_9 : decode zb_Tx_add 9 = .ok (.i2b, 1) := by decide +kernel
theorem zd_Tx_add_10 : decode zb_Tx_add 10 = .ok (.bastore, 1) := by decide +kernel
theorem zd_Tx_add_11 : decode zb_Tx_add 11 = .ok (.aload_n 0, 1) := by decide +kernel
theorem zd_Tx_add_12 : decode zb_Tx_add 12 = .ok (.dup, 1) := by decide +kernel
theorem zd_Tx_add_13 : decode zb_Tx_add 13 = .ok (.getfield 7, 3) := by decide +kernel
theorem zd_Tx_add_16 : decode zb_Tx_add 16 = .ok (.iconst 1, 1) := by decide +kernel
theorem zd_Tx_add_17 : decode zb_Tx_add 17 = .ok (.iadd, 1) := by decide +kernel
theorem zd_Tx_add_18 : decode zb_Tx_add 18 = .ok (.putfield 7, 3) := by decide +kernel
theorem zd_Tx_add_21 : decode zb_Tx_add 21 = .ok (.return_, 1) := by decide +kernel
theorem zd_Pr_findLongest_0 : decode zb_Pr_findLongest 0 = .ok (.aload_n 0, 1) := by decide +kernel
theorem zd_Pr_findLongest_1 : decode zb_Pr_findLongest 1 = .ok (.getfield 36, 3) := by decide +kernel
theorem zd_Pr_findLongest_4 : decode zb_Pr_findLongest 4 = .ok (.ifCond .ne 19, 3) := by decide +kernel
theorem zd_Pr_findLongest_7 : decode zb_Pr_findLongest 7 = .ok (.aload_n 0, 1) := by decide +kernel
theorem zd_Pr_findLongest_8 : decode zb_Pr_findLongest 8 = .ok (.getfield 32, 3) := by decide +kernel
theorem zd_Pr_findLongest_11 : decode zb_Pr_findLongest 11 = .ok (.aload_n 0, 1) := by decide +kernel
theorem zd_Pr_findLongest_12 : decode zb_Pr_findLongest 12 = .ok (.getfield 19, 3) := by decide +kernel
theorem zd_Pr_findLongest_15 : decode zb_Pr_findLongest 15 = .ok (.invokevirtual 134, 3) := by decide +kernel
theorem zd_Pr_findLongest_18 : decode zb_Pr_findLongest 18 = .ok (.aload_n 0, 1) := by decide +kernel
theorem zd_Pr_findLongest_19 : decode zb_Pr_findLongest 19 = .ok (.iconst 1, 1) := by decide +kernel
theorem zd_Pr_findLongest_20 : decode zb_Pr_findLongest 20 = .ok (.putfield 36, 3) := by decide +kernel
theorem zd_Pr_findLongest_23 : decode zb_Pr_findLongest 23 = .ok (.aload_n 0, 1) := by decide +kernel
theorem zd_Pr_findLongest_24 : decode zb_Pr_findLongest 24 = .ok (.getfield 32, 3) := by decide +kernel
theorem zd_Pr_findLongest_27 : decode zb_Pr_findLongest 27 = .ok (.aload_n 0, 1) := by decide +kernel
theorem zd_Pr_findLongest_28 : decode zb_Pr_findLongest 28 = .ok (.getfield 15, 3) := by decide +kernel
theorem zd_Pr_findLongest_31 : decode zb_Pr_findLongest 31 = .ok (.iload_n 1, 1) := by decide +kernel
theorem zd_Pr_findLongest_32 : decode zb_Pr_findLongest 32 = .ok (.ldc 138, 2) := by decide +kernel
theorem zd_Pr_findLongest_34 : decode zb_Pr_findLongest 34 = .ok (.invokevirtual 139, 3) := by decide +kernel
theorem zd_Pr_findLongest_37 : decode zb_Pr_findLongest 37 = .ok (.return_, 1) := by decide +kernel
theorem zd_Su_grow_0 : decode zb_Su_grow 0 = .ok (.aload_n 0, 1) := by decide +kernel
theorem zd_Su_grow_1 : decode zb_Su_grow 1 = .ok (.aload_n 1, 1) := by decide +kernel
theorem zd_Su_grow_2 : decode zb_Su_grow 2 = .ok (.invokevirtual 61, 3) := by decide +kernel
theorem zd_Su_grow_5 : decode zb_Su_grow 5 = .ok (.putfield 9, 3) := by decide +kernel
theorem zd_Su_grow_8 : decode zb_Su_grow 8 = .ok (.aload_n 0, 1) := by decide +kernel
theorem zd_Su_grow_9 : decode zb_Su_grow 9 = .ok (.aload_n 1, 1) := by decide +kernel
theorem zd_Su_grow_10 : decode zb_Su_grow 10 = .ok (.invokevirtual 67, 3) := by decide +kernel
theorem zd_Su_grow_13 : decode zb_Su_grow 13 = .ok (.putfield 15, 3) := by decide +kernel
theorem zd_Su_grow_16 : decode zb_Su_grow 16 = .ok (.aload_n 0, 1) := by decide +kernel
theorem zd_Su_grow_17 : decode zb_Su_grow 17 = .ok (.invokevirtual 71, 3) := by decide +kernel
theorem zd_Su_grow_20 : decode zb_Su_grow 20 = .ok (.aload_n 0, 1) := by decide +kernel
theorem zd_Su_grow_21 : decode zb_Su_grow 21 = .ok (.iconst 1, 1) := by decide +kernel
theorem zd_Su_grow_22 : decode zb_Su_grow 22 = .ok (.putfield 33, 3) := by decide +kernel
theorem zd_Su_grow_25 : decode zb_Su_grow 25 = .ok (.aload_n 0, 1) := by decide +kernel
theorem zd_Su_grow_26 : decode zb_Su_grow 26 = .ok (.iconst 0, 1) := by decide +kernel
theorem zd_Su_grow_27 : decode zb_Su_grow 27 = .ok (.putfield 46, 3) := by decide +kernel
theorem zd_Su_grow_30 : decode zb_Su_grow 30 = .ok (.aload_n 0, 1) := by decide +kernel
theorem zd_Su_grow_31 : decode zb_Su_grow 31 = .ok (.iconst 0, 1) := by decide +kernel
theorem zd_Su_grow_32 : decode zb_Su_grow 32 = .ok (.putfield 49, 3) := by decide +kernel
theorem zd_Su_grow_35 : decode zb_Su_grow 35 = .ok (.aload_n 0, 1) := by decide +kernel
theorem zd_Su_grow_36 : decode zb_Su_grow 36 = .ok (.iconst 0, 1) := by decide +kernel
theorem zd_Su_grow_37 : decode zb_Su_grow 37 = .ok (.putfield 52, 3) := by decide +kernel
theorem zd_Su_grow_40 : decode zb_Su_grow 40 = .ok (.iconst 0, 1) := by decide +kernel
theorem zd_Su_grow_41 : decode zb_Su_grow 41 = .ok (.istore_n 2, 1) := by decide +kernel
theorem zd_Su_grow_42 : decode zb_Su_grow 42 = .ok (.iload_n 2, 1) := by decide +kernel
theorem zd_Su_grow_43 : decode zb_Su_grow 43 = .ok (.aload_n 0, 1) := by decide +kernel
theorem zd_Su_grow_44 : decode zb_Su_grow 44 = .ok (.getfield 15, 3) := by decide +kernel
theorem zd_Su_grow_47 : decode zb_Su_grow 47 = .ok (.if_icmp .ge 14, 3) := by decide +kernel
theorem zd_Su_grow_50 : decode zb_Su_grow 50 = .ok (.aload_n 0, 1) := by decide +kernel
theorem zd_Su_grow_51 : decode zb_Su_grow 51 = .ok (.iload_n 2, 1) := by decide +kernel
theorem zd_Su_grow_52 : decode zb_Su_grow 52 = .ok (.invokevirtual 74, 3) := by decide +kernel
theorem zd_Su_grow_55 : decode zb_Su_grow 55 = .ok (.iinc 2 1, 3) := by decide +kernel
theorem zd_Su_grow_58 : decode zb_Su_grow 58 = .ok (.goto (-16), 3) := by decide +kernel
theorem zd_Su_grow_61 : decode zb_Su_grow 61 = .ok (.return_, 1) := by decide +kernel
theorem zd_Tx_row_0 : decode zb_Tx_row 0 = .ok (.aload_n 0, 1) := by decide +kernel
theorem zd_Tx_row_1 : decode zb_Tx_row 1 = .ok (.getfield 13, 3) := by decide +kernel
theorem zd_Tx_row_4 : decode zb_Tx_row 4 = .ok (.areturn, 1) := by decide +kernel
theorem zd_Su_emptySlots_0 : decode zb_Su_emptySlots 0 = .ok (.aload_n 0, 1) := by decide +kernel
theorem zd_Su_emptySlots_1 : decode zb_Su_emptySlots 1 = .ok (.bipush 8, 2) := by decide +kernel
theorem zd_Su_emptySlots_3 : decode zb_Su_emptySlots 3 = .ok (.aload_n 0, 1) := by decide +kernel
theorem zd_Su_emptySlots_4 : decode zb_Su_emptySlots 4 = .ok (.getfield 15, 3) := by decide +kernel
theorem zd_Su_emptySlots_7 : decode zb_Su_emptySlots 7 = .ok (.iconst 2, 1) := by decide +kernel
theorem zd_Su_emptySlots_8 : decode zb_Su_emptySlots 8 = .ok (.invokestatic 78, 3) := by decide +kernel
theorem zd_Su_emptySlots_11 : decode zb_Su_emptySlots 11 = .ok (.iconst 1, 1) := by decide +kernel
theorem zd_Su_emptySlots_12 : decode zb_Su_emptySlots 12 = .ok (.isub, 1) := by decide +kernel
theorem zd_Su_emptySlots_13 : decode zb_Su_emptySlots 13 = .ok (.invokestatic 84, 3) := by decide +kernel
theorem zd_Su_emptySlots_16 : decode zb_Su_emptySlots 16 = .ok (.imul, 1) := by decide +kernel
theorem zd_Su_emptySlots_17 : decode zb_Su_emptySlots 17 = .ok (.putfield 40, 3) := by decide +kernel
theorem zd_Su_emptySlots_20 : decode zb_Su_emptySlots 20 = .ok (.aload_n 0, 1) := by decide +kernel
theorem zd_Su_emptySlots_21 : decode zb_Su_emptySlots 21 = .ok (.bipush 32, 2) := by decide +kernel
theorem zd_Su_emptySlots_23 : decode zb_Su_emptySlots 23 = .ok (.aload_n 0, 1) := by decide +kernel
theorem zd_Su_emptySlots_24 : decode zb_Su_emptySlots 24 = .ok (.getfield 40, 3) := by decide +kernel
theorem zd_Su_emptySlots_27 : decode zb_Su_emptySlots 27 = .ok (.iconst 1, 1) := by decide +kernel
theorem zd_Su_emptySlots_28 : decode zb_Su_emptySlots 28 = .ok (.isub, 1) := by decide +kernel
theorem zd_Su_emptySlots_29 : decode zb_Su_emptySlots 29 = .ok (.invokestatic 90, 3) := by decide +kernel
theorem zd_Su_emptySlots_32 : decode zb_Su_emptySlots 32 = .ok (.isub, 1) := by decide +kernel
theorem zd_Su_emptySlots_33 : decode zb_Su_emptySlots 33 = .ok (.putfield 43, 3) := by decide +kernel
theorem zd_Su_emptySlots_36 : decode zb_Su_emptySlots 36 = .ok (.iconst 0, 1) := by decide +kernel
theorem zd_Su_emptySlots_37 : decode zb_Su_emptySlots 37 = .ok (.istore_n 1, 1) := by decide +kernel
theorem zd_Su_emptySlots_38 : decode zb_Su_emptySlots 38 = .ok (.iload_n 1, 1) := by decide +kernel
theorem zd_Su_emptySlots_39 : decode zb_Su_emptySlots 39 = .ok (.aload_n 0, 1) := by decide +kernel
theorem zd_Su_emptySlots_40 : decode zb_Su_emptySlots 40 = .ok (.getfield 40, 3) := by decide +kernel
theorem zd_Su_emptySlots_43 : decode zb_Su_emptySlots 43 = .ok (.if_icmp .ge 16, 3) := by decide +kernel
theorem zd_Su_emptySlots_46 : decode zb_Su_emptySlots 46 = .ok (.aload_n 0, 1) := by decide +kernel
theorem zd_Su_emptySlots_47 : decode zb_Su_emptySlots 47 = .ok (.getfield 37, 3) := by decide +kernel
theorem zd_Su_emptySlots_50 : decode zb_Su_emptySlots 50 = .ok (.iload_n 1, 1) := by decide +kernel
theorem zd_Su_emptySlots_51 : decode zb_Su_emptySlots 51 = .ok (.iconst 0, 1) := by decide +kernel
theorem zd_Su_emptySlots_52 : decode zb_Su_emptySlots 52 = .ok (.iastore, 1) := by decide +kernel
theorem zd_Su_emptySlots_53 : decode zb_Su_emptySlots 53 = .ok (.iinc 1 1, 3) := by decide +kernel
theorem zd_Su_emptySlots_56 : decode zb_Su_emptySlots 56 = .ok (.goto (-18), 3) := by decide +kernel
theorem zd_Su_emptySlots_59 : decode zb_Su_emptySlots 59 = .ok (.return_, 1) := by decide +kernel
theorem zd_In_highestOneBit_0 : decode zb_In_highestOneBit 0 = .ok (.iload_n 0, 1) := by decide +kernel
theorem zd_In_highestOneBit_1 : decode zb_In_highestOneBit 1 = .ok (.ldc 127, 2) := by decide +kernel
theorem zd_In_highestOneBit_3 : decode zb_In_highestOneBit 3 = .ok (.iload_n 0, 1) := by decide +kernel
theorem zd_In_highestOneBit_4 : decode zb_In_highestOneBit 4 = .ok (.invokestatic 51, 3) := by decide +kernel
theorem zd_In_highestOneBit_7 : decode zb_In_highestOneBit 7 = .ok (.iushr, 1) := by decide +kernel
theorem zd_In_highestOneBit_8 : decode zb_In_highestOneBit 8 = .ok (.iand, 1) := by decide +kernel
theorem zd_In_highestOneBit_9 : decode zb_In_highestOneBit 9 = .ok (.ireturn, 1) := by decide +kernel
