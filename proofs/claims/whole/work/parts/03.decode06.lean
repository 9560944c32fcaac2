theorem zd_Mo_look_0 : decode zb_Mo_look 0 = .ok (.aload_n 0, 1) := by decide +kernel
theorem zd_Mo_look_1 : decode zb_Mo_look 1 = .ok (.iconst 0, 1) := by decide +kernel
theorem zd_Mo_look_2 : decode zb_Mo_look 2 = .ok (.putfield 38, 3) := by decide +kernel
theorem zd_Mo_look_5 : decode zb_Mo_look 5 = .ok (.aload_n 0, 1) := by decide +kernel
theorem zd_Mo_look_6 : decode zb_Mo_look 6 = .ok (.iconst (-1), 1) := by decide +kernel
theorem zd_Mo_look_7 : decode zb_Mo_look 7 = .ok (.putfield 41, 3) := by decide +kernel
theorem zd_Mo_look_10 : decode zb_Mo_look 10 = .ok (.iconst 0, 1) := by decide +kernel
theorem zd_Mo_look_11 : decode zb_Mo_look 11 = .ok (.istore_n 2, 1) := by decide +kernel
theorem zd_Mo_look_12 : decode zb_Mo_look 12 = .ok (.iload_n 2, 1) := by decide +kernel
theorem zd_Mo_look_13 : decode zb_Mo_look 13 = .ok (.aload_n 0, 1) := by decide +kernel
theorem zd_Mo_look_14 : decode zb_Mo_look 14 = .ok (.getfield 38, 3) := by decide +kernel
theorem zd_Mo_look_17 : decode zb_Mo_look 17 = .ok (.iadd, 1) := by decide +kernel
theorem zd_Mo_look_18 : decode zb_Mo_look 18 = .ok (.aload_n 0, 1) := by decide +kernel
theorem zd_Mo_look_19 : decode zb_Mo_look 19 = .ok (.getfield 35, 3) := by decide +kernel
theorem zd_Mo_look_22 : decode zb_Mo_look 22 = .ok (.if_icmp .ge 133, 3) := by decide +kernel
theorem zd_Mo_look_25 : decode zb_Mo_look 25 = .ok (.iload_n 1, 1) := by decide +kernel
theorem zd_Mo_look_26 : decode zb_Mo_look 26 = .ok (.aload_n 0, 1) := by decide +kernel
theorem zd_Mo_look_27 : decode zb_Mo_look 27 = .ok (.getfield 38, 3) := by decide +kernel
theorem zd_Mo_look_30 : decode zb_Mo_look 30 = .ok (.iadd, 1) := by decide +kernel
theorem zd_Mo_look_31 : decode zb_Mo_look 31 = .ok (.aload_n 0, 1) := by decide +kernel
theorem zd_Mo_look_32 : decode zb_Mo_look 32 = .ok (.getfield 28, 3) := by decide +kernel
theorem zd_Mo_look_35 : decode zb_Mo_look 35 = .ok (.if_icmp .ge 120, 3) := by decide +kernel
theorem zd_Mo_look_38 : decode zb_Mo_look 38 = .ok (.aload_n 0, 1) := by decide +kernel
theorem zd_Mo_look_39 : decode zb_Mo_look 39 = .ok (.getfield 38, 3) := by decide +kernel
theorem zd_Mo_look_42 : decode zb_Mo_look 42 = .ok (.ldc 44, 2) := by decide +kernel
theorem zd_Mo_look_44 : decode zb_Mo_look 44 = .ok (.if_icmp .ge 111, 3) := by decide +kernel
theorem zd_Mo_look_47 : decode zb_Mo_look 47 = .ok (.aload_n 0, 1) := by decide +kernel
theorem zd_Mo_look_48 : decode zb_Mo_look 48 = .ok (.getfield 14, 3) := by decide +kernel
theorem zd_Mo_look_51 : decode zb_Mo_look 51 = .ok (.iload_n 2, 1) := by decide +kernel
theorem zd_Mo_look_52 : decode zb_Mo_look 52 = .ok (.aload_n 0, 1) := by decide +kernel
theorem zd_Mo_look_53 : decode zb_Mo_look 53 = .ok (.getfield 38, 3) := by decide +kernel
theorem zd_Mo_look_56 : decode zb_Mo_look 56 = .ok (.iadd, 1) := by decide +kernel
theorem zd_Mo_look_57 : decode zb_Mo_look 57 = .ok (.baload, 1) := by decide +kernel
theorem zd_Mo_look_58 : decode zb_Mo_look 58 = .ok (.aload_n 0, 1) := by decide +kernel
theorem zd_Mo_look_59 : decode zb_Mo_look 59 = .ok (.getfield 8, 3) := by decide +kernel
theorem zd_Mo_look_62 : decode zb_Mo_look 62 = .ok (.iload_n 1, 1) := by decide +kernel
theorem zd_Mo_look_63 : decode zb_Mo_look 63 = .ok (.aload_n 0, 1) := by decide +kernel
theorem zd_Mo_look_64 : decode zb_Mo_look 64 = .ok (.getfield 38, 3) := by decide +kernel
theorem zd_Mo_look_67 : decode zb_Mo_look 67 = .ok (.iadd, 1) := by decide +kernel
theorem zd_Mo_look_68 : decode zb_Mo_look 68 = .ok (.baload, 1) := by decide +kernel
theorem zd_Mo_look_69 : decode zb_Mo_look 69 = .ok (.if_icmp .eq 6, 3) := by decide +kernel
theorem zd_Mo_look_72 : decode zb_Mo_look 72 = .ok (.goto 77, 3) := by decide +kernel
theorem zd_Mo_look_75 : decode zb_Mo_look 75 = .ok (.iconst 0, 1) := by decide +kernel
theorem zd_Mo_look_76 : decode zb_Mo_look 76 = .ok (.istore_n 3, 1) := by decide +kernel
theorem zd_Mo_look_77 : decode zb_Mo_look 77 = .ok (.iload_n 3, 1) := by decide +kernel
theorem zd_Mo_look_78 : decode zb_Mo_look 78 = .ok (.ldc 44, 2) := by decide +kernel
theorem zd_Mo_look_80 : decode zb_Mo_look 80 = .ok (.if_icmp .ge 48, 3) := by decide +kernel
theorem zd_Mo_look_83 : decode zb_Mo_look 83 = .ok (.iload_n 2, 1) := by decide +kernel
theorem zd_Mo_look_84 : decode zb_Mo_look 84 = .ok (.iload_n 3, 1) := by decide +kernel
theorem zd_Mo_look_85 : decode zb_Mo_look 85 = .ok (.iadd, 1) := by decide +kernel
theorem zd_Mo_look_86 : decode zb_Mo_look 86 = .ok (.aload_n 0, 1) := by decide +kernel
theorem zd_Mo_look_87 : decode zb_Mo_look 87 = .ok (.getfield 35, 3) := by decide +kernel
theorem zd_Mo_look_90 : decode zb_Mo_look 90 = .ok (.if_icmp .ge 38, 3) := by decide +kernel
theorem zd_Mo_look_93 : decode zb_Mo_look 93 = .ok (.iload_n 1, 1) := by decide +kernel
theorem zd_Mo_look_94 : decode zb_Mo_look 94 = .ok (.iload_n 3, 1) := by decide +kernel
theorem zd_Mo_look_95 : decode zb_Mo_look 95 = .ok (.iadd, 1) := by decide +kernel
theorem zd_Mo_look_96 : decode zb_Mo_look 96 = .ok (.aload_n 0, 1) := by decide +kernel
theorem zd_Mo_look_97 : decode zb_Mo_look 97 = .ok (.getfield 28, 3) := by decide +kernel
theorem zd_Mo_look_100 : decode zb_Mo_look 100 = .ok (.if_icmp .ge 28, 3) := by decide +kernel
theorem zd_Mo_look_103 : decode zb_Mo_look 103 = .ok (.aload_n 0, 1) := by decide +kernel
theorem zd_Mo_look_104 : decode zb_Mo_look 104 = .ok (.getfield 14, 3) := by decide +kernel
theorem zd_Mo_look_107 : decode zb_Mo_look 107 = .ok (.iload_n 2, 1) := by decide +kernel
theorem zd_Mo_look_108 : decode zb_Mo_look 108 = .ok (.iload_n 3, 1) := by decide +kernel
theorem zd_Mo_look_109 : decode zb_Mo_look 109 = .ok (.iadd, 1) := by decide +kernel
theorem zd_Mo_look_110 : decode zb_Mo_look 110 = .ok (.baload, 1) := by decide +kernel
theorem zd_Mo_look_111 : decode zb_Mo_look 111 = .ok (.aload_n 0, 1) := by decide +kernel
theorem zd_Mo_look_112 : decode zb_Mo_look 112 = .ok (.getfield 8, 3) := by decide +kernel
theorem zd_Mo_look_115 : decode zb_Mo_look 115 = .ok (.iload_n 1, 1) := by decide +kernel
theorem zd_Mo_look_116 : decode zb_Mo_look 116 = .ok (.iload_n 3, 1) := by decide +kernel
theorem zd_Mo_look_117 : decode zb_Mo_look 117 = .ok (.iadd, 1) := by decide +kernel
theorem zd_Mo_look_118 : decode zb_Mo_look 118 = .ok (.baload, 1) := by decide +kernel
theorem zd_Mo_look_119 : decode zb_Mo_look 119 = .ok (.if_icmp .ne 9, 3) := by decide +kernel
theorem zd_Mo_look_122 : decode zb_Mo_look 122 = .ok (.iinc 3 1, 3) := by decide +kernel
theorem zd_Mo_look_125 : decode zb_Mo_look 125 = .ok (.goto (-48), 3) := by decide +kernel
theorem zd_Mo_look_128 : decode zb_Mo_look 128 = .ok (.iload_n 3, 1) := by decide +kernel
theorem zd_Mo_look_129 : decode zb_Mo_look 129 = .ok (.aload_n 0, 1) := by decide +kernel
theorem zd_Mo_look_130 : decode zb_Mo_look 130 = .ok (.getfield 38, 3) := by decide +kernel
theorem zd_Mo_look_133 : decode zb_Mo_look 133 = .ok (.if_icmp .gt 6, 3) := by decide +kernel
theorem zd_Mo_look_136 : decode zb_Mo_look 136 = .ok (.goto 13, 3) := by decide +kernel
theorem zd_Mo_look_139 : decode zb_Mo_look 139 = .ok (.aload_n 0, 1) := by decide +kernel
theorem zd_Mo_look_140 : decode zb_Mo_look 140 = .ok (.iload_n 3, 1) := by decide +kernel
theorem zd_Mo_look_141 : decode zb_Mo_look 141 = .ok (.putfield 38, 3) := by decide +kernel
theorem zd_Mo_look_144 : decode zb_Mo_look 144 = .ok (.aload_n 0, 1) := by decide +kernel
theorem zd_Mo_look_145 : decode zb_Mo_look 145 = .ok (.iload_n 2, 1) := by decide +kernel
theorem zd_Mo_look_146 : decode zb_Mo_look 146 = .ok (.putfield 41, 3) := by decide +kernel
theorem zd_Mo_look_149 : decode zb_Mo_look 149 = .ok (.iinc 2 1, 3) := by decide +kernel
theorem zd_Mo_look_152 : decode zb_Mo_look 152 = .ok (.goto (-140), 3) := by decide +kernel
theorem zd_Mo_look_155 : decode zb_Mo_look 155 = .ok (.return_, 1) := by decide +kernel
theorem zd_Mo_putFresh_0 : decode zb_Mo_putFresh 0 = .ok (.iload_n 1, 1) := by decide +kernel
theorem zd_Mo_putFresh_1 : decode zb_Mo_putFresh 1 = .ok (.istore_n 3, 1) := by decide +kernel
theorem zd_Mo_putFresh_2 : decode zb_Mo_putFresh 2 = .ok (.iload_n 3, 1) := by decide +kernel
theorem zd_Mo_putFresh_3 : decode zb_Mo_putFresh 3 = .ok (.iload_n 2, 1) := by decide +kernel
theorem zd_Mo_putFresh_4 : decode zb_Mo_putFresh 4 = .ok (.if_icmp .ge 64, 3) := by decide +kernel
theorem zd_Mo_putFresh_7 : decode zb_Mo_putFresh 7 = .ok (.iload_n 2, 1) := by decide +kernel
theorem zd_Mo_putFresh_8 : decode zb_Mo_putFresh 8 = .ok (.iload_n 3, 1) := by decide +kernel
theorem zd_Mo_putFresh_9 : decode zb_Mo_putFresh 9 = .ok (.isub, 1) := by decide +kernel
theorem zd_Mo_putFresh_10 : decode zb_Mo_putFresh 10 = .ok (.bipush 127, 2) := by decide +kernel
theorem zd_Mo_putFresh_12 : decode zb_Mo_putFresh 12 = .ok (.if_icmp .le 8, 3) := by decide +kernel
theorem zd_Mo_putFresh_15 : decode zb_Mo_putFresh 15 = .ok (.bipush 127, 2) := by decide +kernel
theorem zd_Mo_putFresh_17 : decode zb_Mo_putFresh 17 = .ok (.goto 6, 3) := by decide +kernel
theorem zd_Mo_putFresh_20 : decode zb_Mo_putFresh 20 = .ok (.iload_n 2, 1) := by decide +kernel
theorem zd_Mo_putFresh_21 : decode zb_Mo_putFresh 21 = .ok (.iload_n 3, 1) := by decide +kernel
theorem zd_Mo_putFresh_22 : decode zb_Mo_putFresh 22 = .ok (.isub, 1) := by decide +kernel
theorem zd_Mo_putFresh_23 : decode zb_Mo_putFresh 23 = .ok (.istore 4, 2) := by decide +kernel
theorem zd_Mo_putFresh_25 : decode zb_Mo_putFresh 25 = .ok (.aload_n 0, 1) := by decide +kernel
theorem zd_Mo_putFresh_26 : decode zb_Mo_putFresh 26 = .ok (.iload 4, 2) := by decide +kernel
theorem zd_Mo_putFresh_28 : decode zb_Mo_putFresh 28 = .ok (.invokevirtual 48, 3) := by decide +kernel
theorem zd_Mo_putFresh_31 : decode zb_Mo_putFresh 31 = .ok (.iconst 0, 1) := by decide +kernel
theorem zd_Mo_putFresh_32 : decode zb_Mo_putFresh 32 = .ok (.istore 5, 2) := by decide +kernel
theorem zd_Mo_putFresh_34 : decode zb_Mo_putFresh 34 = .ok (.iload 5, 2) := by decide +kernel
theorem zd_Mo_putFresh_36 : decode zb_Mo_putFresh 36 = .ok (.iload 4, 2) := by decide +kernel
theorem zd_Mo_putFresh_38 : decode zb_Mo_putFresh 38 = .ok (.if_icmp .ge 22, 3) := by decide +kernel
theorem zd_Mo_putFresh_41 : decode zb_Mo_putFresh 41 = .ok (.aload_n 0, 1) := by decide +kernel
theorem zd_Mo_putFresh_42 : decode zb_Mo_putFresh 42 = .ok (.aload_n 0, 1) := by decide +kernel
theorem zd_Mo_putFresh_43 : decode zb_Mo_putFresh 43 = .ok (.getfield 8, 3) := by decide +kernel
theorem zd_Mo_putFresh_46 : decode zb_Mo_putFresh 46 = .ok (.iload_n 3, 1) := by decide +kernel
theorem zd_Mo_putFresh_47 : decode zb_Mo_putFresh 47 = .ok (.iload 5, 2) := by decide +kernel
theorem zd_Mo_putFresh_49 : decode zb_Mo_putFresh 49 = .ok (.iadd, 1) := by decide +kernel
theorem zd_Mo_putFresh_50 : decode zb_Mo_putFresh 50 = .ok (.baload, 1) := by decide +kernel
theorem zd_Mo_putFresh_51 : decode zb_Mo_putFresh 51 = .ok (.invokevirtual 48, 3) := by decide +kernel
theorem zd_Mo_putFresh_54 : decode zb_Mo_putFresh 54 = .ok (.iinc 5 1, 3) := by decide +kernel
theorem zd_Mo_putFresh_57 : decode zb_Mo_putFresh 57 = .ok (.goto (-23), 3) := by decide +kernel
theorem zd_Mo_putFresh_60 : decode zb_Mo_putFresh 60 = .ok (.iload_n 3, 1) := by decide +kernel
theorem zd_Mo_putFresh_61 : decode zb_Mo_putFresh 61 = .ok (.iload 4, 2) := by decide +kernel
theorem zd_Mo_putFresh_63 : decode zb_Mo_putFresh 63 = .ok (.iadd, 1) := by decide +kernel
theorem zd_Mo_putFresh_64 : decode zb_Mo_putFresh 64 = .ok (.istore_n 3, 1) := by decide +kernel
theorem zd_Mo_putFresh_65 : decode zb_Mo_putFresh 65 = .ok (.goto (-63), 3) := by decide +kernel
theorem zd_Mo_putFresh_68 : decode zb_Mo_putFresh 68 = .ok (.aload_n 0, 1) := by decide +kernel
theorem zd_Mo_putFresh_69 : decode zb_Mo_putFresh 69 = .ok (.dup, 1) := by decide +kernel
theorem zd_Mo_putFresh_70 : decode zb_Mo_putFresh 70 = .ok (.getfield 55, 3) := by decide +kernel
theorem zd_Mo_putFresh_73 : decode zb_Mo_putFresh 73 = .ok (.iload_n 2, 1) := by decide +kernel
theorem zd_Mo_putFresh_74 : decode zb_Mo_putFresh 74 = .ok (.iload_n 1, 1) := by decide +kernel
theorem zd_Mo_putFresh_75 : decode zb_Mo_putFresh 75 = .ok (.isub, 1) := by decide +kernel
theorem zd_Mo_putFresh_76 : decode zb_Mo_putFresh 76 = .ok (.iadd, 1) := by decide +kernel
theorem zd_Mo_putFresh_77 : decode zb_Mo_putFresh 77 = .ok (.putfield 55, 3) := by decide +kernel
theorem zd_Mo_putFresh_80 : decode zb_Mo_putFresh 80 = .ok (.return_, 1) := by decide +kernel
theorem zd_Mo_putCopy_0 : decode zb_Mo_putCopy 0 = .ok (.sipush 128, 3) := by decide +kernel
theorem zd_Mo_putCopy_3 : decode zb_Mo_putCopy 3 = .ok (.istore_n 1, 1) := by decide +kernel
theorem zd_Mo_putCopy_4 : decode zb_Mo_putCopy 4 = .ok (.iconst 0, 1) := by decide +kernel
theorem zd_Mo_putCopy_5 : decode zb_Mo_putCopy 5 = .ok (.istore_n 2, 1) := by decide +kernel
theorem zd_Mo_putCopy_6 : decode zb_Mo_putCopy 6 = .ok (.iload_n 2, 1) := by decide +kernel
theorem zd_Mo_putCopy_7 : decode zb_Mo_putCopy 7 = .ok (.iconst 4, 1) := by decide +kernel
theorem zd_Mo_putCopy_8 : decode zb_Mo_putCopy 8 = .ok (.if_icmp .ge 31, 3) := by decide +kernel
theorem zd_Mo_putCopy_11 : decode zb_Mo_putCopy 11 = .ok (.aload_n 0, 1) := by decide +kernel
theorem zd_Mo_putCopy_12 : decode zb_Mo_putCopy 12 = .ok (.getfield 41, 3) := by decide +kernel
theorem zd_Mo_putCopy_15 : decode zb_Mo_putCopy 15 = .ok (.bipush 8, 2) := by decide +kernel
theorem zd_Mo_putCopy_17 : decode zb_Mo_putCopy 17 = .ok (.iload_n 2, 1) := by decide +kernel
theorem zd_Mo_putCopy_18 : decode zb_Mo_putCopy 18 = .ok (.imul, 1) := by decide +kernel
theorem zd_Mo_putCopy_19 : decode zb_Mo_putCopy 19 = .ok (.iushr, 1) := by decide +kernel
theorem zd_Mo_putCopy_20 : decode zb_Mo_putCopy 20 = .ok (.sipush 255, 3) := by decide +kernel
theorem zd_Mo_putCopy_23 : decode zb_Mo_putCopy 23 = .ok (.iand, 1) := by decide +kernel
theorem zd_Mo_putCopy_24 : decode zb_Mo_putCopy 24 = .ok (.ifCond .eq 9, 3) := by decide +kernel
theorem zd_Mo_putCopy_27 : decode zb_Mo_putCopy 27 = .ok (.iload_n 1, 1) := by decide +kernel
theorem zd_Mo_putCopy_28 : decode zb_Mo_putCopy 28 = .ok (.iconst 1, 1) := by decide +kernel
theorem zd_Mo_putCopy_29 : decode zb_Mo_putCopy 29 = .ok (.iload_n 2, 1) := by decide +kernel
theorem zd_Mo_putCopy_30 : decode zb_Mo_putCopy 30 = .ok (.ishl, 1) := by decide +kernel
theorem zd_Mo_putCopy_31 : decode zb_Mo_putCopy 31 = .ok (.iadd, 1) := by decide +kernel
theorem zd_Mo_putCopy_32 : decode zb_Mo_putCopy 32 = .ok (.istore_n 1, 1) := by decide +kernel
theorem zd_Mo_putCopy_33 : decode zb_Mo_putCopy 33 = .ok (.iinc 2 1, 3) := by decide +kernel
theorem zd_Mo_putCopy_36 : decode zb_Mo_putCopy 36 = .ok (.goto (-30), 3) := by decide +kernel
theorem zd_Mo_putCopy_39 : decode zb_Mo_putCopy 39 = .ok (.iconst 0, 1) := by decide +kernel
theorem zd_Mo_putCopy_40 : decode zb_Mo_putCopy 40 = .ok (.istore_n 2, 1) := by decide +kernel
theorem zd_Mo_putCopy_41 : decode zb_Mo_putCopy 41 = .ok (.iload_n 2, 1) := by decide +kernel
theorem zd_Mo_putCopy_42 : decode zb_Mo_putCopy 42 = .ok (.iconst 2, 1) := by decide +kernel
theorem zd_Mo_putCopy_43 : decode zb_Mo_putCopy 43 = .ok (.if_icmp .ge 32, 3) := by decide +kernel
theorem zd_Mo_putCopy_46 : decode zb_Mo_putCopy 46 = .ok (.aload_n 0, 1) := by decide +kernel
theorem zd_Mo_putCopy_47 : decode zb_Mo_putCopy 47 = .ok (.getfield 38, 3) := by decide +kernel
theorem zd_Mo_putCopy_50 : decode zb_Mo_putCopy 50 = .ok (.bipush 8, 2) := by decide +kernel
theorem zd_Mo_putCopy_52 : decode zb_Mo_putCopy 52 = .ok (.iload_n 2, 1) := by decide +kernel
theorem zd_Mo_putCopy_53 : decode zb_Mo_putCopy 53 = .ok (.imul, 1) := by decide +kernel
theorem zd_Mo_putCopy_54 : decode zb_Mo_putCopy 54 = .ok (.iushr, 1) := by decide +kernel
theorem zd_Mo_putCopy_55 : decode zb_Mo_putCopy 55 = .ok (.sipush 255, 3) := by decide +kernel
theorem zd_Mo_putCopy_58 : decode zb_Mo_putCopy 58 = .ok (.iand, 1) := by decide +kernel
theorem zd_Mo_putCopy_59 : decode zb_Mo_putCopy 59 = .ok (.ifCond .eq 10, 3) := by decide +kernel
theorem zd_Mo_putCopy_62 : decode zb_Mo_putCopy 62 = .ok (.iload_n 1, 1) := by decide +kernel
theorem zd_Mo_putCopy_63 : decode zb_Mo_putCopy 63 = .ok (.bipush 16, 2) := by decide +kernel
theorem zd_Mo_putCopy_65 : decode zb_Mo_putCopy 65 = .ok (.iload_n 2, 1) := by decide +kernel
theorem zd_Mo_putCopy_66 : decode zb_Mo_putCopy 66 = .ok (.ishl, 1) := by decide +kernel
theorem zd_Mo_putCopy_67 : decode zb_Mo_putCopy 67 = .ok (.iadd, 1) := by decide +kernel
theorem zd_Mo_putCopy_68 : decode zb_Mo_putCopy 68 = .ok (.istore_n 1, 1) := by decide +kernel
theorem zd_Mo_putCopy_69 : decode zb_Mo_putCopy 69 = .ok (.iinc 2 1, 3) := by decide +kernel
theorem zd_Mo_putCopy_72 : decode zb_Mo_putCopy 72 = .ok (.goto (-31), 3) := by decide +kernel
theorem zd_Mo_putCopy_75 : decode zb_Mo_putCopy 75 = .ok (.aload_n 0, 1) := by decide +kernel
theorem zd_Mo_putCopy_76 : decode zb_Mo_putCopy 76 = .ok (.iload_n 1, 1) := by decide +kernel
theorem zd_Mo_putCopy_77 : decode zb_Mo_putCopy 77 = .ok (.invokevirtual 48, 3) := by decide +kernel
theorem zd_Mo_putCopy_80 : decode zb_Mo_putCopy 80 = .ok (.iconst 0, 1) := by decide +kernel
theorem zd_Mo_putCopy_81 : decode zb_Mo_putCopy 81 = .ok (.istore_n 2, 1) := by decide +kernel
theorem zd_Mo_putCopy_82 : decode zb_Mo_putCopy 82 = .ok (.iload_n 2, 1) := by decide +kernel
theorem zd_Mo_putCopy_83 : decode zb_Mo_putCopy 83 = .ok (.iconst 4, 1) := by decide +kernel
theorem zd_Mo_putCopy_84 : decode zb_Mo_putCopy 84 = .ok (.if_icmp .ge 30, 3) := by decide +kernel
theorem zd_Mo_putCopy_87 : decode zb_Mo_putCopy 87 = .ok (.iload_n 1, 1) := by decide +kernel
theorem zd_Mo_putCopy_88 : decode zb_Mo_putCopy 88 = .ok (.iload_n 2, 1) := by decide +kernel
theorem zd_Mo_putCopy_89 : decode zb_Mo_putCopy 89 = .ok (.iushr, 1) := by decide +kernel
theorem zd_Mo_putCopy_90 : decode zb_Mo_putCopy 90 = .ok (.iconst 1, 1) := by decide +kernel
theorem zd_Mo_putCopy_91 : decode zb_Mo_putCopy 91 = .ok (.iand, 1) := by decide +kernel
theorem zd_Mo_putCopy_92 : decode zb_Mo_putCopy 92 = .ok (.ifCond .eq 16, 3) := by decide +kernel
theorem zd_Mo_putCopy_95 : decode zb_Mo_putCopy 95 = .ok (.aload_n 0, 1) := by decide +kernel
theorem zd_Mo_putCopy_96 : decode zb_Mo_putCopy 96 = .ok (.aload_n 0, 1) := by decide +kernel
theorem zd_Mo_putCopy_97 : decode zb_Mo_putCopy 97 = .ok (.getfield 41, 3) := by decide +kernel
theorem zd_Mo_putCopy_100 : decode zb_Mo_putCopy 100 = .ok (.bipush 8, 2) := by decide +kernel
theorem zd_Mo_putCopy_102 : decode zb_Mo_putCopy 102 = .ok (.iload_n 2, 1) := by decide +kernel
theorem zd_Mo_putCopy_103 : decode zb_Mo_putCopy 103 = .ok (.imul, 1) := by decide +kernel
theorem zd_Mo_putCopy_104 : decode zb_Mo_putCopy 104 = .ok (.iushr, 1) := by decide +kernel
theorem zd_Mo_putCopy_105 : decode zb_Mo_putCopy 105 = .ok (.invokevirtual 48, 3) := by decide +kernel
theorem zd_Mo_putCopy_108 : decode zb_Mo_putCopy 108 = .ok (.iinc 2 1, 3) := by decide +kernel
theorem zd_Mo_putCopy_111 : decode zb_Mo_putCopy 111 = .ok (.goto (-29), 3) := by decide +kernel
theorem zd_Mo_putCopy_114 : decode zb_Mo_putCopy 114 = .ok (.iconst 0, 1) := by decide +kernel
theorem zd_Mo_putCopy_115 : decode zb_Mo_putCopy 115 = .ok (.istore_n 2, 1) := by decide +kernel
theorem zd_Mo_putCopy_116 : decode zb_Mo_putCopy 116 = .ok (.iload_n 2, 1) := by decide +kernel
theorem zd_Mo_putCopy_117 : decode zb_Mo_putCopy 117 = .ok (.iconst 2, 1) := by decide +kernel
theorem zd_Mo_putCopy_118 : decode zb_Mo_putCopy 118 = .ok (.if_icmp .ge 32, 3) := by decide +kernel
theorem zd_Mo_putCopy_121 : decode zb_Mo_putCopy 121 = .ok (.iload_n 1, 1) := by decide +kernel
theorem zd_Mo_putCopy_122 : decode zb_Mo_putCopy 122 = .ok (.iconst 4, 1) := by decide +kernel
theorem zd_Mo_putCopy_123 : decode zb_Mo_putCopy 123 = .ok (.iload_n 2, 1) := by decide +kernel
theorem zd_Mo_putCopy_124 : decode zb_Mo_putCopy 124 = .ok (.iadd, 1) := by decide +kernel
theorem zd_Mo_putCopy_125 : decode zb_Mo_putCopy 125 = .ok (.iushr, 1) := by decide +kernel
theorem zd_Mo_putCopy_126 : decode zb_Mo_putCopy 126 = .ok (.iconst 1, 1) := by decide +kernel
theorem zd_Mo_putCopy_127 : decode zb_Mo_putCopy 127 = .ok (.iand, 1) := by decide +kernel
theorem zd_Mo_putCopy_128 : decode zb_Mo_putCopy 128 = .ok (.ifCond .eq 16, 3) := by decide +kernel
theorem zd_Mo_putCopy_131 : decode zb_Mo_putCopy 131 = .ok (.aload_n 0, 1) := by decide +kernel
theorem zd_Mo_putCopy_132 : decode zb_Mo_putCopy 132 = .ok (.aload_n 0, 1) := by decide +kernel
theorem zd_Mo_putCopy_133 : decode zb_Mo_putCopy 133 = .ok (.getfield 38, 3) := by decide +kernel
theorem zd_Mo_putCopy_136 : decode zb_Mo_putCopy 136 = .ok (.bipush 8, 2) := by decide +kernel
theorem zd_Mo_putCopy_138 : decode zb_Mo_putCopy 138 = .ok (.iload_n 2, 1) := by decide +kernel
theorem zd_Mo_putCopy_139 : decode zb_Mo_putCopy 139 = .ok (.imul, 1) := by decide +kernel
theorem zd_Mo_putCopy_140 : decode zb_Mo_putCopy 140 = .ok (.iushr, 1) := by decide +kernel
theorem zd_Mo_putCopy_141 : decode zb_Mo_putCopy 141 = .ok (.invokevirtual 48, 3) := by decide +kernel
theorem zd_Mo_putCopy_144 : decode zb_Mo_putCopy 144 = .ok (.iinc 2 1, 3) := by decide +kernel
theorem zd_Mo_putCopy_147 : decode zb_Mo_putCopy 147 = .ok (.goto (-31), 3) := by decide +kernel
theorem zd_Mo_putCopy_150 : decode zb_Mo_putCopy 150 = .ok (.aload_n 0, 1) := by decide +kernel
theorem zd_Mo_putCopy_151 : decode zb_Mo_putCopy 151 = .ok (.dup, 1) := by decide +kernel
theorem zd_Mo_putCopy_152 : decode zb_Mo_putCopy 152 = .ok (.getfield 52, 3) := by decide +kernel
theorem zd_Mo_putCopy_155 : decode zb_Mo_putCopy 155 = .ok (.iconst 1, 1) := by decide +kernel
theorem zd_Mo_putCopy_156 : decode zb_Mo_putCopy 156 = .ok (.iadd, 1) := by decide +kernel
theorem zd_Mo_putCopy_157 : decode zb_Mo_putCopy 157 = .ok (.putfield 52, 3) := by decide +kernel
theorem zd_Mo_putCopy_160 : decode zb_Mo_putCopy 160 = .ok (.return_, 1) := by decide +kernel
theorem zd_Mo_use_0 : decode zb_Mo_use 0 = .ok (.aload_n 0, 1) := by decide +kernel
theorem zd_Mo_use_1 : decode zb_Mo_use 1 = .ok (.iconst 0, 1) := by decide +kernel
theorem zd_Mo_use_2 : decode zb_Mo_use 2 = .ok (.putfield 24, 3) := by decide +kernel
theorem zd_Mo_use_5 : decode zb_Mo_use 5 = .ok (.aload_n 0, 1) := by decide +kernel
theorem zd_Mo_use_6 : decode zb_Mo_use 6 = .ok (.iconst 0, 1) := by decide +kernel
theorem zd_Mo_use_7 : decode zb_Mo_use 7 = .ok (.putfield 71, 3) := by decide +kernel
theorem zd_Mo_use_10 : decode zb_Mo_use 10 = .ok (.aload_n 0, 1) := by decide +kernel
theorem zd_Mo_use_11 : decode zb_Mo_use 11 = .ok (.iconst 0, 1) := by decide +kernel
theorem zd_Mo_use_12 : decode zb_Mo_use 12 = .ok (.putfield 74, 3) := by decide +kernel
theorem zd_Mo_use_15 : decode zb_Mo_use 15 = .ok (.aload_n 0, 1) := by decide +kernel
theorem zd_Mo_use_16 : decode zb_Mo_use 16 = .ok (.iconst 0, 1) := by decide +kernel
theorem zd_Mo_use_17 : decode zb_Mo_use 17 = .ok (.putfield 82, 3) := by decide +kernel
theorem zd_Mo_use_20 : decode zb_Mo_use 20 = .ok (.aload_n 0, 1) := by decide +kernel
theorem zd_Mo_use_21 : decode zb_Mo_use 21 = .ok (.invokevirtual 89, 3) := by decide +kernel
theorem zd_Mo_use_24 : decode zb_Mo_use 24 = .ok (.istore_n 1, 1) := by decide +kernel
theorem zd_Mo_use_25 : decode zb_Mo_use 25 = .ok (.aload_n 0, 1) := by decide +kernel
theorem zd_Mo_use_26 : decode zb_Mo_use 26 = .ok (.invokevirtual 89, 3) := by decide +kernel
theorem zd_Mo_use_29 : decode zb_Mo_use 29 = .ok (.istore_n 2, 1) := by decide +kernel
theorem zd_Mo_use_30 : decode zb_Mo_use 30 = .ok (.iload_n 1, 1) := by decide +kernel
theorem zd_Mo_use_31 : decode zb_Mo_use 31 = .ok (.aload_n 0, 1) := by decide +kernel
theorem zd_Mo_use_32 : decode zb_Mo_use 32 = .ok (.getfield 35, 3) := by decide +kernel
theorem zd_Mo_use_35 : decode zb_Mo_use 35 = .ok (.if_icmp .ne 9, 3) := by decide +kernel
theorem zd_Mo_use_38 : decode zb_Mo_use 38 = .ok (.iload_n 2, 1) := by decide +kernel
theorem zd_Mo_use_39 : decode zb_Mo_use 39 = .ok (.ldc 7, 2) := by decide +kernel
theorem zd_Mo_use_41 : decode zb_Mo_use 41 = .ok (.if_icmp .le 8, 3) := by decide +kernel
theorem zd_Mo_use_44 : decode zb_Mo_use 44 = .ok (.aload_n 0, 1) := by decide +kernel
theorem zd_Mo_use_45 : decode zb_Mo_use 45 = .ok (.iconst 1, 1) := by decide +kernel
theorem zd_Mo_use_46 : decode zb_Mo_use 46 = .ok (.putfield 74, 3) := by decide +kernel
theorem zd_Mo_use_49 : decode zb_Mo_use 49 = .ok (.aload_n 0, 1) := by decide +kernel
theorem zd_Mo_use_50 : decode zb_Mo_use 50 = .ok (.getfield 74, 3) := by decide +kernel
theorem zd_Mo_use_53 : decode zb_Mo_use 53 = .ok (.ifCond .ne 22, 3) := by decide +kernel
theorem zd_Mo_use_56 : decode zb_Mo_use 56 = .ok (.aload_n 0, 1) := by decide +kernel
theorem zd_Mo_use_57 : decode zb_Mo_use 57 = .ok (.getfield 71, 3) := by decide +kernel
theorem zd_Mo_use_60 : decode zb_Mo_use 60 = .ok (.aload_n 0, 1) := by decide +kernel
theorem zd_Mo_use_61 : decode zb_Mo_use 61 = .ok (.getfield 28, 3) := by decide +kernel
theorem zd_Mo_use_64 : decode zb_Mo_use 64 = .ok (.if_icmp .ge 11, 3) := by decide +kernel
theorem zd_Mo_use_67 : decode zb_Mo_use 67 = .ok (.aload_n 0, 1) := by decide +kernel
theorem zd_Mo_use_68 : decode zb_Mo_use 68 = .ok (.iload_n 2, 1) := by decide +kernel
theorem zd_Mo_use_69 : decode zb_Mo_use 69 = .ok (.invokevirtual 92, 3) := by decide +kernel
theorem zd_Mo_use_72 : decode zb_Mo_use 72 = .ok (.goto (-23), 3) := by decide +kernel
theorem zd_Mo_use_75 : decode zb_Mo_use 75 = .ok (.aload_n 0, 1) := by decide +kernel
theorem zd_Mo_use_76 : decode zb_Mo_use 76 = .ok (.getfield 74, 3) := by decide +kernel
theorem zd_Mo_use_79 : decode zb_Mo_use 79 = .ok (.ifCond .ne 11, 3) := by decide +kernel
theorem zd_Mo_use_82 : decode zb_Mo_use 82 = .ok (.aload_n 0, 1) := by decide +kernel
theorem zd_Mo_use_83 : decode zb_Mo_use 83 = .ok (.getfield 82, 3) := by decide +kernel
theorem zd_Mo_use_86 : decode zb_Mo_use 86 = .ok (.iload_n 2, 1) := by decide +kernel
theorem zd_Mo_use_87 : decode zb_Mo_use 87 = .ok (.if_icmp .eq 19, 3) := by decide +kernel
theorem zd_Mo_use_90 : decode zb_Mo_use 90 = .ok (.aload_n 0, 1) := by decide +kernel
theorem zd_Mo_use_91 : decode zb_Mo_use 91 = .ok (.dup, 1) := by decide +kernel
theorem zd_Mo_use_92 : decode zb_Mo_use 92 = .ok (.getfield 95, 3) := by decide +kernel
theorem zd_Mo_use_95 : decode zb_Mo_use 95 = .ok (.iconst 1, 1) := by decide +kernel
theorem zd_Mo_use_96 : decode zb_Mo_use 96 = .ok (.iadd, 1) := by decide +kernel
theorem zd_Mo_use_97 : decode zb_Mo_use 97 = .ok (.putfield 95, 3) := by decide +kernel
theorem zd_Mo_use_100 : decode zb_Mo_use 100 = .ok (.aload_n 0, 1) := by decide +kernel
theorem zd_Mo_use_101 : decode zb_Mo_use 101 = .ok (.iconst 1, 1) := by decide +kernel
theorem zd_Mo_use_102 : decode zb_Mo_use 102 = .ok (.invokevirtual 31, 3) := by decide +kernel
theorem zd_Mo_use_105 : decode zb_Mo_use 105 = .ok (.ireturn, 1) := by decide +kernel
theorem zd_Mo_use_106 : decode zb_Mo_use 106 = .ok (.iconst 0, 1) := by decide +kernel
theorem zd_Mo_use_107 : decode zb_Mo_use 107 = .ok (.istore_n 3, 1) := by decide +kernel
theorem zd_Mo_use_108 : decode zb_Mo_use 108 = .ok (.iload_n 3, 1) := by decide +kernel
theorem zd_Mo_use_109 : decode zb_Mo_use 109 = .ok (.aload_n 0, 1) := by decide +kernel
theorem zd_Mo_use_110 : decode zb_Mo_use 110 = .ok (.getfield 82, 3) := by decide +kernel
theorem zd_Mo_use_113 : decode zb_Mo_use 113 = .ok (.if_icmp .ge 21, 3) := by decide +kernel
theorem zd_Mo_use_116 : decode zb_Mo_use 116 = .ok (.aload_n 0, 1) := by decide +kernel
theorem zd_Mo_use_117 : decode zb_Mo_use 117 = .ok (.getfield 18, 3) := by decide +kernel
theorem zd_Mo_use_120 : decode zb_Mo_use 120 = .ok (.iload_n 3, 1) := by decide +kernel
theorem zd_Mo_use_121 : decode zb_Mo_use 121 = .ok (.aload_n 0, 1) := by decide +kernel
theorem zd_Mo_use_122 : decode zb_Mo_use 122 = .ok (.getfield 21, 3) := by decide +kernel
theorem zd_Mo_use_125 : decode zb_Mo_use 125 = .ok (.iload_n 3, 1) := by decide +kernel
theorem zd_Mo_use_126 : decode zb_Mo_use 126 = .ok (.baload, 1) := by decide +kernel
theorem zd_Mo_use_127 : decode zb_Mo_use 127 = .ok (.bastore, 1) := by decide +kernel
theorem zd_Mo_use_128 : decode zb_Mo_use 128 = .ok (.iinc 3 1, 3) := by decide +kernel
theorem zd_Mo_use_131 : decode zb_Mo_use 131 = .ok (.goto (-23), 3) := by decide +kernel
theorem zd_Mo_use_134 : decode zb_Mo_use 134 = .ok (.aload_n 0, 1) := by decide +kernel
theorem zd_Mo_use_135 : decode zb_Mo_use 135 = .ok (.aload_n 0, 1) := by decide +kernel
theorem zd_Mo_use_136 : decode zb_Mo_use 136 = .ok (.getfield 82, 3) := by decide +kernel
theorem zd_Mo_use_139 : decode zb_Mo_use 139 = .ok (.putfield 45, 3) := by decide +kernel
theorem zd_Mo_use_142 : decode zb_Mo_use 142 = .ok (.aload_n 0, 1) := by decide +kernel
theorem zd_Mo_use_143 : decode zb_Mo_use 143 = .ok (.getfield 45, 3) := by decide +kernel
theorem zd_Mo_use_146 : decode zb_Mo_use 146 = .ok (.ireturn, 1) := by decide +kernel
theorem zd_Mo_number_0 : decode zb_Mo_number 0 = .ok (.iconst 0, 1) := by decide +kernel
theorem zd_Mo_number_1 : decode zb_Mo_number 1 = .ok (.istore_n 1, 1) := by decide +kernel
theorem zd_Mo_number_2 : decode zb_Mo_number 2 = .ok (.iconst 0, 1) := by decide +kernel
theorem zd_Mo_number_3 : decode zb_Mo_number 3 = .ok (.istore_n 2, 1) := by decide +kernel
theorem zd_Mo_number_4 : decode zb_Mo_number 4 = .ok (.iload_n 2, 1) := by decide +kernel
theorem zd_Mo_number_5 : decode zb_Mo_number 5 = .ok (.iconst 4, 1) := by decide +kernel
theorem zd_Mo_number_6 : decode zb_Mo_number 6 = .ok (.if_icmp .ge 35, 3) := by decide +kernel
theorem zd_Mo_number_9 : decode zb_Mo_number 9 = .ok (.aload_n 0, 1) := by decide +kernel
theorem zd_Mo_number_10 : decode zb_Mo_number 10 = .ok (.invokevirtual 78, 3) := by decide +kernel
theorem zd_Mo_number_13 : decode zb_Mo_number 13 = .ok (.istore_n 3, 1) := by decide +kernel
theorem zd_Mo_number_14 : decode zb_Mo_number 14 = .ok (.iload_n 1, 1) := by decide +kernel
theorem zd_Mo_number_15 : decode zb_Mo_number 15 = .ok (.iload_n 3, 1) := by decide +kernel
theorem zd_Mo_number_16 : decode zb_Mo_number 16 = .ok (.bipush 127, 2) := by decide +kernel
theorem zd_Mo_number_18 : decode zb_Mo_number 18 = .ok (.iand, 1) := by decide +kernel
theorem zd_Mo_number_19 : decode zb_Mo_number 19 = .ok (.bipush 7, 2) := by decide +kernel
theorem zd_Mo_number_21 : decode zb_Mo_number 21 = .ok (.iload_n 2, 1) := by decide +kernel
theorem zd_Mo_number_22 : decode zb_Mo_number 22 = .ok (.imul, 1) := by decide +kernel
theorem zd_Mo_number_23 : decode zb_Mo_number 23 = .ok (.ishl, 1) := by decide +kernel
theorem zd_Mo_number_24 : decode zb_Mo_number 24 = .ok (.iadd, 1) := by decide +kernel
theorem zd_Mo_number_25 : decode zb_Mo_number 25 = .ok (.istore_n 1, 1) := by decide +kernel
theorem zd_Mo_number_26 : decode zb_Mo_number 26 = .ok (.iload_n 3, 1) := by decide +kernel
theorem zd_Mo_number_27 : decode zb_Mo_number 27 = .ok (.sipush 128, 3) := by decide +kernel
theorem zd_Mo_number_30 : decode zb_Mo_number 30 = .ok (.if_icmp .ge 5, 3) := by decide +kernel
theorem zd_Mo_number_33 : decode zb_Mo_number 33 = .ok (.iload_n 1, 1) := by decide +kernel
theorem zd_Mo_number_34 : decode zb_Mo_number 34 = .ok (.ireturn, 1) := by decide +kernel
theorem zd_Mo_number_35 : decode zb_Mo_number 35 = .ok (.iinc 2 1, 3) := by decide +kernel
theorem zd_Mo_number_38 : decode zb_Mo_number 38 = .ok (.goto (-34), 3) := by decide +kernel
theorem zd_Mo_number_41 : decode zb_Mo_number 41 = .ok (.aload_n 0, 1) := by decide +kernel
theorem zd_Mo_number_42 : decode zb_Mo_number 42 = .ok (.iconst 1, 1) := by decide +kernel
theorem zd_Mo_number_43 : decode zb_Mo_number 43 = .ok (.putfield 74, 3) := by decide +kernel
theorem zd_Mo_number_46 : decode zb_Mo_number 46 = .ok (.iconst 0, 1) := by decide +kernel
theorem zd_Mo_number_47 : decode zb_Mo_number 47 = .ok (.ireturn, 1) := by decide +kernel
theorem zd_Mo_next_0 : decode zb_Mo_next 0 = .ok (.aload_n 0, 1) := by decide +kernel
theorem zd_Mo_next_1 : decode zb_Mo_next 1 = .ok (.getfield 71, 3) := by decide +kernel
theorem zd_Mo_next_4 : decode zb_Mo_next 4 = .ok (.aload_n 0, 1) := by decide +kernel
theorem zd_Mo_next_5 : decode zb_Mo_next 5 = .ok (.getfield 28, 3) := by decide +kernel
theorem zd_Mo_next_8 : decode zb_Mo_next 8 = .ok (.if_icmp .lt 8, 3) := by decide +kernel
theorem zd_Mo_next_11 : decode zb_Mo_next 11 = .ok (.aload_n 0, 1) := by decide +kernel
theorem zd_Mo_next_12 : decode zb_Mo_next 12 = .ok (.iconst 1, 1) := by decide +kernel
theorem zd_Mo_next_13 : decode zb_Mo_next 13 = .ok (.putfield 74, 3) := by decide +kernel
theorem zd_Mo_next_16 : decode zb_Mo_next 16 = .ok (.aload_n 0, 1) := by decide +kernel
theorem zd_Mo_next_17 : decode zb_Mo_next 17 = .ok (.getfield 74, 3) := by decide +kernel
theorem zd_Mo_next_20 : decode zb_Mo_next 20 = .ok (.ifCond .eq 5, 3) := by decide +kernel
theorem zd_Mo_next_23 : decode zb_Mo_next 23 = .ok (.iconst 0, 1) := by decide +kernel
theorem zd_Mo_next_24 : decode zb_Mo_next 24 = .ok (.ireturn, 1) := by decide +kernel
theorem zd_Mo_next_25 : decode zb_Mo_next 25 = .ok (.aload_n 0, 1) := by decide +kernel
theorem zd_Mo_next_26 : decode zb_Mo_next 26 = .ok (.dup, 1) := by decide +kernel
theorem zd_Mo_next_27 : decode zb_Mo_next 27 = .ok (.getfield 71, 3) := by decide +kernel
theorem zd_Mo_next_30 : decode zb_Mo_next 30 = .ok (.iconst 1, 1) := by decide +kernel
theorem zd_Mo_next_31 : decode zb_Mo_next 31 = .ok (.iadd, 1) := by decide +kernel
theorem zd_Mo_next_32 : decode zb_Mo_next 32 = .ok (.putfield 71, 3) := by decide +kernel
theorem zd_Mo_next_35 : decode zb_Mo_next 35 = .ok (.aload_n 0, 1) := by decide +kernel
theorem zd_Mo_next_36 : decode zb_Mo_next 36 = .ok (.getfield 8, 3) := by decide +kernel
theorem zd_Mo_next_39 : decode zb_Mo_next 39 = .ok (.aload_n 0, 1) := by decide +kernel
theorem zd_Mo_next_40 : decode zb_Mo_next 40 = .ok (.getfield 71, 3) := by decide +kernel
theorem zd_Mo_next_43 : decode zb_Mo_next 43 = .ok (.iconst 1, 1) := by decide +kernel
theorem zd_Mo_next_44 : decode zb_Mo_next 44 = .ok (.isub, 1) := by decide +kernel
theorem zd_Mo_next_45 : decode zb_Mo_next 45 = .ok (.baload, 1) := by decide +kernel
theorem zd_Mo_next_46 : decode zb_Mo_next 46 = .ok (.sipush 255, 3) := by decide +kernel
theorem zd_Mo_next_49 : decode zb_Mo_next 49 = .ok (.iand, 1) := by decide +kernel
theorem zd_Mo_next_50 : decode zb_Mo_next 50 = .ok (.ireturn, 1) := by decide +kernel
