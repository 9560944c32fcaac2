theorem zd_Su_goToNextSuffix_0 : decode zb_Su_goToNextSuffix 0 = .ok (.aload_n 0, 1) := by decide +kernel
theorem zd_Su_goToNextSuffix_1 : decode zb_Su_goToNextSuffix 1 = .ok (.getfield 46, 3) := by decide +kernel
theorem zd_Su_goToNextSuffix_4 : decode zb_Su_goToNextSuffix 4 = .ok (.ifCond .eq 19, 3) := by decide +kernel
theorem zd_Su_goToNextSuffix_7 : decode zb_Su_goToNextSuffix 7 = .ok (.aload_n 0, 1) := by decide +kernel
theorem zd_Su_goToNextSuffix_8 : decode zb_Su_goToNextSuffix 8 = .ok (.aload_n 0, 1) := by decide +kernel
theorem zd_Su_goToNextSuffix_9 : decode zb_Su_goToNextSuffix 9 = .ok (.getfield 30, 3) := by decide +kernel
theorem zd_Su_goToNextSuffix_12 : decode zb_Su_goToNextSuffix 12 = .ok (.aload_n 0, 1) := by decide +kernel
theorem zd_Su_goToNextSuffix_13 : decode zb_Su_goToNextSuffix 13 = .ok (.getfield 46, 3) := by decide +kernel
theorem zd_Su_goToNextSuffix_16 : decode zb_Su_goToNextSuffix 16 = .ok (.iaload, 1) := by decide +kernel
theorem zd_Su_goToNextSuffix_17 : decode zb_Su_goToNextSuffix 17 = .ok (.putfield 46, 3) := by decide +kernel
theorem zd_Su_goToNextSuffix_20 : decode zb_Su_goToNextSuffix 20 = .ok (.goto 20, 3) := by decide +kernel
theorem zd_Su_goToNextSuffix_23 : decode zb_Su_goToNextSuffix 23 = .ok (.aload_n 0, 1) := by decide +kernel
theorem zd_Su_goToNextSuffix_24 : decode zb_Su_goToNextSuffix 24 = .ok (.getfield 49, 3) := by decide +kernel
theorem zd_Su_goToNextSuffix_27 : decode zb_Su_goToNextSuffix 27 = .ok (.ifCond .le 13, 3) := by decide +kernel
theorem zd_Su_goToNextSuffix_30 : decode zb_Su_goToNextSuffix 30 = .ok (.aload_n 0, 1) := by decide +kernel
theorem zd_Su_goToNextSuffix_31 : decode zb_Su_goToNextSuffix 31 = .ok (.dup, 1) := by decide +kernel
theorem zd_Su_goToNextSuffix_32 : decode zb_Su_goToNextSuffix 32 = .ok (.getfield 49, 3) := by decide +kernel
theorem zd_Su_goToNextSuffix_35 : decode zb_Su_goToNextSuffix 35 = .ok (.iconst 1, 1) := by decide +kernel
theorem zd_Su_goToNextSuffix_36 : decode zb_Su_goToNextSuffix 36 = .ok (.isub, 1) := by decide +kernel
theorem zd_Su_goToNextSuffix_37 : decode zb_Su_goToNextSuffix 37 = .ok (.putfield 49, 3) := by decide +kernel
theorem zd_Su_goToNextSuffix_40 : decode zb_Su_goToNextSuffix 40 = .ok (.return_, 1) := by decide +kernel
theorem zd_Su_find_0 : decode zb_Su_find 0 = .ok (.aload_n 1, 1) := by decide +kernel
theorem zd_Su_find_1 : decode zb_Su_find 1 = .ok (.invokevirtual 61, 3) := by decide +kernel
theorem zd_Su_find_4 : decode zb_Su_find 4 = .ok (.astore 4, 2) := by decide +kernel
theorem zd_Su_find_6 : decode zb_Su_find 6 = .ok (.aload_n 1, 1) := by decide +kernel
theorem zd_Su_find_7 : decode zb_Su_find 7 = .ok (.invokevirtual 67, 3) := by decide +kernel
theorem zd_Su_find_10 : decode zb_Su_find 10 = .ok (.iload_n 2, 1) := by decide +kernel
theorem zd_Su_find_11 : decode zb_Su_find 11 = .ok (.isub, 1) := by decide +kernel
theorem zd_Su_find_12 : decode zb_Su_find 12 = .ok (.iload_n 3, 1) := by decide +kernel
theorem zd_Su_find_13 : decode zb_Su_find 13 = .ok (.invokestatic 115, 3) := by decide +kernel
theorem zd_Su_find_16 : decode zb_Su_find 16 = .ok (.istore 5, 2) := by decide +kernel
theorem zd_Su_find_18 : decode zb_Su_find 18 = .ok (.iconst 0, 1) := by decide +kernel
theorem zd_Su_find_19 : decode zb_Su_find 19 = .ok (.istore 6, 2) := by decide +kernel
theorem zd_Su_find_21 : decode zb_Su_find 21 = .ok (.aload_n 0, 1) := by decide +kernel
theorem zd_Su_find_22 : decode zb_Su_find 22 = .ok (.iconst 0, 1) := by decide +kernel
theorem zd_Su_find_23 : decode zb_Su_find 23 = .ok (.putfield 55, 3) := by decide +kernel
theorem zd_Su_find_26 : decode zb_Su_find 26 = .ok (.aload_n 0, 1) := by decide +kernel
theorem zd_Su_find_27 : decode zb_Su_find 27 = .ok (.iconst (-1), 1) := by decide +kernel
theorem zd_Su_find_28 : decode zb_Su_find 28 = .ok (.putfield 58, 3) := by decide +kernel
theorem zd_Su_find_31 : decode zb_Su_find 31 = .ok (.aload_n 0, 1) := by decide +kernel
theorem zd_Su_find_32 : decode zb_Su_find 32 = .ok (.getfield 55, 3) := by decide +kernel
theorem zd_Su_find_35 : decode zb_Su_find 35 = .ok (.iload 5, 2) := by decide +kernel
theorem zd_Su_find_37 : decode zb_Su_find 37 = .ok (.if_icmp .ge 135, 3) := by decide +kernel
theorem zd_Su_find_40 : decode zb_Su_find 40 = .ok (.aload_n 0, 1) := by decide +kernel
theorem zd_Su_find_41 : decode zb_Su_find 41 = .ok (.getfield 37, 3) := by decide +kernel
theorem zd_Su_find_44 : decode zb_Su_find 44 = .ok (.aload_n 0, 1) := by decide +kernel
theorem zd_Su_find_45 : decode zb_Su_find 45 = .ok (.iload 6, 2) := by decide +kernel
theorem zd_Su_find_47 : decode zb_Su_find 47 = .ok (.aload 4, 2) := by decide +kernel
theorem zd_Su_find_49 : decode zb_Su_find 49 = .ok (.iload_n 2, 1) := by decide +kernel
theorem zd_Su_find_50 : decode zb_Su_find 50 = .ok (.aload_n 0, 1) := by decide +kernel
theorem zd_Su_find_51 : decode zb_Su_find 51 = .ok (.getfield 55, 3) := by decide +kernel
theorem zd_Su_find_54 : decode zb_Su_find 54 = .ok (.iadd, 1) := by decide +kernel
theorem zd_Su_find_55 : decode zb_Su_find 55 = .ok (.baload, 1) := by decide +kernel
theorem zd_Su_find_56 : decode zb_Su_find 56 = .ok (.invokevirtual 106, 3) := by decide +kernel
theorem zd_Su_find_59 : decode zb_Su_find 59 = .ok (.iaload, 1) := by decide +kernel
theorem zd_Su_find_60 : decode zb_Su_find 60 = .ok (.istore 7, 2) := by decide +kernel
theorem zd_Su_find_62 : decode zb_Su_find 62 = .ok (.iload 7, 2) := by decide +kernel
theorem zd_Su_find_64 : decode zb_Su_find 64 = .ok (.ifCond .ne 6, 3) := by decide +kernel
theorem zd_Su_find_67 : decode zb_Su_find 67 = .ok (.goto 105, 3) := by decide +kernel
theorem zd_Su_find_70 : decode zb_Su_find 70 = .ok (.aload_n 0, 1) := by decide +kernel
theorem zd_Su_find_71 : decode zb_Su_find 71 = .ok (.getfield 24, 3) := by decide +kernel
theorem zd_Su_find_74 : decode zb_Su_find 74 = .ok (.iload 7, 2) := by decide +kernel
theorem zd_Su_find_76 : decode zb_Su_find 76 = .ok (.iaload, 1) := by decide +kernel
theorem zd_Su_find_77 : decode zb_Su_find 77 = .ok (.aload_n 0, 1) := by decide +kernel
theorem zd_Su_find_78 : decode zb_Su_find 78 = .ok (.getfield 20, 3) := by decide +kernel
theorem zd_Su_find_81 : decode zb_Su_find 81 = .ok (.iload 7, 2) := by decide +kernel
theorem zd_Su_find_83 : decode zb_Su_find 83 = .ok (.iaload, 1) := by decide +kernel
theorem zd_Su_find_84 : decode zb_Su_find 84 = .ok (.isub, 1) := by decide +kernel
theorem zd_Su_find_85 : decode zb_Su_find 85 = .ok (.istore 8, 2) := by decide +kernel
theorem zd_Su_find_87 : decode zb_Su_find 87 = .ok (.aload_n 0, 1) := by decide +kernel
theorem zd_Su_find_88 : decode zb_Su_find 88 = .ok (.aload_n 0, 1) := by decide +kernel
theorem zd_Su_find_89 : decode zb_Su_find 89 = .ok (.getfield 20, 3) := by decide +kernel
theorem zd_Su_find_92 : decode zb_Su_find 92 = .ok (.iload 7, 2) := by decide +kernel
theorem zd_Su_find_94 : decode zb_Su_find 94 = .ok (.iaload, 1) := by decide +kernel
theorem zd_Su_find_95 : decode zb_Su_find 95 = .ok (.aload_n 0, 1) := by decide +kernel
theorem zd_Su_find_96 : decode zb_Su_find 96 = .ok (.getfield 55, 3) := by decide +kernel
theorem zd_Su_find_99 : decode zb_Su_find 99 = .ok (.isub, 1) := by decide +kernel
theorem zd_Su_find_100 : decode zb_Su_find 100 = .ok (.putfield 58, 3) := by decide +kernel
theorem zd_Su_find_103 : decode zb_Su_find 103 = .ok (.iconst 1, 1) := by decide +kernel
theorem zd_Su_find_104 : decode zb_Su_find 104 = .ok (.aload_n 0, 1) := by decide +kernel
theorem zd_Su_find_105 : decode zb_Su_find 105 = .ok (.aload_n 0, 1) := by decide +kernel
theorem zd_Su_find_106 : decode zb_Su_find 106 = .ok (.getfield 20, 3) := by decide +kernel
theorem zd_Su_find_109 : decode zb_Su_find 109 = .ok (.iload 7, 2) := by decide +kernel
theorem zd_Su_find_111 : decode zb_Su_find 111 = .ok (.iaload, 1) := by decide +kernel
theorem zd_Su_find_112 : decode zb_Su_find 112 = .ok (.iconst 1, 1) := by decide +kernel
theorem zd_Su_find_113 : decode zb_Su_find 113 = .ok (.iadd, 1) := by decide +kernel
theorem zd_Su_find_114 : decode zb_Su_find 114 = .ok (.aload 4, 2) := by decide +kernel
theorem zd_Su_find_116 : decode zb_Su_find 116 = .ok (.iload_n 2, 1) := by decide +kernel
theorem zd_Su_find_117 : decode zb_Su_find 117 = .ok (.aload_n 0, 1) := by decide +kernel
theorem zd_Su_find_118 : decode zb_Su_find 118 = .ok (.getfield 55, 3) := by decide +kernel
theorem zd_Su_find_121 : decode zb_Su_find 121 = .ok (.iadd, 1) := by decide +kernel
theorem zd_Su_find_122 : decode zb_Su_find 122 = .ok (.iconst 1, 1) := by decide +kernel
theorem zd_Su_find_123 : decode zb_Su_find 123 = .ok (.iadd, 1) := by decide +kernel
theorem zd_Su_find_124 : decode zb_Su_find 124 = .ok (.iload 8, 2) := by decide +kernel
theorem zd_Su_find_126 : decode zb_Su_find 126 = .ok (.iload 5, 2) := by decide +kernel
theorem zd_Su_find_128 : decode zb_Su_find 128 = .ok (.aload_n 0, 1) := by decide +kernel
theorem zd_Su_find_129 : decode zb_Su_find 129 = .ok (.getfield 55, 3) := by decide +kernel
theorem zd_Su_find_132 : decode zb_Su_find 132 = .ok (.isub, 1) := by decide +kernel
theorem zd_Su_find_133 : decode zb_Su_find 133 = .ok (.invokestatic 115, 3) := by decide +kernel
theorem zd_Su_find_136 : decode zb_Su_find 136 = .ok (.iconst 1, 1) := by decide +kernel
theorem zd_Su_find_137 : decode zb_Su_find 137 = .ok (.isub, 1) := by decide +kernel
theorem zd_Su_find_138 : decode zb_Su_find 138 = .ok (.invokevirtual 118, 3) := by decide +kernel
theorem zd_Su_find_141 : decode zb_Su_find 141 = .ok (.iadd, 1) := by decide +kernel
theorem zd_Su_find_142 : decode zb_Su_find 142 = .ok (.istore 9, 2) := by decide +kernel
theorem zd_Su_find_144 : decode zb_Su_find 144 = .ok (.aload_n 0, 1) := by decide +kernel
theorem zd_Su_find_145 : decode zb_Su_find 145 = .ok (.dup, 1) := by decide +kernel
theorem zd_Su_find_146 : decode zb_Su_find 146 = .ok (.getfield 55, 3) := by decide +kernel
theorem zd_Su_find_149 : decode zb_Su_find 149 = .ok (.iload 9, 2) := by decide +kernel
theorem zd_Su_find_151 : decode zb_Su_find 151 = .ok (.iadd, 1) := by decide +kernel
theorem zd_Su_find_152 : decode zb_Su_find 152 = .ok (.putfield 55, 3) := by decide +kernel
theorem zd_Su_find_155 : decode zb_Su_find 155 = .ok (.iload 9, 2) := by decide +kernel
theorem zd_Su_find_157 : decode zb_Su_find 157 = .ok (.iload 8, 2) := by decide +kernel
theorem zd_Su_find_159 : decode zb_Su_find 159 = .ok (.if_icmp .ge 6, 3) := by decide +kernel
theorem zd_Su_find_162 : decode zb_Su_find 162 = .ok (.goto 10, 3) := by decide +kernel
theorem zd_Su_find_165 : decode zb_Su_find 165 = .ok (.iload 7, 2) := by decide +kernel
theorem zd_Su_find_167 : decode zb_Su_find 167 = .ok (.istore 6, 2) := by decide +kernel
theorem zd_Su_find_169 : decode zb_Su_find 169 = .ok (.goto (-138), 3) := by decide +kernel
theorem zd_Su_find_172 : decode zb_Su_find 172 = .ok (.return_, 1) := by decide +kernel
theorem zd_Su_sameLetters_0 : decode zb_Su_sameLetters 0 = .ok (.iconst 0, 1) := by decide +kernel
theorem zd_Su_sameLetters_1 : decode zb_Su_sameLetters 1 = .ok (.istore 5, 2) := by decide +kernel
theorem zd_Su_sameLetters_3 : decode zb_Su_sameLetters 3 = .ok (.iload 5, 2) := by decide +kernel
theorem zd_Su_sameLetters_5 : decode zb_Su_sameLetters 5 = .ok (.iload 4, 2) := by decide +kernel
theorem zd_Su_sameLetters_7 : decode zb_Su_sameLetters 7 = .ok (.if_icmp .ge 27, 3) := by decide +kernel
theorem zd_Su_sameLetters_10 : decode zb_Su_sameLetters 10 = .ok (.aload_n 0, 1) := by decide +kernel
theorem zd_Su_sameLetters_11 : decode zb_Su_sameLetters 11 = .ok (.getfield 9, 3) := by decide +kernel
theorem zd_Su_sameLetters_14 : decode zb_Su_sameLetters 14 = .ok (.iload_n 1, 1) := by decide +kernel
theorem zd_Su_sameLetters_15 : decode zb_Su_sameLetters 15 = .ok (.iload 5, 2) := by decide +kernel
theorem zd_Su_sameLetters_17 : decode zb_Su_sameLetters 17 = .ok (.iadd, 1) := by decide +kernel
theorem zd_Su_sameLetters_18 : decode zb_Su_sameLetters 18 = .ok (.baload, 1) := by decide +kernel
theorem zd_Su_sameLetters_19 : decode zb_Su_sameLetters 19 = .ok (.aload_n 2, 1) := by decide +kernel
theorem zd_Su_sameLetters_20 : decode zb_Su_sameLetters 20 = .ok (.iload_n 3, 1) := by decide +kernel
theorem zd_Su_sameLetters_21 : decode zb_Su_sameLetters 21 = .ok (.iload 5, 2) := by decide +kernel
theorem zd_Su_sameLetters_23 : decode zb_Su_sameLetters 23 = .ok (.iadd, 1) := by decide +kernel
theorem zd_Su_sameLetters_24 : decode zb_Su_sameLetters 24 = .ok (.baload, 1) := by decide +kernel
theorem zd_Su_sameLetters_25 : decode zb_Su_sameLetters 25 = .ok (.if_icmp .ne 9, 3) := by decide +kernel
theorem zd_Su_sameLetters_28 : decode zb_Su_sameLetters 28 = .ok (.iinc 5 1, 3) := by decide +kernel
theorem zd_Su_sameLetters_31 : decode zb_Su_sameLetters 31 = .ok (.goto (-28), 3) := by decide +kernel
theorem zd_Su_sameLetters_34 : decode zb_Su_sameLetters 34 = .ok (.iload 5, 2) := by decide +kernel
theorem zd_Su_sameLetters_36 : decode zb_Su_sameLetters 36 = .ok (.ireturn, 1) := by decide +kernel
theorem zd_Su_foundLength_0 : decode zb_Su_foundLength 0 = .ok (.aload_n 0, 1) := by decide +kernel
theorem zd_Su_foundLength_1 : decode zb_Su_foundLength 1 = .ok (.getfield 55, 3) := by decide +kernel
theorem zd_Su_foundLength_4 : decode zb_Su_foundLength 4 = .ok (.ireturn, 1) := by decide +kernel
theorem zd_Pr_writeNew_0 : decode zb_Pr_writeNew 0 = .ok (.iload_n 1, 1) := by decide +kernel
theorem zd_Pr_writeNew_1 : decode zb_Pr_writeNew 1 = .ok (.istore_n 3, 1) := by decide +kernel
theorem zd_Pr_writeNew_2 : decode zb_Pr_writeNew 2 = .ok (.iload_n 3, 1) := by decide +kernel
theorem zd_Pr_writeNew_3 : decode zb_Pr_writeNew 3 = .ok (.iload_n 2, 1) := by decide +kernel
theorem zd_Pr_writeNew_4 : decode zb_Pr_writeNew 4 = .ok (.if_icmp .ge 42, 3) := by decide +kernel
theorem zd_Pr_writeNew_7 : decode zb_Pr_writeNew 7 = .ok (.bipush 127, 2) := by decide +kernel
theorem zd_Pr_writeNew_9 : decode zb_Pr_writeNew 9 = .ok (.iload_n 2, 1) := by decide +kernel
theorem zd_Pr_writeNew_10 : decode zb_Pr_writeNew 10 = .ok (.iload_n 3, 1) := by decide +kernel
theorem zd_Pr_writeNew_11 : decode zb_Pr_writeNew 11 = .ok (.isub, 1) := by decide +kernel
theorem zd_Pr_writeNew_12 : decode zb_Pr_writeNew 12 = .ok (.invokestatic 142, 3) := by decide +kernel
theorem zd_Pr_writeNew_15 : decode zb_Pr_writeNew 15 = .ok (.istore 4, 2) := by decide +kernel
theorem zd_Pr_writeNew_17 : decode zb_Pr_writeNew 17 = .ok (.aload_n 0, 1) := by decide +kernel
theorem zd_Pr_writeNew_18 : decode zb_Pr_writeNew 18 = .ok (.getfield 23, 3) := by decide +kernel
theorem zd_Pr_writeNew_21 : decode zb_Pr_writeNew 21 = .ok (.iload 4, 2) := by decide +kernel
theorem zd_Pr_writeNew_23 : decode zb_Pr_writeNew 23 = .ok (.invokevirtual 148, 3) := by decide +kernel
theorem zd_Pr_writeNew_26 : decode zb_Pr_writeNew 26 = .ok (.aload_n 0, 1) := by decide +kernel
theorem zd_Pr_writeNew_27 : decode zb_Pr_writeNew 27 = .ok (.getfield 23, 3) := by decide +kernel
theorem zd_Pr_writeNew_30 : decode zb_Pr_writeNew 30 = .ok (.aload_n 0, 1) := by decide +kernel
theorem zd_Pr_writeNew_31 : decode zb_Pr_writeNew 31 = .ok (.getfield 15, 3) := by decide +kernel
theorem zd_Pr_writeNew_34 : decode zb_Pr_writeNew 34 = .ok (.iload_n 3, 1) := by decide +kernel
theorem zd_Pr_writeNew_35 : decode zb_Pr_writeNew 35 = .ok (.iload 4, 2) := by decide +kernel
theorem zd_Pr_writeNew_37 : decode zb_Pr_writeNew 37 = .ok (.invokevirtual 119, 3) := by decide +kernel
theorem zd_Pr_writeNew_40 : decode zb_Pr_writeNew 40 = .ok (.iinc 3 127, 3) := by decide +kernel
theorem zd_Pr_writeNew_43 : decode zb_Pr_writeNew 43 = .ok (.goto (-41), 3) := by decide +kernel
theorem zd_Pr_writeNew_46 : decode zb_Pr_writeNew 46 = .ok (.aload_n 0, 1) := by decide +kernel
theorem zd_Pr_writeNew_47 : decode zb_Pr_writeNew 47 = .ok (.dup, 1) := by decide +kernel
theorem zd_Pr_writeNew_48 : decode zb_Pr_writeNew 48 = .ok (.getfield 51, 3) := by decide +kernel
theorem zd_Pr_writeNew_51 : decode zb_Pr_writeNew 51 = .ok (.iload_n 2, 1) := by decide +kernel
theorem zd_Pr_writeNew_52 : decode zb_Pr_writeNew 52 = .ok (.iload_n 1, 1) := by decide +kernel
theorem zd_Pr_writeNew_53 : decode zb_Pr_writeNew 53 = .ok (.isub, 1) := by decide +kernel
theorem zd_Pr_writeNew_54 : decode zb_Pr_writeNew 54 = .ok (.iadd, 1) := by decide +kernel
theorem zd_Pr_writeNew_55 : decode zb_Pr_writeNew 55 = .ok (.putfield 51, 3) := by decide +kernel
theorem zd_Pr_writeNew_58 : decode zb_Pr_writeNew 58 = .ok (.return_, 1) := by decide +kernel
theorem zd_Tx_addPart_0 : decode zb_Tx_addPart 0 = .ok (.aload_n 1, 1) := by decide +kernel
theorem zd_Tx_addPart_1 : decode zb_Tx_addPart 1 = .ok (.getfield 13, 3) := by decide +kernel
theorem zd_Tx_addPart_4 : decode zb_Tx_addPart 4 = .ok (.iload_n 2, 1) := by decide +kernel
theorem zd_Tx_addPart_5 : decode zb_Tx_addPart 5 = .ok (.aload_n 0, 1) := by decide +kernel
theorem zd_Tx_addPart_6 : decode zb_Tx_addPart 6 = .ok (.getfield 13, 3) := by decide +kernel
theorem zd_Tx_addPart_9 : decode zb_Tx_addPart 9 = .ok (.aload_n 0, 1) := by decide +kernel
theorem zd_Tx_addPart_10 : decode zb_Tx_addPart 10 = .ok (.getfield 7, 3) := by decide +kernel
theorem zd_Tx_addPart_13 : decode zb_Tx_addPart 13 = .ok (.iload_n 3, 1) := by decide +kernel
theorem zd_Tx_addPart_14 : decode zb_Tx_addPart 14 = .ok (.invokestatic 21, 3) := by decide +kernel
theorem zd_Tx_addPart_17 : decode zb_Tx_addPart 17 = .ok (.aload_n 0, 1) := by decide +kernel
theorem zd_Tx_addPart_18 : decode zb_Tx_addPart 18 = .ok (.dup, 1) := by decide +kernel
theorem zd_Tx_addPart_19 : decode zb_Tx_addPart 19 = .ok (.getfield 7, 3) := by decide +kernel
theorem zd_Tx_addPart_22 : decode zb_Tx_addPart 22 = .ok (.iload_n 3, 1) := by decide +kernel
theorem zd_Tx_addPart_23 : decode zb_Tx_addPart 23 = .ok (.iadd, 1) := by decide +kernel
theorem zd_Tx_addPart_24 : decode zb_Tx_addPart 24 = .ok (.putfield 7, 3) := by decide +kernel
theorem zd_Tx_addPart_27 : decode zb_Tx_addPart 27 = .ok (.return_, 1) := by decide +kernel
theorem zd_Su_foundPlace_0 : decode zb_Su_foundPlace 0 = .ok (.aload_n 0, 1) := by decide +kernel
theorem zd_Su_foundPlace_1 : decode zb_Su_foundPlace 1 = .ok (.getfield 58, 3) := by decide +kernel
theorem zd_Su_foundPlace_4 : decode zb_Su_foundPlace 4 = .ok (.ireturn, 1) := by decide +kernel
theorem zd_Pr_writeCopy_0 : decode zb_Pr_writeCopy 0 = .ok (.iload_n 1, 1) := by decide +kernel
theorem zd_Pr_writeCopy_1 : decode zb_Pr_writeCopy 1 = .ok (.iconst 4, 1) := by decide +kernel
theorem zd_Pr_writeCopy_2 : decode zb_Pr_writeCopy 2 = .ok (.invokestatic 151, 3) := by decide +kernel
theorem zd_Pr_writeCopy_5 : decode zb_Pr_writeCopy 5 = .ok (.iload_n 2, 1) := by decide +kernel
theorem zd_Pr_writeCopy_6 : decode zb_Pr_writeCopy 6 = .ok (.iconst 2, 1) := by decide +kernel
theorem zd_Pr_writeCopy_7 : decode zb_Pr_writeCopy 7 = .ok (.invokestatic 151, 3) := by decide +kernel
theorem zd_Pr_writeCopy_10 : decode zb_Pr_writeCopy 10 = .ok (.iconst 4, 1) := by decide +kernel
theorem zd_Pr_writeCopy_11 : decode zb_Pr_writeCopy 11 = .ok (.ishl, 1) := by decide +kernel
theorem zd_Pr_writeCopy_12 : decode zb_Pr_writeCopy 12 = .ok (.ior, 1) := by decide +kernel
theorem zd_Pr_writeCopy_13 : decode zb_Pr_writeCopy 13 = .ok (.istore_n 3, 1) := by decide +kernel
theorem zd_Pr_writeCopy_14 : decode zb_Pr_writeCopy 14 = .ok (.aload_n 0, 1) := by decide +kernel
theorem zd_Pr_writeCopy_15 : decode zb_Pr_writeCopy 15 = .ok (.getfield 23, 3) := by decide +kernel
theorem zd_Pr_writeCopy_18 : decode zb_Pr_writeCopy 18 = .ok (.sipush 128, 3) := by decide +kernel
theorem zd_Pr_writeCopy_21 : decode zb_Pr_writeCopy 21 = .ok (.iload_n 3, 1) := by decide +kernel
theorem zd_Pr_writeCopy_22 : decode zb_Pr_writeCopy 22 = .ok (.ior, 1) := by decide +kernel
theorem zd_Pr_writeCopy_23 : decode zb_Pr_writeCopy 23 = .ok (.invokevirtual 148, 3) := by decide +kernel
theorem zd_Pr_writeCopy_26 : decode zb_Pr_writeCopy 26 = .ok (.aload_n 0, 1) := by decide +kernel
theorem zd_Pr_writeCopy_27 : decode zb_Pr_writeCopy 27 = .ok (.getfield 23, 3) := by decide +kernel
theorem zd_Pr_writeCopy_30 : decode zb_Pr_writeCopy 30 = .ok (.iload_n 1, 1) := by decide +kernel
theorem zd_Pr_writeCopy_31 : decode zb_Pr_writeCopy 31 = .ok (.iconst 4, 1) := by decide +kernel
theorem zd_Pr_writeCopy_32 : decode zb_Pr_writeCopy 32 = .ok (.invokevirtual 154, 3) := by decide +kernel
theorem zd_Pr_writeCopy_35 : decode zb_Pr_writeCopy 35 = .ok (.aload_n 0, 1) := by decide +kernel
theorem zd_Pr_writeCopy_36 : decode zb_Pr_writeCopy 36 = .ok (.getfield 23, 3) := by decide +kernel
theorem zd_Pr_writeCopy_39 : decode zb_Pr_writeCopy 39 = .ok (.iload_n 2, 1) := by decide +kernel
theorem zd_Pr_writeCopy_40 : decode zb_Pr_writeCopy 40 = .ok (.iconst 2, 1) := by decide +kernel
theorem zd_Pr_writeCopy_41 : decode zb_Pr_writeCopy 41 = .ok (.invokevirtual 154, 3) := by decide +kernel
theorem zd_Pr_writeCopy_44 : decode zb_Pr_writeCopy 44 = .ok (.aload_n 0, 1) := by decide +kernel
theorem zd_Pr_writeCopy_45 : decode zb_Pr_writeCopy 45 = .ok (.dup, 1) := by decide +kernel
theorem zd_Pr_writeCopy_46 : decode zb_Pr_writeCopy 46 = .ok (.getfield 47, 3) := by decide +kernel
theorem zd_Pr_writeCopy_49 : decode zb_Pr_writeCopy 49 = .ok (.iconst 1, 1) := by decide +kernel
theorem zd_Pr_writeCopy_50 : decode zb_Pr_writeCopy 50 = .ok (.iadd, 1) := by decide +kernel
theorem zd_Pr_writeCopy_51 : decode zb_Pr_writeCopy 51 = .ok (.putfield 47, 3) := by decide +kernel
theorem zd_Pr_writeCopy_54 : decode zb_Pr_writeCopy 54 = .ok (.return_, 1) := by decide +kernel
theorem zd_Pr_bitsOfBytes_0 : decode zb_Pr_bitsOfBytes 0 = .ok (.iconst 0, 1) := by decide +kernel
theorem zd_Pr_bitsOfBytes_1 : decode zb_Pr_bitsOfBytes 1 = .ok (.istore_n 2, 1) := by decide +kernel
theorem zd_Pr_bitsOfBytes_2 : decode zb_Pr_bitsOfBytes 2 = .ok (.iconst 0, 1) := by decide +kernel
theorem zd_Pr_bitsOfBytes_3 : decode zb_Pr_bitsOfBytes 3 = .ok (.istore_n 3, 1) := by decide +kernel
theorem zd_Pr_bitsOfBytes_4 : decode zb_Pr_bitsOfBytes 4 = .ok (.iload_n 3, 1) := by decide +kernel
theorem zd_Pr_bitsOfBytes_5 : decode zb_Pr_bitsOfBytes 5 = .ok (.iload_n 1, 1) := by decide +kernel
theorem zd_Pr_bitsOfBytes_6 : decode zb_Pr_bitsOfBytes 6 = .ok (.if_icmp .ge 28, 3) := by decide +kernel
theorem zd_Pr_bitsOfBytes_9 : decode zb_Pr_bitsOfBytes 9 = .ok (.iload_n 0, 1) := by decide +kernel
theorem zd_Pr_bitsOfBytes_10 : decode zb_Pr_bitsOfBytes 10 = .ok (.bipush 8, 2) := by decide +kernel
theorem zd_Pr_bitsOfBytes_12 : decode zb_Pr_bitsOfBytes 12 = .ok (.iload_n 3, 1) := by decide +kernel
theorem zd_Pr_bitsOfBytes_13 : decode zb_Pr_bitsOfBytes 13 = .ok (.imul, 1) := by decide +kernel
theorem zd_Pr_bitsOfBytes_14 : decode zb_Pr_bitsOfBytes 14 = .ok (.iushr, 1) := by decide +kernel
theorem zd_Pr_bitsOfBytes_15 : decode zb_Pr_bitsOfBytes 15 = .ok (.sipush 255, 3) := by decide +kernel
theorem zd_Pr_bitsOfBytes_18 : decode zb_Pr_bitsOfBytes 18 = .ok (.iand, 1) := by decide +kernel
theorem zd_Pr_bitsOfBytes_19 : decode zb_Pr_bitsOfBytes 19 = .ok (.ifCond .eq 9, 3) := by decide +kernel
theorem zd_Pr_bitsOfBytes_22 : decode zb_Pr_bitsOfBytes 22 = .ok (.iload_n 2, 1) := by decide +kernel
theorem zd_Pr_bitsOfBytes_23 : decode zb_Pr_bitsOfBytes 23 = .ok (.iconst 1, 1) := by decide +kernel
theorem zd_Pr_bitsOfBytes_24 : decode zb_Pr_bitsOfBytes 24 = .ok (.iload_n 3, 1) := by decide +kernel
theorem zd_Pr_bitsOfBytes_25 : decode zb_Pr_bitsOfBytes 25 = .ok (.ishl, 1) := by decide +kernel
theorem zd_Pr_bitsOfBytes_26 : decode zb_Pr_bitsOfBytes 26 = .ok (.ior, 1) := by decide +kernel
theorem zd_Pr_bitsOfBytes_27 : decode zb_Pr_bitsOfBytes 27 = .ok (.istore_n 2, 1) := by decide +kernel
theorem zd_Pr_bitsOfBytes_28 : decode zb_Pr_bitsOfBytes 28 = .ok (.iinc 3 1, 3) := by decide +kernel
theorem zd_Pr_bitsOfBytes_31 : decode zb_Pr_bitsOfBytes 31 = .ok (.goto (-27), 3) := by decide +kernel
theorem zd_Pr_bitsOfBytes_34 : decode zb_Pr_bitsOfBytes 34 = .ok (.iload_n 2, 1) := by decide +kernel
theorem zd_Pr_bitsOfBytes_35 : decode zb_Pr_bitsOfBytes 35 = .ok (.ireturn, 1) := by decide +kernel
theorem zd_Tx_addBytesNotZero_0 : decode zb_Tx_addBytesNotZero 0 = .ok (.iconst 0, 1) := by decide +kernel
theorem zd_Tx_addBytesNotZero_1 : decode zb_Tx_addBytesNotZero 1 = .ok (.istore_n 3, 1) := by decide +kernel
theorem zd_Tx_addBytesNotZero_2 : decode zb_Tx_addBytesNotZero 2 = .ok (.iload_n 3, 1) := by decide +kernel
theorem zd_Tx_addBytesNotZero_3 : decode zb_Tx_addBytesNotZero 3 = .ok (.iload_n 2, 1) := by decide +kernel
theorem zd_Tx_addBytesNotZero_4 : decode zb_Tx_addBytesNotZero 4 = .ok (.if_icmp .ge 32, 3) := by decide +kernel
theorem zd_Tx_addBytesNotZero_7 : decode zb_Tx_addBytesNotZero 7 = .ok (.iload_n 1, 1) := by decide +kernel
theorem zd_Tx_addBytesNotZero_8 : decode zb_Tx_addBytesNotZero 8 = .ok (.bipush 8, 2) := by decide +kernel
theorem zd_Tx_addBytesNotZero_10 : decode zb_Tx_addBytesNotZero 10 = .ok (.iload_n 3, 1) := by decide +kernel
theorem zd_Tx_addBytesNotZero_11 : decode zb_Tx_addBytesNotZero 11 = .ok (.imul, 1) := by decide +kernel
theorem zd_Tx_addBytesNotZero_12 : decode zb_Tx_addBytesNotZero 12 = .ok (.iushr, 1) := by decide +kernel
theorem zd_Tx_addBytesNotZero_13 : decode zb_Tx_addBytesNotZero 13 = .ok (.sipush 255, 3) := by decide +kernel
theorem zd_Tx_addBytesNotZero_16 : decode zb_Tx_addBytesNotZero 16 = .ok (.iand, 1) := by decide +kernel
theorem zd_Tx_addBytesNotZero_17 : decode zb_Tx_addBytesNotZero 17 = .ok (.istore 4, 2) := by decide +kernel
theorem zd_Tx_addBytesNotZero_19 : decode zb_Tx_addBytesNotZero 19 = .ok (.iload 4, 2) := by decide +kernel
theorem zd_Tx_addBytesNotZero_21 : decode zb_Tx_addBytesNotZero 21 = .ok (.ifCond .eq 9, 3) := by decide +kernel
theorem zd_Tx_addBytesNotZero_24 : decode zb_Tx_addBytesNotZero 24 = .ok (.aload_n 0, 1) := by decide +kernel
theorem zd_Tx_addBytesNotZero_25 : decode zb_Tx_addBytesNotZero 25 = .ok (.iload 4, 2) := by decide +kernel
theorem zd_Tx_addBytesNotZero_27 : decode zb_Tx_addBytesNotZero 27 = .ok (.invokevirtual 17, 3) := by decide +kernel
theorem zd_Tx_addBytesNotZero_30 : decode zb_Tx_addBytesNotZero 30 = .ok (.iinc 3 1, 3) := by decide +kernel
theorem zd_Tx_addBytesNotZero_33 : decode zb_Tx_addBytesNotZero 33 = .ok (.goto (-31), 3) := by decide +kernel
theorem zd_Tx_addBytesNotZero_36 : decode zb_Tx_addBytesNotZero 36 = .ok (.return_, 1) := by decide +kernel
theorem zd_Pr_count_0 : decode zb_Pr_count 0 = .ok (.iload_n 1, 1) := by decide +kernel
theorem zd_Pr_count_1 : decode zb_Pr_count 1 = .ok (.tableswitch 78 0 5 #[39, 47, 55, 63, 68, 73], 39) := by decide +kernel
theorem zd_Pr_count_40 : decode zb_Pr_count 40 = .ok (.aload_n 0, 1) := by decide +kernel
theorem zd_Pr_count_41 : decode zb_Pr_count 41 = .ok (.getfield 15, 3) := by decide +kernel
theorem zd_Pr_count_44 : decode zb_Pr_count 44 = .ok (.invokevirtual 57, 3) := by decide +kernel
theorem zd_Pr_count_47 : decode zb_Pr_count 47 = .ok (.ireturn, 1) := by decide +kernel
theorem zd_Pr_count_48 : decode zb_Pr_count 48 = .ok (.aload_n 0, 1) := by decide +kernel
theorem zd_Pr_count_49 : decode zb_Pr_count 49 = .ok (.getfield 19, 3) := by decide +kernel
theorem zd_Pr_count_52 : decode zb_Pr_count 52 = .ok (.invokevirtual 57, 3) := by decide +kernel
theorem zd_Pr_count_55 : decode zb_Pr_count 55 = .ok (.ireturn, 1) := by decide +kernel
theorem zd_Pr_count_56 : decode zb_Pr_count 56 = .ok (.aload_n 0, 1) := by decide +kernel
theorem zd_Pr_count_57 : decode zb_Pr_count 57 = .ok (.getfield 23, 3) := by decide +kernel
theorem zd_Pr_count_60 : decode zb_Pr_count 60 = .ok (.invokevirtual 57, 3) := by decide +kernel
theorem zd_Pr_count_63 : decode zb_Pr_count 63 = .ok (.ireturn, 1) := by decide +kernel
theorem zd_Pr_count_64 : decode zb_Pr_count 64 = .ok (.aload_n 0, 1) := by decide +kernel
theorem zd_Pr_count_65 : decode zb_Pr_count 65 = .ok (.getfield 47, 3) := by decide +kernel
theorem zd_Pr_count_68 : decode zb_Pr_count 68 = .ok (.ireturn, 1) := by decide +kernel
theorem zd_Pr_count_69 : decode zb_Pr_count 69 = .ok (.aload_n 0, 1) := by decide +kernel
theorem zd_Pr_count_70 : decode zb_Pr_count 70 = .ok (.getfield 51, 3) := by decide +kernel
theorem zd_Pr_count_73 : decode zb_Pr_count 73 = .ok (.ireturn, 1) := by decide +kernel
theorem zd_Pr_count_74 : decode zb_Pr_count 74 = .ok (.aload_n 0, 1) := by decide +kernel
theorem zd_Pr_count_75 : decode zb_Pr_count 75 = .ok (.getfield 54, 3) := by decide +kernel
theorem zd_Pr_count_78 : decode zb_Pr_count 78 = .ok (.ireturn, 1) := by decide +kernel
theorem zd_Pr_count_79 : decode zb_Pr_count 79 = .ok (.iconst (-1), 1) := by decide +kernel
theorem zd_Pr_count_80 : decode zb_Pr_count 80 = .ok (.ireturn, 1) := by decide +kernel
theorem zd_La_feed_0 : decode zb_La_feed 0 = .ok (.aload 6, 2) := by decide +kernel
theorem zd_La_feed_2 : decode zb_La_feed 2 = .ok (.iconst 0, 1) := by decide +kernel
theorem zd_La_feed_3 : decode zb_La_feed 3 = .ok (.aload_n 0, 1) := by decide +kernel
theorem zd_La_feed_4 : decode zb_La_feed 4 = .ok (.iload_n 1, 1) := by decide +kernel
theorem zd_La_feed_5 : decode zb_La_feed 5 = .ok (.iload_n 2, 1) := by decide +kernel
theorem zd_La_feed_6 : decode zb_La_feed 6 = .ok (.iload_n 3, 1) := by decide +kernel
theorem zd_La_feed_7 : decode zb_La_feed 7 = .ok (.iload 4, 2) := by decide +kernel
theorem zd_La_feed_9 : decode zb_La_feed 9 = .ok (.iload 5, 2) := by decide +kernel
theorem zd_La_feed_11 : decode zb_La_feed 11 = .ok (.invokevirtual 7, 3) := by decide +kernel
theorem zd_La_feed_14 : decode zb_La_feed 14 = .ok (.i2l, 1) := by decide +kernel
theorem zd_La_feed_15 : decode zb_La_feed 15 = .ok (.lastore, 1) := by decide +kernel
theorem zd_La_feed_16 : decode zb_La_feed 16 = .ok (.goto 7, 3) := by decide +kernel
theorem zd_La_feed_19 : decode zb_La_feed 19 = .ok (.astore 7, 2) := by decide +kernel
theorem zd_La_feed_21 : decode zb_La_feed 21 = .ok (.iconst 1, 1) := by decide +kernel
theorem zd_La_feed_22 : decode zb_La_feed 22 = .ok (.ireturn, 1) := by decide +kernel
theorem zd_La_feed_23 : decode zb_La_feed 23 = .ok (.iconst 0, 1) := by decide +kernel
theorem zd_La_feed_24 : decode zb_La_feed 24 = .ok (.ireturn, 1) := by decide +kernel
theorem zd_Pr_feed_0 : decode zb_Pr_feed 0 = .ok (.aload_n 0, 1) := by decide +kernel
theorem zd_Pr_feed_1 : decode zb_Pr_feed 1 = .ok (.getfield 15, 3) := by decide +kernel
theorem zd_Pr_feed_4 : decode zb_Pr_feed 4 = .ok (.invokevirtual 57, 3) := by decide +kernel
theorem zd_Pr_feed_7 : decode zb_Pr_feed 7 = .ok (.ldc 61, 2) := by decide +kernel
theorem zd_Pr_feed_9 : decode zb_Pr_feed 9 = .ok (.if_icmp .le 13, 3) := by decide +kernel
theorem zd_Pr_feed_12 : decode zb_Pr_feed 12 = .ok (.new 62, 3) := by decide +kernel
theorem zd_Pr_feed_15 : decode zb_Pr_feed 15 = .ok (.dup, 1) := by decide +kernel
theorem zd_Pr_feed_16 : decode zb_Pr_feed 16 = .ok (.ldc 64, 2) := by decide +kernel
theorem zd_Pr_feed_18 : decode zb_Pr_feed 18 = .ok (.invokespecial 66, 3) := by decide +kernel
theorem zd_Pr_feed_21 : decode zb_Pr_feed 21 = .ok (.athrow, 1) := by decide +kernel
theorem zd_Pr_feed_22 : decode zb_Pr_feed 22 = .ok (.aload_n 0, 1) := by decide +kernel
theorem zd_Pr_feed_23 : decode zb_Pr_feed 23 = .ok (.getfield 15, 3) := by decide +kernel
theorem zd_Pr_feed_26 : decode zb_Pr_feed 26 = .ok (.iload_n 1, 1) := by decide +kernel
theorem zd_Pr_feed_27 : decode zb_Pr_feed 27 = .ok (.invokevirtual 69, 3) := by decide +kernel
theorem zd_Pr_feed_30 : decode zb_Pr_feed 30 = .ok (.aload_n 0, 1) := by decide +kernel
theorem zd_Pr_feed_31 : decode zb_Pr_feed 31 = .ok (.getfield 15, 3) := by decide +kernel
theorem zd_Pr_feed_34 : decode zb_Pr_feed 34 = .ok (.iload_n 2, 1) := by decide +kernel
theorem zd_Pr_feed_35 : decode zb_Pr_feed 35 = .ok (.invokevirtual 69, 3) := by decide +kernel
theorem zd_Pr_feed_38 : decode zb_Pr_feed 38 = .ok (.aload_n 0, 1) := by decide +kernel
theorem zd_Pr_feed_39 : decode zb_Pr_feed 39 = .ok (.getfield 15, 3) := by decide +kernel
theorem zd_Pr_feed_42 : decode zb_Pr_feed 42 = .ok (.iload_n 3, 1) := by decide +kernel
theorem zd_Pr_feed_43 : decode zb_Pr_feed 43 = .ok (.invokevirtual 69, 3) := by decide +kernel
theorem zd_Pr_feed_46 : decode zb_Pr_feed 46 = .ok (.aload_n 0, 1) := by decide +kernel
theorem zd_Pr_feed_47 : decode zb_Pr_feed 47 = .ok (.getfield 15, 3) := by decide +kernel
theorem zd_Pr_feed_50 : decode zb_Pr_feed 50 = .ok (.iload 4, 2) := by decide +kernel
theorem zd_Pr_feed_52 : decode zb_Pr_feed 52 = .ok (.invokevirtual 69, 3) := by decide +kernel
theorem zd_Pr_feed_55 : decode zb_Pr_feed 55 = .ok (.aload_n 0, 1) := by decide +kernel
theorem zd_Pr_feed_56 : decode zb_Pr_feed 56 = .ok (.getfield 15, 3) := by decide +kernel
theorem zd_Pr_feed_59 : decode zb_Pr_feed 59 = .ok (.iload 5, 2) := by decide +kernel
theorem zd_Pr_feed_61 : decode zb_Pr_feed 61 = .ok (.invokevirtual 69, 3) := by decide +kernel
theorem zd_Pr_feed_64 : decode zb_Pr_feed 64 = .ok (.aload_n 0, 1) := by decide +kernel
theorem zd_Pr_feed_65 : decode zb_Pr_feed 65 = .ok (.getfield 15, 3) := by decide +kernel
theorem zd_Pr_feed_68 : decode zb_Pr_feed 68 = .ok (.invokevirtual 57, 3) := by decide +kernel
theorem zd_Pr_feed_71 : decode zb_Pr_feed 71 = .ok (.ireturn, 1) := by decide +kernel
theorem zd_Tx_addFour_0 : decode zb_Tx_addFour 0 = .ok (.aload_n 0, 1) := by decide +kernel
theorem zd_Tx_addFour_1 : decode zb_Tx_addFour 1 = .ok (.iload_n 1, 1) := by decide +kernel
theorem zd_Tx_addFour_2 : decode zb_Tx_addFour 2 = .ok (.bipush 24, 2) := by decide +kernel
theorem zd_Tx_addFour_4 : decode zb_Tx_addFour 4 = .ok (.iushr, 1) := by decide +kernel
theorem zd_Tx_addFour_5 : decode zb_Tx_addFour 5 = .ok (.invokevirtual 17, 3) := by decide +kernel
theorem zd_Tx_addFour_8 : decode zb_Tx_addFour 8 = .ok (.aload_n 0, 1) := by decide +kernel
theorem zd_Tx_addFour_9 : decode zb_Tx_addFour 9 = .ok (.iload_n 1, 1) := by decide +kernel
theorem zd_Tx_addFour_10 : decode zb_Tx_addFour 10 = .ok (.bipush 16, 2) := by decide +kernel
theorem zd_Tx_addFour_12 : decode zb_Tx_addFour 12 = .ok (.iushr, 1) := by decide +kernel
theorem zd_Tx_addFour_13 : decode zb_Tx_addFour 13 = .ok (.invokevirtual 17, 3) := by decide +kernel
theorem zd_Tx_addFour_16 : decode zb_Tx_addFour 16 = .ok (.aload_n 0, 1) := by decide +kernel
theorem zd_Tx_addFour_17 : decode zb_Tx_addFour 17 = .ok (.iload_n 1, 1) := by decide +kernel
theorem zd_Tx_addFour_18 : decode zb_Tx_addFour 18 = .ok (.bipush 8, 2) := by decide +kernel
theorem zd_Tx_addFour_20 : decode zb_Tx_addFour 20 = .ok (.iushr, 1) := by decide +kernel
theorem zd_Tx_addFour_21 : decode zb_Tx_addFour 21 = .ok (.invokevirtual 17, 3) := by decide +kernel
theorem zd_Tx_addFour_24 : decode zb_Tx_addFour 24 = .ok (.aload_n 0, 1) := by decide +kernel
theorem zd_Tx_addFour_25 : decode zb_Tx_addFour 25 = .ok (.iload_n 1, 1) := by decide +kernel
theorem zd_Tx_addFour_26 : decode zb_Tx_addFour 26 = .ok (.invokevirtual 17, 3) := by decide +kernel
theorem zd_Tx_addFour_29 : decode zb_Tx_addFour 29 = .ok (.return_, 1) := by decide +kernel
theorem zd_La_end_0 : decode zb_La_end 0 = .ok (.aload_n 2, 1) := by decide +kernel
theorem zd_La_end_1 : decode zb_La_end 1 = .ok (.iconst 0, 1) := by decide +kernel
theorem zd_La_end_2 : decode zb_La_end 2 = .ok (.aload_n 0, 1) := by decide +kernel
theorem zd_La_end_3 : decode zb_La_end 3 = .ok (.iload_n 1, 1) := by decide +kernel
theorem zd_La_end_4 : decode zb_La_end 4 = .ok (.invokevirtual 15, 3) := by decide +kernel
theorem zd_La_end_7 : decode zb_La_end 7 = .ok (.i2l, 1) := by decide +kernel
theorem zd_La_end_8 : decode zb_La_end 8 = .ok (.lastore, 1) := by decide +kernel
theorem zd_La_end_9 : decode zb_La_end 9 = .ok (.goto 6, 3) := by decide +kernel
theorem zd_La_end_12 : decode zb_La_end 12 = .ok (.astore_n 3, 1) := by decide +kernel
theorem zd_La_end_13 : decode zb_La_end 13 = .ok (.iconst 1, 1) := by decide +kernel
theorem zd_La_end_14 : decode zb_La_end 14 = .ok (.ireturn, 1) := by decide +kernel
theorem zd_La_end_15 : decode zb_La_end 15 = .ok (.iconst 0, 1) := by decide +kernel
theorem zd_La_end_16 : decode zb_La_end 16 = .ok (.ireturn, 1) := by decide +kernel
