theorem zd_In_numberOfLeadingZeros_0 : decode zb_In_numberOfLeadingZeros 0 = .ok (.iload_n 0, 1) := by decide +kernel
theorem zd_In_numberOfLeadingZeros_1 : decode zb_In_numberOfLeadingZeros 1 = .ok (.ifCond .gt 14, 3) := by decide +kernel
theorem zd_In_numberOfLeadingZeros_4 : decode zb_In_numberOfLeadingZeros 4 = .ok (.iload_n 0, 1) := by decide +kernel
theorem zd_In_numberOfLeadingZeros_5 : decode zb_In_numberOfLeadingZeros 5 = .ok (.ifCond .ne 8, 3) := by decide +kernel
theorem zd_In_numberOfLeadingZeros_8 : decode zb_In_numberOfLeadingZeros 8 = .ok (.bipush 32, 2) := by decide +kernel
theorem zd_In_numberOfLeadingZeros_10 : decode zb_In_numberOfLeadingZeros 10 = .ok (.goto 4, 3) := by decide +kernel
theorem zd_In_numberOfLeadingZeros_13 : decode zb_In_numberOfLeadingZeros 13 = .ok (.iconst 0, 1) := by decide +kernel
theorem zd_In_numberOfLeadingZeros_14 : decode zb_In_numberOfLeadingZeros 14 = .ok (.ireturn, 1) := by decide +kernel
theorem zd_In_numberOfLeadingZeros_15 : decode zb_In_numberOfLeadingZeros 15 = .ok (.bipush 31, 2) := by decide +kernel
theorem zd_In_numberOfLeadingZeros_17 : decode zb_In_numberOfLeadingZeros 17 = .ok (.istore_n 1, 1) := by decide +kernel
theorem zd_In_numberOfLeadingZeros_18 : decode zb_In_numberOfLeadingZeros 18 = .ok (.iload_n 0, 1) := by decide +kernel
theorem zd_In_numberOfLeadingZeros_19 : decode zb_In_numberOfLeadingZeros 19 = .ok (.ldc_w 264, 3) := by decide +kernel
theorem zd_In_numberOfLeadingZeros_22 : decode zb_In_numberOfLeadingZeros 22 = .ok (.if_icmp .lt 11, 3) := by decide +kernel
theorem zd_In_numberOfLeadingZeros_25 : decode zb_In_numberOfLeadingZeros 25 = .ok (.iinc 1 (-16), 3) := by decide +kernel
theorem zd_In_numberOfLeadingZeros_28 : decode zb_In_numberOfLeadingZeros 28 = .ok (.iload_n 0, 1) := by decide +kernel
theorem zd_In_numberOfLeadingZeros_29 : decode zb_In_numberOfLeadingZeros 29 = .ok (.bipush 16, 2) := by decide +kernel
theorem zd_In_numberOfLeadingZeros_31 : decode zb_In_numberOfLeadingZeros 31 = .ok (.iushr, 1) := by decide +kernel
theorem zd_In_numberOfLeadingZeros_32 : decode zb_In_numberOfLeadingZeros 32 = .ok (.istore_n 0, 1) := by decide +kernel
theorem zd_In_numberOfLeadingZeros_33 : decode zb_In_numberOfLeadingZeros 33 = .ok (.iload_n 0, 1) := by decide +kernel
theorem zd_In_numberOfLeadingZeros_34 : decode zb_In_numberOfLeadingZeros 34 = .ok (.sipush 256, 3) := by decide +kernel
theorem zd_In_numberOfLeadingZeros_37 : decode zb_In_numberOfLeadingZeros 37 = .ok (.if_icmp .lt 11, 3) := by decide +kernel
theorem zd_In_numberOfLeadingZeros_40 : decode zb_In_numberOfLeadingZeros 40 = .ok (.iinc 1 (-8), 3) := by decide +kernel
theorem zd_In_numberOfLeadingZeros_43 : decode zb_In_numberOfLeadingZeros 43 = .ok (.iload_n 0, 1) := by decide +kernel
theorem zd_In_numberOfLeadingZeros_44 : decode zb_In_numberOfLeadingZeros 44 = .ok (.bipush 8, 2) := by decide +kernel
theorem zd_In_numberOfLeadingZeros_46 : decode zb_In_numberOfLeadingZeros 46 = .ok (.iushr, 1) := by decide +kernel
theorem zd_In_numberOfLeadingZeros_47 : decode zb_In_numberOfLeadingZeros 47 = .ok (.istore_n 0, 1) := by decide +kernel
theorem zd_In_numberOfLeadingZeros_48 : decode zb_In_numberOfLeadingZeros 48 = .ok (.iload_n 0, 1) := by decide +kernel
theorem zd_In_numberOfLeadingZeros_49 : decode zb_In_numberOfLeadingZeros 49 = .ok (.bipush 16, 2) := by decide +kernel
theorem zd_In_numberOfLeadingZeros_51 : decode zb_In_numberOfLeadingZeros 51 = .ok (.if_icmp .lt 10, 3) := by decide +kernel
theorem zd_In_numberOfLeadingZeros_54 : decode zb_In_numberOfLeadingZeros 54 = .ok (.iinc 1 (-4), 3) := by decide +kernel
theorem zd_In_numberOfLeadingZeros_57 : decode zb_In_numberOfLeadingZeros 57 = .ok (.iload_n 0, 1) := by decide +kernel
theorem zd_In_numberOfLeadingZeros_58 : decode zb_In_numberOfLeadingZeros 58 = .ok (.iconst 4, 1) := by decide +kernel
theorem zd_In_numberOfLeadingZeros_59 : decode zb_In_numberOfLeadingZeros 59 = .ok (.iushr, 1) := by decide +kernel
theorem zd_In_numberOfLeadingZeros_60 : decode zb_In_numberOfLeadingZeros 60 = .ok (.istore_n 0, 1) := by decide +kernel
theorem zd_In_numberOfLeadingZeros_61 : decode zb_In_numberOfLeadingZeros 61 = .ok (.iload_n 0, 1) := by decide +kernel
theorem zd_In_numberOfLeadingZeros_62 : decode zb_In_numberOfLeadingZeros 62 = .ok (.iconst 4, 1) := by decide +kernel
theorem zd_In_numberOfLeadingZeros_63 : decode zb_In_numberOfLeadingZeros 63 = .ok (.if_icmp .lt 10, 3) := by decide +kernel
theorem zd_In_numberOfLeadingZeros_66 : decode zb_In_numberOfLeadingZeros 66 = .ok (.iinc 1 (-2), 3) := by decide +kernel
theorem zd_In_numberOfLeadingZeros_69 : decode zb_In_numberOfLeadingZeros 69 = .ok (.iload_n 0, 1) := by decide +kernel
theorem zd_In_numberOfLeadingZeros_70 : decode zb_In_numberOfLeadingZeros 70 = .ok (.iconst 2, 1) := by decide +kernel
theorem zd_In_numberOfLeadingZeros_71 : decode zb_In_numberOfLeadingZeros 71 = .ok (.iushr, 1) := by decide +kernel
theorem zd_In_numberOfLeadingZeros_72 : decode zb_In_numberOfLeadingZeros 72 = .ok (.istore_n 0, 1) := by decide +kernel
theorem zd_In_numberOfLeadingZeros_73 : decode zb_In_numberOfLeadingZeros 73 = .ok (.iload_n 1, 1) := by decide +kernel
theorem zd_In_numberOfLeadingZeros_74 : decode zb_In_numberOfLeadingZeros 74 = .ok (.iload_n 0, 1) := by decide +kernel
theorem zd_In_numberOfLeadingZeros_75 : decode zb_In_numberOfLeadingZeros 75 = .ok (.iconst 1, 1) := by decide +kernel
theorem zd_In_numberOfLeadingZeros_76 : decode zb_In_numberOfLeadingZeros 76 = .ok (.iushr, 1) := by decide +kernel
theorem zd_In_numberOfLeadingZeros_77 : decode zb_In_numberOfLeadingZeros 77 = .ok (.isub, 1) := by decide +kernel
theorem zd_In_numberOfLeadingZeros_78 : decode zb_In_numberOfLeadingZeros 78 = .ok (.ireturn, 1) := by decide +kernel
theorem zd_In_bitCount_0 : decode zb_In_bitCount 0 = .ok (.iload_n 0, 1) := by decide +kernel
theorem zd_In_bitCount_1 : decode zb_In_bitCount 1 = .ok (.iload_n 0, 1) := by decide +kernel
theorem zd_In_bitCount_2 : decode zb_In_bitCount 2 = .ok (.iconst 1, 1) := by decide +kernel
theorem zd_In_bitCount_3 : decode zb_In_bitCount 3 = .ok (.iushr, 1) := by decide +kernel
theorem zd_In_bitCount_4 : decode zb_In_bitCount 4 = .ok (.ldc_w 265, 3) := by decide +kernel
theorem zd_In_bitCount_7 : decode zb_In_bitCount 7 = .ok (.iand, 1) := by decide +kernel
theorem zd_In_bitCount_8 : decode zb_In_bitCount 8 = .ok (.isub, 1) := by decide +kernel
theorem zd_In_bitCount_9 : decode zb_In_bitCount 9 = .ok (.istore_n 0, 1) := by decide +kernel
theorem zd_In_bitCount_10 : decode zb_In_bitCount 10 = .ok (.iload_n 0, 1) := by decide +kernel
theorem zd_In_bitCount_11 : decode zb_In_bitCount 11 = .ok (.ldc_w 266, 3) := by decide +kernel
theorem zd_In_bitCount_14 : decode zb_In_bitCount 14 = .ok (.iand, 1) := by decide +kernel
theorem zd_In_bitCount_15 : decode zb_In_bitCount 15 = .ok (.iload_n 0, 1) := by decide +kernel
theorem zd_In_bitCount_16 : decode zb_In_bitCount 16 = .ok (.iconst 2, 1) := by decide +kernel
theorem zd_In_bitCount_17 : decode zb_In_bitCount 17 = .ok (.iushr, 1) := by decide +kernel
theorem zd_In_bitCount_18 : decode zb_In_bitCount 18 = .ok (.ldc_w 266, 3) := by decide +kernel
theorem zd_In_bitCount_21 : decode zb_In_bitCount 21 = .ok (.iand, 1) := by decide +kernel
theorem zd_In_bitCount_22 : decode zb_In_bitCount 22 = .ok (.iadd, 1) := by decide +kernel
theorem zd_In_bitCount_23 : decode zb_In_bitCount 23 = .ok (.istore_n 0, 1) := by decide +kernel
theorem zd_In_bitCount_24 : decode zb_In_bitCount 24 = .ok (.iload_n 0, 1) := by decide +kernel
theorem zd_In_bitCount_25 : decode zb_In_bitCount 25 = .ok (.iload_n 0, 1) := by decide +kernel
theorem zd_In_bitCount_26 : decode zb_In_bitCount 26 = .ok (.iconst 4, 1) := by decide +kernel
theorem zd_In_bitCount_27 : decode zb_In_bitCount 27 = .ok (.iushr, 1) := by decide +kernel
theorem zd_In_bitCount_28 : decode zb_In_bitCount 28 = .ok (.iadd, 1) := by decide +kernel
theorem zd_In_bitCount_29 : decode zb_In_bitCount 29 = .ok (.ldc_w 267, 3) := by decide +kernel
theorem zd_In_bitCount_32 : decode zb_In_bitCount 32 = .ok (.iand, 1) := by decide +kernel
theorem zd_In_bitCount_33 : decode zb_In_bitCount 33 = .ok (.istore_n 0, 1) := by decide +kernel
theorem zd_In_bitCount_34 : decode zb_In_bitCount 34 = .ok (.iload_n 0, 1) := by decide +kernel
theorem zd_In_bitCount_35 : decode zb_In_bitCount 35 = .ok (.iload_n 0, 1) := by decide +kernel
theorem zd_In_bitCount_36 : decode zb_In_bitCount 36 = .ok (.bipush 8, 2) := by decide +kernel
theorem zd_In_bitCount_38 : decode zb_In_bitCount 38 = .ok (.iushr, 1) := by decide +kernel
theorem zd_In_bitCount_39 : decode zb_In_bitCount 39 = .ok (.iadd, 1) := by decide +kernel
theorem zd_In_bitCount_40 : decode zb_In_bitCount 40 = .ok (.istore_n 0, 1) := by decide +kernel
theorem zd_In_bitCount_41 : decode zb_In_bitCount 41 = .ok (.iload_n 0, 1) := by decide +kernel
theorem zd_In_bitCount_42 : decode zb_In_bitCount 42 = .ok (.iload_n 0, 1) := by decide +kernel
theorem zd_In_bitCount_43 : decode zb_In_bitCount 43 = .ok (.bipush 16, 2) := by decide +kernel
theorem zd_In_bitCount_45 : decode zb_In_bitCount 45 = .ok (.iushr, 1) := by decide +kernel
theorem zd_In_bitCount_46 : decode zb_In_bitCount 46 = .ok (.iadd, 1) := by decide +kernel
theorem zd_In_bitCount_47 : decode zb_In_bitCount 47 = .ok (.istore_n 0, 1) := by decide +kernel
theorem zd_In_bitCount_48 : decode zb_In_bitCount 48 = .ok (.iload_n 0, 1) := by decide +kernel
theorem zd_In_bitCount_49 : decode zb_In_bitCount 49 = .ok (.bipush 63, 2) := by decide +kernel
theorem zd_In_bitCount_51 : decode zb_In_bitCount 51 = .ok (.iand, 1) := by decide +kernel
theorem zd_In_bitCount_52 : decode zb_In_bitCount 52 = .ok (.ireturn, 1) := by decide +kernel
theorem zd_Su_addLetter_0 : decode zb_Su_addLetter 0 = .ok (.iconst 0, 1) := by decide +kernel
theorem zd_Su_addLetter_1 : decode zb_Su_addLetter 1 = .ok (.istore_n 2, 1) := by decide +kernel
theorem zd_Su_addLetter_2 : decode zb_Su_addLetter 2 = .ok (.aload_n 0, 1) := by decide +kernel
theorem zd_Su_addLetter_3 : decode zb_Su_addLetter 3 = .ok (.dup, 1) := by decide +kernel
theorem zd_Su_addLetter_4 : decode zb_Su_addLetter 4 = .ok (.getfield 52, 3) := by decide +kernel
theorem zd_Su_addLetter_7 : decode zb_Su_addLetter 7 = .ok (.iconst 1, 1) := by decide +kernel
theorem zd_Su_addLetter_8 : decode zb_Su_addLetter 8 = .ok (.iadd, 1) := by decide +kernel
theorem zd_Su_addLetter_9 : decode zb_Su_addLetter 9 = .ok (.putfield 52, 3) := by decide +kernel
theorem zd_Su_addLetter_12 : decode zb_Su_addLetter 12 = .ok (.aload_n 0, 1) := by decide +kernel
theorem zd_Su_addLetter_13 : decode zb_Su_addLetter 13 = .ok (.getfield 52, 3) := by decide +kernel
theorem zd_Su_addLetter_16 : decode zb_Su_addLetter 16 = .ok (.ifCond .le 149, 3) := by decide +kernel
theorem zd_Su_addLetter_19 : decode zb_Su_addLetter 19 = .ok (.aload_n 0, 1) := by decide +kernel
theorem zd_Su_addLetter_20 : decode zb_Su_addLetter 20 = .ok (.iload_n 1, 1) := by decide +kernel
theorem zd_Su_addLetter_21 : decode zb_Su_addLetter 21 = .ok (.invokevirtual 93, 3) := by decide +kernel
theorem zd_Su_addLetter_24 : decode zb_Su_addLetter 24 = .ok (.istore_n 3, 1) := by decide +kernel
theorem zd_Su_addLetter_25 : decode zb_Su_addLetter 25 = .ok (.aload_n 0, 1) := by decide +kernel
theorem zd_Su_addLetter_26 : decode zb_Su_addLetter 26 = .ok (.getfield 37, 3) := by decide +kernel
theorem zd_Su_addLetter_29 : decode zb_Su_addLetter 29 = .ok (.iload_n 3, 1) := by decide +kernel
theorem zd_Su_addLetter_30 : decode zb_Su_addLetter 30 = .ok (.iaload, 1) := by decide +kernel
theorem zd_Su_addLetter_31 : decode zb_Su_addLetter 31 = .ok (.istore 4, 2) := by decide +kernel
theorem zd_Su_addLetter_33 : decode zb_Su_addLetter 33 = .ok (.iload 4, 2) := by decide +kernel
theorem zd_Su_addLetter_35 : decode zb_Su_addLetter 35 = .ok (.ifCond .eq 33, 3) := by decide +kernel
theorem zd_Su_addLetter_38 : decode zb_Su_addLetter 38 = .ok (.aload_n 0, 1) := by decide +kernel
theorem zd_Su_addLetter_39 : decode zb_Su_addLetter 39 = .ok (.getfield 9, 3) := by decide +kernel
theorem zd_Su_addLetter_42 : decode zb_Su_addLetter 42 = .ok (.aload_n 0, 1) := by decide +kernel
theorem zd_Su_addLetter_43 : decode zb_Su_addLetter 43 = .ok (.getfield 20, 3) := by decide +kernel
theorem zd_Su_addLetter_46 : decode zb_Su_addLetter 46 = .ok (.iload 4, 2) := by decide +kernel
theorem zd_Su_addLetter_48 : decode zb_Su_addLetter 48 = .ok (.iaload, 1) := by decide +kernel
theorem zd_Su_addLetter_49 : decode zb_Su_addLetter 49 = .ok (.aload_n 0, 1) := by decide +kernel
theorem zd_Su_addLetter_50 : decode zb_Su_addLetter 50 = .ok (.getfield 49, 3) := by decide +kernel
theorem zd_Su_addLetter_53 : decode zb_Su_addLetter 53 = .ok (.iadd, 1) := by decide +kernel
theorem zd_Su_addLetter_54 : decode zb_Su_addLetter 54 = .ok (.baload, 1) := by decide +kernel
theorem zd_Su_addLetter_55 : decode zb_Su_addLetter 55 = .ok (.aload_n 0, 1) := by decide +kernel
theorem zd_Su_addLetter_56 : decode zb_Su_addLetter 56 = .ok (.getfield 9, 3) := by decide +kernel
theorem zd_Su_addLetter_59 : decode zb_Su_addLetter 59 = .ok (.iload_n 1, 1) := by decide +kernel
theorem zd_Su_addLetter_60 : decode zb_Su_addLetter 60 = .ok (.baload, 1) := by decide +kernel
theorem zd_Su_addLetter_61 : decode zb_Su_addLetter 61 = .ok (.if_icmp .ne 7, 3) := by decide +kernel
theorem zd_Su_addLetter_64 : decode zb_Su_addLetter 64 = .ok (.iconst 1, 1) := by decide +kernel
theorem zd_Su_addLetter_65 : decode zb_Su_addLetter 65 = .ok (.goto 4, 3) := by decide +kernel
theorem zd_Su_addLetter_68 : decode zb_Su_addLetter 68 = .ok (.iconst 0, 1) := by decide +kernel
theorem zd_Su_addLetter_69 : decode zb_Su_addLetter 69 = .ok (.istore 5, 2) := by decide +kernel
theorem zd_Su_addLetter_71 : decode zb_Su_addLetter 71 = .ok (.iload 5, 2) := by decide +kernel
theorem zd_Su_addLetter_73 : decode zb_Su_addLetter 73 = .ok (.ifCond .ne 8, 3) := by decide +kernel
theorem zd_Su_addLetter_76 : decode zb_Su_addLetter 76 = .ok (.iload 4, 2) := by decide +kernel
theorem zd_Su_addLetter_78 : decode zb_Su_addLetter 78 = .ok (.ifCond .ne 10, 3) := by decide +kernel
theorem zd_Su_addLetter_81 : decode zb_Su_addLetter 81 = .ok (.aload_n 0, 1) := by decide +kernel
theorem zd_Su_addLetter_82 : decode zb_Su_addLetter 82 = .ok (.getfield 46, 3) := by decide +kernel
theorem zd_Su_addLetter_85 : decode zb_Su_addLetter 85 = .ok (.goto 10, 3) := by decide +kernel
theorem zd_Su_addLetter_88 : decode zb_Su_addLetter 88 = .ok (.aload_n 0, 1) := by decide +kernel
theorem zd_Su_addLetter_89 : decode zb_Su_addLetter 89 = .ok (.iload_n 3, 1) := by decide +kernel
theorem zd_Su_addLetter_90 : decode zb_Su_addLetter 90 = .ok (.iload 4, 2) := by decide +kernel
theorem zd_Su_addLetter_92 : decode zb_Su_addLetter 92 = .ok (.invokevirtual 96, 3) := by decide +kernel
theorem zd_Su_addLetter_95 : decode zb_Su_addLetter 95 = .ok (.istore 6, 2) := by decide +kernel
theorem zd_Su_addLetter_97 : decode zb_Su_addLetter 97 = .ok (.iload_n 2, 1) := by decide +kernel
theorem zd_Su_addLetter_98 : decode zb_Su_addLetter 98 = .ok (.ifCond .eq 11, 3) := by decide +kernel
theorem zd_Su_addLetter_101 : decode zb_Su_addLetter 101 = .ok (.aload_n 0, 1) := by decide +kernel
theorem zd_Su_addLetter_102 : decode zb_Su_addLetter 102 = .ok (.getfield 30, 3) := by decide +kernel
theorem zd_Su_addLetter_105 : decode zb_Su_addLetter 105 = .ok (.iload_n 2, 1) := by decide +kernel
theorem zd_Su_addLetter_106 : decode zb_Su_addLetter 106 = .ok (.iload 6, 2) := by decide +kernel
theorem zd_Su_addLetter_108 : decode zb_Su_addLetter 108 = .ok (.iastore, 1) := by decide +kernel
theorem zd_Su_addLetter_109 : decode zb_Su_addLetter 109 = .ok (.iload 5, 2) := by decide +kernel
theorem zd_Su_addLetter_111 : decode zb_Su_addLetter 111 = .ok (.ifCond .eq 14, 3) := by decide +kernel
theorem zd_Su_addLetter_114 : decode zb_Su_addLetter 114 = .ok (.aload_n 0, 1) := by decide +kernel
theorem zd_Su_addLetter_115 : decode zb_Su_addLetter 115 = .ok (.dup, 1) := by decide +kernel
theorem zd_Su_addLetter_116 : decode zb_Su_addLetter 116 = .ok (.getfield 49, 3) := by decide +kernel
theorem zd_Su_addLetter_119 : decode zb_Su_addLetter 119 = .ok (.iconst 1, 1) := by decide +kernel
theorem zd_Su_addLetter_120 : decode zb_Su_addLetter 120 = .ok (.iadd, 1) := by decide +kernel
theorem zd_Su_addLetter_121 : decode zb_Su_addLetter 121 = .ok (.putfield 49, 3) := by decide +kernel
theorem zd_Su_addLetter_124 : decode zb_Su_addLetter 124 = .ok (.return_, 1) := by decide +kernel
theorem zd_Su_addLetter_125 : decode zb_Su_addLetter 125 = .ok (.iload 6, 2) := by decide +kernel
theorem zd_Su_addLetter_127 : decode zb_Su_addLetter 127 = .ok (.aload_n 0, 1) := by decide +kernel
theorem zd_Su_addLetter_128 : decode zb_Su_addLetter 128 = .ok (.getfield 46, 3) := by decide +kernel
theorem zd_Su_addLetter_131 : decode zb_Su_addLetter 131 = .ok (.if_icmp .ne 7, 3) := by decide +kernel
theorem zd_Su_addLetter_134 : decode zb_Su_addLetter 134 = .ok (.iconst 0, 1) := by decide +kernel
theorem zd_Su_addLetter_135 : decode zb_Su_addLetter 135 = .ok (.goto 5, 3) := by decide +kernel
theorem zd_Su_addLetter_138 : decode zb_Su_addLetter 138 = .ok (.iload 6, 2) := by decide +kernel
theorem zd_Su_addLetter_140 : decode zb_Su_addLetter 140 = .ok (.istore_n 2, 1) := by decide +kernel
theorem zd_Su_addLetter_141 : decode zb_Su_addLetter 141 = .ok (.aload_n 0, 1) := by decide +kernel
theorem zd_Su_addLetter_142 : decode zb_Su_addLetter 142 = .ok (.iload 6, 2) := by decide +kernel
theorem zd_Su_addLetter_144 : decode zb_Su_addLetter 144 = .ok (.iload_n 1, 1) := by decide +kernel
theorem zd_Su_addLetter_145 : decode zb_Su_addLetter 145 = .ok (.invokevirtual 99, 3) := by decide +kernel
theorem zd_Su_addLetter_148 : decode zb_Su_addLetter 148 = .ok (.aload_n 0, 1) := by decide +kernel
theorem zd_Su_addLetter_149 : decode zb_Su_addLetter 149 = .ok (.invokevirtual 103, 3) := by decide +kernel
theorem zd_Su_addLetter_152 : decode zb_Su_addLetter 152 = .ok (.aload_n 0, 1) := by decide +kernel
theorem zd_Su_addLetter_153 : decode zb_Su_addLetter 153 = .ok (.dup, 1) := by decide +kernel
theorem zd_Su_addLetter_154 : decode zb_Su_addLetter 154 = .ok (.getfield 52, 3) := by decide +kernel
theorem zd_Su_addLetter_157 : decode zb_Su_addLetter 157 = .ok (.iconst 1, 1) := by decide +kernel
theorem zd_Su_addLetter_158 : decode zb_Su_addLetter 158 = .ok (.isub, 1) := by decide +kernel
theorem zd_Su_addLetter_159 : decode zb_Su_addLetter 159 = .ok (.putfield 52, 3) := by decide +kernel
theorem zd_Su_addLetter_162 : decode zb_Su_addLetter 162 = .ok (.goto (-150), 3) := by decide +kernel
theorem zd_Su_addLetter_165 : decode zb_Su_addLetter 165 = .ok (.return_, 1) := by decide +kernel
theorem zd_Su_goDown_0 : decode zb_Su_goDown 0 = .ok (.aload_n 0, 1) := by decide +kernel
theorem zd_Su_goDown_1 : decode zb_Su_goDown 1 = .ok (.aload_n 0, 1) := by decide +kernel
theorem zd_Su_goDown_2 : decode zb_Su_goDown 2 = .ok (.getfield 46, 3) := by decide +kernel
theorem zd_Su_goDown_5 : decode zb_Su_goDown 5 = .ok (.aload_n 0, 1) := by decide +kernel
theorem zd_Su_goDown_6 : decode zb_Su_goDown 6 = .ok (.getfield 9, 3) := by decide +kernel
theorem zd_Su_goDown_9 : decode zb_Su_goDown 9 = .ok (.iload_n 1, 1) := by decide +kernel
theorem zd_Su_goDown_10 : decode zb_Su_goDown 10 = .ok (.aload_n 0, 1) := by decide +kernel
theorem zd_Su_goDown_11 : decode zb_Su_goDown 11 = .ok (.getfield 49, 3) := by decide +kernel
theorem zd_Su_goDown_14 : decode zb_Su_goDown 14 = .ok (.isub, 1) := by decide +kernel
theorem zd_Su_goDown_15 : decode zb_Su_goDown 15 = .ok (.baload, 1) := by decide +kernel
theorem zd_Su_goDown_16 : decode zb_Su_goDown 16 = .ok (.invokevirtual 106, 3) := by decide +kernel
theorem zd_Su_goDown_19 : decode zb_Su_goDown 19 = .ok (.istore_n 2, 1) := by decide +kernel
theorem zd_Su_goDown_20 : decode zb_Su_goDown 20 = .ok (.iconst 0, 1) := by decide +kernel
theorem zd_Su_goDown_21 : decode zb_Su_goDown 21 = .ok (.istore_n 3, 1) := by decide +kernel
theorem zd_Su_goDown_22 : decode zb_Su_goDown 22 = .ok (.iload_n 3, 1) := by decide +kernel
theorem zd_Su_goDown_23 : decode zb_Su_goDown 23 = .ok (.aload_n 0, 1) := by decide +kernel
theorem zd_Su_goDown_24 : decode zb_Su_goDown 24 = .ok (.getfield 15, 3) := by decide +kernel
theorem zd_Su_goDown_27 : decode zb_Su_goDown 27 = .ok (.if_icmp .ge 90, 3) := by decide +kernel
theorem zd_Su_goDown_30 : decode zb_Su_goDown 30 = .ok (.aload_n 0, 1) := by decide +kernel
theorem zd_Su_goDown_31 : decode zb_Su_goDown 31 = .ok (.getfield 49, 3) := by decide +kernel
theorem zd_Su_goDown_34 : decode zb_Su_goDown 34 = .ok (.ifCond .le 83, 3) := by decide +kernel
theorem zd_Su_goDown_37 : decode zb_Su_goDown 37 = .ok (.aload_n 0, 1) := by decide +kernel
theorem zd_Su_goDown_38 : decode zb_Su_goDown 38 = .ok (.getfield 37, 3) := by decide +kernel
theorem zd_Su_goDown_41 : decode zb_Su_goDown 41 = .ok (.iload_n 2, 1) := by decide +kernel
theorem zd_Su_goDown_42 : decode zb_Su_goDown 42 = .ok (.iaload, 1) := by decide +kernel
theorem zd_Su_goDown_43 : decode zb_Su_goDown 43 = .ok (.istore 4, 2) := by decide +kernel
theorem zd_Su_goDown_45 : decode zb_Su_goDown 45 = .ok (.aload_n 0, 1) := by decide +kernel
theorem zd_Su_goDown_46 : decode zb_Su_goDown 46 = .ok (.getfield 24, 3) := by decide +kernel
theorem zd_Su_goDown_49 : decode zb_Su_goDown 49 = .ok (.iload 4, 2) := by decide +kernel
theorem zd_Su_goDown_51 : decode zb_Su_goDown 51 = .ok (.iaload, 1) := by decide +kernel
theorem zd_Su_goDown_52 : decode zb_Su_goDown 52 = .ok (.aload_n 0, 1) := by decide +kernel
theorem zd_Su_goDown_53 : decode zb_Su_goDown 53 = .ok (.getfield 20, 3) := by decide +kernel
theorem zd_Su_goDown_56 : decode zb_Su_goDown 56 = .ok (.iload 4, 2) := by decide +kernel
theorem zd_Su_goDown_58 : decode zb_Su_goDown 58 = .ok (.iaload, 1) := by decide +kernel
theorem zd_Su_goDown_59 : decode zb_Su_goDown 59 = .ok (.isub, 1) := by decide +kernel
theorem zd_Su_goDown_60 : decode zb_Su_goDown 60 = .ok (.istore 5, 2) := by decide +kernel
theorem zd_Su_goDown_62 : decode zb_Su_goDown 62 = .ok (.aload_n 0, 1) := by decide +kernel
theorem zd_Su_goDown_63 : decode zb_Su_goDown 63 = .ok (.getfield 49, 3) := by decide +kernel
theorem zd_Su_goDown_66 : decode zb_Su_goDown 66 = .ok (.iload 5, 2) := by decide +kernel
theorem zd_Su_goDown_68 : decode zb_Su_goDown 68 = .ok (.if_icmp .ge 6, 3) := by decide +kernel
theorem zd_Su_goDown_71 : decode zb_Su_goDown 71 = .ok (.goto 46, 3) := by decide +kernel
theorem zd_Su_goDown_74 : decode zb_Su_goDown 74 = .ok (.aload_n 0, 1) := by decide +kernel
theorem zd_Su_goDown_75 : decode zb_Su_goDown 75 = .ok (.iload 4, 2) := by decide +kernel
theorem zd_Su_goDown_77 : decode zb_Su_goDown 77 = .ok (.putfield 46, 3) := by decide +kernel
theorem zd_Su_goDown_80 : decode zb_Su_goDown 80 = .ok (.aload_n 0, 1) := by decide +kernel
theorem zd_Su_goDown_81 : decode zb_Su_goDown 81 = .ok (.dup, 1) := by decide +kernel
theorem zd_Su_goDown_82 : decode zb_Su_goDown 82 = .ok (.getfield 49, 3) := by decide +kernel
theorem zd_Su_goDown_85 : decode zb_Su_goDown 85 = .ok (.iload 5, 2) := by decide +kernel
theorem zd_Su_goDown_87 : decode zb_Su_goDown 87 = .ok (.isub, 1) := by decide +kernel
theorem zd_Su_goDown_88 : decode zb_Su_goDown 88 = .ok (.putfield 49, 3) := by decide +kernel
theorem zd_Su_goDown_91 : decode zb_Su_goDown 91 = .ok (.aload_n 0, 1) := by decide +kernel
theorem zd_Su_goDown_92 : decode zb_Su_goDown 92 = .ok (.aload_n 0, 1) := by decide +kernel
theorem zd_Su_goDown_93 : decode zb_Su_goDown 93 = .ok (.getfield 46, 3) := by decide +kernel
theorem zd_Su_goDown_96 : decode zb_Su_goDown 96 = .ok (.aload_n 0, 1) := by decide +kernel
theorem zd_Su_goDown_97 : decode zb_Su_goDown 97 = .ok (.getfield 9, 3) := by decide +kernel
theorem zd_Su_goDown_100 : decode zb_Su_goDown 100 = .ok (.iload_n 1, 1) := by decide +kernel
theorem zd_Su_goDown_101 : decode zb_Su_goDown 101 = .ok (.aload_n 0, 1) := by decide +kernel
theorem zd_Su_goDown_102 : decode zb_Su_goDown 102 = .ok (.getfield 49, 3) := by decide +kernel
theorem zd_Su_goDown_105 : decode zb_Su_goDown 105 = .ok (.isub, 1) := by decide +kernel
theorem zd_Su_goDown_106 : decode zb_Su_goDown 106 = .ok (.baload, 1) := by decide +kernel
theorem zd_Su_goDown_107 : decode zb_Su_goDown 107 = .ok (.invokevirtual 106, 3) := by decide +kernel
theorem zd_Su_goDown_110 : decode zb_Su_goDown 110 = .ok (.istore_n 2, 1) := by decide +kernel
theorem zd_Su_goDown_111 : decode zb_Su_goDown 111 = .ok (.iinc 3 1, 3) := by decide +kernel
theorem zd_Su_goDown_114 : decode zb_Su_goDown 114 = .ok (.goto (-92), 3) := by decide +kernel
theorem zd_Su_goDown_117 : decode zb_Su_goDown 117 = .ok (.iload_n 2, 1) := by decide +kernel
theorem zd_Su_goDown_118 : decode zb_Su_goDown 118 = .ok (.ireturn, 1) := by decide +kernel
theorem zd_Su_slotOf_0 : decode zb_Su_slotOf 0 = .ok (.iload_n 1, 1) := by decide +kernel
theorem zd_Su_slotOf_1 : decode zb_Su_slotOf 1 = .ok (.bipush 8, 2) := by decide +kernel
theorem zd_Su_slotOf_3 : decode zb_Su_slotOf 3 = .ok (.ishl, 1) := by decide +kernel
theorem zd_Su_slotOf_4 : decode zb_Su_slotOf 4 = .ok (.iload_n 2, 1) := by decide +kernel
theorem zd_Su_slotOf_5 : decode zb_Su_slotOf 5 = .ok (.sipush 255, 3) := by decide +kernel
theorem zd_Su_slotOf_8 : decode zb_Su_slotOf 8 = .ok (.iand, 1) := by decide +kernel
theorem zd_Su_slotOf_9 : decode zb_Su_slotOf 9 = .ok (.ior, 1) := by decide +kernel
theorem zd_Su_slotOf_10 : decode zb_Su_slotOf 10 = .ok (.ldc 114, 2) := by decide +kernel
theorem zd_Su_slotOf_12 : decode zb_Su_slotOf 12 = .ok (.imul, 1) := by decide +kernel
theorem zd_Su_slotOf_13 : decode zb_Su_slotOf 13 = .ok (.aload_n 0, 1) := by decide +kernel
theorem zd_Su_slotOf_14 : decode zb_Su_slotOf 14 = .ok (.getfield 43, 3) := by decide +kernel
theorem zd_Su_slotOf_17 : decode zb_Su_slotOf 17 = .ok (.iushr, 1) := by decide +kernel
theorem zd_Su_slotOf_18 : decode zb_Su_slotOf 18 = .ok (.istore_n 3, 1) := by decide +kernel
theorem zd_Su_slotOf_19 : decode zb_Su_slotOf 19 = .ok (.iconst 0, 1) := by decide +kernel
theorem zd_Su_slotOf_20 : decode zb_Su_slotOf 20 = .ok (.istore 4, 2) := by decide +kernel
theorem zd_Su_slotOf_22 : decode zb_Su_slotOf 22 = .ok (.iload 4, 2) := by decide +kernel
theorem zd_Su_slotOf_24 : decode zb_Su_slotOf 24 = .ok (.aload_n 0, 1) := by decide +kernel
theorem zd_Su_slotOf_25 : decode zb_Su_slotOf 25 = .ok (.getfield 40, 3) := by decide +kernel
theorem zd_Su_slotOf_28 : decode zb_Su_slotOf 28 = .ok (.if_icmp .ge 63, 3) := by decide +kernel
theorem zd_Su_slotOf_31 : decode zb_Su_slotOf 31 = .ok (.aload_n 0, 1) := by decide +kernel
theorem zd_Su_slotOf_32 : decode zb_Su_slotOf 32 = .ok (.getfield 37, 3) := by decide +kernel
theorem zd_Su_slotOf_35 : decode zb_Su_slotOf 35 = .ok (.iload_n 3, 1) := by decide +kernel
theorem zd_Su_slotOf_36 : decode zb_Su_slotOf 36 = .ok (.iaload, 1) := by decide +kernel
theorem zd_Su_slotOf_37 : decode zb_Su_slotOf 37 = .ok (.istore 5, 2) := by decide +kernel
theorem zd_Su_slotOf_39 : decode zb_Su_slotOf 39 = .ok (.iload 5, 2) := by decide +kernel
theorem zd_Su_slotOf_41 : decode zb_Su_slotOf 41 = .ok (.ifCond .eq 50, 3) := by decide +kernel
theorem zd_Su_slotOf_44 : decode zb_Su_slotOf 44 = .ok (.aload_n 0, 1) := by decide +kernel
theorem zd_Su_slotOf_45 : decode zb_Su_slotOf 45 = .ok (.getfield 27, 3) := by decide +kernel
theorem zd_Su_slotOf_48 : decode zb_Su_slotOf 48 = .ok (.iload 5, 2) := by decide +kernel
theorem zd_Su_slotOf_50 : decode zb_Su_slotOf 50 = .ok (.iaload, 1) := by decide +kernel
theorem zd_Su_slotOf_51 : decode zb_Su_slotOf 51 = .ok (.iload_n 1, 1) := by decide +kernel
theorem zd_Su_slotOf_52 : decode zb_Su_slotOf 52 = .ok (.if_icmp .ne 22, 3) := by decide +kernel
theorem zd_Su_slotOf_55 : decode zb_Su_slotOf 55 = .ok (.aload_n 0, 1) := by decide +kernel
theorem zd_Su_slotOf_56 : decode zb_Su_slotOf 56 = .ok (.getfield 9, 3) := by decide +kernel
theorem zd_Su_slotOf_59 : decode zb_Su_slotOf 59 = .ok (.aload_n 0, 1) := by decide +kernel
theorem zd_Su_slotOf_60 : decode zb_Su_slotOf 60 = .ok (.getfield 20, 3) := by decide +kernel
theorem zd_Su_slotOf_63 : decode zb_Su_slotOf 63 = .ok (.iload 5, 2) := by decide +kernel
theorem zd_Su_slotOf_65 : decode zb_Su_slotOf 65 = .ok (.iaload, 1) := by decide +kernel
theorem zd_Su_slotOf_66 : decode zb_Su_slotOf 66 = .ok (.baload, 1) := by decide +kernel
theorem zd_Su_slotOf_67 : decode zb_Su_slotOf 67 = .ok (.iload_n 2, 1) := by decide +kernel
theorem zd_Su_slotOf_68 : decode zb_Su_slotOf 68 = .ok (.if_icmp .ne 6, 3) := by decide +kernel
theorem zd_Su_slotOf_71 : decode zb_Su_slotOf 71 = .ok (.goto 20, 3) := by decide +kernel
theorem zd_Su_slotOf_74 : decode zb_Su_slotOf 74 = .ok (.iload_n 3, 1) := by decide +kernel
theorem zd_Su_slotOf_75 : decode zb_Su_slotOf 75 = .ok (.iconst 1, 1) := by decide +kernel
theorem zd_Su_slotOf_76 : decode zb_Su_slotOf 76 = .ok (.iadd, 1) := by decide +kernel
theorem zd_Su_slotOf_77 : decode zb_Su_slotOf 77 = .ok (.aload_n 0, 1) := by decide +kernel
theorem zd_Su_slotOf_78 : decode zb_Su_slotOf 78 = .ok (.getfield 40, 3) := by decide +kernel
theorem zd_Su_slotOf_81 : decode zb_Su_slotOf 81 = .ok (.iconst 1, 1) := by decide +kernel
theorem zd_Su_slotOf_82 : decode zb_Su_slotOf 82 = .ok (.isub, 1) := by decide +kernel
theorem zd_Su_slotOf_83 : decode zb_Su_slotOf 83 = .ok (.iand, 1) := by decide +kernel
theorem zd_Su_slotOf_84 : decode zb_Su_slotOf 84 = .ok (.istore_n 3, 1) := by decide +kernel
theorem zd_Su_slotOf_85 : decode zb_Su_slotOf 85 = .ok (.iinc 4 1, 3) := by decide +kernel
theorem zd_Su_slotOf_88 : decode zb_Su_slotOf 88 = .ok (.goto (-66), 3) := by decide +kernel
theorem zd_Su_slotOf_91 : decode zb_Su_slotOf 91 = .ok (.iload_n 3, 1) := by decide +kernel
theorem zd_Su_slotOf_92 : decode zb_Su_slotOf 92 = .ok (.ireturn, 1) := by decide +kernel
theorem zd_Su_split_0 : decode zb_Su_split 0 = .ok (.aload_n 0, 1) := by decide +kernel
theorem zd_Su_split_1 : decode zb_Su_split 1 = .ok (.getfield 20, 3) := by decide +kernel
theorem zd_Su_split_4 : decode zb_Su_split 4 = .ok (.iload_n 2, 1) := by decide +kernel
theorem zd_Su_split_5 : decode zb_Su_split 5 = .ok (.iaload, 1) := by decide +kernel
theorem zd_Su_split_6 : decode zb_Su_split 6 = .ok (.aload_n 0, 1) := by decide +kernel
theorem zd_Su_split_7 : decode zb_Su_split 7 = .ok (.getfield 49, 3) := by decide +kernel
theorem zd_Su_split_10 : decode zb_Su_split 10 = .ok (.iadd, 1) := by decide +kernel
theorem zd_Su_split_11 : decode zb_Su_split 11 = .ok (.istore_n 3, 1) := by decide +kernel
theorem zd_Su_split_12 : decode zb_Su_split 12 = .ok (.aload_n 0, 1) := by decide +kernel
theorem zd_Su_split_13 : decode zb_Su_split 13 = .ok (.aload_n 0, 1) := by decide +kernel
theorem zd_Su_split_14 : decode zb_Su_split 14 = .ok (.getfield 46, 3) := by decide +kernel
theorem zd_Su_split_17 : decode zb_Su_split 17 = .ok (.aload_n 0, 1) := by decide +kernel
theorem zd_Su_split_18 : decode zb_Su_split 18 = .ok (.getfield 20, 3) := by decide +kernel
theorem zd_Su_split_21 : decode zb_Su_split 21 = .ok (.iload_n 2, 1) := by decide +kernel
theorem zd_Su_split_22 : decode zb_Su_split 22 = .ok (.iaload, 1) := by decide +kernel
theorem zd_Su_split_23 : decode zb_Su_split 23 = .ok (.iload_n 3, 1) := by decide +kernel
theorem zd_Su_split_24 : decode zb_Su_split 24 = .ok (.invokevirtual 110, 3) := by decide +kernel
theorem zd_Su_split_27 : decode zb_Su_split 27 = .ok (.istore 4, 2) := by decide +kernel
theorem zd_Su_split_29 : decode zb_Su_split 29 = .ok (.aload_n 0, 1) := by decide +kernel
theorem zd_Su_split_30 : decode zb_Su_split 30 = .ok (.getfield 37, 3) := by decide +kernel
theorem zd_Su_split_33 : decode zb_Su_split 33 = .ok (.iload_n 1, 1) := by decide +kernel
theorem zd_Su_split_34 : decode zb_Su_split 34 = .ok (.iload 4, 2) := by decide +kernel
theorem zd_Su_split_36 : decode zb_Su_split 36 = .ok (.iastore, 1) := by decide +kernel
theorem zd_Su_split_37 : decode zb_Su_split 37 = .ok (.aload_n 0, 1) := by decide +kernel
theorem zd_Su_split_38 : decode zb_Su_split 38 = .ok (.getfield 20, 3) := by decide +kernel
theorem zd_Su_split_41 : decode zb_Su_split 41 = .ok (.iload_n 2, 1) := by decide +kernel
theorem zd_Su_split_42 : decode zb_Su_split 42 = .ok (.iload_n 3, 1) := by decide +kernel
theorem zd_Su_split_43 : decode zb_Su_split 43 = .ok (.iastore, 1) := by decide +kernel
theorem zd_Su_split_44 : decode zb_Su_split 44 = .ok (.aload_n 0, 1) := by decide +kernel
theorem zd_Su_split_45 : decode zb_Su_split 45 = .ok (.getfield 27, 3) := by decide +kernel
theorem zd_Su_split_48 : decode zb_Su_split 48 = .ok (.iload_n 2, 1) := by decide +kernel
theorem zd_Su_split_49 : decode zb_Su_split 49 = .ok (.iload 4, 2) := by decide +kernel
theorem zd_Su_split_51 : decode zb_Su_split 51 = .ok (.iastore, 1) := by decide +kernel
theorem zd_Su_split_52 : decode zb_Su_split 52 = .ok (.aload_n 0, 1) := by decide +kernel
theorem zd_Su_split_53 : decode zb_Su_split 53 = .ok (.getfield 37, 3) := by decide +kernel
theorem zd_Su_split_56 : decode zb_Su_split 56 = .ok (.aload_n 0, 1) := by decide +kernel
theorem zd_Su_split_57 : decode zb_Su_split 57 = .ok (.iload 4, 2) := by decide +kernel
theorem zd_Su_split_59 : decode zb_Su_split 59 = .ok (.aload_n 0, 1) := by decide +kernel
theorem zd_Su_split_60 : decode zb_Su_split 60 = .ok (.getfield 9, 3) := by decide +kernel
theorem zd_Su_split_63 : decode zb_Su_split 63 = .ok (.iload_n 3, 1) := by decide +kernel
theorem zd_Su_split_64 : decode zb_Su_split 64 = .ok (.baload, 1) := by decide +kernel
theorem zd_Su_split_65 : decode zb_Su_split 65 = .ok (.invokevirtual 106, 3) := by decide +kernel
theorem zd_Su_split_68 : decode zb_Su_split 68 = .ok (.iload_n 2, 1) := by decide +kernel
theorem zd_Su_split_69 : decode zb_Su_split 69 = .ok (.iastore, 1) := by decide +kernel
theorem zd_Su_split_70 : decode zb_Su_split 70 = .ok (.iload 4, 2) := by decide +kernel
theorem zd_Su_split_72 : decode zb_Su_split 72 = .ok (.ireturn, 1) := by decide +kernel
theorem zd_Su_addNode_0 : decode zb_Su_addNode 0 = .ok (.aload_n 0, 1) := by decide +kernel
theorem zd_Su_addNode_1 : decode zb_Su_addNode 1 = .ok (.getfield 33, 3) := by decide +kernel
theorem zd_Su_addNode_4 : decode zb_Su_addNode 4 = .ok (.istore 4, 2) := by decide +kernel
theorem zd_Su_addNode_6 : decode zb_Su_addNode 6 = .ok (.aload_n 0, 1) := by decide +kernel
theorem zd_Su_addNode_7 : decode zb_Su_addNode 7 = .ok (.dup, 1) := by decide +kernel
theorem zd_Su_addNode_8 : decode zb_Su_addNode 8 = .ok (.getfield 33, 3) := by decide +kernel
theorem zd_Su_addNode_11 : decode zb_Su_addNode 11 = .ok (.iconst 1, 1) := by decide +kernel
theorem zd_Su_addNode_12 : decode zb_Su_addNode 12 = .ok (.iadd, 1) := by decide +kernel
theorem zd_Su_addNode_13 : decode zb_Su_addNode 13 = .ok (.putfield 33, 3) := by decide +kernel
theorem zd_Su_addNode_16 : decode zb_Su_addNode 16 = .ok (.aload_n 0, 1) := by decide +kernel
theorem zd_Su_addNode_17 : decode zb_Su_addNode 17 = .ok (.getfield 27, 3) := by decide +kernel
theorem zd_Su_addNode_20 : decode zb_Su_addNode 20 = .ok (.iload 4, 2) := by decide +kernel
theorem zd_Su_addNode_22 : decode zb_Su_addNode 22 = .ok (.iload_n 1, 1) := by decide +kernel
theorem zd_Su_addNode_23 : decode zb_Su_addNode 23 = .ok (.iastore, 1) := by decide +kernel
theorem zd_Su_addNode_24 : decode zb_Su_addNode 24 = .ok (.aload_n 0, 1) := by decide +kernel
theorem zd_Su_addNode_25 : decode zb_Su_addNode 25 = .ok (.getfield 20, 3) := by decide +kernel
theorem zd_Su_addNode_28 : decode zb_Su_addNode 28 = .ok (.iload 4, 2) := by decide +kernel
theorem zd_Su_addNode_30 : decode zb_Su_addNode 30 = .ok (.iload_n 2, 1) := by decide +kernel
theorem zd_Su_addNode_31 : decode zb_Su_addNode 31 = .ok (.iastore, 1) := by decide +kernel
theorem zd_Su_addNode_32 : decode zb_Su_addNode 32 = .ok (.aload_n 0, 1) := by decide +kernel
theorem zd_Su_addNode_33 : decode zb_Su_addNode 33 = .ok (.getfield 24, 3) := by decide +kernel
theorem zd_Su_addNode_36 : decode zb_Su_addNode 36 = .ok (.iload 4, 2) := by decide +kernel
theorem zd_Su_addNode_38 : decode zb_Su_addNode 38 = .ok (.iload_n 3, 1) := by decide +kernel
theorem zd_Su_addNode_39 : decode zb_Su_addNode 39 = .ok (.iastore, 1) := by decide +kernel
theorem zd_Su_addNode_40 : decode zb_Su_addNode 40 = .ok (.aload_n 0, 1) := by decide +kernel
theorem zd_Su_addNode_41 : decode zb_Su_addNode 41 = .ok (.getfield 30, 3) := by decide +kernel
theorem zd_Su_addNode_44 : decode zb_Su_addNode 44 = .ok (.iload 4, 2) := by decide +kernel
theorem zd_Su_addNode_46 : decode zb_Su_addNode 46 = .ok (.iconst 0, 1) := by decide +kernel
theorem zd_Su_addNode_47 : decode zb_Su_addNode 47 = .ok (.iastore, 1) := by decide +kernel
theorem zd_Su_addNode_48 : decode zb_Su_addNode 48 = .ok (.iload 4, 2) := by decide +kernel
theorem zd_Su_addNode_50 : decode zb_Su_addNode 50 = .ok (.ireturn, 1) := by decide +kernel
theorem zd_Su_addLeaf_0 : decode zb_Su_addLeaf 0 = .ok (.aload_n 0, 1) := by decide +kernel
theorem zd_Su_addLeaf_1 : decode zb_Su_addLeaf 1 = .ok (.iload_n 1, 1) := by decide +kernel
theorem zd_Su_addLeaf_2 : decode zb_Su_addLeaf 2 = .ok (.aload_n 0, 1) := by decide +kernel
theorem zd_Su_addLeaf_3 : decode zb_Su_addLeaf 3 = .ok (.getfield 9, 3) := by decide +kernel
theorem zd_Su_addLeaf_6 : decode zb_Su_addLeaf 6 = .ok (.iload_n 2, 1) := by decide +kernel
theorem zd_Su_addLeaf_7 : decode zb_Su_addLeaf 7 = .ok (.baload, 1) := by decide +kernel
theorem zd_Su_addLeaf_8 : decode zb_Su_addLeaf 8 = .ok (.invokevirtual 106, 3) := by decide +kernel
theorem zd_Su_addLeaf_11 : decode zb_Su_addLeaf 11 = .ok (.istore_n 3, 1) := by decide +kernel
theorem zd_Su_addLeaf_12 : decode zb_Su_addLeaf 12 = .ok (.aload_n 0, 1) := by decide +kernel
theorem zd_Su_addLeaf_13 : decode zb_Su_addLeaf 13 = .ok (.getfield 37, 3) := by decide +kernel
theorem zd_Su_addLeaf_16 : decode zb_Su_addLeaf 16 = .ok (.iload_n 3, 1) := by decide +kernel
theorem zd_Su_addLeaf_17 : decode zb_Su_addLeaf 17 = .ok (.aload_n 0, 1) := by decide +kernel
theorem zd_Su_addLeaf_18 : decode zb_Su_addLeaf 18 = .ok (.iload_n 1, 1) := by decide +kernel
theorem zd_Su_addLeaf_19 : decode zb_Su_addLeaf 19 = .ok (.iload_n 2, 1) := by decide +kernel
theorem zd_Su_addLeaf_20 : decode zb_Su_addLeaf 20 = .ok (.aload_n 0, 1) := by decide +kernel
theorem zd_Su_addLeaf_21 : decode zb_Su_addLeaf 21 = .ok (.getfield 15, 3) := by decide +kernel
theorem zd_Su_addLeaf_24 : decode zb_Su_addLeaf 24 = .ok (.invokevirtual 110, 3) := by decide +kernel
theorem zd_Su_addLeaf_27 : decode zb_Su_addLeaf 27 = .ok (.iastore, 1) := by decide +kernel
theorem zd_Su_addLeaf_28 : decode zb_Su_addLeaf 28 = .ok (.return_, 1) := by decide +kernel
