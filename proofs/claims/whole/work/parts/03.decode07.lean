theorem zd_Mo_part_0 : decode zb_Mo_part 0 = .ok (.aload_n 0, 1) := by decide +kernel
theorem zd_Mo_part_1 : decode zb_Mo_part 1 = .ok (.invokevirtual 78, 3) := by decide +kernel
theorem zd_Mo_part_4 : decode zb_Mo_part 4 = .ok (.istore_n 2, 1) := by decide +kernel
theorem zd_Mo_part_5 : decode zb_Mo_part 5 = .ok (.iload_n 2, 1) := by decide +kernel
theorem zd_Mo_part_6 : decode zb_Mo_part 6 = .ok (.ifCond .ne 8, 3) := by decide +kernel
theorem zd_Mo_part_9 : decode zb_Mo_part 9 = .ok (.aload_n 0, 1) := by decide +kernel
theorem zd_Mo_part_10 : decode zb_Mo_part 10 = .ok (.iconst 1, 1) := by decide +kernel
theorem zd_Mo_part_11 : decode zb_Mo_part 11 = .ok (.putfield 74, 3) := by decide +kernel
theorem zd_Mo_part_14 : decode zb_Mo_part 14 = .ok (.iload_n 2, 1) := by decide +kernel
theorem zd_Mo_part_15 : decode zb_Mo_part 15 = .ok (.sipush 128, 3) := by decide +kernel
theorem zd_Mo_part_18 : decode zb_Mo_part 18 = .ok (.if_icmp .ge 38, 3) := by decide +kernel
theorem zd_Mo_part_21 : decode zb_Mo_part 21 = .ok (.iconst 0, 1) := by decide +kernel
theorem zd_Mo_part_22 : decode zb_Mo_part 22 = .ok (.istore_n 3, 1) := by decide +kernel
theorem zd_Mo_part_23 : decode zb_Mo_part 23 = .ok (.iload_n 3, 1) := by decide +kernel
theorem zd_Mo_part_24 : decode zb_Mo_part 24 = .ok (.iload_n 2, 1) := by decide +kernel
theorem zd_Mo_part_25 : decode zb_Mo_part 25 = .ok (.if_icmp .ge 30, 3) := by decide +kernel
theorem zd_Mo_part_28 : decode zb_Mo_part 28 = .ok (.aload_n 0, 1) := by decide +kernel
theorem zd_Mo_part_29 : decode zb_Mo_part 29 = .ok (.getfield 74, 3) := by decide +kernel
theorem zd_Mo_part_32 : decode zb_Mo_part 32 = .ok (.ifCond .ne 23, 3) := by decide +kernel
theorem zd_Mo_part_35 : decode zb_Mo_part 35 = .ok (.aload_n 0, 1) := by decide +kernel
theorem zd_Mo_part_36 : decode zb_Mo_part 36 = .ok (.invokevirtual 78, 3) := by decide +kernel
theorem zd_Mo_part_39 : decode zb_Mo_part 39 = .ok (.istore 4, 2) := by decide +kernel
theorem zd_Mo_part_41 : decode zb_Mo_part 41 = .ok (.aload_n 0, 1) := by decide +kernel
theorem zd_Mo_part_42 : decode zb_Mo_part 42 = .ok (.iload 4, 2) := by decide +kernel
theorem zd_Mo_part_44 : decode zb_Mo_part 44 = .ok (.i2b, 1) := by decide +kernel
theorem zd_Mo_part_45 : decode zb_Mo_part 45 = .ok (.iload_n 1, 1) := by decide +kernel
theorem zd_Mo_part_46 : decode zb_Mo_part 46 = .ok (.invokevirtual 85, 3) := by decide +kernel
theorem zd_Mo_part_49 : decode zb_Mo_part 49 = .ok (.iinc 3 1, 3) := by decide +kernel
theorem zd_Mo_part_52 : decode zb_Mo_part 52 = .ok (.goto (-29), 3) := by decide +kernel
theorem zd_Mo_part_55 : decode zb_Mo_part 55 = .ok (.return_, 1) := by decide +kernel
theorem zd_Mo_part_56 : decode zb_Mo_part 56 = .ok (.lconst 0, 1) := by decide +kernel
theorem zd_Mo_part_57 : decode zb_Mo_part 57 = .ok (.lstore_n 3, 1) := by decide +kernel
theorem zd_Mo_part_58 : decode zb_Mo_part 58 = .ok (.iconst 0, 1) := by decide +kernel
theorem zd_Mo_part_59 : decode zb_Mo_part 59 = .ok (.istore 5, 2) := by decide +kernel
theorem zd_Mo_part_61 : decode zb_Mo_part 61 = .ok (.iconst 0, 1) := by decide +kernel
theorem zd_Mo_part_62 : decode zb_Mo_part 62 = .ok (.istore 6, 2) := by decide +kernel
theorem zd_Mo_part_64 : decode zb_Mo_part 64 = .ok (.iload 6, 2) := by decide +kernel
theorem zd_Mo_part_66 : decode zb_Mo_part 66 = .ok (.iconst 4, 1) := by decide +kernel
theorem zd_Mo_part_67 : decode zb_Mo_part 67 = .ok (.if_icmp .ge 32, 3) := by decide +kernel
theorem zd_Mo_part_70 : decode zb_Mo_part 70 = .ok (.iload_n 2, 1) := by decide +kernel
theorem zd_Mo_part_71 : decode zb_Mo_part 71 = .ok (.iload 6, 2) := by decide +kernel
theorem zd_Mo_part_73 : decode zb_Mo_part 73 = .ok (.iushr, 1) := by decide +kernel
theorem zd_Mo_part_74 : decode zb_Mo_part 74 = .ok (.iconst 1, 1) := by decide +kernel
theorem zd_Mo_part_75 : decode zb_Mo_part 75 = .ok (.iand, 1) := by decide +kernel
theorem zd_Mo_part_76 : decode zb_Mo_part 76 = .ok (.ifCond .eq 17, 3) := by decide +kernel
theorem zd_Mo_part_79 : decode zb_Mo_part 79 = .ok (.lload_n 3, 1) := by decide +kernel
theorem zd_Mo_part_80 : decode zb_Mo_part 80 = .ok (.aload_n 0, 1) := by decide +kernel
theorem zd_Mo_part_81 : decode zb_Mo_part 81 = .ok (.invokevirtual 78, 3) := by decide +kernel
theorem zd_Mo_part_84 : decode zb_Mo_part 84 = .ok (.i2l, 1) := by decide +kernel
theorem zd_Mo_part_85 : decode zb_Mo_part 85 = .ok (.bipush 8, 2) := by decide +kernel
theorem zd_Mo_part_87 : decode zb_Mo_part 87 = .ok (.iload 6, 2) := by decide +kernel
theorem zd_Mo_part_89 : decode zb_Mo_part 89 = .ok (.imul, 1) := by decide +kernel
theorem zd_Mo_part_90 : decode zb_Mo_part 90 = .ok (.lshl, 1) := by decide +kernel
theorem zd_Mo_part_91 : decode zb_Mo_part 91 = .ok (.ladd, 1) := by decide +kernel
theorem zd_Mo_part_92 : decode zb_Mo_part 92 = .ok (.lstore_n 3, 1) := by decide +kernel
theorem zd_Mo_part_93 : decode zb_Mo_part 93 = .ok (.iinc 6 1, 3) := by decide +kernel
theorem zd_Mo_part_96 : decode zb_Mo_part 96 = .ok (.goto (-32), 3) := by decide +kernel
theorem zd_Mo_part_99 : decode zb_Mo_part 99 = .ok (.iconst 0, 1) := by decide +kernel
theorem zd_Mo_part_100 : decode zb_Mo_part 100 = .ok (.istore 6, 2) := by decide +kernel
theorem zd_Mo_part_102 : decode zb_Mo_part 102 = .ok (.iload 6, 2) := by decide +kernel
theorem zd_Mo_part_104 : decode zb_Mo_part 104 = .ok (.iconst 3, 1) := by decide +kernel
theorem zd_Mo_part_105 : decode zb_Mo_part 105 = .ok (.if_icmp .ge 35, 3) := by decide +kernel
theorem zd_Mo_part_108 : decode zb_Mo_part 108 = .ok (.iload_n 2, 1) := by decide +kernel
theorem zd_Mo_part_109 : decode zb_Mo_part 109 = .ok (.iconst 4, 1) := by decide +kernel
theorem zd_Mo_part_110 : decode zb_Mo_part 110 = .ok (.iload 6, 2) := by decide +kernel
theorem zd_Mo_part_112 : decode zb_Mo_part 112 = .ok (.iadd, 1) := by decide +kernel
theorem zd_Mo_part_113 : decode zb_Mo_part 113 = .ok (.iushr, 1) := by decide +kernel
theorem zd_Mo_part_114 : decode zb_Mo_part 114 = .ok (.iconst 1, 1) := by decide +kernel
theorem zd_Mo_part_115 : decode zb_Mo_part 115 = .ok (.iand, 1) := by decide +kernel
theorem zd_Mo_part_116 : decode zb_Mo_part 116 = .ok (.ifCond .eq 18, 3) := by decide +kernel
theorem zd_Mo_part_119 : decode zb_Mo_part 119 = .ok (.iload 5, 2) := by decide +kernel
theorem zd_Mo_part_121 : decode zb_Mo_part 121 = .ok (.aload_n 0, 1) := by decide +kernel
theorem zd_Mo_part_122 : decode zb_Mo_part 122 = .ok (.invokevirtual 78, 3) := by decide +kernel
theorem zd_Mo_part_125 : decode zb_Mo_part 125 = .ok (.bipush 8, 2) := by decide +kernel
theorem zd_Mo_part_127 : decode zb_Mo_part 127 = .ok (.iload 6, 2) := by decide +kernel
theorem zd_Mo_part_129 : decode zb_Mo_part 129 = .ok (.imul, 1) := by decide +kernel
theorem zd_Mo_part_130 : decode zb_Mo_part 130 = .ok (.ishl, 1) := by decide +kernel
theorem zd_Mo_part_131 : decode zb_Mo_part 131 = .ok (.iadd, 1) := by decide +kernel
theorem zd_Mo_part_132 : decode zb_Mo_part 132 = .ok (.istore 5, 2) := by decide +kernel
theorem zd_Mo_part_134 : decode zb_Mo_part 134 = .ok (.iinc 6 1, 3) := by decide +kernel
theorem zd_Mo_part_137 : decode zb_Mo_part 137 = .ok (.goto (-35), 3) := by decide +kernel
theorem zd_Mo_part_140 : decode zb_Mo_part 140 = .ok (.iload 5, 2) := by decide +kernel
theorem zd_Mo_part_142 : decode zb_Mo_part 142 = .ok (.ifCond .ne 7, 3) := by decide +kernel
theorem zd_Mo_part_145 : decode zb_Mo_part 145 = .ok (.ldc 7, 2) := by decide +kernel
theorem zd_Mo_part_147 : decode zb_Mo_part 147 = .ok (.istore 5, 2) := by decide +kernel
theorem zd_Mo_part_149 : decode zb_Mo_part 149 = .ok (.lload_n 3, 1) := by decide +kernel
theorem zd_Mo_part_150 : decode zb_Mo_part 150 = .ok (.iload 5, 2) := by decide +kernel
theorem zd_Mo_part_152 : decode zb_Mo_part 152 = .ok (.i2l, 1) := by decide +kernel
theorem zd_Mo_part_153 : decode zb_Mo_part 153 = .ok (.ladd, 1) := by decide +kernel
theorem zd_Mo_part_154 : decode zb_Mo_part 154 = .ok (.aload_n 0, 1) := by decide +kernel
theorem zd_Mo_part_155 : decode zb_Mo_part 155 = .ok (.getfield 35, 3) := by decide +kernel
theorem zd_Mo_part_158 : decode zb_Mo_part 158 = .ok (.i2l, 1) := by decide +kernel
theorem zd_Mo_part_159 : decode zb_Mo_part 159 = .ok (.lcmp, 1) := by decide +kernel
theorem zd_Mo_part_160 : decode zb_Mo_part 160 = .ok (.ifCond .le 8, 3) := by decide +kernel
theorem zd_Mo_part_163 : decode zb_Mo_part 163 = .ok (.aload_n 0, 1) := by decide +kernel
theorem zd_Mo_part_164 : decode zb_Mo_part 164 = .ok (.iconst 1, 1) := by decide +kernel
theorem zd_Mo_part_165 : decode zb_Mo_part 165 = .ok (.putfield 74, 3) := by decide +kernel
theorem zd_Mo_part_168 : decode zb_Mo_part 168 = .ok (.iconst 0, 1) := by decide +kernel
theorem zd_Mo_part_169 : decode zb_Mo_part 169 = .ok (.istore 6, 2) := by decide +kernel
theorem zd_Mo_part_171 : decode zb_Mo_part 171 = .ok (.iload 6, 2) := by decide +kernel
theorem zd_Mo_part_173 : decode zb_Mo_part 173 = .ok (.iload 5, 2) := by decide +kernel
theorem zd_Mo_part_175 : decode zb_Mo_part 175 = .ok (.if_icmp .ge 31, 3) := by decide +kernel
theorem zd_Mo_part_178 : decode zb_Mo_part 178 = .ok (.aload_n 0, 1) := by decide +kernel
theorem zd_Mo_part_179 : decode zb_Mo_part 179 = .ok (.getfield 74, 3) := by decide +kernel
theorem zd_Mo_part_182 : decode zb_Mo_part 182 = .ok (.ifCond .ne 24, 3) := by decide +kernel
theorem zd_Mo_part_185 : decode zb_Mo_part 185 = .ok (.aload_n 0, 1) := by decide +kernel
theorem zd_Mo_part_186 : decode zb_Mo_part 186 = .ok (.aload_n 0, 1) := by decide +kernel
theorem zd_Mo_part_187 : decode zb_Mo_part 187 = .ok (.getfield 14, 3) := by decide +kernel
theorem zd_Mo_part_190 : decode zb_Mo_part 190 = .ok (.lload_n 3, 1) := by decide +kernel
theorem zd_Mo_part_191 : decode zb_Mo_part 191 = .ok (.l2i, 1) := by decide +kernel
theorem zd_Mo_part_192 : decode zb_Mo_part 192 = .ok (.iload 6, 2) := by decide +kernel
theorem zd_Mo_part_194 : decode zb_Mo_part 194 = .ok (.iadd, 1) := by decide +kernel
theorem zd_Mo_part_195 : decode zb_Mo_part 195 = .ok (.baload, 1) := by decide +kernel
theorem zd_Mo_part_196 : decode zb_Mo_part 196 = .ok (.iload_n 1, 1) := by decide +kernel
theorem zd_Mo_part_197 : decode zb_Mo_part 197 = .ok (.invokevirtual 85, 3) := by decide +kernel
theorem zd_Mo_part_200 : decode zb_Mo_part 200 = .ok (.iinc 6 1, 3) := by decide +kernel
theorem zd_Mo_part_203 : decode zb_Mo_part 203 = .ok (.goto (-32), 3) := by decide +kernel
theorem zd_Mo_part_206 : decode zb_Mo_part 206 = .ok (.return_, 1) := by decide +kernel
theorem zd_Mo_give_0 : decode zb_Mo_give 0 = .ok (.aload_n 0, 1) := by decide +kernel
theorem zd_Mo_give_1 : decode zb_Mo_give 1 = .ok (.getfield 82, 3) := by decide +kernel
theorem zd_Mo_give_4 : decode zb_Mo_give 4 = .ok (.iload_n 2, 1) := by decide +kernel
theorem zd_Mo_give_5 : decode zb_Mo_give 5 = .ok (.if_icmp .lt 8, 3) := by decide +kernel
theorem zd_Mo_give_8 : decode zb_Mo_give 8 = .ok (.aload_n 0, 1) := by decide +kernel
theorem zd_Mo_give_9 : decode zb_Mo_give 9 = .ok (.iconst 1, 1) := by decide +kernel
theorem zd_Mo_give_10 : decode zb_Mo_give 10 = .ok (.putfield 74, 3) := by decide +kernel
theorem zd_Mo_give_13 : decode zb_Mo_give 13 = .ok (.aload_n 0, 1) := by decide +kernel
theorem zd_Mo_give_14 : decode zb_Mo_give 14 = .ok (.getfield 74, 3) := by decide +kernel
theorem zd_Mo_give_17 : decode zb_Mo_give 17 = .ok (.ifCond .eq 4, 3) := by decide +kernel
theorem zd_Mo_give_20 : decode zb_Mo_give 20 = .ok (.return_, 1) := by decide +kernel
theorem zd_Mo_give_21 : decode zb_Mo_give 21 = .ok (.aload_n 0, 1) := by decide +kernel
theorem zd_Mo_give_22 : decode zb_Mo_give 22 = .ok (.getfield 21, 3) := by decide +kernel
theorem zd_Mo_give_25 : decode zb_Mo_give 25 = .ok (.aload_n 0, 1) := by decide +kernel
theorem zd_Mo_give_26 : decode zb_Mo_give 26 = .ok (.getfield 82, 3) := by decide +kernel
theorem zd_Mo_give_29 : decode zb_Mo_give 29 = .ok (.iload_n 1, 1) := by decide +kernel
theorem zd_Mo_give_30 : decode zb_Mo_give 30 = .ok (.bastore, 1) := by decide +kernel
theorem zd_Mo_give_31 : decode zb_Mo_give 31 = .ok (.aload_n 0, 1) := by decide +kernel
theorem zd_Mo_give_32 : decode zb_Mo_give 32 = .ok (.dup, 1) := by decide +kernel
theorem zd_Mo_give_33 : decode zb_Mo_give 33 = .ok (.getfield 82, 3) := by decide +kernel
theorem zd_Mo_give_36 : decode zb_Mo_give 36 = .ok (.iconst 1, 1) := by decide +kernel
theorem zd_Mo_give_37 : decode zb_Mo_give 37 = .ok (.iadd, 1) := by decide +kernel
theorem zd_Mo_give_38 : decode zb_Mo_give 38 = .ok (.putfield 82, 3) := by decide +kernel
theorem zd_Mo_give_41 : decode zb_Mo_give 41 = .ok (.return_, 1) := by decide +kernel
theorem zd_Mo_turn_0 : decode zb_Mo_turn 0 = .ok (.aload_n 0, 1) := by decide +kernel
theorem zd_Mo_turn_1 : decode zb_Mo_turn 1 = .ok (.iconst 0, 1) := by decide +kernel
theorem zd_Mo_turn_2 : decode zb_Mo_turn 2 = .ok (.putfield 24, 3) := by decide +kernel
theorem zd_Mo_turn_5 : decode zb_Mo_turn 5 = .ok (.aload_n 0, 1) := by decide +kernel
theorem zd_Mo_turn_6 : decode zb_Mo_turn 6 = .ok (.getfield 45, 3) := by decide +kernel
theorem zd_Mo_turn_9 : decode zb_Mo_turn 9 = .ok (.ldc 7, 2) := by decide +kernel
theorem zd_Mo_turn_11 : decode zb_Mo_turn 11 = .ok (.if_icmp .le 9, 3) := by decide +kernel
theorem zd_Mo_turn_14 : decode zb_Mo_turn 14 = .ok (.aload_n 0, 1) := by decide +kernel
theorem zd_Mo_turn_15 : decode zb_Mo_turn 15 = .ok (.iconst 1, 1) := by decide +kernel
theorem zd_Mo_turn_16 : decode zb_Mo_turn 16 = .ok (.invokevirtual 31, 3) := by decide +kernel
theorem zd_Mo_turn_19 : decode zb_Mo_turn 19 = .ok (.ireturn, 1) := by decide +kernel
theorem zd_Mo_turn_20 : decode zb_Mo_turn 20 = .ok (.iconst 0, 1) := by decide +kernel
theorem zd_Mo_turn_21 : decode zb_Mo_turn 21 = .ok (.istore_n 1, 1) := by decide +kernel
theorem zd_Mo_turn_22 : decode zb_Mo_turn 22 = .ok (.iload_n 1, 1) := by decide +kernel
theorem zd_Mo_turn_23 : decode zb_Mo_turn 23 = .ok (.aload_n 0, 1) := by decide +kernel
theorem zd_Mo_turn_24 : decode zb_Mo_turn 24 = .ok (.getfield 45, 3) := by decide +kernel
theorem zd_Mo_turn_27 : decode zb_Mo_turn 27 = .ok (.if_icmp .ge 21, 3) := by decide +kernel
theorem zd_Mo_turn_30 : decode zb_Mo_turn 30 = .ok (.aload_n 0, 1) := by decide +kernel
theorem zd_Mo_turn_31 : decode zb_Mo_turn 31 = .ok (.getfield 8, 3) := by decide +kernel
theorem zd_Mo_turn_34 : decode zb_Mo_turn 34 = .ok (.iload_n 1, 1) := by decide +kernel
theorem zd_Mo_turn_35 : decode zb_Mo_turn 35 = .ok (.aload_n 0, 1) := by decide +kernel
theorem zd_Mo_turn_36 : decode zb_Mo_turn 36 = .ok (.getfield 18, 3) := by decide +kernel
theorem zd_Mo_turn_39 : decode zb_Mo_turn 39 = .ok (.iload_n 1, 1) := by decide +kernel
theorem zd_Mo_turn_40 : decode zb_Mo_turn 40 = .ok (.baload, 1) := by decide +kernel
theorem zd_Mo_turn_41 : decode zb_Mo_turn 41 = .ok (.bastore, 1) := by decide +kernel
theorem zd_Mo_turn_42 : decode zb_Mo_turn 42 = .ok (.iinc 1 1, 3) := by decide +kernel
theorem zd_Mo_turn_45 : decode zb_Mo_turn 45 = .ok (.goto (-23), 3) := by decide +kernel
theorem zd_Mo_turn_48 : decode zb_Mo_turn 48 = .ok (.aload_n 0, 1) := by decide +kernel
theorem zd_Mo_turn_49 : decode zb_Mo_turn 49 = .ok (.aload_n 0, 1) := by decide +kernel
theorem zd_Mo_turn_50 : decode zb_Mo_turn 50 = .ok (.getfield 45, 3) := by decide +kernel
theorem zd_Mo_turn_53 : decode zb_Mo_turn 53 = .ok (.putfield 28, 3) := by decide +kernel
theorem zd_Mo_turn_56 : decode zb_Mo_turn 56 = .ok (.aload_n 0, 1) := by decide +kernel
theorem zd_Mo_turn_57 : decode zb_Mo_turn 57 = .ok (.getfield 28, 3) := by decide +kernel
theorem zd_Mo_turn_60 : decode zb_Mo_turn 60 = .ok (.ireturn, 1) := by decide +kernel
theorem zd_Mo_longest_0 : decode zb_Mo_longest 0 = .ok (.aload_n 0, 1) := by decide +kernel
theorem zd_Mo_longest_1 : decode zb_Mo_longest 1 = .ok (.iconst 0, 1) := by decide +kernel
theorem zd_Mo_longest_2 : decode zb_Mo_longest 2 = .ok (.putfield 24, 3) := by decide +kernel
theorem zd_Mo_longest_5 : decode zb_Mo_longest 5 = .ok (.iload_n 1, 1) := by decide +kernel
theorem zd_Mo_longest_6 : decode zb_Mo_longest 6 = .ok (.ifCond .lt 20, 3) := by decide +kernel
theorem zd_Mo_longest_9 : decode zb_Mo_longest 9 = .ok (.iload_n 1, 1) := by decide +kernel
theorem zd_Mo_longest_10 : decode zb_Mo_longest 10 = .ok (.aload_n 0, 1) := by decide +kernel
theorem zd_Mo_longest_11 : decode zb_Mo_longest 11 = .ok (.getfield 28, 3) := by decide +kernel
theorem zd_Mo_longest_14 : decode zb_Mo_longest 14 = .ok (.if_icmp .ge 12, 3) := by decide +kernel
theorem zd_Mo_longest_17 : decode zb_Mo_longest 17 = .ok (.iload_n 2, 1) := by decide +kernel
theorem zd_Mo_longest_18 : decode zb_Mo_longest 18 = .ok (.ifCond .lt 8, 3) := by decide +kernel
theorem zd_Mo_longest_21 : decode zb_Mo_longest 21 = .ok (.iload_n 2, 1) := by decide +kernel
theorem zd_Mo_longest_22 : decode zb_Mo_longest 22 = .ok (.iconst 1, 1) := by decide +kernel
theorem zd_Mo_longest_23 : decode zb_Mo_longest 23 = .ok (.if_icmp .le 9, 3) := by decide +kernel
theorem zd_Mo_longest_26 : decode zb_Mo_longest 26 = .ok (.aload_n 0, 1) := by decide +kernel
theorem zd_Mo_longest_27 : decode zb_Mo_longest 27 = .ok (.iconst 1, 1) := by decide +kernel
theorem zd_Mo_longest_28 : decode zb_Mo_longest 28 = .ok (.invokevirtual 31, 3) := by decide +kernel
theorem zd_Mo_longest_31 : decode zb_Mo_longest 31 = .ok (.ireturn, 1) := by decide +kernel
theorem zd_Mo_longest_32 : decode zb_Mo_longest 32 = .ok (.aload_n 0, 1) := by decide +kernel
theorem zd_Mo_longest_33 : decode zb_Mo_longest 33 = .ok (.iload_n 1, 1) := by decide +kernel
theorem zd_Mo_longest_34 : decode zb_Mo_longest 34 = .ok (.invokevirtual 61, 3) := by decide +kernel
theorem zd_Mo_longest_37 : decode zb_Mo_longest 37 = .ok (.aload_n 0, 1) := by decide +kernel
theorem zd_Mo_longest_38 : decode zb_Mo_longest 38 = .ok (.getfield 38, 3) := by decide +kernel
theorem zd_Mo_longest_41 : decode zb_Mo_longest 41 = .ok (.bipush 8, 2) := by decide +kernel
theorem zd_Mo_longest_43 : decode zb_Mo_longest 43 = .ok (.if_icmp .ge 13, 3) := by decide +kernel
theorem zd_Mo_longest_46 : decode zb_Mo_longest 46 = .ok (.iload_n 2, 1) := by decide +kernel
theorem zd_Mo_longest_47 : decode zb_Mo_longest 47 = .ok (.ifCond .ne 7, 3) := by decide +kernel
theorem zd_Mo_longest_50 : decode zb_Mo_longest 50 = .ok (.iconst 0, 1) := by decide +kernel
theorem zd_Mo_longest_51 : decode zb_Mo_longest 51 = .ok (.goto 4, 3) := by decide +kernel
theorem zd_Mo_longest_54 : decode zb_Mo_longest 54 = .ok (.iconst (-1), 1) := by decide +kernel
theorem zd_Mo_longest_55 : decode zb_Mo_longest 55 = .ok (.ireturn, 1) := by decide +kernel
theorem zd_Mo_longest_56 : decode zb_Mo_longest 56 = .ok (.iload_n 2, 1) := by decide +kernel
theorem zd_Mo_longest_57 : decode zb_Mo_longest 57 = .ok (.ifCond .ne 10, 3) := by decide +kernel
theorem zd_Mo_longest_60 : decode zb_Mo_longest 60 = .ok (.aload_n 0, 1) := by decide +kernel
theorem zd_Mo_longest_61 : decode zb_Mo_longest 61 = .ok (.getfield 38, 3) := by decide +kernel
theorem zd_Mo_longest_64 : decode zb_Mo_longest 64 = .ok (.goto 7, 3) := by decide +kernel
theorem zd_Mo_longest_67 : decode zb_Mo_longest 67 = .ok (.aload_n 0, 1) := by decide +kernel
theorem zd_Mo_longest_68 : decode zb_Mo_longest 68 = .ok (.getfield 41, 3) := by decide +kernel
theorem zd_Mo_longest_71 : decode zb_Mo_longest 71 = .ok (.ireturn, 1) := by decide +kernel
theorem zd_Mo_letter_0 : decode zb_Mo_letter 0 = .ok (.aload_n 0, 1) := by decide +kernel
theorem zd_Mo_letter_1 : decode zb_Mo_letter 1 = .ok (.iconst 0, 1) := by decide +kernel
theorem zd_Mo_letter_2 : decode zb_Mo_letter 2 = .ok (.putfield 24, 3) := by decide +kernel
theorem zd_Mo_letter_5 : decode zb_Mo_letter 5 = .ok (.iload_n 1, 1) := by decide +kernel
theorem zd_Mo_letter_6 : decode zb_Mo_letter 6 = .ok (.ifCond .lt 11, 3) := by decide +kernel
theorem zd_Mo_letter_9 : decode zb_Mo_letter 9 = .ok (.iload_n 1, 1) := by decide +kernel
theorem zd_Mo_letter_10 : decode zb_Mo_letter 10 = .ok (.aload_n 0, 1) := by decide +kernel
theorem zd_Mo_letter_11 : decode zb_Mo_letter 11 = .ok (.getfield 45, 3) := by decide +kernel
theorem zd_Mo_letter_14 : decode zb_Mo_letter 14 = .ok (.if_icmp .lt 9, 3) := by decide +kernel
theorem zd_Mo_letter_17 : decode zb_Mo_letter 17 = .ok (.aload_n 0, 1) := by decide +kernel
theorem zd_Mo_letter_18 : decode zb_Mo_letter 18 = .ok (.iconst 1, 1) := by decide +kernel
theorem zd_Mo_letter_19 : decode zb_Mo_letter 19 = .ok (.invokevirtual 31, 3) := by decide +kernel
theorem zd_Mo_letter_22 : decode zb_Mo_letter 22 = .ok (.ireturn, 1) := by decide +kernel
theorem zd_Mo_letter_23 : decode zb_Mo_letter 23 = .ok (.aload_n 0, 1) := by decide +kernel
theorem zd_Mo_letter_24 : decode zb_Mo_letter 24 = .ok (.getfield 18, 3) := by decide +kernel
theorem zd_Mo_letter_27 : decode zb_Mo_letter 27 = .ok (.iload_n 1, 1) := by decide +kernel
theorem zd_Mo_letter_28 : decode zb_Mo_letter 28 = .ok (.baload, 1) := by decide +kernel
theorem zd_Mo_letter_29 : decode zb_Mo_letter 29 = .ok (.sipush 255, 3) := by decide +kernel
theorem zd_Mo_letter_32 : decode zb_Mo_letter 32 = .ok (.iand, 1) := by decide +kernel
theorem zd_Mo_letter_33 : decode zb_Mo_letter 33 = .ok (.ireturn, 1) := by decide +kernel
theorem zd_Mo_count_0 : decode zb_Mo_count 0 = .ok (.aload_n 0, 1) := by decide +kernel
theorem zd_Mo_count_1 : decode zb_Mo_count 1 = .ok (.iconst 0, 1) := by decide +kernel
theorem zd_Mo_count_2 : decode zb_Mo_count 2 = .ok (.putfield 24, 3) := by decide +kernel
theorem zd_Mo_count_5 : decode zb_Mo_count 5 = .ok (.iload_n 1, 1) := by decide +kernel
theorem zd_Mo_count_6 : decode zb_Mo_count 6 = .ok (.tableswitch 68 0 5 #[38, 43, 48, 53, 58, 63], 38) := by decide +kernel
theorem zd_Mo_count_44 : decode zb_Mo_count 44 = .ok (.aload_n 0, 1) := by decide +kernel
theorem zd_Mo_count_45 : decode zb_Mo_count 45 = .ok (.getfield 28, 3) := by decide +kernel
theorem zd_Mo_count_48 : decode zb_Mo_count 48 = .ok (.ireturn, 1) := by decide +kernel
theorem zd_Mo_count_49 : decode zb_Mo_count 49 = .ok (.aload_n 0, 1) := by decide +kernel
theorem zd_Mo_count_50 : decode zb_Mo_count 50 = .ok (.getfield 35, 3) := by decide +kernel
theorem zd_Mo_count_53 : decode zb_Mo_count 53 = .ok (.ireturn, 1) := by decide +kernel
theorem zd_Mo_count_54 : decode zb_Mo_count 54 = .ok (.aload_n 0, 1) := by decide +kernel
theorem zd_Mo_count_55 : decode zb_Mo_count 55 = .ok (.getfield 45, 3) := by decide +kernel
theorem zd_Mo_count_58 : decode zb_Mo_count 58 = .ok (.ireturn, 1) := by decide +kernel
theorem zd_Mo_count_59 : decode zb_Mo_count 59 = .ok (.aload_n 0, 1) := by decide +kernel
theorem zd_Mo_count_60 : decode zb_Mo_count 60 = .ok (.getfield 52, 3) := by decide +kernel
theorem zd_Mo_count_63 : decode zb_Mo_count 63 = .ok (.ireturn, 1) := by decide +kernel
theorem zd_Mo_count_64 : decode zb_Mo_count 64 = .ok (.aload_n 0, 1) := by decide +kernel
theorem zd_Mo_count_65 : decode zb_Mo_count 65 = .ok (.getfield 55, 3) := by decide +kernel
theorem zd_Mo_count_68 : decode zb_Mo_count 68 = .ok (.ireturn, 1) := by decide +kernel
theorem zd_Mo_count_69 : decode zb_Mo_count 69 = .ok (.aload_n 0, 1) := by decide +kernel
theorem zd_Mo_count_70 : decode zb_Mo_count 70 = .ok (.getfield 95, 3) := by decide +kernel
theorem zd_Mo_count_73 : decode zb_Mo_count 73 = .ok (.ireturn, 1) := by decide +kernel
theorem zd_Mo_count_74 : decode zb_Mo_count 74 = .ok (.iconst (-1), 1) := by decide +kernel
theorem zd_Mo_count_75 : decode zb_Mo_count 75 = .ok (.ireturn, 1) := by decide +kernel
theorem zd_La_law_0 : decode zb_La_law 0 = .ok (.new 8, 3) := by decide +kernel
theorem zd_La_law_3 : decode zb_La_law 3 = .ok (.dup, 1) := by decide +kernel
theorem zd_La_law_4 : decode zb_La_law 4 = .ok (.invokespecial 43, 3) := by decide +kernel
theorem zd_La_law_7 : decode zb_La_law 7 = .ok (.astore_n 1, 1) := by decide +kernel
theorem zd_La_law_8 : decode zb_La_law 8 = .ok (.new 44, 3) := by decide +kernel
theorem zd_La_law_11 : decode zb_La_law 11 = .ok (.dup, 1) := by decide +kernel
theorem zd_La_law_12 : decode zb_La_law 12 = .ok (.invokespecial 46, 3) := by decide +kernel
theorem zd_La_law_15 : decode zb_La_law 15 = .ok (.astore_n 2, 1) := by decide +kernel
theorem zd_La_law_16 : decode zb_La_law 16 = .ok (.iconst 1, 1) := by decide +kernel
theorem zd_La_law_17 : decode zb_La_law 17 = .ok (.newarray .long, 2) := by decide +kernel
theorem zd_La_law_19 : decode zb_La_law 19 = .ok (.astore_n 3, 1) := by decide +kernel
theorem zd_La_law_20 : decode zb_La_law 20 = .ok (.iconst 0, 1) := by decide +kernel
theorem zd_La_law_21 : decode zb_La_law 21 = .ok (.istore 4, 2) := by decide +kernel
theorem zd_La_law_23 : decode zb_La_law 23 = .ok (.iload 4, 2) := by decide +kernel
theorem zd_La_law_25 : decode zb_La_law 25 = .ok (.aload_n 0, 1) := by decide +kernel
theorem zd_La_law_26 : decode zb_La_law 26 = .ok (.arraylength, 1) := by decide +kernel
theorem zd_La_law_27 : decode zb_La_law 27 = .ok (.bipush 6, 2) := by decide +kernel
theorem zd_La_law_29 : decode zb_La_law 29 = .ok (.isub, 1) := by decide +kernel
theorem zd_La_law_30 : decode zb_La_law 30 = .ok (.if_icmp .gt 543, 3) := by decide +kernel
theorem zd_La_law_33 : decode zb_La_law 33 = .ok (.aload_n 0, 1) := by decide +kernel
theorem zd_La_law_34 : decode zb_La_law 34 = .ok (.iload 4, 2) := by decide +kernel
theorem zd_La_law_36 : decode zb_La_law 36 = .ok (.iaload, 1) := by decide +kernel
theorem zd_La_law_37 : decode zb_La_law 37 = .ok (.bipush 15, 2) := by decide +kernel
theorem zd_La_law_39 : decode zb_La_law 39 = .ok (.iand, 1) := by decide +kernel
theorem zd_La_law_40 : decode zb_La_law 40 = .ok (.tableswitch 527 0 9 #[56, 160, 216, 264, 277, 290, 334, 378, 446, 502], 56) := by decide +kernel
theorem zd_La_law_96 : decode zb_La_law 96 = .ok (.aload_n 1, 1) := by decide +kernel
theorem zd_La_law_97 : decode zb_La_law 97 = .ok (.aload_n 0, 1) := by decide +kernel
theorem zd_La_law_98 : decode zb_La_law 98 = .ok (.iload 4, 2) := by decide +kernel
theorem zd_La_law_100 : decode zb_La_law 100 = .ok (.iconst 1, 1) := by decide +kernel
theorem zd_La_law_101 : decode zb_La_law 101 = .ok (.iadd, 1) := by decide +kernel
theorem zd_La_law_102 : decode zb_La_law 102 = .ok (.iaload, 1) := by decide +kernel
theorem zd_La_law_103 : decode zb_La_law 103 = .ok (.aload_n 0, 1) := by decide +kernel
theorem zd_La_law_104 : decode zb_La_law 104 = .ok (.iload 4, 2) := by decide +kernel
theorem zd_La_law_106 : decode zb_La_law 106 = .ok (.iconst 2, 1) := by decide +kernel
theorem zd_La_law_107 : decode zb_La_law 107 = .ok (.iadd, 1) := by decide +kernel
theorem zd_La_law_108 : decode zb_La_law 108 = .ok (.iaload, 1) := by decide +kernel
theorem zd_La_law_109 : decode zb_La_law 109 = .ok (.aload_n 0, 1) := by decide +kernel
theorem zd_La_law_110 : decode zb_La_law 110 = .ok (.iload 4, 2) := by decide +kernel
theorem zd_La_law_112 : decode zb_La_law 112 = .ok (.iconst 3, 1) := by decide +kernel
theorem zd_La_law_113 : decode zb_La_law 113 = .ok (.iadd, 1) := by decide +kernel
theorem zd_La_law_114 : decode zb_La_law 114 = .ok (.iaload, 1) := by decide +kernel
theorem zd_La_law_115 : decode zb_La_law 115 = .ok (.aload_n 0, 1) := by decide +kernel
theorem zd_La_law_116 : decode zb_La_law 116 = .ok (.iload 4, 2) := by decide +kernel
theorem zd_La_law_118 : decode zb_La_law 118 = .ok (.iconst 4, 1) := by decide +kernel
theorem zd_La_law_119 : decode zb_La_law 119 = .ok (.iadd, 1) := by decide +kernel
theorem zd_La_law_120 : decode zb_La_law 120 = .ok (.iaload, 1) := by decide +kernel
theorem zd_La_law_121 : decode zb_La_law 121 = .ok (.aload_n 0, 1) := by decide +kernel
theorem zd_La_law_122 : decode zb_La_law 122 = .ok (.iload 4, 2) := by decide +kernel
theorem zd_La_law_124 : decode zb_La_law 124 = .ok (.iconst 5, 1) := by decide +kernel
theorem zd_La_law_125 : decode zb_La_law 125 = .ok (.iadd, 1) := by decide +kernel
theorem zd_La_law_126 : decode zb_La_law 126 = .ok (.iaload, 1) := by decide +kernel
theorem zd_La_law_127 : decode zb_La_law 127 = .ok (.aload_n 3, 1) := by decide +kernel
theorem zd_La_law_128 : decode zb_La_law 128 = .ok (.invokestatic 47, 3) := by decide +kernel
theorem zd_La_law_131 : decode zb_La_law 131 = .ok (.istore 5, 2) := by decide +kernel
theorem zd_La_law_133 : decode zb_La_law 133 = .ok (.aload_n 2, 1) := by decide +kernel
theorem zd_La_law_134 : decode zb_La_law 134 = .ok (.aload_n 0, 1) := by decide +kernel
theorem zd_La_law_135 : decode zb_La_law 135 = .ok (.iload 4, 2) := by decide +kernel
theorem zd_La_law_137 : decode zb_La_law 137 = .ok (.iconst 1, 1) := by decide +kernel
theorem zd_La_law_138 : decode zb_La_law 138 = .ok (.iadd, 1) := by decide +kernel
theorem zd_La_law_139 : decode zb_La_law 139 = .ok (.iaload, 1) := by decide +kernel
theorem zd_La_law_140 : decode zb_La_law 140 = .ok (.aload_n 0, 1) := by decide +kernel
theorem zd_La_law_141 : decode zb_La_law 141 = .ok (.iload 4, 2) := by decide +kernel
theorem zd_La_law_143 : decode zb_La_law 143 = .ok (.iconst 2, 1) := by decide +kernel
theorem zd_La_law_144 : decode zb_La_law 144 = .ok (.iadd, 1) := by decide +kernel
theorem zd_La_law_145 : decode zb_La_law 145 = .ok (.iaload, 1) := by decide +kernel
theorem zd_La_law_146 : decode zb_La_law 146 = .ok (.aload_n 0, 1) := by decide +kernel
theorem zd_La_law_147 : decode zb_La_law 147 = .ok (.iload 4, 2) := by decide +kernel
theorem zd_La_law_149 : decode zb_La_law 149 = .ok (.iconst 3, 1) := by decide +kernel
theorem zd_La_law_150 : decode zb_La_law 150 = .ok (.iadd, 1) := by decide +kernel
theorem zd_La_law_151 : decode zb_La_law 151 = .ok (.iaload, 1) := by decide +kernel
theorem zd_La_law_152 : decode zb_La_law 152 = .ok (.aload_n 0, 1) := by decide +kernel
theorem zd_La_law_153 : decode zb_La_law 153 = .ok (.iload 4, 2) := by decide +kernel
theorem zd_La_law_155 : decode zb_La_law 155 = .ok (.iconst 4, 1) := by decide +kernel
theorem zd_La_law_156 : decode zb_La_law 156 = .ok (.iadd, 1) := by decide +kernel
theorem zd_La_law_157 : decode zb_La_law 157 = .ok (.iaload, 1) := by decide +kernel
theorem zd_La_law_158 : decode zb_La_law 158 = .ok (.aload_n 0, 1) := by decide +kernel
theorem zd_La_law_159 : decode zb_La_law 159 = .ok (.iload 4, 2) := by decide +kernel
theorem zd_La_law_161 : decode zb_La_law 161 = .ok (.iconst 5, 1) := by decide +kernel
theorem zd_La_law_162 : decode zb_La_law 162 = .ok (.iadd, 1) := by decide +kernel
theorem zd_La_law_163 : decode zb_La_law 163 = .ok (.iaload, 1) := by decide +kernel
theorem zd_La_law_164 : decode zb_La_law 164 = .ok (.invokevirtual 52, 3) := by decide +kernel
theorem zd_La_law_167 : decode zb_La_law 167 = .ok (.istore 6, 2) := by decide +kernel
theorem zd_La_law_169 : decode zb_La_law 169 = .ok (.aload_n 2, 1) := by decide +kernel
theorem zd_La_law_170 : decode zb_La_law 170 = .ok (.invokevirtual 53, 3) := by decide +kernel
theorem zd_La_law_173 : decode zb_La_law 173 = .ok (.iload 5, 2) := by decide +kernel
theorem zd_La_law_175 : decode zb_La_law 175 = .ok (.if_icmp .eq 5, 3) := by decide +kernel
theorem zd_La_law_178 : decode zb_La_law 178 = .ok (.iconst 0, 1) := by decide +kernel
theorem zd_La_law_179 : decode zb_La_law 179 = .ok (.ireturn, 1) := by decide +kernel
theorem zd_La_law_180 : decode zb_La_law 180 = .ok (.iload 5, 2) := by decide +kernel
theorem zd_La_law_182 : decode zb_La_law 182 = .ok (.ifCond .ne 15, 3) := by decide +kernel
theorem zd_La_law_185 : decode zb_La_law 185 = .ok (.aload_n 3, 1) := by decide +kernel
theorem zd_La_law_186 : decode zb_La_law 186 = .ok (.iconst 0, 1) := by decide +kernel
theorem zd_La_law_187 : decode zb_La_law 187 = .ok (.laload, 1) := by decide +kernel
theorem zd_La_law_188 : decode zb_La_law 188 = .ok (.iload 6, 2) := by decide +kernel
theorem zd_La_law_190 : decode zb_La_law 190 = .ok (.i2l, 1) := by decide +kernel
theorem zd_La_law_191 : decode zb_La_law 191 = .ok (.lcmp, 1) := by decide +kernel
theorem zd_La_law_192 : decode zb_La_law 192 = .ok (.ifCond .eq 5, 3) := by decide +kernel
theorem zd_La_law_195 : decode zb_La_law 195 = .ok (.iconst 0, 1) := by decide +kernel
theorem zd_La_law_196 : decode zb_La_law 196 = .ok (.ireturn, 1) := by decide +kernel
theorem zd_La_law_197 : decode zb_La_law 197 = .ok (.goto 370, 3) := by decide +kernel
theorem zd_La_law_200 : decode zb_La_law 200 = .ok (.aload_n 1, 1) := by decide +kernel
theorem zd_La_law_201 : decode zb_La_law 201 = .ok (.aload_n 0, 1) := by decide +kernel
theorem zd_La_law_202 : decode zb_La_law 202 = .ok (.iload 4, 2) := by decide +kernel
theorem zd_La_law_204 : decode zb_La_law 204 = .ok (.iconst 1, 1) := by decide +kernel
theorem zd_La_law_205 : decode zb_La_law 205 = .ok (.iadd, 1) := by decide +kernel
theorem zd_La_law_206 : decode zb_La_law 206 = .ok (.iaload, 1) := by decide +kernel
theorem zd_La_law_207 : decode zb_La_law 207 = .ok (.aload_n 3, 1) := by decide +kernel
theorem zd_La_law_208 : decode zb_La_law 208 = .ok (.invokestatic 56, 3) := by decide +kernel
theorem zd_La_law_211 : decode zb_La_law 211 = .ok (.istore 5, 2) := by decide +kernel
theorem zd_La_law_213 : decode zb_La_law 213 = .ok (.aload_n 2, 1) := by decide +kernel
theorem zd_La_law_214 : decode zb_La_law 214 = .ok (.aload_n 0, 1) := by decide +kernel
theorem zd_La_law_215 : decode zb_La_law 215 = .ok (.iload 4, 2) := by decide +kernel
theorem zd_La_law_217 : decode zb_La_law 217 = .ok (.iconst 1, 1) := by decide +kernel
theorem zd_La_law_218 : decode zb_La_law 218 = .ok (.iadd, 1) := by decide +kernel
theorem zd_La_law_219 : decode zb_La_law 219 = .ok (.iaload, 1) := by decide +kernel
theorem zd_La_law_220 : decode zb_La_law 220 = .ok (.invokevirtual 59, 3) := by decide +kernel
theorem zd_La_law_223 : decode zb_La_law 223 = .ok (.istore 6, 2) := by decide +kernel
theorem zd_La_law_225 : decode zb_La_law 225 = .ok (.aload_n 2, 1) := by decide +kernel
theorem zd_La_law_226 : decode zb_La_law 226 = .ok (.invokevirtual 53, 3) := by decide +kernel
theorem zd_La_law_229 : decode zb_La_law 229 = .ok (.iload 5, 2) := by decide +kernel
