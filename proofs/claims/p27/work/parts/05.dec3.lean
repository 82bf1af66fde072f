theorem dL_total_0 : decode cL_total 0 = .ok (.iconst 0, 1) := by decide +kernel
theorem dL_total_1 : decode cL_total 1 = .ok (.istore 4, 2) := by decide +kernel
theorem dL_total_3 : decode cL_total 3 = .ok (.iconst 0, 1) := by decide +kernel
theorem dL_total_4 : decode cL_total 4 = .ok (.istore 5, 2) := by decide +kernel
theorem dL_total_6 : decode cL_total 6 = .ok (.iload 5, 2) := by decide +kernel
theorem dL_total_8 : decode cL_total 8 = .ok (.aload_n 0, 1) := by decide +kernel
theorem dL_total_9 : decode cL_total 9 = .ok (.iconst 0, 1) := by decide +kernel
theorem dL_total_10 : decode cL_total 10 = .ok (.iaload, 1) := by decide +kernel
theorem dL_total_11 : decode cL_total 11 = .ok (.if_icmp .ge 37, 3) := by decide +kernel
theorem dL_total_14 : decode cL_total 14 = .ok (.iload 4, 2) := by decide +kernel
theorem dL_total_16 : decode cL_total 16 = .ok (.aload_n 1, 1) := by decide +kernel
theorem dL_total_17 : decode cL_total 17 = .ok (.iload 5, 2) := by decide +kernel
theorem dL_total_19 : decode cL_total 19 = .ok (.iaload, 1) := by decide +kernel
theorem dL_total_20 : decode cL_total 20 = .ok (.iload_n 3, 1) := by decide +kernel
theorem dL_total_21 : decode cL_total 21 = .ok (.if_icmp .ne 17, 3) := by decide +kernel
theorem dL_total_24 : decode cL_total 24 = .ok (.aload_n 2, 1) := by decide +kernel
theorem dL_total_25 : decode cL_total 25 = .ok (.iload 5, 2) := by decide +kernel
theorem dL_total_27 : decode cL_total 27 = .ok (.iaload, 1) := by decide +kernel
theorem dL_total_28 : decode cL_total 28 = .ok (.ifCond .le 10, 3) := by decide +kernel
theorem dL_total_31 : decode cL_total 31 = .ok (.aload_n 2, 1) := by decide +kernel
theorem dL_total_32 : decode cL_total 32 = .ok (.iload 5, 2) := by decide +kernel
theorem dL_total_34 : decode cL_total 34 = .ok (.iaload, 1) := by decide +kernel
theorem dL_total_35 : decode cL_total 35 = .ok (.goto 4, 3) := by decide +kernel
theorem dL_total_38 : decode cL_total 38 = .ok (.iconst 0, 1) := by decide +kernel
theorem dL_total_39 : decode cL_total 39 = .ok (.iadd, 1) := by decide +kernel
theorem dL_total_40 : decode cL_total 40 = .ok (.istore 4, 2) := by decide +kernel
theorem dL_total_42 : decode cL_total 42 = .ok (.iinc 5 1, 3) := by decide +kernel
theorem dL_total_45 : decode cL_total 45 = .ok (.goto (-39), 3) := by decide +kernel
theorem dL_total_48 : decode cL_total 48 = .ok (.iload 4, 2) := by decide +kernel
theorem dL_total_50 : decode cL_total 50 = .ok (.ireturn, 1) := by decide +kernel
theorem dL_within_0 : decode cL_within 0 = .ok (.lload_n 0, 1) := by decide +kernel
theorem dL_within_1 : decode cL_within 1 = .ok (.lload 4, 2) := by decide +kernel
theorem dL_within_3 : decode cL_within 3 = .ok (.lcmp, 1) := by decide +kernel
theorem dL_within_4 : decode cL_within 4 = .ok (.ifCond .le 7, 3) := by decide +kernel
theorem dL_within_7 : decode cL_within 7 = .ok (.lload_n 0, 1) := by decide +kernel
theorem dL_within_8 : decode cL_within 8 = .ok (.goto 5, 3) := by decide +kernel
theorem dL_within_11 : decode cL_within 11 = .ok (.lload 4, 2) := by decide +kernel
theorem dL_within_13 : decode cL_within 13 = .ok (.lstore 8, 2) := by decide +kernel
theorem dL_within_15 : decode cL_within 15 = .ok (.lload_n 2, 1) := by decide +kernel
theorem dL_within_16 : decode cL_within 16 = .ok (.lload 6, 2) := by decide +kernel
theorem dL_within_18 : decode cL_within 18 = .ok (.lcmp, 1) := by decide +kernel
theorem dL_within_19 : decode cL_within 19 = .ok (.ifCond .ge 7, 3) := by decide +kernel
theorem dL_within_22 : decode cL_within 22 = .ok (.lload_n 2, 1) := by decide +kernel
theorem dL_within_23 : decode cL_within 23 = .ok (.goto 5, 3) := by decide +kernel
theorem dL_within_26 : decode cL_within 26 = .ok (.lload 6, 2) := by decide +kernel
theorem dL_within_28 : decode cL_within 28 = .ok (.lstore 10, 2) := by decide +kernel
theorem dL_within_30 : decode cL_within 30 = .ok (.lload 10, 2) := by decide +kernel
theorem dL_within_32 : decode cL_within 32 = .ok (.lload 8, 2) := by decide +kernel
theorem dL_within_34 : decode cL_within 34 = .ok (.lcmp, 1) := by decide +kernel
theorem dL_within_35 : decode cL_within 35 = .ok (.ifCond .le 11, 3) := by decide +kernel
theorem dL_within_38 : decode cL_within 38 = .ok (.lload 10, 2) := by decide +kernel
theorem dL_within_40 : decode cL_within 40 = .ok (.lload 8, 2) := by decide +kernel
theorem dL_within_42 : decode cL_within 42 = .ok (.lsub, 1) := by decide +kernel
theorem dL_within_43 : decode cL_within 43 = .ok (.goto 4, 3) := by decide +kernel
theorem dL_within_46 : decode cL_within 46 = .ok (.lconst 0, 1) := by decide +kernel
theorem dL_within_47 : decode cL_within 47 = .ok (.lreturn, 1) := by decide +kernel
theorem dL_parts_0 : decode cL_parts 0 = .ok (.aload_n 2, 1) := by decide +kernel
theorem dL_parts_1 : decode cL_parts 1 = .ok (.iload 5, 2) := by decide +kernel
theorem dL_parts_3 : decode cL_parts 3 = .ok (.iaload, 1) := by decide +kernel
theorem dL_parts_4 : decode cL_parts 4 = .ok (.bipush 10, 2) := by decide +kernel
theorem dL_parts_6 : decode cL_parts 6 = .ok (.if_icmp .lt 9, 3) := by decide +kernel
theorem dL_parts_9 : decode cL_parts 9 = .ok (.aload 4, 2) := by decide +kernel
theorem dL_parts_11 : decode cL_parts 11 = .ok (.iload 5, 2) := by decide +kernel
theorem dL_parts_13 : decode cL_parts 13 = .ok (.laload, 1) := by decide +kernel
theorem dL_parts_14 : decode cL_parts 14 = .ok (.lreturn, 1) := by decide +kernel
theorem dL_parts_15 : decode cL_parts 15 = .ok (.aload_n 0, 1) := by decide +kernel
theorem dL_parts_16 : decode cL_parts 16 = .ok (.aload_n 2, 1) := by decide +kernel
theorem dL_parts_17 : decode cL_parts 17 = .ok (.aload_n 3, 1) := by decide +kernel
theorem dL_parts_18 : decode cL_parts 18 = .ok (.aload_n 2, 1) := by decide +kernel
theorem dL_parts_19 : decode cL_parts 19 = .ok (.iload 5, 2) := by decide +kernel
theorem dL_parts_21 : decode cL_parts 21 = .ok (.iaload, 1) := by decide +kernel
theorem dL_parts_22 : decode cL_parts 22 = .ok (.invokestatic 7, 3) := by decide +kernel
theorem dL_parts_25 : decode cL_parts 25 = .ok (.istore 6, 2) := by decide +kernel
theorem dL_parts_27 : decode cL_parts 27 = .ok (.aload_n 0, 1) := by decide +kernel
theorem dL_parts_28 : decode cL_parts 28 = .ok (.iconst 2, 1) := by decide +kernel
theorem dL_parts_29 : decode cL_parts 29 = .ok (.iaload, 1) := by decide +kernel
theorem dL_parts_30 : decode cL_parts 30 = .ok (.ifCond .ne 36, 3) := by decide +kernel
theorem dL_parts_33 : decode cL_parts 33 = .ok (.aload_n 3, 1) := by decide +kernel
theorem dL_parts_34 : decode cL_parts 34 = .ok (.iload 5, 2) := by decide +kernel
theorem dL_parts_36 : decode cL_parts 36 = .ok (.iaload, 1) := by decide +kernel
theorem dL_parts_37 : decode cL_parts 37 = .ok (.i2l, 1) := by decide +kernel
theorem dL_parts_38 : decode cL_parts 38 = .ok (.aload_n 1, 1) := by decide +kernel
theorem dL_parts_39 : decode cL_parts 39 = .ok (.iload 6, 2) := by decide +kernel
theorem dL_parts_41 : decode cL_parts 41 = .ok (.ldc 13, 2) := by decide +kernel
theorem dL_parts_43 : decode cL_parts 43 = .ok (.if_icmp .le 7, 3) := by decide +kernel
theorem dL_parts_46 : decode cL_parts 46 = .ok (.iconst 2, 1) := by decide +kernel
theorem dL_parts_47 : decode cL_parts 47 = .ok (.goto 15, 3) := by decide +kernel
theorem dL_parts_50 : decode cL_parts 50 = .ok (.iload 6, 2) := by decide +kernel
theorem dL_parts_52 : decode cL_parts 52 = .ok (.ldc 14, 2) := by decide +kernel
theorem dL_parts_54 : decode cL_parts 54 = .ok (.if_icmp .le 7, 3) := by decide +kernel
theorem dL_parts_57 : decode cL_parts 57 = .ok (.iconst 1, 1) := by decide +kernel
theorem dL_parts_58 : decode cL_parts 58 = .ok (.goto 4, 3) := by decide +kernel
theorem dL_parts_61 : decode cL_parts 61 = .ok (.iconst 0, 1) := by decide +kernel
theorem dL_parts_62 : decode cL_parts 62 = .ok (.iaload, 1) := by decide +kernel
theorem dL_parts_63 : decode cL_parts 63 = .ok (.i2l, 1) := by decide +kernel
theorem dL_parts_64 : decode cL_parts 64 = .ok (.lmul, 1) := by decide +kernel
theorem dL_parts_65 : decode cL_parts 65 = .ok (.lreturn, 1) := by decide +kernel
theorem dL_parts_66 : decode cL_parts 66 = .ok (.lconst 0, 1) := by decide +kernel
theorem dL_parts_67 : decode cL_parts 67 = .ok (.lstore 7, 2) := by decide +kernel
theorem dL_parts_69 : decode cL_parts 69 = .ok (.iconst 0, 1) := by decide +kernel
theorem dL_parts_70 : decode cL_parts 70 = .ok (.istore 9, 2) := by decide +kernel
theorem dL_parts_72 : decode cL_parts 72 = .ok (.iload 9, 2) := by decide +kernel
theorem dL_parts_74 : decode cL_parts 74 = .ok (.iload 5, 2) := by decide +kernel
theorem dL_parts_76 : decode cL_parts 76 = .ok (.if_icmp .ge 34, 3) := by decide +kernel
theorem dL_parts_79 : decode cL_parts 79 = .ok (.lload 7, 2) := by decide +kernel
theorem dL_parts_81 : decode cL_parts 81 = .ok (.aload_n 2, 1) := by decide +kernel
theorem dL_parts_82 : decode cL_parts 82 = .ok (.iload 9, 2) := by decide +kernel
theorem dL_parts_84 : decode cL_parts 84 = .ok (.iaload, 1) := by decide +kernel
theorem dL_parts_85 : decode cL_parts 85 = .ok (.aload_n 2, 1) := by decide +kernel
theorem dL_parts_86 : decode cL_parts 86 = .ok (.iload 5, 2) := by decide +kernel
theorem dL_parts_88 : decode cL_parts 88 = .ok (.iaload, 1) := by decide +kernel
theorem dL_parts_89 : decode cL_parts 89 = .ok (.if_icmp .ne 11, 3) := by decide +kernel
theorem dL_parts_92 : decode cL_parts 92 = .ok (.aload_n 3, 1) := by decide +kernel
theorem dL_parts_93 : decode cL_parts 93 = .ok (.iload 9, 2) := by decide +kernel
theorem dL_parts_95 : decode cL_parts 95 = .ok (.iaload, 1) := by decide +kernel
theorem dL_parts_96 : decode cL_parts 96 = .ok (.i2l, 1) := by decide +kernel
theorem dL_parts_97 : decode cL_parts 97 = .ok (.goto 4, 3) := by decide +kernel
theorem dL_parts_100 : decode cL_parts 100 = .ok (.lconst 0, 1) := by decide +kernel
theorem dL_parts_101 : decode cL_parts 101 = .ok (.ladd, 1) := by decide +kernel
theorem dL_parts_102 : decode cL_parts 102 = .ok (.lstore 7, 2) := by decide +kernel
theorem dL_parts_104 : decode cL_parts 104 = .ok (.iinc 9 1, 3) := by decide +kernel
theorem dL_parts_107 : decode cL_parts 107 = .ok (.goto (-35), 3) := by decide +kernel
theorem dL_parts_110 : decode cL_parts 110 = .ok (.lload 7, 2) := by decide +kernel
theorem dL_parts_112 : decode cL_parts 112 = .ok (.aload_n 3, 1) := by decide +kernel
theorem dL_parts_113 : decode cL_parts 113 = .ok (.iload 5, 2) := by decide +kernel
theorem dL_parts_115 : decode cL_parts 115 = .ok (.iaload, 1) := by decide +kernel
theorem dL_parts_116 : decode cL_parts 116 = .ok (.i2l, 1) := by decide +kernel
theorem dL_parts_117 : decode cL_parts 117 = .ok (.ladd, 1) := by decide +kernel
theorem dL_parts_118 : decode cL_parts 118 = .ok (.lstore 9, 2) := by decide +kernel
theorem dL_parts_120 : decode cL_parts 120 = .ok (.lload 7, 2) := by decide +kernel
theorem dL_parts_122 : decode cL_parts 122 = .ok (.lload 9, 2) := by decide +kernel
theorem dL_parts_124 : decode cL_parts 124 = .ok (.lconst 0, 1) := by decide +kernel
theorem dL_parts_125 : decode cL_parts 125 = .ok (.ldc2_w 15, 3) := by decide +kernel
theorem dL_parts_128 : decode cL_parts 128 = .ok (.invokestatic 17, 3) := by decide +kernel
theorem dL_parts_131 : decode cL_parts 131 = .ok (.aload_n 1, 1) := by decide +kernel
theorem dL_parts_132 : decode cL_parts 132 = .ok (.iconst 0, 1) := by decide +kernel
theorem dL_parts_133 : decode cL_parts 133 = .ok (.iaload, 1) := by decide +kernel
theorem dL_parts_134 : decode cL_parts 134 = .ok (.i2l, 1) := by decide +kernel
theorem dL_parts_135 : decode cL_parts 135 = .ok (.lmul, 1) := by decide +kernel
theorem dL_parts_136 : decode cL_parts 136 = .ok (.lload 7, 2) := by decide +kernel
theorem dL_parts_138 : decode cL_parts 138 = .ok (.lload 9, 2) := by decide +kernel
theorem dL_parts_140 : decode cL_parts 140 = .ok (.ldc2_w 15, 3) := by decide +kernel
theorem dL_parts_143 : decode cL_parts 143 = .ok (.ldc2_w 21, 3) := by decide +kernel
theorem dL_parts_146 : decode cL_parts 146 = .ok (.invokestatic 17, 3) := by decide +kernel
theorem dL_parts_149 : decode cL_parts 149 = .ok (.aload_n 1, 1) := by decide +kernel
theorem dL_parts_150 : decode cL_parts 150 = .ok (.iconst 1, 1) := by decide +kernel
theorem dL_parts_151 : decode cL_parts 151 = .ok (.iaload, 1) := by decide +kernel
theorem dL_parts_152 : decode cL_parts 152 = .ok (.i2l, 1) := by decide +kernel
theorem dL_parts_153 : decode cL_parts 153 = .ok (.lmul, 1) := by decide +kernel
theorem dL_parts_154 : decode cL_parts 154 = .ok (.ladd, 1) := by decide +kernel
theorem dL_parts_155 : decode cL_parts 155 = .ok (.lload 7, 2) := by decide +kernel
theorem dL_parts_157 : decode cL_parts 157 = .ok (.lload 9, 2) := by decide +kernel
theorem dL_parts_159 : decode cL_parts 159 = .ok (.ldc2_w 21, 3) := by decide +kernel
theorem dL_parts_162 : decode cL_parts 162 = .ok (.ldc2_w 23, 3) := by decide +kernel
theorem dL_parts_165 : decode cL_parts 165 = .ok (.invokestatic 17, 3) := by decide +kernel
theorem dL_parts_168 : decode cL_parts 168 = .ok (.aload_n 1, 1) := by decide +kernel
theorem dL_parts_169 : decode cL_parts 169 = .ok (.iconst 2, 1) := by decide +kernel
theorem dL_parts_170 : decode cL_parts 170 = .ok (.iaload, 1) := by decide +kernel
theorem dL_parts_171 : decode cL_parts 171 = .ok (.i2l, 1) := by decide +kernel
theorem dL_parts_172 : decode cL_parts 172 = .ok (.lmul, 1) := by decide +kernel
theorem dL_parts_173 : decode cL_parts 173 = .ok (.ladd, 1) := by decide +kernel
theorem dL_parts_174 : decode cL_parts 174 = .ok (.lreturn, 1) := by decide +kernel
theorem dL_ends_0 : decode cL_ends 0 = .ok (.aload_n 0, 1) := by decide +kernel
theorem dL_ends_1 : decode cL_ends 1 = .ok (.iload 4, 2) := by decide +kernel
theorem dL_ends_3 : decode cL_ends 3 = .ok (.iaload, 1) := by decide +kernel
theorem dL_ends_4 : decode cL_ends 4 = .ok (.bipush 10, 2) := by decide +kernel
theorem dL_ends_6 : decode cL_ends 6 = .ok (.irem, 1) := by decide +kernel
theorem dL_ends_7 : decode cL_ends 7 = .ok (.istore 5, 2) := by decide +kernel
theorem dL_ends_9 : decode cL_ends 9 = .ok (.aload_n 2, 1) := by decide +kernel
theorem dL_ends_10 : decode cL_ends 10 = .ok (.iload 4, 2) := by decide +kernel
theorem dL_ends_12 : decode cL_ends 12 = .ok (.laload, 1) := by decide +kernel
theorem dL_ends_13 : decode cL_ends 13 = .ok (.ldc2_w 25, 3) := by decide +kernel
theorem dL_ends_16 : decode cL_ends 16 = .ok (.ldiv, 1) := by decide +kernel
theorem dL_ends_17 : decode cL_ends 17 = .ok (.l2i, 1) := by decide +kernel
theorem dL_ends_18 : decode cL_ends 18 = .ok (.istore 6, 2) := by decide +kernel
theorem dL_ends_20 : decode cL_ends 20 = .ok (.aload_n 3, 1) := by decide +kernel
theorem dL_ends_21 : decode cL_ends 21 = .ok (.iload 5, 2) := by decide +kernel
theorem dL_ends_23 : decode cL_ends 23 = .ok (.dup2, 1) := by decide +kernel
theorem dL_ends_24 : decode cL_ends 24 = .ok (.laload, 1) := by decide +kernel
theorem dL_ends_25 : decode cL_ends 25 = .ok (.iload 6, 2) := by decide +kernel
theorem dL_ends_27 : decode cL_ends 27 = .ok (.i2l, 1) := by decide +kernel
theorem dL_ends_28 : decode cL_ends 28 = .ok (.ladd, 1) := by decide +kernel
theorem dL_ends_29 : decode cL_ends 29 = .ok (.lastore, 1) := by decide +kernel
theorem dL_ends_30 : decode cL_ends 30 = .ok (.aload_n 3, 1) := by decide +kernel
theorem dL_ends_31 : decode cL_ends 31 = .ok (.iconst 4, 1) := by decide +kernel
theorem dL_ends_32 : decode cL_ends 32 = .ok (.iload 5, 2) := by decide +kernel
theorem dL_ends_34 : decode cL_ends 34 = .ok (.iadd, 1) := by decide +kernel
theorem dL_ends_35 : decode cL_ends 35 = .ok (.dup2, 1) := by decide +kernel
theorem dL_ends_36 : decode cL_ends 36 = .ok (.laload, 1) := by decide +kernel
theorem dL_ends_37 : decode cL_ends 37 = .ok (.aload_n 2, 1) := by decide +kernel
theorem dL_ends_38 : decode cL_ends 38 = .ok (.iload 4, 2) := by decide +kernel
theorem dL_ends_40 : decode cL_ends 40 = .ok (.laload, 1) := by decide +kernel
theorem dL_ends_41 : decode cL_ends 41 = .ok (.ldc2_w 25, 3) := by decide +kernel
theorem dL_ends_44 : decode cL_ends 44 = .ok (.lrem, 1) := by decide +kernel
theorem dL_ends_45 : decode cL_ends 45 = .ok (.ladd, 1) := by decide +kernel
theorem dL_ends_46 : decode cL_ends 46 = .ok (.lastore, 1) := by decide +kernel
theorem dL_ends_47 : decode cL_ends 47 = .ok (.aload_n 1, 1) := by decide +kernel
theorem dL_ends_48 : decode cL_ends 48 = .ok (.iload 4, 2) := by decide +kernel
theorem dL_ends_50 : decode cL_ends 50 = .ok (.iconst 0, 1) := by decide +kernel
theorem dL_ends_51 : decode cL_ends 51 = .ok (.iastore, 1) := by decide +kernel
theorem dL_ends_52 : decode cL_ends 52 = .ok (.aload_n 2, 1) := by decide +kernel
theorem dL_ends_53 : decode cL_ends 53 = .ok (.iload 4, 2) := by decide +kernel
theorem dL_ends_55 : decode cL_ends 55 = .ok (.lconst 0, 1) := by decide +kernel
theorem dL_ends_56 : decode cL_ends 56 = .ok (.lastore, 1) := by decide +kernel
theorem dL_ends_57 : decode cL_ends 57 = .ok (.iload 6, 2) := by decide +kernel
theorem dL_ends_59 : decode cL_ends 59 = .ok (.ireturn, 1) := by decide +kernel
theorem dL_takes_0 : decode cL_takes 0 = .ok (.bipush 20, 2) := by decide +kernel
theorem dL_takes_2 : decode cL_takes 2 = .ok (.newarray .long, 2) := by decide +kernel
theorem dL_takes_4 : decode cL_takes 4 = .ok (.astore 10, 2) := by decide +kernel
theorem dL_takes_6 : decode cL_takes 6 = .ok (.bipush 20, 2) := by decide +kernel
theorem dL_takes_8 : decode cL_takes 8 = .ok (.newarray .int, 2) := by decide +kernel
theorem dL_takes_10 : decode cL_takes 10 = .ok (.astore 11, 2) := by decide +kernel
theorem dL_takes_12 : decode cL_takes 12 = .ok (.bipush 20, 2) := by decide +kernel
theorem dL_takes_14 : decode cL_takes 14 = .ok (.newarray .int, 2) := by decide +kernel
theorem dL_takes_16 : decode cL_takes 16 = .ok (.astore 12, 2) := by decide +kernel
theorem dL_takes_18 : decode cL_takes 18 = .ok (.iconst 0, 1) := by decide +kernel
theorem dL_takes_19 : decode cL_takes 19 = .ok (.istore 13, 2) := by decide +kernel
theorem dL_takes_21 : decode cL_takes 21 = .ok (.aload_n 0, 1) := by decide +kernel
theorem dL_takes_22 : decode cL_takes 22 = .ok (.iconst 0, 1) := by decide +kernel
theorem dL_takes_23 : decode cL_takes 23 = .ok (.iaload, 1) := by decide +kernel
theorem dL_takes_24 : decode cL_takes 24 = .ok (.iconst 1, 1) := by decide +kernel
theorem dL_takes_25 : decode cL_takes 25 = .ok (.isub, 1) := by decide +kernel
theorem dL_takes_26 : decode cL_takes 26 = .ok (.istore 14, 2) := by decide +kernel
theorem dL_takes_28 : decode cL_takes 28 = .ok (.iload 14, 2) := by decide +kernel
theorem dL_takes_30 : decode cL_takes 30 = .ok (.ifCond .lt 125, 3) := by decide +kernel
theorem dL_takes_33 : decode cL_takes 33 = .ok (.aload_n 2, 1) := by decide +kernel
theorem dL_takes_34 : decode cL_takes 34 = .ok (.iload 14, 2) := by decide +kernel
theorem dL_takes_36 : decode cL_takes 36 = .ok (.iaload, 1) := by decide +kernel
theorem dL_takes_37 : decode cL_takes 37 = .ok (.iload 8, 2) := by decide +kernel
theorem dL_takes_39 : decode cL_takes 39 = .ok (.if_icmp .ne 110, 3) := by decide +kernel
theorem dL_takes_42 : decode cL_takes 42 = .ok (.aload_n 3, 1) := by decide +kernel
theorem dL_takes_43 : decode cL_takes 43 = .ok (.iload 14, 2) := by decide +kernel
theorem dL_takes_45 : decode cL_takes 45 = .ok (.iaload, 1) := by decide +kernel
theorem dL_takes_46 : decode cL_takes 46 = .ok (.ifCond .le 103, 3) := by decide +kernel
theorem dL_takes_49 : decode cL_takes 49 = .ok (.aload 10, 2) := by decide +kernel
theorem dL_takes_51 : decode cL_takes 51 = .ok (.iload 14, 2) := by decide +kernel
theorem dL_takes_53 : decode cL_takes 53 = .ok (.aload_n 0, 1) := by decide +kernel
theorem dL_takes_54 : decode cL_takes 54 = .ok (.aload_n 1, 1) := by decide +kernel
theorem dL_takes_55 : decode cL_takes 55 = .ok (.aload_n 2, 1) := by decide +kernel
theorem dL_takes_56 : decode cL_takes 56 = .ok (.aload_n 3, 1) := by decide +kernel
theorem dL_takes_57 : decode cL_takes 57 = .ok (.aload 5, 2) := by decide +kernel
theorem dL_takes_59 : decode cL_takes 59 = .ok (.iload 14, 2) := by decide +kernel
theorem dL_takes_61 : decode cL_takes 61 = .ok (.invokestatic 27, 3) := by decide +kernel
theorem dL_takes_64 : decode cL_takes 64 = .ok (.lastore, 1) := by decide +kernel
theorem dL_takes_65 : decode cL_takes 65 = .ok (.aload 11, 2) := by decide +kernel
theorem dL_takes_67 : decode cL_takes 67 = .ok (.iload 14, 2) := by decide +kernel
theorem dL_takes_69 : decode cL_takes 69 = .ok (.aload_n 3, 1) := by decide +kernel
theorem dL_takes_70 : decode cL_takes 70 = .ok (.iload 14, 2) := by decide +kernel
theorem dL_takes_72 : decode cL_takes 72 = .ok (.iaload, 1) := by decide +kernel
theorem dL_takes_73 : decode cL_takes 73 = .ok (.iastore, 1) := by decide +kernel
theorem dL_takes_74 : decode cL_takes 74 = .ok (.iload 13, 2) := by decide +kernel
theorem dL_takes_76 : decode cL_takes 76 = .ok (.istore 15, 2) := by decide +kernel
theorem dL_takes_78 : decode cL_takes 78 = .ok (.iload 15, 2) := by decide +kernel
theorem dL_takes_80 : decode cL_takes 80 = .ok (.ifCond .le 59, 3) := by decide +kernel
theorem dL_takes_83 : decode cL_takes 83 = .ok (.aload 10, 2) := by decide +kernel
theorem dL_takes_85 : decode cL_takes 85 = .ok (.iload 14, 2) := by decide +kernel
theorem dL_takes_87 : decode cL_takes 87 = .ok (.laload, 1) := by decide +kernel
theorem dL_takes_88 : decode cL_takes 88 = .ok (.aload 11, 2) := by decide +kernel
theorem dL_takes_90 : decode cL_takes 90 = .ok (.aload 12, 2) := by decide +kernel
theorem dL_takes_92 : decode cL_takes 92 = .ok (.iload 15, 2) := by decide +kernel
theorem dL_takes_94 : decode cL_takes 94 = .ok (.iconst 1, 1) := by decide +kernel
theorem dL_takes_95 : decode cL_takes 95 = .ok (.isub, 1) := by decide +kernel
theorem dL_takes_96 : decode cL_takes 96 = .ok (.iaload, 1) := by decide +kernel
theorem dL_takes_97 : decode cL_takes 97 = .ok (.iaload, 1) := by decide +kernel
theorem dL_takes_98 : decode cL_takes 98 = .ok (.i2l, 1) := by decide +kernel
theorem dL_takes_99 : decode cL_takes 99 = .ok (.lmul, 1) := by decide +kernel
theorem dL_takes_100 : decode cL_takes 100 = .ok (.aload 10, 2) := by decide +kernel
theorem dL_takes_102 : decode cL_takes 102 = .ok (.aload 12, 2) := by decide +kernel
theorem dL_takes_104 : decode cL_takes 104 = .ok (.iload 15, 2) := by decide +kernel
theorem dL_takes_106 : decode cL_takes 106 = .ok (.iconst 1, 1) := by decide +kernel
theorem dL_takes_107 : decode cL_takes 107 = .ok (.isub, 1) := by decide +kernel
theorem dL_takes_108 : decode cL_takes 108 = .ok (.iaload, 1) := by decide +kernel
theorem dL_takes_109 : decode cL_takes 109 = .ok (.laload, 1) := by decide +kernel
theorem dL_takes_110 : decode cL_takes 110 = .ok (.aload 11, 2) := by decide +kernel
theorem dL_takes_112 : decode cL_takes 112 = .ok (.iload 14, 2) := by decide +kernel
theorem dL_takes_114 : decode cL_takes 114 = .ok (.iaload, 1) := by decide +kernel
theorem dL_takes_115 : decode cL_takes 115 = .ok (.i2l, 1) := by decide +kernel
theorem dL_takes_116 : decode cL_takes 116 = .ok (.lmul, 1) := by decide +kernel
theorem dL_takes_117 : decode cL_takes 117 = .ok (.lcmp, 1) := by decide +kernel
theorem dL_takes_118 : decode cL_takes 118 = .ok (.ifCond .ge 21, 3) := by decide +kernel
theorem dL_takes_121 : decode cL_takes 121 = .ok (.aload 12, 2) := by decide +kernel
theorem dL_takes_123 : decode cL_takes 123 = .ok (.iload 15, 2) := by decide +kernel
theorem dL_takes_125 : decode cL_takes 125 = .ok (.aload 12, 2) := by decide +kernel
theorem dL_takes_127 : decode cL_takes 127 = .ok (.iload 15, 2) := by decide +kernel
theorem dL_takes_129 : decode cL_takes 129 = .ok (.iconst 1, 1) := by decide +kernel
theorem dL_takes_130 : decode cL_takes 130 = .ok (.isub, 1) := by decide +kernel
theorem dL_takes_131 : decode cL_takes 131 = .ok (.iaload, 1) := by decide +kernel
theorem dL_takes_132 : decode cL_takes 132 = .ok (.iastore, 1) := by decide +kernel
theorem dL_takes_133 : decode cL_takes 133 = .ok (.iinc 15 (-1), 3) := by decide +kernel
theorem dL_takes_136 : decode cL_takes 136 = .ok (.goto (-58), 3) := by decide +kernel
theorem dL_takes_139 : decode cL_takes 139 = .ok (.aload 12, 2) := by decide +kernel
theorem dL_takes_141 : decode cL_takes 141 = .ok (.iload 15, 2) := by decide +kernel
theorem dL_takes_143 : decode cL_takes 143 = .ok (.iload 14, 2) := by decide +kernel
theorem dL_takes_145 : decode cL_takes 145 = .ok (.iastore, 1) := by decide +kernel
theorem dL_takes_146 : decode cL_takes 146 = .ok (.iinc 13 1, 3) := by decide +kernel
theorem dL_takes_149 : decode cL_takes 149 = .ok (.iinc 14 (-1), 3) := by decide +kernel
theorem dL_takes_152 : decode cL_takes 152 = .ok (.goto (-124), 3) := by decide +kernel
theorem dL_takes_155 : decode cL_takes 155 = .ok (.iload 9, 2) := by decide +kernel
theorem dL_takes_157 : decode cL_takes 157 = .ok (.istore 14, 2) := by decide +kernel
theorem dL_takes_159 : decode cL_takes 159 = .ok (.iload 9, 2) := by decide +kernel
theorem dL_takes_161 : decode cL_takes 161 = .ok (.istore 15, 2) := by decide +kernel
theorem dL_takes_163 : decode cL_takes 163 = .ok (.iconst 0, 1) := by decide +kernel
theorem dL_takes_164 : decode cL_takes 164 = .ok (.istore 16, 2) := by decide +kernel
theorem dL_takes_166 : decode cL_takes 166 = .ok (.iload 16, 2) := by decide +kernel
theorem dL_takes_168 : decode cL_takes 168 = .ok (.iload 13, 2) := by decide +kernel
theorem dL_takes_170 : decode cL_takes 170 = .ok (.if_icmp .ge 159, 3) := by decide +kernel
theorem dL_takes_173 : decode cL_takes 173 = .ok (.aload 12, 2) := by decide +kernel
theorem dL_takes_175 : decode cL_takes 175 = .ok (.iload 16, 2) := by decide +kernel
theorem dL_takes_177 : decode cL_takes 177 = .ok (.iaload, 1) := by decide +kernel
theorem dL_takes_178 : decode cL_takes 178 = .ok (.istore 17, 2) := by decide +kernel
theorem dL_takes_180 : decode cL_takes 180 = .ok (.aload_n 3, 1) := by decide +kernel
theorem dL_takes_181 : decode cL_takes 181 = .ok (.iload 17, 2) := by decide +kernel
theorem dL_takes_183 : decode cL_takes 183 = .ok (.iaload, 1) := by decide +kernel
theorem dL_takes_184 : decode cL_takes 184 = .ok (.aload 4, 2) := by decide +kernel
theorem dL_takes_186 : decode cL_takes 186 = .ok (.iload 17, 2) := by decide +kernel
theorem dL_takes_188 : decode cL_takes 188 = .ok (.iaload, 1) := by decide +kernel
theorem dL_takes_189 : decode cL_takes 189 = .ok (.isub, 1) := by decide +kernel
theorem dL_takes_190 : decode cL_takes 190 = .ok (.iload 14, 2) := by decide +kernel
theorem dL_takes_192 : decode cL_takes 192 = .ok (.if_icmp .ge 16, 3) := by decide +kernel
theorem dL_takes_195 : decode cL_takes 195 = .ok (.aload_n 3, 1) := by decide +kernel
theorem dL_takes_196 : decode cL_takes 196 = .ok (.iload 17, 2) := by decide +kernel
theorem dL_takes_198 : decode cL_takes 198 = .ok (.iaload, 1) := by decide +kernel
theorem dL_takes_199 : decode cL_takes 199 = .ok (.aload 4, 2) := by decide +kernel
theorem dL_takes_201 : decode cL_takes 201 = .ok (.iload 17, 2) := by decide +kernel
theorem dL_takes_203 : decode cL_takes 203 = .ok (.iaload, 1) := by decide +kernel
theorem dL_takes_204 : decode cL_takes 204 = .ok (.isub, 1) := by decide +kernel
theorem dL_takes_205 : decode cL_takes 205 = .ok (.goto 5, 3) := by decide +kernel
theorem dL_takes_208 : decode cL_takes 208 = .ok (.iload 14, 2) := by decide +kernel
theorem dL_takes_210 : decode cL_takes 210 = .ok (.istore 18, 2) := by decide +kernel
theorem dL_takes_212 : decode cL_takes 212 = .ok (.aload 10, 2) := by decide +kernel
theorem dL_takes_214 : decode cL_takes 214 = .ok (.iload 17, 2) := by decide +kernel
theorem dL_takes_216 : decode cL_takes 216 = .ok (.laload, 1) := by decide +kernel
theorem dL_takes_217 : decode cL_takes 217 = .ok (.ldc2_w 31, 3) := by decide +kernel
theorem dL_takes_220 : decode cL_takes 220 = .ok (.lmul, 1) := by decide +kernel
theorem dL_takes_221 : decode cL_takes 221 = .ok (.iload 18, 2) := by decide +kernel
theorem dL_takes_223 : decode cL_takes 223 = .ok (.i2l, 1) := by decide +kernel
theorem dL_takes_224 : decode cL_takes 224 = .ok (.lmul, 1) := by decide +kernel
theorem dL_takes_225 : decode cL_takes 225 = .ok (.aload 11, 2) := by decide +kernel
theorem dL_takes_227 : decode cL_takes 227 = .ok (.iload 17, 2) := by decide +kernel
theorem dL_takes_229 : decode cL_takes 229 = .ok (.iaload, 1) := by decide +kernel
theorem dL_takes_230 : decode cL_takes 230 = .ok (.i2l, 1) := by decide +kernel
theorem dL_takes_231 : decode cL_takes 231 = .ok (.ldiv, 1) := by decide +kernel
theorem dL_takes_232 : decode cL_takes 232 = .ok (.lstore 19, 2) := by decide +kernel
theorem dL_takes_234 : decode cL_takes 234 = .ok (.lload 19, 2) := by decide +kernel
theorem dL_takes_236 : decode cL_takes 236 = .ok (.aload 6, 2) := by decide +kernel
theorem dL_takes_238 : decode cL_takes 238 = .ok (.iload 17, 2) := by decide +kernel
theorem dL_takes_240 : decode cL_takes 240 = .ok (.laload, 1) := by decide +kernel
theorem dL_takes_241 : decode cL_takes 241 = .ok (.lcmp, 1) := by decide +kernel
theorem dL_takes_242 : decode cL_takes 242 = .ok (.ifCond .ge 8, 3) := by decide +kernel
theorem dL_takes_245 : decode cL_takes 245 = .ok (.lload 19, 2) := by decide +kernel
theorem dL_takes_247 : decode cL_takes 247 = .ok (.goto 8, 3) := by decide +kernel
theorem dL_takes_250 : decode cL_takes 250 = .ok (.aload 6, 2) := by decide +kernel
theorem dL_takes_252 : decode cL_takes 252 = .ok (.iload 17, 2) := by decide +kernel
theorem dL_takes_254 : decode cL_takes 254 = .ok (.laload, 1) := by decide +kernel
theorem dL_takes_255 : decode cL_takes 255 = .ok (.lstore 19, 2) := by decide +kernel
theorem dL_takes_257 : decode cL_takes 257 = .ok (.aload 6, 2) := by decide +kernel
theorem dL_takes_259 : decode cL_takes 259 = .ok (.iload 17, 2) := by decide +kernel
theorem dL_takes_261 : decode cL_takes 261 = .ok (.dup2, 1) := by decide +kernel
theorem dL_takes_262 : decode cL_takes 262 = .ok (.laload, 1) := by decide +kernel
theorem dL_takes_263 : decode cL_takes 263 = .ok (.lload 19, 2) := by decide +kernel
theorem dL_takes_265 : decode cL_takes 265 = .ok (.lsub, 1) := by decide +kernel
theorem dL_takes_266 : decode cL_takes 266 = .ok (.lastore, 1) := by decide +kernel
theorem dL_takes_267 : decode cL_takes 267 = .ok (.aload 7, 2) := by decide +kernel
theorem dL_takes_269 : decode cL_takes 269 = .ok (.iconst 4, 1) := by decide +kernel
theorem dL_takes_270 : decode cL_takes 270 = .ok (.iload 8, 2) := by decide +kernel
theorem dL_takes_272 : decode cL_takes 272 = .ok (.iadd, 1) := by decide +kernel
theorem dL_takes_273 : decode cL_takes 273 = .ok (.dup2, 1) := by decide +kernel
theorem dL_takes_274 : decode cL_takes 274 = .ok (.laload, 1) := by decide +kernel
theorem dL_takes_275 : decode cL_takes 275 = .ok (.lload 19, 2) := by decide +kernel
theorem dL_takes_277 : decode cL_takes 277 = .ok (.ladd, 1) := by decide +kernel
theorem dL_takes_278 : decode cL_takes 278 = .ok (.lastore, 1) := by decide +kernel
theorem dL_takes_279 : decode cL_takes 279 = .ok (.iload 14, 2) := by decide +kernel
theorem dL_takes_281 : decode cL_takes 281 = .ok (.iload 18, 2) := by decide +kernel
theorem dL_takes_283 : decode cL_takes 283 = .ok (.isub, 1) := by decide +kernel
theorem dL_takes_284 : decode cL_takes 284 = .ok (.istore 14, 2) := by decide +kernel
theorem dL_takes_286 : decode cL_takes 286 = .ok (.iload 18, 2) := by decide +kernel
theorem dL_takes_288 : decode cL_takes 288 = .ok (.aload_n 3, 1) := by decide +kernel
theorem dL_takes_289 : decode cL_takes 289 = .ok (.iload 17, 2) := by decide +kernel
theorem dL_takes_291 : decode cL_takes 291 = .ok (.iaload, 1) := by decide +kernel
theorem dL_takes_292 : decode cL_takes 292 = .ok (.if_icmp .ne 22, 3) := by decide +kernel
theorem dL_takes_295 : decode cL_takes 295 = .ok (.iload 15, 2) := by decide +kernel
theorem dL_takes_297 : decode cL_takes 297 = .ok (.aload_n 2, 1) := by decide +kernel
theorem dL_takes_298 : decode cL_takes 298 = .ok (.aload_n 3, 1) := by decide +kernel
theorem dL_takes_299 : decode cL_takes 299 = .ok (.aload 6, 2) := by decide +kernel
theorem dL_takes_301 : decode cL_takes 301 = .ok (.aload 7, 2) := by decide +kernel
theorem dL_takes_303 : decode cL_takes 303 = .ok (.iload 17, 2) := by decide +kernel
theorem dL_takes_305 : decode cL_takes 305 = .ok (.invokestatic 33, 3) := by decide +kernel
theorem dL_takes_308 : decode cL_takes 308 = .ok (.iadd, 1) := by decide +kernel
theorem dL_takes_309 : decode cL_takes 309 = .ok (.istore 15, 2) := by decide +kernel
theorem dL_takes_311 : decode cL_takes 311 = .ok (.goto 12, 3) := by decide +kernel
theorem dL_takes_314 : decode cL_takes 314 = .ok (.aload_n 3, 1) := by decide +kernel
theorem dL_takes_315 : decode cL_takes 315 = .ok (.iload 17, 2) := by decide +kernel
theorem dL_takes_317 : decode cL_takes 317 = .ok (.dup2, 1) := by decide +kernel
theorem dL_takes_318 : decode cL_takes 318 = .ok (.iaload, 1) := by decide +kernel
theorem dL_takes_319 : decode cL_takes 319 = .ok (.iload 18, 2) := by decide +kernel
theorem dL_takes_321 : decode cL_takes 321 = .ok (.isub, 1) := by decide +kernel
theorem dL_takes_322 : decode cL_takes 322 = .ok (.iastore, 1) := by decide +kernel
theorem dL_takes_323 : decode cL_takes 323 = .ok (.iinc 16 1, 3) := by decide +kernel
theorem dL_takes_326 : decode cL_takes 326 = .ok (.goto (-160), 3) := by decide +kernel
theorem dL_takes_329 : decode cL_takes 329 = .ok (.aload 7, 2) := by decide +kernel
theorem dL_takes_331 : decode cL_takes 331 = .ok (.iload 8, 2) := by decide +kernel
theorem dL_takes_333 : decode cL_takes 333 = .ok (.dup2, 1) := by decide +kernel
theorem dL_takes_334 : decode cL_takes 334 = .ok (.laload, 1) := by decide +kernel
theorem dL_takes_335 : decode cL_takes 335 = .ok (.iload 9, 2) := by decide +kernel
theorem dL_takes_337 : decode cL_takes 337 = .ok (.i2l, 1) := by decide +kernel
theorem dL_takes_338 : decode cL_takes 338 = .ok (.ladd, 1) := by decide +kernel
theorem dL_takes_339 : decode cL_takes 339 = .ok (.lastore, 1) := by decide +kernel
theorem dL_takes_340 : decode cL_takes 340 = .ok (.iload 15, 2) := by decide +kernel
theorem dL_takes_342 : decode cL_takes 342 = .ok (.ireturn, 1) := by decide +kernel
theorem dL_passes_0 : decode cL_passes 0 = .ok (.iconst 0, 1) := by decide +kernel
theorem dL_passes_1 : decode cL_passes 1 = .ok (.istore 11, 2) := by decide +kernel
theorem dL_passes_3 : decode cL_passes 3 = .ok (.iconst 0, 1) := by decide +kernel
theorem dL_passes_4 : decode cL_passes 4 = .ok (.istore 12, 2) := by decide +kernel
theorem dL_passes_6 : decode cL_passes 6 = .ok (.iload 12, 2) := by decide +kernel
theorem dL_passes_8 : decode cL_passes 8 = .ok (.iload 10, 2) := by decide +kernel
theorem dL_passes_10 : decode cL_passes 10 = .ok (.if_icmp .ge 319, 3) := by decide +kernel
theorem dL_passes_13 : decode cL_passes 13 = .ok (.iconst 0, 1) := by decide +kernel
theorem dL_passes_14 : decode cL_passes 14 = .ok (.istore 13, 2) := by decide +kernel
theorem dL_passes_16 : decode cL_passes 16 = .ok (.iload 13, 2) := by decide +kernel
theorem dL_passes_18 : decode cL_passes 18 = .ok (.aload_n 0, 1) := by decide +kernel
theorem dL_passes_19 : decode cL_passes 19 = .ok (.iconst 0, 1) := by decide +kernel
theorem dL_passes_20 : decode cL_passes 20 = .ok (.iaload, 1) := by decide +kernel
theorem dL_passes_21 : decode cL_passes 21 = .ok (.if_icmp .ge 39, 3) := by decide +kernel
theorem dL_passes_24 : decode cL_passes 24 = .ok (.aload 8, 2) := by decide +kernel
theorem dL_passes_26 : decode cL_passes 26 = .ok (.iload 13, 2) := by decide +kernel
theorem dL_passes_28 : decode cL_passes 28 = .ok (.dup2, 1) := by decide +kernel
theorem dL_passes_29 : decode cL_passes 29 = .ok (.laload, 1) := by decide +kernel
theorem dL_passes_30 : decode cL_passes 30 = .ok (.aload_n 3, 1) := by decide +kernel
theorem dL_passes_31 : decode cL_passes 31 = .ok (.iload 13, 2) := by decide +kernel
theorem dL_passes_33 : decode cL_passes 33 = .ok (.iaload, 1) := by decide +kernel
theorem dL_passes_34 : decode cL_passes 34 = .ok (.ifCond .le 17, 3) := by decide +kernel
theorem dL_passes_37 : decode cL_passes 37 = .ok (.aload_n 0, 1) := by decide +kernel
theorem dL_passes_38 : decode cL_passes 38 = .ok (.aload_n 1, 1) := by decide +kernel
theorem dL_passes_39 : decode cL_passes 39 = .ok (.aload_n 2, 1) := by decide +kernel
theorem dL_passes_40 : decode cL_passes 40 = .ok (.aload_n 3, 1) := by decide +kernel
theorem dL_passes_41 : decode cL_passes 41 = .ok (.aload 7, 2) := by decide +kernel
theorem dL_passes_43 : decode cL_passes 43 = .ok (.iload 13, 2) := by decide +kernel
theorem dL_passes_45 : decode cL_passes 45 = .ok (.invokestatic 27, 3) := by decide +kernel
theorem dL_passes_48 : decode cL_passes 48 = .ok (.goto 4, 3) := by decide +kernel
theorem dL_passes_51 : decode cL_passes 51 = .ok (.lconst 0, 1) := by decide +kernel
theorem dL_passes_52 : decode cL_passes 52 = .ok (.ladd, 1) := by decide +kernel
theorem dL_passes_53 : decode cL_passes 53 = .ok (.lastore, 1) := by decide +kernel
theorem dL_passes_54 : decode cL_passes 54 = .ok (.iinc 13 1, 3) := by decide +kernel
theorem dL_passes_57 : decode cL_passes 57 = .ok (.goto (-41), 3) := by decide +kernel
theorem dL_passes_60 : decode cL_passes 60 = .ok (.aload_n 0, 1) := by decide +kernel
theorem dL_passes_61 : decode cL_passes 61 = .ok (.iconst 1, 1) := by decide +kernel
theorem dL_passes_62 : decode cL_passes 62 = .ok (.dup2, 1) := by decide +kernel
theorem dL_passes_63 : decode cL_passes 63 = .ok (.iaload, 1) := by decide +kernel
theorem dL_passes_64 : decode cL_passes 64 = .ok (.iconst 1, 1) := by decide +kernel
theorem dL_passes_65 : decode cL_passes 65 = .ok (.iadd, 1) := by decide +kernel
theorem dL_passes_66 : decode cL_passes 66 = .ok (.iastore, 1) := by decide +kernel
theorem dL_passes_67 : decode cL_passes 67 = .ok (.iconst 0, 1) := by decide +kernel
theorem dL_passes_68 : decode cL_passes 68 = .ok (.istore 13, 2) := by decide +kernel
theorem dL_passes_70 : decode cL_passes 70 = .ok (.iload 13, 2) := by decide +kernel
theorem dL_passes_72 : decode cL_passes 72 = .ok (.aload_n 0, 1) := by decide +kernel
theorem dL_passes_73 : decode cL_passes 73 = .ok (.iconst 0, 1) := by decide +kernel
theorem dL_passes_74 : decode cL_passes 74 = .ok (.iaload, 1) := by decide +kernel
theorem dL_passes_75 : decode cL_passes 75 = .ok (.if_icmp .ge 248, 3) := by decide +kernel
theorem dL_passes_78 : decode cL_passes 78 = .ok (.aload 4, 2) := by decide +kernel
theorem dL_passes_80 : decode cL_passes 80 = .ok (.iload 13, 2) := by decide +kernel
theorem dL_passes_82 : decode cL_passes 82 = .ok (.aload_n 2, 1) := by decide +kernel
theorem dL_passes_83 : decode cL_passes 83 = .ok (.iload 13, 2) := by decide +kernel
theorem dL_passes_85 : decode cL_passes 85 = .ok (.iaload, 1) := by decide +kernel
theorem dL_passes_86 : decode cL_passes 86 = .ok (.bipush 10, 2) := by decide +kernel
theorem dL_passes_88 : decode cL_passes 88 = .ok (.if_icmp .ge 29, 3) := by decide +kernel
theorem dL_passes_91 : decode cL_passes 91 = .ok (.aload 4, 2) := by decide +kernel
theorem dL_passes_93 : decode cL_passes 93 = .ok (.iload 13, 2) := by decide +kernel
theorem dL_passes_95 : decode cL_passes 95 = .ok (.iaload, 1) := by decide +kernel
theorem dL_passes_96 : decode cL_passes 96 = .ok (.ifCond .le 21, 3) := by decide +kernel
theorem dL_passes_99 : decode cL_passes 99 = .ok (.aload 5, 2) := by decide +kernel
theorem dL_passes_101 : decode cL_passes 101 = .ok (.iload 13, 2) := by decide +kernel
theorem dL_passes_103 : decode cL_passes 103 = .ok (.iaload, 1) := by decide +kernel
theorem dL_passes_104 : decode cL_passes 104 = .ok (.bipush 39, 2) := by decide +kernel
theorem dL_passes_106 : decode cL_passes 106 = .ok (.iadd, 1) := by decide +kernel
theorem dL_passes_107 : decode cL_passes 107 = .ok (.aload_n 0, 1) := by decide +kernel
theorem dL_passes_108 : decode cL_passes 108 = .ok (.iconst 1, 1) := by decide +kernel
theorem dL_passes_109 : decode cL_passes 109 = .ok (.iaload, 1) := by decide +kernel
theorem dL_passes_110 : decode cL_passes 110 = .ok (.if_icmp .ne 7, 3) := by decide +kernel
theorem dL_passes_113 : decode cL_passes 113 = .ok (.iconst 0, 1) := by decide +kernel
theorem dL_passes_114 : decode cL_passes 114 = .ok (.goto 8, 3) := by decide +kernel
theorem dL_passes_117 : decode cL_passes 117 = .ok (.aload 4, 2) := by decide +kernel
theorem dL_passes_119 : decode cL_passes 119 = .ok (.iload 13, 2) := by decide +kernel
theorem dL_passes_121 : decode cL_passes 121 = .ok (.iaload, 1) := by decide +kernel
theorem dL_passes_122 : decode cL_passes 122 = .ok (.iastore, 1) := by decide +kernel
theorem dL_passes_123 : decode cL_passes 123 = .ok (.aload_n 3, 1) := by decide +kernel
theorem dL_passes_124 : decode cL_passes 124 = .ok (.iload 13, 2) := by decide +kernel
theorem dL_passes_126 : decode cL_passes 126 = .ok (.iaload, 1) := by decide +kernel
theorem dL_passes_127 : decode cL_passes 127 = .ok (.ifCond .le 190, 3) := by decide +kernel
theorem dL_passes_130 : decode cL_passes 130 = .ok (.aload_n 2, 1) := by decide +kernel
theorem dL_passes_131 : decode cL_passes 131 = .ok (.iload 13, 2) := by decide +kernel
theorem dL_passes_133 : decode cL_passes 133 = .ok (.iaload, 1) := by decide +kernel
theorem dL_passes_134 : decode cL_passes 134 = .ok (.bipush 10, 2) := by decide +kernel
theorem dL_passes_136 : decode cL_passes 136 = .ok (.if_icmp .lt 181, 3) := by decide +kernel
theorem dL_passes_139 : decode cL_passes 139 = .ok (.aload 5, 2) := by decide +kernel
theorem dL_passes_141 : decode cL_passes 141 = .ok (.iload 13, 2) := by decide +kernel
theorem dL_passes_143 : decode cL_passes 143 = .ok (.iaload, 1) := by decide +kernel
theorem dL_passes_144 : decode cL_passes 144 = .ok (.aload_n 0, 1) := by decide +kernel
theorem dL_passes_145 : decode cL_passes 145 = .ok (.iconst 1, 1) := by decide +kernel
theorem dL_passes_146 : decode cL_passes 146 = .ok (.iaload, 1) := by decide +kernel
theorem dL_passes_147 : decode cL_passes 147 = .ok (.if_icmp .ne 170, 3) := by decide +kernel
theorem dL_passes_150 : decode cL_passes 150 = .ok (.iinc 11 1, 3) := by decide +kernel
theorem dL_passes_153 : decode cL_passes 153 = .ok (.aload_n 2, 1) := by decide +kernel
theorem dL_passes_154 : decode cL_passes 154 = .ok (.iload 13, 2) := by decide +kernel
theorem dL_passes_156 : decode cL_passes 156 = .ok (.iaload, 1) := by decide +kernel
theorem dL_passes_157 : decode cL_passes 157 = .ok (.bipush 10, 2) := by decide +kernel
theorem dL_passes_159 : decode cL_passes 159 = .ok (.irem, 1) := by decide +kernel
theorem dL_passes_160 : decode cL_passes 160 = .ok (.istore 14, 2) := by decide +kernel
theorem dL_passes_162 : decode cL_passes 162 = .ok (.aload 6, 2) := by decide +kernel
theorem dL_passes_164 : decode cL_passes 164 = .ok (.iconst 3, 1) := by decide +kernel
theorem dL_passes_165 : decode cL_passes 165 = .ok (.iload 13, 2) := by decide +kernel
theorem dL_passes_167 : decode cL_passes 167 = .ok (.imul, 1) := by decide +kernel
theorem dL_passes_168 : decode cL_passes 168 = .ok (.iconst 1, 1) := by decide +kernel
theorem dL_passes_169 : decode cL_passes 169 = .ok (.iadd, 1) := by decide +kernel
theorem dL_passes_170 : decode cL_passes 170 = .ok (.iaload, 1) := by decide +kernel
theorem dL_passes_171 : decode cL_passes 171 = .ok (.istore 15, 2) := by decide +kernel
theorem dL_passes_173 : decode cL_passes 173 = .ok (.iload 15, 2) := by decide +kernel
theorem dL_passes_175 : decode cL_passes 175 = .ok (.ifCond .ne 32, 3) := by decide +kernel
theorem dL_passes_178 : decode cL_passes 178 = .ok (.aload 9, 2) := by decide +kernel
theorem dL_passes_180 : decode cL_passes 180 = .ok (.iload 14, 2) := by decide +kernel
theorem dL_passes_182 : decode cL_passes 182 = .ok (.dup2, 1) := by decide +kernel
theorem dL_passes_183 : decode cL_passes 183 = .ok (.laload, 1) := by decide +kernel
theorem dL_passes_184 : decode cL_passes 184 = .ok (.aload_n 3, 1) := by decide +kernel
theorem dL_passes_185 : decode cL_passes 185 = .ok (.iload 13, 2) := by decide +kernel
theorem dL_passes_187 : decode cL_passes 187 = .ok (.iaload, 1) := by decide +kernel
theorem dL_passes_188 : decode cL_passes 188 = .ok (.i2l, 1) := by decide +kernel
theorem dL_passes_189 : decode cL_passes 189 = .ok (.ladd, 1) := by decide +kernel
theorem dL_passes_190 : decode cL_passes 190 = .ok (.lastore, 1) := by decide +kernel
theorem dL_passes_191 : decode cL_passes 191 = .ok (.aload_n 2, 1) := by decide +kernel
theorem dL_passes_192 : decode cL_passes 192 = .ok (.aload_n 3, 1) := by decide +kernel
theorem dL_passes_193 : decode cL_passes 193 = .ok (.aload 8, 2) := by decide +kernel
theorem dL_passes_195 : decode cL_passes 195 = .ok (.aload 9, 2) := by decide +kernel
theorem dL_passes_197 : decode cL_passes 197 = .ok (.iload 13, 2) := by decide +kernel
theorem dL_passes_199 : decode cL_passes 199 = .ok (.invokestatic 33, 3) := by decide +kernel
theorem dL_passes_202 : decode cL_passes 202 = .ok (.istore 16, 2) := by decide +kernel
theorem dL_passes_204 : decode cL_passes 204 = .ok (.goto 113, 3) := by decide +kernel
theorem dL_passes_207 : decode cL_passes 207 = .ok (.aload 8, 2) := by decide +kernel
theorem dL_passes_209 : decode cL_passes 209 = .ok (.iload 13, 2) := by decide +kernel
theorem dL_passes_211 : decode cL_passes 211 = .ok (.laload, 1) := by decide +kernel
theorem dL_passes_212 : decode cL_passes 212 = .ok (.ldc2_w 25, 3) := by decide +kernel
theorem dL_passes_215 : decode cL_passes 215 = .ok (.ldiv, 1) := by decide +kernel
theorem dL_passes_216 : decode cL_passes 216 = .ok (.l2i, 1) := by decide +kernel
theorem dL_passes_217 : decode cL_passes 217 = .ok (.istore 16, 2) := by decide +kernel
theorem dL_passes_219 : decode cL_passes 219 = .ok (.aload 8, 2) := by decide +kernel
theorem dL_passes_221 : decode cL_passes 221 = .ok (.iload 13, 2) := by decide +kernel
theorem dL_passes_223 : decode cL_passes 223 = .ok (.dup2, 1) := by decide +kernel
theorem dL_passes_224 : decode cL_passes 224 = .ok (.laload, 1) := by decide +kernel
theorem dL_passes_225 : decode cL_passes 225 = .ok (.iload 16, 2) := by decide +kernel
theorem dL_passes_227 : decode cL_passes 227 = .ok (.i2l, 1) := by decide +kernel
theorem dL_passes_228 : decode cL_passes 228 = .ok (.ldc2_w 25, 3) := by decide +kernel
theorem dL_passes_231 : decode cL_passes 231 = .ok (.lmul, 1) := by decide +kernel
theorem dL_passes_232 : decode cL_passes 232 = .ok (.lsub, 1) := by decide +kernel
theorem dL_passes_233 : decode cL_passes 233 = .ok (.lastore, 1) := by decide +kernel
theorem dL_passes_234 : decode cL_passes 234 = .ok (.aload 9, 2) := by decide +kernel
theorem dL_passes_236 : decode cL_passes 236 = .ok (.iload 14, 2) := by decide +kernel
theorem dL_passes_238 : decode cL_passes 238 = .ok (.dup2, 1) := by decide +kernel
theorem dL_passes_239 : decode cL_passes 239 = .ok (.laload, 1) := by decide +kernel
theorem dL_passes_240 : decode cL_passes 240 = .ok (.iload 15, 2) := by decide +kernel
theorem dL_passes_242 : decode cL_passes 242 = .ok (.iconst 1, 1) := by decide +kernel
theorem dL_passes_243 : decode cL_passes 243 = .ok (.if_icmp .ne 9, 3) := by decide +kernel
theorem dL_passes_246 : decode cL_passes 246 = .ok (.iload 16, 2) := by decide +kernel
theorem dL_passes_248 : decode cL_passes 248 = .ok (.i2l, 1) := by decide +kernel
theorem dL_passes_249 : decode cL_passes 249 = .ok (.goto 4, 3) := by decide +kernel
theorem dL_passes_252 : decode cL_passes 252 = .ok (.lconst 0, 1) := by decide +kernel
theorem dL_passes_253 : decode cL_passes 253 = .ok (.ladd, 1) := by decide +kernel
theorem dL_passes_254 : decode cL_passes 254 = .ok (.lastore, 1) := by decide +kernel
theorem dL_passes_255 : decode cL_passes 255 = .ok (.aload_n 3, 1) := by decide +kernel
theorem dL_passes_256 : decode cL_passes 256 = .ok (.iload 13, 2) := by decide +kernel
theorem dL_passes_258 : decode cL_passes 258 = .ok (.dup2, 1) := by decide +kernel
theorem dL_passes_259 : decode cL_passes 259 = .ok (.iaload, 1) := by decide +kernel
theorem dL_passes_260 : decode cL_passes 260 = .ok (.iload 15, 2) := by decide +kernel
theorem dL_passes_262 : decode cL_passes 262 = .ok (.iconst 2, 1) := by decide +kernel
theorem dL_passes_263 : decode cL_passes 263 = .ok (.if_icmp .ne 8, 3) := by decide +kernel
theorem dL_passes_266 : decode cL_passes 266 = .ok (.iload 16, 2) := by decide +kernel
theorem dL_passes_268 : decode cL_passes 268 = .ok (.goto 4, 3) := by decide +kernel
theorem dL_passes_271 : decode cL_passes 271 = .ok (.iconst 0, 1) := by decide +kernel
theorem dL_passes_272 : decode cL_passes 272 = .ok (.iadd, 1) := by decide +kernel
theorem dL_passes_273 : decode cL_passes 273 = .ok (.iastore, 1) := by decide +kernel
theorem dL_passes_274 : decode cL_passes 274 = .ok (.aload 5, 2) := by decide +kernel
theorem dL_passes_276 : decode cL_passes 276 = .ok (.iload 13, 2) := by decide +kernel
theorem dL_passes_278 : decode cL_passes 278 = .ok (.aload_n 0, 1) := by decide +kernel
theorem dL_passes_279 : decode cL_passes 279 = .ok (.iconst 1, 1) := by decide +kernel
theorem dL_passes_280 : decode cL_passes 280 = .ok (.iaload, 1) := by decide +kernel
theorem dL_passes_281 : decode cL_passes 281 = .ok (.aload 6, 2) := by decide +kernel
theorem dL_passes_283 : decode cL_passes 283 = .ok (.iconst 3, 1) := by decide +kernel
theorem dL_passes_284 : decode cL_passes 284 = .ok (.iload 13, 2) := by decide +kernel
theorem dL_passes_286 : decode cL_passes 286 = .ok (.imul, 1) := by decide +kernel
theorem dL_passes_287 : decode cL_passes 287 = .ok (.iaload, 1) := by decide +kernel
theorem dL_passes_288 : decode cL_passes 288 = .ok (.iadd, 1) := by decide +kernel
theorem dL_passes_289 : decode cL_passes 289 = .ok (.iastore, 1) := by decide +kernel
theorem dL_passes_290 : decode cL_passes 290 = .ok (.aload 6, 2) := by decide +kernel
theorem dL_passes_292 : decode cL_passes 292 = .ok (.iconst 3, 1) := by decide +kernel
theorem dL_passes_293 : decode cL_passes 293 = .ok (.iload 13, 2) := by decide +kernel
theorem dL_passes_295 : decode cL_passes 295 = .ok (.imul, 1) := by decide +kernel
theorem dL_passes_296 : decode cL_passes 296 = .ok (.iconst 2, 1) := by decide +kernel
theorem dL_passes_297 : decode cL_passes 297 = .ok (.iadd, 1) := by decide +kernel
theorem dL_passes_298 : decode cL_passes 298 = .ok (.aload_n 0, 1) := by decide +kernel
theorem dL_passes_299 : decode cL_passes 299 = .ok (.iconst 1, 1) := by decide +kernel
theorem dL_passes_300 : decode cL_passes 300 = .ok (.iaload, 1) := by decide +kernel
theorem dL_passes_301 : decode cL_passes 301 = .ok (.iastore, 1) := by decide +kernel
theorem dL_passes_302 : decode cL_passes 302 = .ok (.aload 7, 2) := by decide +kernel
theorem dL_passes_304 : decode cL_passes 304 = .ok (.iload 13, 2) := by decide +kernel
theorem dL_passes_306 : decode cL_passes 306 = .ok (.aload_n 3, 1) := by decide +kernel
theorem dL_passes_307 : decode cL_passes 307 = .ok (.iload 13, 2) := by decide +kernel
theorem dL_passes_309 : decode cL_passes 309 = .ok (.iaload, 1) := by decide +kernel
theorem dL_passes_310 : decode cL_passes 310 = .ok (.i2l, 1) := by decide +kernel
theorem dL_passes_311 : decode cL_passes 311 = .ok (.aload_n 0, 1) := by decide +kernel
theorem dL_passes_312 : decode cL_passes 312 = .ok (.iconst 3, 1) := by decide +kernel
theorem dL_passes_313 : decode cL_passes 313 = .ok (.iaload, 1) := by decide +kernel
theorem dL_passes_314 : decode cL_passes 314 = .ok (.i2l, 1) := by decide +kernel
theorem dL_passes_315 : decode cL_passes 315 = .ok (.lmul, 1) := by decide +kernel
theorem dL_passes_316 : decode cL_passes 316 = .ok (.lastore, 1) := by decide +kernel
theorem dL_passes_317 : decode cL_passes 317 = .ok (.iinc 13 1, 3) := by decide +kernel
theorem dL_passes_320 : decode cL_passes 320 = .ok (.goto (-250), 3) := by decide +kernel
theorem dL_passes_323 : decode cL_passes 323 = .ok (.iinc 12 1, 3) := by decide +kernel
theorem dL_passes_326 : decode cL_passes 326 = .ok (.goto (-320), 3) := by decide +kernel
theorem dL_passes_329 : decode cL_passes 329 = .ok (.iload 11, 2) := by decide +kernel
theorem dL_passes_331 : decode cL_passes 331 = .ok (.ireturn, 1) := by decide +kernel
theorem dL_does_0 : decode cL_does 0 = .ok (.iload_n 1, 1) := by decide +kernel
theorem dL_does_1 : decode cL_does 1 = .ok (.ifCond .ne 12, 3) := by decide +kernel
theorem dL_does_4 : decode cL_does 4 = .ok (.aload_n 0, 1) := by decide +kernel
theorem dL_does_5 : decode cL_does 5 = .ok (.iload_n 2, 1) := by decide +kernel
theorem dL_does_6 : decode cL_does 6 = .ok (.iload_n 3, 1) := by decide +kernel
theorem dL_does_7 : decode cL_does 7 = .ok (.invokevirtual 37, 3) := by decide +kernel
theorem dL_does_10 : decode cL_does 10 = .ok (.goto 119, 3) := by decide +kernel
theorem dL_does_13 : decode cL_does 13 = .ok (.iload_n 1, 1) := by decide +kernel
theorem dL_does_14 : decode cL_does 14 = .ok (.iconst 1, 1) := by decide +kernel
theorem dL_does_15 : decode cL_does 15 = .ok (.if_icmp .ne 12, 3) := by decide +kernel
theorem dL_does_18 : decode cL_does 18 = .ok (.aload_n 0, 1) := by decide +kernel
theorem dL_does_19 : decode cL_does 19 = .ok (.iload_n 2, 1) := by decide +kernel
theorem dL_does_20 : decode cL_does 20 = .ok (.iload_n 3, 1) := by decide +kernel
theorem dL_does_21 : decode cL_does 21 = .ok (.invokevirtual 43, 3) := by decide +kernel
theorem dL_does_24 : decode cL_does 24 = .ok (.goto 105, 3) := by decide +kernel
theorem dL_does_27 : decode cL_does 27 = .ok (.iload_n 1, 1) := by decide +kernel
theorem dL_does_28 : decode cL_does 28 = .ok (.iconst 2, 1) := by decide +kernel
theorem dL_does_29 : decode cL_does 29 = .ok (.if_icmp .ne 11, 3) := by decide +kernel
theorem dL_does_32 : decode cL_does 32 = .ok (.aload_n 0, 1) := by decide +kernel
theorem dL_does_33 : decode cL_does 33 = .ok (.iload_n 2, 1) := by decide +kernel
theorem dL_does_34 : decode cL_does 34 = .ok (.invokevirtual 46, 3) := by decide +kernel
theorem dL_does_37 : decode cL_does 37 = .ok (.goto 92, 3) := by decide +kernel
theorem dL_does_40 : decode cL_does 40 = .ok (.iload_n 1, 1) := by decide +kernel
theorem dL_does_41 : decode cL_does 41 = .ok (.iconst 3, 1) := by decide +kernel
theorem dL_does_42 : decode cL_does 42 = .ok (.if_icmp .ne 11, 3) := by decide +kernel
theorem dL_does_45 : decode cL_does 45 = .ok (.aload_n 0, 1) := by decide +kernel
theorem dL_does_46 : decode cL_does 46 = .ok (.iload_n 2, 1) := by decide +kernel
theorem dL_does_47 : decode cL_does 47 = .ok (.invokevirtual 50, 3) := by decide +kernel
theorem dL_does_50 : decode cL_does 50 = .ok (.goto 79, 3) := by decide +kernel
theorem dL_does_53 : decode cL_does 53 = .ok (.iload_n 1, 1) := by decide +kernel
theorem dL_does_54 : decode cL_does 54 = .ok (.iconst 4, 1) := by decide +kernel
theorem dL_does_55 : decode cL_does 55 = .ok (.if_icmp .ne 12, 3) := by decide +kernel
theorem dL_does_58 : decode cL_does 58 = .ok (.aload_n 0, 1) := by decide +kernel
theorem dL_does_59 : decode cL_does 59 = .ok (.iload_n 2, 1) := by decide +kernel
theorem dL_does_60 : decode cL_does 60 = .ok (.iload_n 3, 1) := by decide +kernel
theorem dL_does_61 : decode cL_does 61 = .ok (.invokevirtual 53, 3) := by decide +kernel
theorem dL_does_64 : decode cL_does 64 = .ok (.goto 65, 3) := by decide +kernel
theorem dL_does_67 : decode cL_does 67 = .ok (.iload_n 1, 1) := by decide +kernel
theorem dL_does_68 : decode cL_does 68 = .ok (.iconst 5, 1) := by decide +kernel
theorem dL_does_69 : decode cL_does 69 = .ok (.if_icmp .ne 12, 3) := by decide +kernel
theorem dL_does_72 : decode cL_does 72 = .ok (.aload_n 0, 1) := by decide +kernel
theorem dL_does_73 : decode cL_does 73 = .ok (.iload_n 2, 1) := by decide +kernel
theorem dL_does_74 : decode cL_does 74 = .ok (.iload_n 3, 1) := by decide +kernel
theorem dL_does_75 : decode cL_does 75 = .ok (.invokevirtual 56, 3) := by decide +kernel
theorem dL_does_78 : decode cL_does 78 = .ok (.goto 51, 3) := by decide +kernel
theorem dL_does_81 : decode cL_does 81 = .ok (.iload_n 1, 1) := by decide +kernel
theorem dL_does_82 : decode cL_does 82 = .ok (.bipush 6, 2) := by decide +kernel
theorem dL_does_84 : decode cL_does 84 = .ok (.if_icmp .ne 11, 3) := by decide +kernel
theorem dL_does_87 : decode cL_does 87 = .ok (.aload_n 0, 1) := by decide +kernel
theorem dL_does_88 : decode cL_does 88 = .ok (.iload_n 2, 1) := by decide +kernel
theorem dL_does_89 : decode cL_does 89 = .ok (.invokevirtual 59, 3) := by decide +kernel
theorem dL_does_92 : decode cL_does 92 = .ok (.goto 37, 3) := by decide +kernel
theorem dL_does_95 : decode cL_does 95 = .ok (.iload_n 1, 1) := by decide +kernel
theorem dL_does_96 : decode cL_does 96 = .ok (.bipush 7, 2) := by decide +kernel
theorem dL_does_98 : decode cL_does 98 = .ok (.if_icmp .ne 12, 3) := by decide +kernel
theorem dL_does_101 : decode cL_does 101 = .ok (.aload_n 0, 1) := by decide +kernel
theorem dL_does_102 : decode cL_does 102 = .ok (.iload_n 2, 1) := by decide +kernel
theorem dL_does_103 : decode cL_does 103 = .ok (.iload_n 3, 1) := by decide +kernel
theorem dL_does_104 : decode cL_does 104 = .ok (.invokevirtual 62, 3) := by decide +kernel
theorem dL_does_107 : decode cL_does 107 = .ok (.goto 22, 3) := by decide +kernel
theorem dL_does_110 : decode cL_does 110 = .ok (.iload_n 1, 1) := by decide +kernel
theorem dL_does_111 : decode cL_does 111 = .ok (.bipush 8, 2) := by decide +kernel
theorem dL_does_113 : decode cL_does 113 = .ok (.if_icmp .ne 11, 3) := by decide +kernel
theorem dL_does_116 : decode cL_does 116 = .ok (.aload_n 0, 1) := by decide +kernel
theorem dL_does_117 : decode cL_does 117 = .ok (.iload_n 2, 1) := by decide +kernel
theorem dL_does_118 : decode cL_does 118 = .ok (.invokevirtual 65, 3) := by decide +kernel
theorem dL_does_121 : decode cL_does 121 = .ok (.goto 8, 3) := by decide +kernel
theorem dL_does_124 : decode cL_does 124 = .ok (.aload_n 0, 1) := by decide +kernel
theorem dL_does_125 : decode cL_does 125 = .ok (.iload_n 2, 1) := by decide +kernel
theorem dL_does_126 : decode cL_does 126 = .ok (.invokevirtual 68, 3) := by decide +kernel
theorem dL_does_129 : decode cL_does 129 = .ok (.ireturn, 1) := by decide +kernel
theorem dL_does_130 : decode cL_does 130 = .ok (.astore 4, 2) := by decide +kernel
theorem dL_does_132 : decode cL_does 132 = .ok (.bipush (-11), 2) := by decide +kernel
theorem dL_does_134 : decode cL_does 134 = .ok (.ireturn, 1) := by decide +kernel
theorem dL_does_135 : decode cL_does 135 = .ok (.astore 4, 2) := by decide +kernel
theorem dL_does_137 : decode cL_does 137 = .ok (.bipush (-12), 2) := by decide +kernel
theorem dL_does_139 : decode cL_does 139 = .ok (.ireturn, 1) := by decide +kernel
theorem dL_does_140 : decode cL_does 140 = .ok (.astore 4, 2) := by decide +kernel
theorem dL_does_142 : decode cL_does 142 = .ok (.bipush (-13), 2) := by decide +kernel
theorem dL_does_144 : decode cL_does 144 = .ok (.ireturn, 1) := by decide +kernel
theorem dL_isBook_0 : decode cL_isBook 0 = .ok (.iconst 0, 1) := by decide +kernel
theorem dL_isBook_1 : decode cL_isBook 1 = .ok (.istore 10, 2) := by decide +kernel
theorem dL_isBook_3 : decode cL_isBook 3 = .ok (.aload_n 0, 1) := by decide +kernel
theorem dL_isBook_4 : decode cL_isBook 4 = .ok (.invokevirtual 77, 3) := by decide +kernel
theorem dL_isBook_7 : decode cL_isBook 7 = .ok (.aload_n 1, 1) := by decide +kernel
theorem dL_isBook_8 : decode cL_isBook 8 = .ok (.iconst 1, 1) := by decide +kernel
theorem dL_isBook_9 : decode cL_isBook 9 = .ok (.iaload, 1) := by decide +kernel
theorem dL_isBook_10 : decode cL_isBook 10 = .ok (.if_icmp .ne 7, 3) := by decide +kernel
theorem dL_isBook_13 : decode cL_isBook 13 = .ok (.iconst 1, 1) := by decide +kernel
theorem dL_isBook_14 : decode cL_isBook 14 = .ok (.goto 4, 3) := by decide +kernel
theorem dL_isBook_17 : decode cL_isBook 17 = .ok (.iconst 0, 1) := by decide +kernel
theorem dL_isBook_18 : decode cL_isBook 18 = .ok (.istore 11, 2) := by decide +kernel
theorem dL_isBook_20 : decode cL_isBook 20 = .ok (.iconst 0, 1) := by decide +kernel
theorem dL_isBook_21 : decode cL_isBook 21 = .ok (.istore 12, 2) := by decide +kernel
theorem dL_isBook_23 : decode cL_isBook 23 = .ok (.iload 12, 2) := by decide +kernel
theorem dL_isBook_25 : decode cL_isBook 25 = .ok (.aload_n 1, 1) := by decide +kernel
theorem dL_isBook_26 : decode cL_isBook 26 = .ok (.iconst 0, 1) := by decide +kernel
theorem dL_isBook_27 : decode cL_isBook 27 = .ok (.iaload, 1) := by decide +kernel
theorem dL_isBook_28 : decode cL_isBook 28 = .ok (.if_icmp .ge 174, 3) := by decide +kernel
theorem dL_isBook_31 : decode cL_isBook 31 = .ok (.iload 11, 2) := by decide +kernel
theorem dL_isBook_33 : decode cL_isBook 33 = .ok (.ifCond .eq 169, 3) := by decide +kernel
theorem dL_isBook_36 : decode cL_isBook 36 = .ok (.iload 10, 2) := by decide +kernel
theorem dL_isBook_38 : decode cL_isBook 38 = .ok (.aload 4, 2) := by decide +kernel
theorem dL_isBook_40 : decode cL_isBook 40 = .ok (.iload 12, 2) := by decide +kernel
theorem dL_isBook_42 : decode cL_isBook 42 = .ok (.iaload, 1) := by decide +kernel
theorem dL_isBook_43 : decode cL_isBook 43 = .ok (.ifCond .le 7, 3) := by decide +kernel
theorem dL_isBook_46 : decode cL_isBook 46 = .ok (.iconst 1, 1) := by decide +kernel
theorem dL_isBook_47 : decode cL_isBook 47 = .ok (.goto 4, 3) := by decide +kernel
theorem dL_isBook_50 : decode cL_isBook 50 = .ok (.iconst 0, 1) := by decide +kernel
theorem dL_isBook_51 : decode cL_isBook 51 = .ok (.iadd, 1) := by decide +kernel
theorem dL_isBook_52 : decode cL_isBook 52 = .ok (.istore 10, 2) := by decide +kernel
theorem dL_isBook_54 : decode cL_isBook 54 = .ok (.aload 4, 2) := by decide +kernel
theorem dL_isBook_56 : decode cL_isBook 56 = .ok (.iload 12, 2) := by decide +kernel
theorem dL_isBook_58 : decode cL_isBook 58 = .ok (.iaload, 1) := by decide +kernel
theorem dL_isBook_59 : decode cL_isBook 59 = .ok (.ifCond .ne 25, 3) := by decide +kernel
theorem dL_isBook_62 : decode cL_isBook 62 = .ok (.aload_n 0, 1) := by decide +kernel
theorem dL_isBook_63 : decode cL_isBook 63 = .ok (.bipush 8, 2) := by decide +kernel
theorem dL_isBook_65 : decode cL_isBook 65 = .ok (.iload 12, 2) := by decide +kernel
theorem dL_isBook_67 : decode cL_isBook 67 = .ok (.iconst 0, 1) := by decide +kernel
theorem dL_isBook_68 : decode cL_isBook 68 = .ok (.invokestatic 81, 3) := by decide +kernel
theorem dL_isBook_71 : decode cL_isBook 71 = .ok (.bipush (-11), 2) := by decide +kernel
theorem dL_isBook_73 : decode cL_isBook 73 = .ok (.if_icmp .ne 7, 3) := by decide +kernel
theorem dL_isBook_76 : decode cL_isBook 76 = .ok (.iconst 1, 1) := by decide +kernel
theorem dL_isBook_77 : decode cL_isBook 77 = .ok (.goto 117, 3) := by decide +kernel
theorem dL_isBook_80 : decode cL_isBook 80 = .ok (.iconst 0, 1) := by decide +kernel
theorem dL_isBook_81 : decode cL_isBook 81 = .ok (.goto 113, 3) := by decide +kernel
theorem dL_isBook_84 : decode cL_isBook 84 = .ok (.aload_n 0, 1) := by decide +kernel
theorem dL_isBook_85 : decode cL_isBook 85 = .ok (.iload 12, 2) := by decide +kernel
theorem dL_isBook_87 : decode cL_isBook 87 = .ok (.invokevirtual 65, 3) := by decide +kernel
theorem dL_isBook_90 : decode cL_isBook 90 = .ok (.aload 4, 2) := by decide +kernel
theorem dL_isBook_92 : decode cL_isBook 92 = .ok (.iload 12, 2) := by decide +kernel
theorem dL_isBook_94 : decode cL_isBook 94 = .ok (.iaload, 1) := by decide +kernel
theorem dL_isBook_95 : decode cL_isBook 95 = .ok (.if_icmp .ne 98, 3) := by decide +kernel
theorem dL_isBook_98 : decode cL_isBook 98 = .ok (.aload_n 0, 1) := by decide +kernel
theorem dL_isBook_99 : decode cL_isBook 99 = .ok (.iload 12, 2) := by decide +kernel
theorem dL_isBook_101 : decode cL_isBook 101 = .ok (.invokevirtual 85, 3) := by decide +kernel
theorem dL_isBook_104 : decode cL_isBook 104 = .ok (.aload 8, 2) := by decide +kernel
theorem dL_isBook_106 : decode cL_isBook 106 = .ok (.iload 12, 2) := by decide +kernel
theorem dL_isBook_108 : decode cL_isBook 108 = .ok (.laload, 1) := by decide +kernel
theorem dL_isBook_109 : decode cL_isBook 109 = .ok (.lcmp, 1) := by decide +kernel
theorem dL_isBook_110 : decode cL_isBook 110 = .ok (.ifCond .ne 83, 3) := by decide +kernel
theorem dL_isBook_113 : decode cL_isBook 113 = .ok (.aload_n 0, 1) := by decide +kernel
theorem dL_isBook_114 : decode cL_isBook 114 = .ok (.iload 12, 2) := by decide +kernel
theorem dL_isBook_116 : decode cL_isBook 116 = .ok (.invokevirtual 89, 3) := by decide +kernel
theorem dL_isBook_119 : decode cL_isBook 119 = .ok (.aload_n 1, 1) := by decide +kernel
theorem dL_isBook_120 : decode cL_isBook 120 = .ok (.aload_n 2, 1) := by decide +kernel
theorem dL_isBook_121 : decode cL_isBook 121 = .ok (.aload_n 3, 1) := by decide +kernel
theorem dL_isBook_122 : decode cL_isBook 122 = .ok (.aload 4, 2) := by decide +kernel
theorem dL_isBook_124 : decode cL_isBook 124 = .ok (.aload 7, 2) := by decide +kernel
theorem dL_isBook_126 : decode cL_isBook 126 = .ok (.iload 12, 2) := by decide +kernel
theorem dL_isBook_128 : decode cL_isBook 128 = .ok (.invokestatic 27, 3) := by decide +kernel
theorem dL_isBook_131 : decode cL_isBook 131 = .ok (.lcmp, 1) := by decide +kernel
theorem dL_isBook_132 : decode cL_isBook 132 = .ok (.ifCond .ne 61, 3) := by decide +kernel
theorem dL_isBook_135 : decode cL_isBook 135 = .ok (.aload_n 0, 1) := by decide +kernel
theorem dL_isBook_136 : decode cL_isBook 136 = .ok (.iload 12, 2) := by decide +kernel
theorem dL_isBook_138 : decode cL_isBook 138 = .ok (.invokevirtual 92, 3) := by decide +kernel
theorem dL_isBook_141 : decode cL_isBook 141 = .ok (.aload_n 3, 1) := by decide +kernel
theorem dL_isBook_142 : decode cL_isBook 142 = .ok (.iload 12, 2) := by decide +kernel
theorem dL_isBook_144 : decode cL_isBook 144 = .ok (.iaload, 1) := by decide +kernel
theorem dL_isBook_145 : decode cL_isBook 145 = .ok (.bipush 10, 2) := by decide +kernel
theorem dL_isBook_147 : decode cL_isBook 147 = .ok (.if_icmp .ge 11, 3) := by decide +kernel
theorem dL_isBook_150 : decode cL_isBook 150 = .ok (.aload 5, 2) := by decide +kernel
theorem dL_isBook_152 : decode cL_isBook 152 = .ok (.iload 12, 2) := by decide +kernel
theorem dL_isBook_154 : decode cL_isBook 154 = .ok (.iaload, 1) := by decide +kernel
theorem dL_isBook_155 : decode cL_isBook 155 = .ok (.goto 4, 3) := by decide +kernel
theorem dL_isBook_158 : decode cL_isBook 158 = .ok (.iconst 0, 1) := by decide +kernel
theorem dL_isBook_159 : decode cL_isBook 159 = .ok (.if_icmp .ne 34, 3) := by decide +kernel
theorem dL_isBook_162 : decode cL_isBook 162 = .ok (.aload_n 0, 1) := by decide +kernel
theorem dL_isBook_163 : decode cL_isBook 163 = .ok (.iload 12, 2) := by decide +kernel
theorem dL_isBook_165 : decode cL_isBook 165 = .ok (.invokevirtual 68, 3) := by decide +kernel
theorem dL_isBook_168 : decode cL_isBook 168 = .ok (.aload_n 3, 1) := by decide +kernel
theorem dL_isBook_169 : decode cL_isBook 169 = .ok (.iload 12, 2) := by decide +kernel
theorem dL_isBook_171 : decode cL_isBook 171 = .ok (.iaload, 1) := by decide +kernel
theorem dL_isBook_172 : decode cL_isBook 172 = .ok (.bipush 10, 2) := by decide +kernel
theorem dL_isBook_174 : decode cL_isBook 174 = .ok (.if_icmp .ge 7, 3) := by decide +kernel
theorem dL_isBook_177 : decode cL_isBook 177 = .ok (.iconst (-1), 1) := by decide +kernel
theorem dL_isBook_178 : decode cL_isBook 178 = .ok (.goto 8, 3) := by decide +kernel
theorem dL_isBook_181 : decode cL_isBook 181 = .ok (.aload 6, 2) := by decide +kernel
theorem dL_isBook_183 : decode cL_isBook 183 = .ok (.iload 12, 2) := by decide +kernel
theorem dL_isBook_185 : decode cL_isBook 185 = .ok (.iaload, 1) := by decide +kernel
theorem dL_isBook_186 : decode cL_isBook 186 = .ok (.if_icmp .ne 7, 3) := by decide +kernel
theorem dL_isBook_189 : decode cL_isBook 189 = .ok (.iconst 1, 1) := by decide +kernel
theorem dL_isBook_190 : decode cL_isBook 190 = .ok (.goto 4, 3) := by decide +kernel
theorem dL_isBook_193 : decode cL_isBook 193 = .ok (.iconst 0, 1) := by decide +kernel
theorem dL_isBook_194 : decode cL_isBook 194 = .ok (.istore 11, 2) := by decide +kernel
theorem dL_isBook_196 : decode cL_isBook 196 = .ok (.iinc 12 1, 3) := by decide +kernel
theorem dL_isBook_199 : decode cL_isBook 199 = .ok (.goto (-176), 3) := by decide +kernel
theorem dL_isBook_202 : decode cL_isBook 202 = .ok (.iconst 0, 1) := by decide +kernel
theorem dL_isBook_203 : decode cL_isBook 203 = .ok (.istore 12, 2) := by decide +kernel
theorem dL_isBook_205 : decode cL_isBook 205 = .ok (.iload 12, 2) := by decide +kernel
theorem dL_isBook_207 : decode cL_isBook 207 = .ok (.iconst 4, 1) := by decide +kernel
theorem dL_isBook_208 : decode cL_isBook 208 = .ok (.if_icmp .ge 141, 3) := by decide +kernel
theorem dL_isBook_211 : decode cL_isBook 211 = .ok (.iload 11, 2) := by decide +kernel
theorem dL_isBook_213 : decode cL_isBook 213 = .ok (.ifCond .eq 136, 3) := by decide +kernel
theorem dL_isBook_216 : decode cL_isBook 216 = .ok (.lconst 0, 1) := by decide +kernel
theorem dL_isBook_217 : decode cL_isBook 217 = .ok (.lstore 13, 2) := by decide +kernel
theorem dL_isBook_219 : decode cL_isBook 219 = .ok (.iconst 0, 1) := by decide +kernel
theorem dL_isBook_220 : decode cL_isBook 220 = .ok (.istore 15, 2) := by decide +kernel
theorem dL_isBook_222 : decode cL_isBook 222 = .ok (.iload 15, 2) := by decide +kernel
theorem dL_isBook_224 : decode cL_isBook 224 = .ok (.aload_n 1, 1) := by decide +kernel
theorem dL_isBook_225 : decode cL_isBook 225 = .ok (.iconst 0, 1) := by decide +kernel
theorem dL_isBook_226 : decode cL_isBook 226 = .ok (.iaload, 1) := by decide +kernel
theorem dL_isBook_227 : decode cL_isBook 227 = .ok (.if_icmp .ge 47, 3) := by decide +kernel
theorem dL_isBook_230 : decode cL_isBook 230 = .ok (.lload 13, 2) := by decide +kernel
theorem dL_isBook_232 : decode cL_isBook 232 = .ok (.aload_n 3, 1) := by decide +kernel
theorem dL_isBook_233 : decode cL_isBook 233 = .ok (.iload 15, 2) := by decide +kernel
theorem dL_isBook_235 : decode cL_isBook 235 = .ok (.iaload, 1) := by decide +kernel
theorem dL_isBook_236 : decode cL_isBook 236 = .ok (.iload 12, 2) := by decide +kernel
theorem dL_isBook_238 : decode cL_isBook 238 = .ok (.if_icmp .ne 26, 3) := by decide +kernel
theorem dL_isBook_241 : decode cL_isBook 241 = .ok (.aload 4, 2) := by decide +kernel
theorem dL_isBook_243 : decode cL_isBook 243 = .ok (.iload 15, 2) := by decide +kernel
theorem dL_isBook_245 : decode cL_isBook 245 = .ok (.iaload, 1) := by decide +kernel
theorem dL_isBook_246 : decode cL_isBook 246 = .ok (.ifCond .le 18, 3) := by decide +kernel
theorem dL_isBook_249 : decode cL_isBook 249 = .ok (.aload_n 1, 1) := by decide +kernel
theorem dL_isBook_250 : decode cL_isBook 250 = .ok (.aload_n 2, 1) := by decide +kernel
theorem dL_isBook_251 : decode cL_isBook 251 = .ok (.aload_n 3, 1) := by decide +kernel
theorem dL_isBook_252 : decode cL_isBook 252 = .ok (.aload 4, 2) := by decide +kernel
theorem dL_isBook_254 : decode cL_isBook 254 = .ok (.aload 7, 2) := by decide +kernel
theorem dL_isBook_256 : decode cL_isBook 256 = .ok (.iload 15, 2) := by decide +kernel
theorem dL_isBook_258 : decode cL_isBook 258 = .ok (.invokestatic 27, 3) := by decide +kernel
theorem dL_isBook_261 : decode cL_isBook 261 = .ok (.goto 4, 3) := by decide +kernel
theorem dL_isBook_264 : decode cL_isBook 264 = .ok (.lconst 0, 1) := by decide +kernel
theorem dL_isBook_265 : decode cL_isBook 265 = .ok (.ladd, 1) := by decide +kernel
theorem dL_isBook_266 : decode cL_isBook 266 = .ok (.lstore 13, 2) := by decide +kernel
theorem dL_isBook_268 : decode cL_isBook 268 = .ok (.iinc 15 1, 3) := by decide +kernel
theorem dL_isBook_271 : decode cL_isBook 271 = .ok (.goto (-49), 3) := by decide +kernel
theorem dL_isBook_274 : decode cL_isBook 274 = .ok (.aload_n 0, 1) := by decide +kernel
theorem dL_isBook_275 : decode cL_isBook 275 = .ok (.iload 12, 2) := by decide +kernel
theorem dL_isBook_277 : decode cL_isBook 277 = .ok (.invokevirtual 95, 3) := by decide +kernel
theorem dL_isBook_280 : decode cL_isBook 280 = .ok (.aload_n 1, 1) := by decide +kernel
theorem dL_isBook_281 : decode cL_isBook 281 = .ok (.aload_n 3, 1) := by decide +kernel
theorem dL_isBook_282 : decode cL_isBook 282 = .ok (.aload 4, 2) := by decide +kernel
theorem dL_isBook_284 : decode cL_isBook 284 = .ok (.iload 12, 2) := by decide +kernel
theorem dL_isBook_286 : decode cL_isBook 286 = .ok (.invokestatic 7, 3) := by decide +kernel
theorem dL_isBook_289 : decode cL_isBook 289 = .ok (.if_icmp .ne 51, 3) := by decide +kernel
theorem dL_isBook_292 : decode cL_isBook 292 = .ok (.aload_n 0, 1) := by decide +kernel
theorem dL_isBook_293 : decode cL_isBook 293 = .ok (.iload 12, 2) := by decide +kernel
theorem dL_isBook_295 : decode cL_isBook 295 = .ok (.invokevirtual 97, 3) := by decide +kernel
theorem dL_isBook_298 : decode cL_isBook 298 = .ok (.lload 13, 2) := by decide +kernel
theorem dL_isBook_300 : decode cL_isBook 300 = .ok (.lcmp, 1) := by decide +kernel
theorem dL_isBook_301 : decode cL_isBook 301 = .ok (.ifCond .ne 39, 3) := by decide +kernel
theorem dL_isBook_304 : decode cL_isBook 304 = .ok (.aload_n 0, 1) := by decide +kernel
theorem dL_isBook_305 : decode cL_isBook 305 = .ok (.iload 12, 2) := by decide +kernel
theorem dL_isBook_307 : decode cL_isBook 307 = .ok (.invokevirtual 100, 3) := by decide +kernel
theorem dL_isBook_310 : decode cL_isBook 310 = .ok (.aload 9, 2) := by decide +kernel
theorem dL_isBook_312 : decode cL_isBook 312 = .ok (.iload 12, 2) := by decide +kernel
theorem dL_isBook_314 : decode cL_isBook 314 = .ok (.laload, 1) := by decide +kernel
theorem dL_isBook_315 : decode cL_isBook 315 = .ok (.lcmp, 1) := by decide +kernel
theorem dL_isBook_316 : decode cL_isBook 316 = .ok (.ifCond .ne 24, 3) := by decide +kernel
theorem dL_isBook_319 : decode cL_isBook 319 = .ok (.aload_n 0, 1) := by decide +kernel
theorem dL_isBook_320 : decode cL_isBook 320 = .ok (.iload 12, 2) := by decide +kernel
theorem dL_isBook_322 : decode cL_isBook 322 = .ok (.invokevirtual 103, 3) := by decide +kernel
theorem dL_isBook_325 : decode cL_isBook 325 = .ok (.aload 9, 2) := by decide +kernel
theorem dL_isBook_327 : decode cL_isBook 327 = .ok (.iconst 4, 1) := by decide +kernel
theorem dL_isBook_328 : decode cL_isBook 328 = .ok (.iload 12, 2) := by decide +kernel
theorem dL_isBook_330 : decode cL_isBook 330 = .ok (.iadd, 1) := by decide +kernel
theorem dL_isBook_331 : decode cL_isBook 331 = .ok (.laload, 1) := by decide +kernel
theorem dL_isBook_332 : decode cL_isBook 332 = .ok (.lcmp, 1) := by decide +kernel
theorem dL_isBook_333 : decode cL_isBook 333 = .ok (.ifCond .ne 7, 3) := by decide +kernel
theorem dL_isBook_336 : decode cL_isBook 336 = .ok (.iconst 1, 1) := by decide +kernel
theorem dL_isBook_337 : decode cL_isBook 337 = .ok (.goto 4, 3) := by decide +kernel
theorem dL_isBook_340 : decode cL_isBook 340 = .ok (.iconst 0, 1) := by decide +kernel
theorem dL_isBook_341 : decode cL_isBook 341 = .ok (.istore 11, 2) := by decide +kernel
theorem dL_isBook_343 : decode cL_isBook 343 = .ok (.iinc 12 1, 3) := by decide +kernel
theorem dL_isBook_346 : decode cL_isBook 346 = .ok (.goto (-141), 3) := by decide +kernel
theorem dL_isBook_349 : decode cL_isBook 349 = .ok (.iload 11, 2) := by decide +kernel
theorem dL_isBook_351 : decode cL_isBook 351 = .ok (.ifCond .eq 16, 3) := by decide +kernel
theorem dL_isBook_354 : decode cL_isBook 354 = .ok (.aload_n 0, 1) := by decide +kernel
theorem dL_isBook_355 : decode cL_isBook 355 = .ok (.invokevirtual 106, 3) := by decide +kernel
theorem dL_isBook_358 : decode cL_isBook 358 = .ok (.iload 10, 2) := by decide +kernel
theorem dL_isBook_360 : decode cL_isBook 360 = .ok (.if_icmp .ne 7, 3) := by decide +kernel
theorem dL_isBook_363 : decode cL_isBook 363 = .ok (.iconst 1, 1) := by decide +kernel
theorem dL_isBook_364 : decode cL_isBook 364 = .ok (.goto 4, 3) := by decide +kernel
theorem dL_isBook_367 : decode cL_isBook 367 = .ok (.iconst 0, 1) := by decide +kernel
theorem dL_isBook_368 : decode cL_isBook 368 = .ok (.ireturn, 1) := by decide +kernel
