theorem dX2_init_0 : decode cX2_init 0 = .ok (.aload_n 0, 1) := by decide +kernel
theorem dX2_init_1 : decode cX2_init 1 = .ok (.invokespecial 1, 3) := by decide +kernel
theorem dX2_init_4 : decode cX2_init 4 = .ok (.aload_n 0, 1) := by decide +kernel
theorem dX2_init_5 : decode cX2_init 5 = .ok (.iconst 3, 1) := by decide +kernel
theorem dX2_init_6 : decode cX2_init 6 = .ok (.newarray .int, 2) := by decide +kernel
theorem dX2_init_8 : decode cX2_init 8 = .ok (.putfield 7, 3) := by decide +kernel
theorem dX2_init_11 : decode cX2_init 11 = .ok (.aload_n 0, 1) := by decide +kernel
theorem dX2_init_12 : decode cX2_init 12 = .ok (.bipush 40, 2) := by decide +kernel
theorem dX2_init_14 : decode cX2_init 14 = .ok (.newarray .boolean, 2) := by decide +kernel
theorem dX2_init_16 : decode cX2_init 16 = .ok (.putfield 13, 3) := by decide +kernel
theorem dX2_init_19 : decode cX2_init 19 = .ok (.aload_n 0, 1) := by decide +kernel
theorem dX2_init_20 : decode cX2_init 20 = .ok (.bipush 40, 2) := by decide +kernel
theorem dX2_init_22 : decode cX2_init 22 = .ok (.newarray .boolean, 2) := by decide +kernel
theorem dX2_init_24 : decode cX2_init 24 = .ok (.putfield 17, 3) := by decide +kernel
theorem dX2_init_27 : decode cX2_init 27 = .ok (.aload_n 0, 1) := by decide +kernel
theorem dX2_init_28 : decode cX2_init 28 = .ok (.bipush 40, 2) := by decide +kernel
theorem dX2_init_30 : decode cX2_init 30 = .ok (.newarray .int, 2) := by decide +kernel
theorem dX2_init_32 : decode cX2_init 32 = .ok (.putfield 20, 3) := by decide +kernel
theorem dX2_init_35 : decode cX2_init 35 = .ok (.aload_n 0, 1) := by decide +kernel
theorem dX2_init_36 : decode cX2_init 36 = .ok (.bipush 40, 2) := by decide +kernel
theorem dX2_init_38 : decode cX2_init 38 = .ok (.newarray .int, 2) := by decide +kernel
theorem dX2_init_40 : decode cX2_init 40 = .ok (.putfield 23, 3) := by decide +kernel
theorem dX2_init_43 : decode cX2_init 43 = .ok (.aload_n 0, 1) := by decide +kernel
theorem dX2_init_44 : decode cX2_init 44 = .ok (.bipush 40, 2) := by decide +kernel
theorem dX2_init_46 : decode cX2_init 46 = .ok (.newarray .long, 2) := by decide +kernel
theorem dX2_init_48 : decode cX2_init 48 = .ok (.putfield 26, 3) := by decide +kernel
theorem dX2_init_51 : decode cX2_init 51 = .ok (.aload_n 0, 1) := by decide +kernel
theorem dX2_init_52 : decode cX2_init 52 = .ok (.bipush 40, 2) := by decide +kernel
theorem dX2_init_54 : decode cX2_init 54 = .ok (.newarray .int, 2) := by decide +kernel
theorem dX2_init_56 : decode cX2_init 56 = .ok (.putfield 30, 3) := by decide +kernel
theorem dX2_init_59 : decode cX2_init 59 = .ok (.aload_n 0, 1) := by decide +kernel
theorem dX2_init_60 : decode cX2_init 60 = .ok (.bipush 40, 2) := by decide +kernel
theorem dX2_init_62 : decode cX2_init 62 = .ok (.newarray .int, 2) := by decide +kernel
theorem dX2_init_64 : decode cX2_init 64 = .ok (.putfield 33, 3) := by decide +kernel
theorem dX2_init_67 : decode cX2_init 67 = .ok (.aload_n 0, 1) := by decide +kernel
theorem dX2_init_68 : decode cX2_init 68 = .ok (.bipush 40, 2) := by decide +kernel
theorem dX2_init_70 : decode cX2_init 70 = .ok (.newarray .long, 2) := by decide +kernel
theorem dX2_init_72 : decode cX2_init 72 = .ok (.putfield 36, 3) := by decide +kernel
theorem dX2_init_75 : decode cX2_init 75 = .ok (.aload_n 0, 1) := by decide +kernel
theorem dX2_init_76 : decode cX2_init 76 = .ok (.bipush 40, 2) := by decide +kernel
theorem dX2_init_78 : decode cX2_init 78 = .ok (.newarray .int, 2) := by decide +kernel
theorem dX2_init_80 : decode cX2_init 80 = .ok (.putfield 39, 3) := by decide +kernel
theorem dX2_init_83 : decode cX2_init 83 = .ok (.aload_n 0, 1) := by decide +kernel
theorem dX2_init_84 : decode cX2_init 84 = .ok (.bipush 40, 2) := by decide +kernel
theorem dX2_init_86 : decode cX2_init 86 = .ok (.newarray .int, 2) := by decide +kernel
theorem dX2_init_88 : decode cX2_init 88 = .ok (.putfield 42, 3) := by decide +kernel
theorem dX2_init_91 : decode cX2_init 91 = .ok (.aload_n 0, 1) := by decide +kernel
theorem dX2_init_92 : decode cX2_init 92 = .ok (.bipush 40, 2) := by decide +kernel
theorem dX2_init_94 : decode cX2_init 94 = .ok (.newarray .int, 2) := by decide +kernel
theorem dX2_init_96 : decode cX2_init 96 = .ok (.putfield 45, 3) := by decide +kernel
theorem dX2_init_99 : decode cX2_init 99 = .ok (.aload_n 0, 1) := by decide +kernel
theorem dX2_init_100 : decode cX2_init 100 = .ok (.bipush 40, 2) := by decide +kernel
theorem dX2_init_102 : decode cX2_init 102 = .ok (.newarray .int, 2) := by decide +kernel
theorem dX2_init_104 : decode cX2_init 104 = .ok (.putfield 48, 3) := by decide +kernel
theorem dX2_init_107 : decode cX2_init 107 = .ok (.aload_n 0, 1) := by decide +kernel
theorem dX2_init_108 : decode cX2_init 108 = .ok (.iconst 4, 1) := by decide +kernel
theorem dX2_init_109 : decode cX2_init 109 = .ok (.newarray .long, 2) := by decide +kernel
theorem dX2_init_111 : decode cX2_init 111 = .ok (.putfield 51, 3) := by decide +kernel
theorem dX2_init_114 : decode cX2_init 114 = .ok (.aload_n 0, 1) := by decide +kernel
theorem dX2_init_115 : decode cX2_init 115 = .ok (.iconst 4, 1) := by decide +kernel
theorem dX2_init_116 : decode cX2_init 116 = .ok (.newarray .long, 2) := by decide +kernel
theorem dX2_init_118 : decode cX2_init 118 = .ok (.putfield 54, 3) := by decide +kernel
theorem dX2_init_121 : decode cX2_init 121 = .ok (.aload_n 0, 1) := by decide +kernel
theorem dX2_init_122 : decode cX2_init 122 = .ok (.bipush 40, 2) := by decide +kernel
theorem dX2_init_124 : decode cX2_init 124 = .ok (.newarray .long, 2) := by decide +kernel
theorem dX2_init_126 : decode cX2_init 126 = .ok (.putfield 57, 3) := by decide +kernel
theorem dX2_init_129 : decode cX2_init 129 = .ok (.aload_n 0, 1) := by decide +kernel
theorem dX2_init_130 : decode cX2_init 130 = .ok (.bipush 40, 2) := by decide +kernel
theorem dX2_init_132 : decode cX2_init 132 = .ok (.newarray .int, 2) := by decide +kernel
theorem dX2_init_134 : decode cX2_init 134 = .ok (.putfield 60, 3) := by decide +kernel
theorem dX2_init_137 : decode cX2_init 137 = .ok (.aload_n 0, 1) := by decide +kernel
theorem dX2_init_138 : decode cX2_init 138 = .ok (.bipush 40, 2) := by decide +kernel
theorem dX2_init_140 : decode cX2_init 140 = .ok (.newarray .boolean, 2) := by decide +kernel
theorem dX2_init_142 : decode cX2_init 142 = .ok (.putfield 63, 3) := by decide +kernel
theorem dX2_init_145 : decode cX2_init 145 = .ok (.aload_n 0, 1) := by decide +kernel
theorem dX2_init_146 : decode cX2_init 146 = .ok (.getfield 7, 3) := by decide +kernel
theorem dX2_init_149 : decode cX2_init 149 = .ok (.iconst 0, 1) := by decide +kernel
theorem dX2_init_150 : decode cX2_init 150 = .ok (.bipush 100, 2) := by decide +kernel
theorem dX2_init_152 : decode cX2_init 152 = .ok (.iastore, 1) := by decide +kernel
theorem dX2_init_153 : decode cX2_init 153 = .ok (.aload_n 0, 1) := by decide +kernel
theorem dX2_init_154 : decode cX2_init 154 = .ok (.getfield 7, 3) := by decide +kernel
theorem dX2_init_157 : decode cX2_init 157 = .ok (.iconst 1, 1) := by decide +kernel
theorem dX2_init_158 : decode cX2_init 158 = .ok (.sipush 200, 3) := by decide +kernel
theorem dX2_init_161 : decode cX2_init 161 = .ok (.iastore, 1) := by decide +kernel
theorem dX2_init_162 : decode cX2_init 162 = .ok (.aload_n 0, 1) := by decide +kernel
theorem dX2_init_163 : decode cX2_init 163 = .ok (.getfield 7, 3) := by decide +kernel
theorem dX2_init_166 : decode cX2_init 166 = .ok (.iconst 2, 1) := by decide +kernel
theorem dX2_init_167 : decode cX2_init 167 = .ok (.sipush 300, 3) := by decide +kernel
theorem dX2_init_170 : decode cX2_init 170 = .ok (.iastore, 1) := by decide +kernel
theorem dX2_init_171 : decode cX2_init 171 = .ok (.aload_n 0, 1) := by decide +kernel
theorem dX2_init_172 : decode cX2_init 172 = .ok (.sipush 250, 3) := by decide +kernel
theorem dX2_init_175 : decode cX2_init 175 = .ok (.putfield 66, 3) := by decide +kernel
theorem dX2_init_178 : decode cX2_init 178 = .ok (.return_, 1) := by decide +kernel
theorem dX2_thrown_0 : decode cX2_thrown 0 = .ok (.aload_n 0, 1) := by decide +kernel
theorem dX2_thrown_1 : decode cX2_thrown 1 = .ok (.getfield 70, 3) := by decide +kernel
theorem dX2_thrown_4 : decode cX2_thrown 4 = .ok (.ireturn, 1) := by decide +kernel
theorem dX2_in_0 : decode cX2_in 0 = .ok (.iload_n 0, 1) := by decide +kernel
theorem dX2_in_1 : decode cX2_in 1 = .ok (.iload_n 1, 1) := by decide +kernel
theorem dX2_in_2 : decode cX2_in 2 = .ok (.if_icmp .lt 12, 3) := by decide +kernel
theorem dX2_in_5 : decode cX2_in 5 = .ok (.iload_n 0, 1) := by decide +kernel
theorem dX2_in_6 : decode cX2_in 6 = .ok (.iload_n 2, 1) := by decide +kernel
theorem dX2_in_7 : decode cX2_in 7 = .ok (.if_icmp .gt 7, 3) := by decide +kernel
theorem dX2_in_10 : decode cX2_in 10 = .ok (.iconst 1, 1) := by decide +kernel
theorem dX2_in_11 : decode cX2_in 11 = .ok (.goto 4, 3) := by decide +kernel
theorem dX2_in_14 : decode cX2_in 14 = .ok (.iconst 0, 1) := by decide +kernel
theorem dX2_in_15 : decode cX2_in 15 = .ok (.ireturn, 1) := by decide +kernel
theorem dX2_isCustomer_0 : decode cX2_isCustomer 0 = .ok (.iload_n 0, 1) := by decide +kernel
theorem dX2_isCustomer_1 : decode cX2_isCustomer 1 = .ok (.iconst 0, 1) := by decide +kernel
theorem dX2_isCustomer_2 : decode cX2_isCustomer 2 = .ok (.iconst 3, 1) := by decide +kernel
theorem dX2_isCustomer_3 : decode cX2_isCustomer 3 = .ok (.invokestatic 73, 3) := by decide +kernel
theorem dX2_isCustomer_6 : decode cX2_isCustomer 6 = .ok (.ireturn, 1) := by decide +kernel
theorem dX2_isLot_0 : decode cX2_isLot 0 = .ok (.iload_n 1, 1) := by decide +kernel
theorem dX2_isLot_1 : decode cX2_isLot 1 = .ok (.iconst 0, 1) := by decide +kernel
theorem dX2_isLot_2 : decode cX2_isLot 2 = .ok (.aload_n 0, 1) := by decide +kernel
theorem dX2_isLot_3 : decode cX2_isLot 3 = .ok (.getfield 77, 3) := by decide +kernel
theorem dX2_isLot_6 : decode cX2_isLot 6 = .ok (.iconst 1, 1) := by decide +kernel
theorem dX2_isLot_7 : decode cX2_isLot 7 = .ok (.isub, 1) := by decide +kernel
theorem dX2_isLot_8 : decode cX2_isLot 8 = .ok (.invokestatic 73, 3) := by decide +kernel
theorem dX2_isLot_11 : decode cX2_isLot 11 = .ok (.ifCond .eq 16, 3) := by decide +kernel
theorem dX2_isLot_14 : decode cX2_isLot 14 = .ok (.aload_n 0, 1) := by decide +kernel
theorem dX2_isLot_15 : decode cX2_isLot 15 = .ok (.getfield 13, 3) := by decide +kernel
theorem dX2_isLot_18 : decode cX2_isLot 18 = .ok (.iload_n 1, 1) := by decide +kernel
theorem dX2_isLot_19 : decode cX2_isLot 19 = .ok (.baload, 1) := by decide +kernel
theorem dX2_isLot_20 : decode cX2_isLot 20 = .ok (.ifCond .eq 7, 3) := by decide +kernel
theorem dX2_isLot_23 : decode cX2_isLot 23 = .ok (.iconst 1, 1) := by decide +kernel
theorem dX2_isLot_24 : decode cX2_isLot 24 = .ok (.goto 4, 3) := by decide +kernel
theorem dX2_isLot_27 : decode cX2_isLot 27 = .ok (.iconst 0, 1) := by decide +kernel
theorem dX2_isLot_28 : decode cX2_isLot 28 = .ok (.ireturn, 1) := by decide +kernel
theorem dX2_setRate_0 : decode cX2_setRate 0 = .ok (.aload_n 0, 1) := by decide +kernel
theorem dX2_setRate_1 : decode cX2_setRate 1 = .ok (.iload_n 1, 1) := by decide +kernel
theorem dX2_setRate_2 : decode cX2_setRate 2 = .ok (.iconst 0, 1) := by decide +kernel
theorem dX2_setRate_3 : decode cX2_setRate 3 = .ok (.iconst 2, 1) := by decide +kernel
theorem dX2_setRate_4 : decode cX2_setRate 4 = .ok (.invokestatic 73, 3) := by decide +kernel
theorem dX2_setRate_7 : decode cX2_setRate 7 = .ok (.ifCond .ne 7, 3) := by decide +kernel
theorem dX2_setRate_10 : decode cX2_setRate 10 = .ok (.iconst 1, 1) := by decide +kernel
theorem dX2_setRate_11 : decode cX2_setRate 11 = .ok (.goto 19, 3) := by decide +kernel
theorem dX2_setRate_14 : decode cX2_setRate 14 = .ok (.iload_n 2, 1) := by decide +kernel
theorem dX2_setRate_15 : decode cX2_setRate 15 = .ok (.iconst 0, 1) := by decide +kernel
theorem dX2_setRate_16 : decode cX2_setRate 16 = .ok (.sipush 2000, 3) := by decide +kernel
theorem dX2_setRate_19 : decode cX2_setRate 19 = .ok (.invokestatic 73, 3) := by decide +kernel
theorem dX2_setRate_22 : decode cX2_setRate 22 = .ok (.ifCond .ne 7, 3) := by decide +kernel
theorem dX2_setRate_25 : decode cX2_setRate 25 = .ok (.iconst 2, 1) := by decide +kernel
theorem dX2_setRate_26 : decode cX2_setRate 26 = .ok (.goto 4, 3) := by decide +kernel
theorem dX2_setRate_29 : decode cX2_setRate 29 = .ok (.iconst 0, 1) := by decide +kernel
theorem dX2_setRate_30 : decode cX2_setRate 30 = .ok (.putfield 70, 3) := by decide +kernel
theorem dX2_setRate_33 : decode cX2_setRate 33 = .ok (.aload_n 0, 1) := by decide +kernel
theorem dX2_setRate_34 : decode cX2_setRate 34 = .ok (.getfield 70, 3) := by decide +kernel
theorem dX2_setRate_37 : decode cX2_setRate 37 = .ok (.ifCond .le 5, 3) := by decide +kernel
theorem dX2_setRate_40 : decode cX2_setRate 40 = .ok (.iconst 0, 1) := by decide +kernel
theorem dX2_setRate_41 : decode cX2_setRate 41 = .ok (.ireturn, 1) := by decide +kernel
theorem dX2_setRate_42 : decode cX2_setRate 42 = .ok (.aload_n 0, 1) := by decide +kernel
theorem dX2_setRate_43 : decode cX2_setRate 43 = .ok (.getfield 7, 3) := by decide +kernel
theorem dX2_setRate_46 : decode cX2_setRate 46 = .ok (.iload_n 1, 1) := by decide +kernel
theorem dX2_setRate_47 : decode cX2_setRate 47 = .ok (.iaload, 1) := by decide +kernel
theorem dX2_setRate_48 : decode cX2_setRate 48 = .ok (.istore_n 3, 1) := by decide +kernel
theorem dX2_setRate_49 : decode cX2_setRate 49 = .ok (.aload_n 0, 1) := by decide +kernel
theorem dX2_setRate_50 : decode cX2_setRate 50 = .ok (.getfield 7, 3) := by decide +kernel
theorem dX2_setRate_53 : decode cX2_setRate 53 = .ok (.iload_n 1, 1) := by decide +kernel
theorem dX2_setRate_54 : decode cX2_setRate 54 = .ok (.iload_n 2, 1) := by decide +kernel
theorem dX2_setRate_55 : decode cX2_setRate 55 = .ok (.iastore, 1) := by decide +kernel
theorem dX2_setRate_56 : decode cX2_setRate 56 = .ok (.iload_n 3, 1) := by decide +kernel
theorem dX2_setRate_57 : decode cX2_setRate 57 = .ok (.ireturn, 1) := by decide +kernel
theorem dX2_setByBands_0 : decode cX2_setByBands 0 = .ok (.aload_n 0, 1) := by decide +kernel
theorem dX2_setByBands_1 : decode cX2_setByBands 1 = .ok (.iconst 0, 1) := by decide +kernel
theorem dX2_setByBands_2 : decode cX2_setByBands 2 = .ok (.putfield 70, 3) := by decide +kernel
theorem dX2_setByBands_5 : decode cX2_setByBands 5 = .ok (.aload_n 0, 1) := by decide +kernel
theorem dX2_setByBands_6 : decode cX2_setByBands 6 = .ok (.getfield 80, 3) := by decide +kernel
theorem dX2_setByBands_9 : decode cX2_setByBands 9 = .ok (.istore_n 2, 1) := by decide +kernel
theorem dX2_setByBands_10 : decode cX2_setByBands 10 = .ok (.aload_n 0, 1) := by decide +kernel
theorem dX2_setByBands_11 : decode cX2_setByBands 11 = .ok (.iload_n 1, 1) := by decide +kernel
theorem dX2_setByBands_12 : decode cX2_setByBands 12 = .ok (.putfield 80, 3) := by decide +kernel
theorem dX2_setByBands_15 : decode cX2_setByBands 15 = .ok (.iload_n 2, 1) := by decide +kernel
theorem dX2_setByBands_16 : decode cX2_setByBands 16 = .ok (.ireturn, 1) := by decide +kernel
theorem dX2_setTermRate_0 : decode cX2_setTermRate 0 = .ok (.aload_n 0, 1) := by decide +kernel
theorem dX2_setTermRate_1 : decode cX2_setTermRate 1 = .ok (.iload_n 1, 1) := by decide +kernel
theorem dX2_setTermRate_2 : decode cX2_setTermRate 2 = .ok (.iconst 0, 1) := by decide +kernel
theorem dX2_setTermRate_3 : decode cX2_setTermRate 3 = .ok (.sipush 2000, 3) := by decide +kernel
theorem dX2_setTermRate_6 : decode cX2_setTermRate 6 = .ok (.invokestatic 73, 3) := by decide +kernel
theorem dX2_setTermRate_9 : decode cX2_setTermRate 9 = .ok (.ifCond .eq 7, 3) := by decide +kernel
theorem dX2_setTermRate_12 : decode cX2_setTermRate 12 = .ok (.iconst 0, 1) := by decide +kernel
theorem dX2_setTermRate_13 : decode cX2_setTermRate 13 = .ok (.goto 4, 3) := by decide +kernel
theorem dX2_setTermRate_16 : decode cX2_setTermRate 16 = .ok (.iconst 1, 1) := by decide +kernel
theorem dX2_setTermRate_17 : decode cX2_setTermRate 17 = .ok (.putfield 70, 3) := by decide +kernel
theorem dX2_setTermRate_20 : decode cX2_setTermRate 20 = .ok (.aload_n 0, 1) := by decide +kernel
theorem dX2_setTermRate_21 : decode cX2_setTermRate 21 = .ok (.getfield 70, 3) := by decide +kernel
theorem dX2_setTermRate_24 : decode cX2_setTermRate 24 = .ok (.ifCond .le 5, 3) := by decide +kernel
theorem dX2_setTermRate_27 : decode cX2_setTermRate 27 = .ok (.iconst 0, 1) := by decide +kernel
theorem dX2_setTermRate_28 : decode cX2_setTermRate 28 = .ok (.ireturn, 1) := by decide +kernel
theorem dX2_setTermRate_29 : decode cX2_setTermRate 29 = .ok (.aload_n 0, 1) := by decide +kernel
theorem dX2_setTermRate_30 : decode cX2_setTermRate 30 = .ok (.getfield 66, 3) := by decide +kernel
theorem dX2_setTermRate_33 : decode cX2_setTermRate 33 = .ok (.istore_n 2, 1) := by decide +kernel
theorem dX2_setTermRate_34 : decode cX2_setTermRate 34 = .ok (.aload_n 0, 1) := by decide +kernel
theorem dX2_setTermRate_35 : decode cX2_setTermRate 35 = .ok (.iload_n 1, 1) := by decide +kernel
theorem dX2_setTermRate_36 : decode cX2_setTermRate 36 = .ok (.putfield 66, 3) := by decide +kernel
theorem dX2_setTermRate_39 : decode cX2_setTermRate 39 = .ok (.iload_n 2, 1) := by decide +kernel
theorem dX2_setTermRate_40 : decode cX2_setTermRate 40 = .ok (.ireturn, 1) := by decide +kernel
theorem dX2_isNotice_0 : decode cX2_isNotice 0 = .ok (.aload_n 0, 1) := by decide +kernel
theorem dX2_isNotice_1 : decode cX2_isNotice 1 = .ok (.getfield 13, 3) := by decide +kernel
theorem dX2_isNotice_4 : decode cX2_isNotice 4 = .ok (.iload_n 1, 1) := by decide +kernel
theorem dX2_isNotice_5 : decode cX2_isNotice 5 = .ok (.baload, 1) := by decide +kernel
theorem dX2_isNotice_6 : decode cX2_isNotice 6 = .ok (.ifCond .eq 26, 3) := by decide +kernel
theorem dX2_isNotice_9 : decode cX2_isNotice 9 = .ok (.aload_n 0, 1) := by decide +kernel
theorem dX2_isNotice_10 : decode cX2_isNotice 10 = .ok (.getfield 17, 3) := by decide +kernel
theorem dX2_isNotice_13 : decode cX2_isNotice 13 = .ok (.iload_n 1, 1) := by decide +kernel
theorem dX2_isNotice_14 : decode cX2_isNotice 14 = .ok (.baload, 1) := by decide +kernel
theorem dX2_isNotice_15 : decode cX2_isNotice 15 = .ok (.ifCond .ne 17, 3) := by decide +kernel
theorem dX2_isNotice_18 : decode cX2_isNotice 18 = .ok (.aload_n 0, 1) := by decide +kernel
theorem dX2_isNotice_19 : decode cX2_isNotice 19 = .ok (.getfield 20, 3) := by decide +kernel
theorem dX2_isNotice_22 : decode cX2_isNotice 22 = .ok (.iload_n 1, 1) := by decide +kernel
theorem dX2_isNotice_23 : decode cX2_isNotice 23 = .ok (.iaload, 1) := by decide +kernel
theorem dX2_isNotice_24 : decode cX2_isNotice 24 = .ok (.iload_n 2, 1) := by decide +kernel
theorem dX2_isNotice_25 : decode cX2_isNotice 25 = .ok (.if_icmp .ne 7, 3) := by decide +kernel
theorem dX2_isNotice_28 : decode cX2_isNotice 28 = .ok (.iconst 1, 1) := by decide +kernel
theorem dX2_isNotice_29 : decode cX2_isNotice 29 = .ok (.goto 4, 3) := by decide +kernel
theorem dX2_isNotice_32 : decode cX2_isNotice 32 = .ok (.iconst 0, 1) := by decide +kernel
theorem dX2_isNotice_33 : decode cX2_isNotice 33 = .ok (.ireturn, 1) := by decide +kernel
theorem dX2_sumBelow_0 : decode cX2_sumBelow 0 = .ok (.iconst 0, 1) := by decide +kernel
theorem dX2_sumBelow_1 : decode cX2_sumBelow 1 = .ok (.istore_n 3, 1) := by decide +kernel
theorem dX2_sumBelow_2 : decode cX2_sumBelow 2 = .ok (.iconst 0, 1) := by decide +kernel
theorem dX2_sumBelow_3 : decode cX2_sumBelow 3 = .ok (.istore 4, 2) := by decide +kernel
theorem dX2_sumBelow_5 : decode cX2_sumBelow 5 = .ok (.iload 4, 2) := by decide +kernel
theorem dX2_sumBelow_7 : decode cX2_sumBelow 7 = .ok (.iload_n 2, 1) := by decide +kernel
theorem dX2_sumBelow_8 : decode cX2_sumBelow 8 = .ok (.if_icmp .ge 33, 3) := by decide +kernel
theorem dX2_sumBelow_11 : decode cX2_sumBelow 11 = .ok (.iload_n 3, 1) := by decide +kernel
theorem dX2_sumBelow_12 : decode cX2_sumBelow 12 = .ok (.aload_n 0, 1) := by decide +kernel
theorem dX2_sumBelow_13 : decode cX2_sumBelow 13 = .ok (.iload 4, 2) := by decide +kernel
theorem dX2_sumBelow_15 : decode cX2_sumBelow 15 = .ok (.iload_n 1, 1) := by decide +kernel
theorem dX2_sumBelow_16 : decode cX2_sumBelow 16 = .ok (.invokevirtual 84, 3) := by decide +kernel
theorem dX2_sumBelow_19 : decode cX2_sumBelow 19 = .ok (.ifCond .eq 13, 3) := by decide +kernel
theorem dX2_sumBelow_22 : decode cX2_sumBelow 22 = .ok (.aload_n 0, 1) := by decide +kernel
theorem dX2_sumBelow_23 : decode cX2_sumBelow 23 = .ok (.getfield 23, 3) := by decide +kernel
theorem dX2_sumBelow_26 : decode cX2_sumBelow 26 = .ok (.iload 4, 2) := by decide +kernel
theorem dX2_sumBelow_28 : decode cX2_sumBelow 28 = .ok (.iaload, 1) := by decide +kernel
theorem dX2_sumBelow_29 : decode cX2_sumBelow 29 = .ok (.goto 4, 3) := by decide +kernel
theorem dX2_sumBelow_32 : decode cX2_sumBelow 32 = .ok (.iconst 0, 1) := by decide +kernel
theorem dX2_sumBelow_33 : decode cX2_sumBelow 33 = .ok (.iadd, 1) := by decide +kernel
theorem dX2_sumBelow_34 : decode cX2_sumBelow 34 = .ok (.istore_n 3, 1) := by decide +kernel
theorem dX2_sumBelow_35 : decode cX2_sumBelow 35 = .ok (.iinc 4 1, 3) := by decide +kernel
theorem dX2_sumBelow_38 : decode cX2_sumBelow 38 = .ok (.goto (-33), 3) := by decide +kernel
theorem dX2_sumBelow_41 : decode cX2_sumBelow 41 = .ok (.iload_n 3, 1) := by decide +kernel
theorem dX2_sumBelow_42 : decode cX2_sumBelow 42 = .ok (.ireturn, 1) := by decide +kernel
theorem dX2_partsOf_0 : decode cX2_partsOf 0 = .ok (.iload_n 1, 1) := by decide +kernel
theorem dX2_partsOf_1 : decode cX2_partsOf 1 = .ok (.ldc 88, 2) := by decide +kernel
theorem dX2_partsOf_3 : decode cX2_partsOf 3 = .ok (.if_icmp .ge 8, 3) := by decide +kernel
theorem dX2_partsOf_6 : decode cX2_partsOf 6 = .ok (.iload_n 1, 1) := by decide +kernel
theorem dX2_partsOf_7 : decode cX2_partsOf 7 = .ok (.i2l, 1) := by decide +kernel
theorem dX2_partsOf_8 : decode cX2_partsOf 8 = .ok (.goto 6, 3) := by decide +kernel
theorem dX2_partsOf_11 : decode cX2_partsOf 11 = .ok (.ldc2_w 89, 3) := by decide +kernel
theorem dX2_partsOf_14 : decode cX2_partsOf 14 = .ok (.lstore_n 2, 1) := by decide +kernel
theorem dX2_partsOf_15 : decode cX2_partsOf 15 = .ok (.iload_n 1, 1) := by decide +kernel
theorem dX2_partsOf_16 : decode cX2_partsOf 16 = .ok (.ldc 91, 2) := by decide +kernel
theorem dX2_partsOf_18 : decode cX2_partsOf 18 = .ok (.if_icmp .ge 10, 3) := by decide +kernel
theorem dX2_partsOf_21 : decode cX2_partsOf 21 = .ok (.iload_n 1, 1) := by decide +kernel
theorem dX2_partsOf_22 : decode cX2_partsOf 22 = .ok (.i2l, 1) := by decide +kernel
theorem dX2_partsOf_23 : decode cX2_partsOf 23 = .ok (.lload_n 2, 1) := by decide +kernel
theorem dX2_partsOf_24 : decode cX2_partsOf 24 = .ok (.lsub, 1) := by decide +kernel
theorem dX2_partsOf_25 : decode cX2_partsOf 25 = .ok (.goto 6, 3) := by decide +kernel
theorem dX2_partsOf_28 : decode cX2_partsOf 28 = .ok (.ldc2_w 92, 3) := by decide +kernel
theorem dX2_partsOf_31 : decode cX2_partsOf 31 = .ok (.lstore 4, 2) := by decide +kernel
theorem dX2_partsOf_33 : decode cX2_partsOf 33 = .ok (.lload_n 2, 1) := by decide +kernel
theorem dX2_partsOf_34 : decode cX2_partsOf 34 = .ok (.aload_n 0, 1) := by decide +kernel
theorem dX2_partsOf_35 : decode cX2_partsOf 35 = .ok (.getfield 7, 3) := by decide +kernel
theorem dX2_partsOf_38 : decode cX2_partsOf 38 = .ok (.iconst 0, 1) := by decide +kernel
theorem dX2_partsOf_39 : decode cX2_partsOf 39 = .ok (.iaload, 1) := by decide +kernel
theorem dX2_partsOf_40 : decode cX2_partsOf 40 = .ok (.i2l, 1) := by decide +kernel
theorem dX2_partsOf_41 : decode cX2_partsOf 41 = .ok (.lmul, 1) := by decide +kernel
theorem dX2_partsOf_42 : decode cX2_partsOf 42 = .ok (.lload 4, 2) := by decide +kernel
theorem dX2_partsOf_44 : decode cX2_partsOf 44 = .ok (.aload_n 0, 1) := by decide +kernel
theorem dX2_partsOf_45 : decode cX2_partsOf 45 = .ok (.getfield 7, 3) := by decide +kernel
theorem dX2_partsOf_48 : decode cX2_partsOf 48 = .ok (.iconst 1, 1) := by decide +kernel
theorem dX2_partsOf_49 : decode cX2_partsOf 49 = .ok (.iaload, 1) := by decide +kernel
theorem dX2_partsOf_50 : decode cX2_partsOf 50 = .ok (.i2l, 1) := by decide +kernel
theorem dX2_partsOf_51 : decode cX2_partsOf 51 = .ok (.lmul, 1) := by decide +kernel
theorem dX2_partsOf_52 : decode cX2_partsOf 52 = .ok (.ladd, 1) := by decide +kernel
theorem dX2_partsOf_53 : decode cX2_partsOf 53 = .ok (.iload_n 1, 1) := by decide +kernel
theorem dX2_partsOf_54 : decode cX2_partsOf 54 = .ok (.i2l, 1) := by decide +kernel
theorem dX2_partsOf_55 : decode cX2_partsOf 55 = .ok (.lload_n 2, 1) := by decide +kernel
theorem dX2_partsOf_56 : decode cX2_partsOf 56 = .ok (.lsub, 1) := by decide +kernel
theorem dX2_partsOf_57 : decode cX2_partsOf 57 = .ok (.lload 4, 2) := by decide +kernel
theorem dX2_partsOf_59 : decode cX2_partsOf 59 = .ok (.lsub, 1) := by decide +kernel
theorem dX2_partsOf_60 : decode cX2_partsOf 60 = .ok (.aload_n 0, 1) := by decide +kernel
theorem dX2_partsOf_61 : decode cX2_partsOf 61 = .ok (.getfield 7, 3) := by decide +kernel
theorem dX2_partsOf_64 : decode cX2_partsOf 64 = .ok (.iconst 2, 1) := by decide +kernel
theorem dX2_partsOf_65 : decode cX2_partsOf 65 = .ok (.iaload, 1) := by decide +kernel
theorem dX2_partsOf_66 : decode cX2_partsOf 66 = .ok (.i2l, 1) := by decide +kernel
theorem dX2_partsOf_67 : decode cX2_partsOf 67 = .ok (.lmul, 1) := by decide +kernel
theorem dX2_partsOf_68 : decode cX2_partsOf 68 = .ok (.ladd, 1) := by decide +kernel
theorem dX2_partsOf_69 : decode cX2_partsOf 69 = .ok (.lreturn, 1) := by decide +kernel
theorem dX2_rateFor_0 : decode cX2_rateFor 0 = .ok (.iload_n 1, 1) := by decide +kernel
theorem dX2_rateFor_1 : decode cX2_rateFor 1 = .ok (.ldc 88, 2) := by decide +kernel
theorem dX2_rateFor_3 : decode cX2_rateFor 3 = .ok (.if_icmp .gt 12, 3) := by decide +kernel
theorem dX2_rateFor_6 : decode cX2_rateFor 6 = .ok (.aload_n 0, 1) := by decide +kernel
theorem dX2_rateFor_7 : decode cX2_rateFor 7 = .ok (.getfield 7, 3) := by decide +kernel
theorem dX2_rateFor_10 : decode cX2_rateFor 10 = .ok (.iconst 0, 1) := by decide +kernel
theorem dX2_rateFor_11 : decode cX2_rateFor 11 = .ok (.iaload, 1) := by decide +kernel
theorem dX2_rateFor_12 : decode cX2_rateFor 12 = .ok (.goto 24, 3) := by decide +kernel
theorem dX2_rateFor_15 : decode cX2_rateFor 15 = .ok (.iload_n 1, 1) := by decide +kernel
theorem dX2_rateFor_16 : decode cX2_rateFor 16 = .ok (.ldc 91, 2) := by decide +kernel
theorem dX2_rateFor_18 : decode cX2_rateFor 18 = .ok (.if_icmp .gt 12, 3) := by decide +kernel
theorem dX2_rateFor_21 : decode cX2_rateFor 21 = .ok (.aload_n 0, 1) := by decide +kernel
theorem dX2_rateFor_22 : decode cX2_rateFor 22 = .ok (.getfield 7, 3) := by decide +kernel
theorem dX2_rateFor_25 : decode cX2_rateFor 25 = .ok (.iconst 1, 1) := by decide +kernel
theorem dX2_rateFor_26 : decode cX2_rateFor 26 = .ok (.iaload, 1) := by decide +kernel
theorem dX2_rateFor_27 : decode cX2_rateFor 27 = .ok (.goto 9, 3) := by decide +kernel
theorem dX2_rateFor_30 : decode cX2_rateFor 30 = .ok (.aload_n 0, 1) := by decide +kernel
theorem dX2_rateFor_31 : decode cX2_rateFor 31 = .ok (.getfield 7, 3) := by decide +kernel
theorem dX2_rateFor_34 : decode cX2_rateFor 34 = .ok (.iconst 2, 1) := by decide +kernel
theorem dX2_rateFor_35 : decode cX2_rateFor 35 = .ok (.iaload, 1) := by decide +kernel
theorem dX2_rateFor_36 : decode cX2_rateFor 36 = .ok (.ireturn, 1) := by decide +kernel
theorem dX2_partsNow_0 : decode cX2_partsNow 0 = .ok (.aload_n 0, 1) := by decide +kernel
theorem dX2_partsNow_1 : decode cX2_partsNow 1 = .ok (.getfield 17, 3) := by decide +kernel
theorem dX2_partsNow_4 : decode cX2_partsNow 4 = .ok (.iload_n 1, 1) := by decide +kernel
theorem dX2_partsNow_5 : decode cX2_partsNow 5 = .ok (.baload, 1) := by decide +kernel
theorem dX2_partsNow_6 : decode cX2_partsNow 6 = .ok (.ifCond .eq 10, 3) := by decide +kernel
theorem dX2_partsNow_9 : decode cX2_partsNow 9 = .ok (.aload_n 0, 1) := by decide +kernel
theorem dX2_partsNow_10 : decode cX2_partsNow 10 = .ok (.getfield 36, 3) := by decide +kernel
theorem dX2_partsNow_13 : decode cX2_partsNow 13 = .ok (.iload_n 1, 1) := by decide +kernel
theorem dX2_partsNow_14 : decode cX2_partsNow 14 = .ok (.laload, 1) := by decide +kernel
theorem dX2_partsNow_15 : decode cX2_partsNow 15 = .ok (.lreturn, 1) := by decide +kernel
theorem dX2_partsNow_16 : decode cX2_partsNow 16 = .ok (.aload_n 0, 1) := by decide +kernel
theorem dX2_partsNow_17 : decode cX2_partsNow 17 = .ok (.getfield 80, 3) := by decide +kernel
theorem dX2_partsNow_20 : decode cX2_partsNow 20 = .ok (.ifCond .ne 31, 3) := by decide +kernel
theorem dX2_partsNow_23 : decode cX2_partsNow 23 = .ok (.aload_n 0, 1) := by decide +kernel
theorem dX2_partsNow_24 : decode cX2_partsNow 24 = .ok (.getfield 23, 3) := by decide +kernel
theorem dX2_partsNow_27 : decode cX2_partsNow 27 = .ok (.iload_n 1, 1) := by decide +kernel
theorem dX2_partsNow_28 : decode cX2_partsNow 28 = .ok (.iaload, 1) := by decide +kernel
theorem dX2_partsNow_29 : decode cX2_partsNow 29 = .ok (.i2l, 1) := by decide +kernel
theorem dX2_partsNow_30 : decode cX2_partsNow 30 = .ok (.aload_n 0, 1) := by decide +kernel
theorem dX2_partsNow_31 : decode cX2_partsNow 31 = .ok (.aload_n 0, 1) := by decide +kernel
theorem dX2_partsNow_32 : decode cX2_partsNow 32 = .ok (.aload_n 0, 1) := by decide +kernel
theorem dX2_partsNow_33 : decode cX2_partsNow 33 = .ok (.getfield 20, 3) := by decide +kernel
theorem dX2_partsNow_36 : decode cX2_partsNow 36 = .ok (.iload_n 1, 1) := by decide +kernel
theorem dX2_partsNow_37 : decode cX2_partsNow 37 = .ok (.iaload, 1) := by decide +kernel
theorem dX2_partsNow_38 : decode cX2_partsNow 38 = .ok (.aload_n 0, 1) := by decide +kernel
theorem dX2_partsNow_39 : decode cX2_partsNow 39 = .ok (.getfield 77, 3) := by decide +kernel
theorem dX2_partsNow_42 : decode cX2_partsNow 42 = .ok (.invokevirtual 94, 3) := by decide +kernel
theorem dX2_partsNow_45 : decode cX2_partsNow 45 = .ok (.invokevirtual 98, 3) := by decide +kernel
theorem dX2_partsNow_48 : decode cX2_partsNow 48 = .ok (.i2l, 1) := by decide +kernel
theorem dX2_partsNow_49 : decode cX2_partsNow 49 = .ok (.lmul, 1) := by decide +kernel
theorem dX2_partsNow_50 : decode cX2_partsNow 50 = .ok (.lreturn, 1) := by decide +kernel
theorem dX2_partsNow_51 : decode cX2_partsNow 51 = .ok (.aload_n 0, 1) := by decide +kernel
theorem dX2_partsNow_52 : decode cX2_partsNow 52 = .ok (.aload_n 0, 1) := by decide +kernel
theorem dX2_partsNow_53 : decode cX2_partsNow 53 = .ok (.getfield 20, 3) := by decide +kernel
theorem dX2_partsNow_56 : decode cX2_partsNow 56 = .ok (.iload_n 1, 1) := by decide +kernel
theorem dX2_partsNow_57 : decode cX2_partsNow 57 = .ok (.iaload, 1) := by decide +kernel
theorem dX2_partsNow_58 : decode cX2_partsNow 58 = .ok (.iload_n 1, 1) := by decide +kernel
theorem dX2_partsNow_59 : decode cX2_partsNow 59 = .ok (.invokevirtual 94, 3) := by decide +kernel
theorem dX2_partsNow_62 : decode cX2_partsNow 62 = .ok (.istore_n 2, 1) := by decide +kernel
theorem dX2_partsNow_63 : decode cX2_partsNow 63 = .ok (.aload_n 0, 1) := by decide +kernel
theorem dX2_partsNow_64 : decode cX2_partsNow 64 = .ok (.iload_n 2, 1) := by decide +kernel
theorem dX2_partsNow_65 : decode cX2_partsNow 65 = .ok (.aload_n 0, 1) := by decide +kernel
theorem dX2_partsNow_66 : decode cX2_partsNow 66 = .ok (.getfield 23, 3) := by decide +kernel
theorem dX2_partsNow_69 : decode cX2_partsNow 69 = .ok (.iload_n 1, 1) := by decide +kernel
theorem dX2_partsNow_70 : decode cX2_partsNow 70 = .ok (.iaload, 1) := by decide +kernel
theorem dX2_partsNow_71 : decode cX2_partsNow 71 = .ok (.iadd, 1) := by decide +kernel
theorem dX2_partsNow_72 : decode cX2_partsNow 72 = .ok (.invokevirtual 102, 3) := by decide +kernel
theorem dX2_partsNow_75 : decode cX2_partsNow 75 = .ok (.aload_n 0, 1) := by decide +kernel
theorem dX2_partsNow_76 : decode cX2_partsNow 76 = .ok (.iload_n 2, 1) := by decide +kernel
theorem dX2_partsNow_77 : decode cX2_partsNow 77 = .ok (.invokevirtual 102, 3) := by decide +kernel
theorem dX2_partsNow_80 : decode cX2_partsNow 80 = .ok (.lsub, 1) := by decide +kernel
theorem dX2_partsNow_81 : decode cX2_partsNow 81 = .ok (.lreturn, 1) := by decide +kernel
theorem dX2_takeInterest_0 : decode cX2_takeInterest 0 = .ok (.aload_n 0, 1) := by decide +kernel
theorem dX2_takeInterest_1 : decode cX2_takeInterest 1 = .ok (.getfield 26, 3) := by decide +kernel
theorem dX2_takeInterest_4 : decode cX2_takeInterest 4 = .ok (.iload_n 1, 1) := by decide +kernel
theorem dX2_takeInterest_5 : decode cX2_takeInterest 5 = .ok (.laload, 1) := by decide +kernel
theorem dX2_takeInterest_6 : decode cX2_takeInterest 6 = .ok (.ldc2_w 106, 3) := by decide +kernel
theorem dX2_takeInterest_9 : decode cX2_takeInterest 9 = .ok (.ldiv, 1) := by decide +kernel
theorem dX2_takeInterest_10 : decode cX2_takeInterest 10 = .ok (.l2i, 1) := by decide +kernel
theorem dX2_takeInterest_11 : decode cX2_takeInterest 11 = .ok (.istore_n 2, 1) := by decide +kernel
theorem dX2_takeInterest_12 : decode cX2_takeInterest 12 = .ok (.aload_n 0, 1) := by decide +kernel
theorem dX2_takeInterest_13 : decode cX2_takeInterest 13 = .ok (.getfield 26, 3) := by decide +kernel
theorem dX2_takeInterest_16 : decode cX2_takeInterest 16 = .ok (.iload_n 1, 1) := by decide +kernel
theorem dX2_takeInterest_17 : decode cX2_takeInterest 17 = .ok (.dup2, 1) := by decide +kernel
theorem dX2_takeInterest_18 : decode cX2_takeInterest 18 = .ok (.laload, 1) := by decide +kernel
theorem dX2_takeInterest_19 : decode cX2_takeInterest 19 = .ok (.ldc2_w 106, 3) := by decide +kernel
theorem dX2_takeInterest_22 : decode cX2_takeInterest 22 = .ok (.lrem, 1) := by decide +kernel
theorem dX2_takeInterest_23 : decode cX2_takeInterest 23 = .ok (.lastore, 1) := by decide +kernel
theorem dX2_takeInterest_24 : decode cX2_takeInterest 24 = .ok (.iload_n 2, 1) := by decide +kernel
theorem dX2_takeInterest_25 : decode cX2_takeInterest 25 = .ok (.ireturn, 1) := by decide +kernel
theorem dX2_end_0 : decode cX2_end 0 = .ok (.aload_n 0, 1) := by decide +kernel
theorem dX2_end_1 : decode cX2_end 1 = .ok (.iload_n 1, 1) := by decide +kernel
theorem dX2_end_2 : decode cX2_end 2 = .ok (.invokevirtual 108, 3) := by decide +kernel
theorem dX2_end_5 : decode cX2_end 5 = .ok (.istore_n 2, 1) := by decide +kernel
theorem dX2_end_6 : decode cX2_end 6 = .ok (.aload_n 0, 1) := by decide +kernel
theorem dX2_end_7 : decode cX2_end 7 = .ok (.getfield 54, 3) := by decide +kernel
theorem dX2_end_10 : decode cX2_end 10 = .ok (.aload_n 0, 1) := by decide +kernel
theorem dX2_end_11 : decode cX2_end 11 = .ok (.getfield 20, 3) := by decide +kernel
theorem dX2_end_14 : decode cX2_end 14 = .ok (.iload_n 1, 1) := by decide +kernel
theorem dX2_end_15 : decode cX2_end 15 = .ok (.iaload, 1) := by decide +kernel
theorem dX2_end_16 : decode cX2_end 16 = .ok (.dup2, 1) := by decide +kernel
theorem dX2_end_17 : decode cX2_end 17 = .ok (.laload, 1) := by decide +kernel
theorem dX2_end_18 : decode cX2_end 18 = .ok (.aload_n 0, 1) := by decide +kernel
theorem dX2_end_19 : decode cX2_end 19 = .ok (.getfield 26, 3) := by decide +kernel
theorem dX2_end_22 : decode cX2_end 22 = .ok (.iload_n 1, 1) := by decide +kernel
theorem dX2_end_23 : decode cX2_end 23 = .ok (.laload, 1) := by decide +kernel
theorem dX2_end_24 : decode cX2_end 24 = .ok (.ladd, 1) := by decide +kernel
theorem dX2_end_25 : decode cX2_end 25 = .ok (.lastore, 1) := by decide +kernel
theorem dX2_end_26 : decode cX2_end 26 = .ok (.aload_n 0, 1) := by decide +kernel
theorem dX2_end_27 : decode cX2_end 27 = .ok (.getfield 13, 3) := by decide +kernel
theorem dX2_end_30 : decode cX2_end 30 = .ok (.iload_n 1, 1) := by decide +kernel
theorem dX2_end_31 : decode cX2_end 31 = .ok (.iconst 0, 1) := by decide +kernel
theorem dX2_end_32 : decode cX2_end 32 = .ok (.bastore, 1) := by decide +kernel
theorem dX2_end_33 : decode cX2_end 33 = .ok (.iload_n 2, 1) := by decide +kernel
theorem dX2_end_34 : decode cX2_end 34 = .ok (.ireturn, 1) := by decide +kernel
theorem dX2_pay_0 : decode cX2_pay 0 = .ok (.aload_n 0, 1) := by decide +kernel
theorem dX2_pay_1 : decode cX2_pay 1 = .ok (.getfield 51, 3) := by decide +kernel
theorem dX2_pay_4 : decode cX2_pay 4 = .ok (.iload_n 1, 1) := by decide +kernel
theorem dX2_pay_5 : decode cX2_pay 5 = .ok (.dup2, 1) := by decide +kernel
theorem dX2_pay_6 : decode cX2_pay 6 = .ok (.laload, 1) := by decide +kernel
theorem dX2_pay_7 : decode cX2_pay 7 = .ok (.iload_n 2, 1) := by decide +kernel
theorem dX2_pay_8 : decode cX2_pay 8 = .ok (.i2l, 1) := by decide +kernel
theorem dX2_pay_9 : decode cX2_pay 9 = .ok (.ladd, 1) := by decide +kernel
theorem dX2_pay_10 : decode cX2_pay 10 = .ok (.lastore, 1) := by decide +kernel
theorem dX2_pay_11 : decode cX2_pay 11 = .ok (.iload_n 2, 1) := by decide +kernel
theorem dX2_pay_12 : decode cX2_pay 12 = .ok (.ireturn, 1) := by decide +kernel
theorem dX2_open_0 : decode cX2_open 0 = .ok (.aload_n 0, 1) := by decide +kernel
theorem dX2_open_1 : decode cX2_open 1 = .ok (.getfield 77, 3) := by decide +kernel
theorem dX2_open_4 : decode cX2_open 4 = .ok (.istore_n 3, 1) := by decide +kernel
theorem dX2_open_5 : decode cX2_open 5 = .ok (.aload_n 0, 1) := by decide +kernel
theorem dX2_open_6 : decode cX2_open 6 = .ok (.dup, 1) := by decide +kernel
theorem dX2_open_7 : decode cX2_open 7 = .ok (.getfield 77, 3) := by decide +kernel
theorem dX2_open_10 : decode cX2_open 10 = .ok (.iconst 1, 1) := by decide +kernel
theorem dX2_open_11 : decode cX2_open 11 = .ok (.iadd, 1) := by decide +kernel
theorem dX2_open_12 : decode cX2_open 12 = .ok (.putfield 77, 3) := by decide +kernel
theorem dX2_open_15 : decode cX2_open 15 = .ok (.aload_n 0, 1) := by decide +kernel
theorem dX2_open_16 : decode cX2_open 16 = .ok (.getfield 13, 3) := by decide +kernel
theorem dX2_open_19 : decode cX2_open 19 = .ok (.iload_n 3, 1) := by decide +kernel
theorem dX2_open_20 : decode cX2_open 20 = .ok (.iconst 1, 1) := by decide +kernel
theorem dX2_open_21 : decode cX2_open 21 = .ok (.bastore, 1) := by decide +kernel
theorem dX2_open_22 : decode cX2_open 22 = .ok (.aload_n 0, 1) := by decide +kernel
theorem dX2_open_23 : decode cX2_open 23 = .ok (.getfield 17, 3) := by decide +kernel
theorem dX2_open_26 : decode cX2_open 26 = .ok (.iload_n 3, 1) := by decide +kernel
theorem dX2_open_27 : decode cX2_open 27 = .ok (.iconst 0, 1) := by decide +kernel
theorem dX2_open_28 : decode cX2_open 28 = .ok (.bastore, 1) := by decide +kernel
theorem dX2_open_29 : decode cX2_open 29 = .ok (.aload_n 0, 1) := by decide +kernel
theorem dX2_open_30 : decode cX2_open 30 = .ok (.getfield 20, 3) := by decide +kernel
theorem dX2_open_33 : decode cX2_open 33 = .ok (.iload_n 3, 1) := by decide +kernel
theorem dX2_open_34 : decode cX2_open 34 = .ok (.iload_n 1, 1) := by decide +kernel
theorem dX2_open_35 : decode cX2_open 35 = .ok (.iastore, 1) := by decide +kernel
theorem dX2_open_36 : decode cX2_open 36 = .ok (.aload_n 0, 1) := by decide +kernel
theorem dX2_open_37 : decode cX2_open 37 = .ok (.getfield 23, 3) := by decide +kernel
theorem dX2_open_40 : decode cX2_open 40 = .ok (.iload_n 3, 1) := by decide +kernel
theorem dX2_open_41 : decode cX2_open 41 = .ok (.iload_n 2, 1) := by decide +kernel
theorem dX2_open_42 : decode cX2_open 42 = .ok (.iastore, 1) := by decide +kernel
theorem dX2_open_43 : decode cX2_open 43 = .ok (.aload_n 0, 1) := by decide +kernel
theorem dX2_open_44 : decode cX2_open 44 = .ok (.getfield 26, 3) := by decide +kernel
theorem dX2_open_47 : decode cX2_open 47 = .ok (.iload_n 3, 1) := by decide +kernel
theorem dX2_open_48 : decode cX2_open 48 = .ok (.lconst 0, 1) := by decide +kernel
theorem dX2_open_49 : decode cX2_open 49 = .ok (.lastore, 1) := by decide +kernel
theorem dX2_open_50 : decode cX2_open 50 = .ok (.aload_n 0, 1) := by decide +kernel
theorem dX2_open_51 : decode cX2_open 51 = .ok (.getfield 30, 3) := by decide +kernel
theorem dX2_open_54 : decode cX2_open 54 = .ok (.iload_n 3, 1) := by decide +kernel
theorem dX2_open_55 : decode cX2_open 55 = .ok (.iconst 0, 1) := by decide +kernel
theorem dX2_open_56 : decode cX2_open 56 = .ok (.iastore, 1) := by decide +kernel
theorem dX2_open_57 : decode cX2_open 57 = .ok (.aload_n 0, 1) := by decide +kernel
theorem dX2_open_58 : decode cX2_open 58 = .ok (.getfield 48, 3) := by decide +kernel
theorem dX2_open_61 : decode cX2_open 61 = .ok (.iload_n 3, 1) := by decide +kernel
theorem dX2_open_62 : decode cX2_open 62 = .ok (.iconst (-1), 1) := by decide +kernel
theorem dX2_open_63 : decode cX2_open 63 = .ok (.iastore, 1) := by decide +kernel
theorem dX2_open_64 : decode cX2_open 64 = .ok (.iload_n 3, 1) := by decide +kernel
theorem dX2_open_65 : decode cX2_open 65 = .ok (.ireturn, 1) := by decide +kernel
theorem dX2_deposit_0 : decode cX2_deposit 0 = .ok (.aload_n 0, 1) := by decide +kernel
theorem dX2_deposit_1 : decode cX2_deposit 1 = .ok (.iload_n 1, 1) := by decide +kernel
theorem dX2_deposit_2 : decode cX2_deposit 2 = .ok (.invokestatic 111, 3) := by decide +kernel
theorem dX2_deposit_5 : decode cX2_deposit 5 = .ok (.ifCond .ne 7, 3) := by decide +kernel
theorem dX2_deposit_8 : decode cX2_deposit 8 = .ok (.iconst 1, 1) := by decide +kernel
theorem dX2_deposit_9 : decode cX2_deposit 9 = .ok (.goto 31, 3) := by decide +kernel
theorem dX2_deposit_12 : decode cX2_deposit 12 = .ok (.iload_n 2, 1) := by decide +kernel
theorem dX2_deposit_13 : decode cX2_deposit 13 = .ok (.iconst 1, 1) := by decide +kernel
theorem dX2_deposit_14 : decode cX2_deposit 14 = .ok (.ldc 115, 2) := by decide +kernel
theorem dX2_deposit_16 : decode cX2_deposit 16 = .ok (.invokestatic 73, 3) := by decide +kernel
theorem dX2_deposit_19 : decode cX2_deposit 19 = .ok (.ifCond .ne 7, 3) := by decide +kernel
theorem dX2_deposit_22 : decode cX2_deposit 22 = .ok (.iconst 2, 1) := by decide +kernel
theorem dX2_deposit_23 : decode cX2_deposit 23 = .ok (.goto 17, 3) := by decide +kernel
theorem dX2_deposit_26 : decode cX2_deposit 26 = .ok (.aload_n 0, 1) := by decide +kernel
theorem dX2_deposit_27 : decode cX2_deposit 27 = .ok (.getfield 77, 3) := by decide +kernel
theorem dX2_deposit_30 : decode cX2_deposit 30 = .ok (.bipush 40, 2) := by decide +kernel
theorem dX2_deposit_32 : decode cX2_deposit 32 = .ok (.if_icmp .ne 7, 3) := by decide +kernel
theorem dX2_deposit_35 : decode cX2_deposit 35 = .ok (.iconst 3, 1) := by decide +kernel
theorem dX2_deposit_36 : decode cX2_deposit 36 = .ok (.goto 4, 3) := by decide +kernel
theorem dX2_deposit_39 : decode cX2_deposit 39 = .ok (.iconst 0, 1) := by decide +kernel
theorem dX2_deposit_40 : decode cX2_deposit 40 = .ok (.putfield 70, 3) := by decide +kernel
theorem dX2_deposit_43 : decode cX2_deposit 43 = .ok (.aload_n 0, 1) := by decide +kernel
theorem dX2_deposit_44 : decode cX2_deposit 44 = .ok (.getfield 70, 3) := by decide +kernel
theorem dX2_deposit_47 : decode cX2_deposit 47 = .ok (.ifCond .ne 12, 3) := by decide +kernel
theorem dX2_deposit_50 : decode cX2_deposit 50 = .ok (.aload_n 0, 1) := by decide +kernel
theorem dX2_deposit_51 : decode cX2_deposit 51 = .ok (.iload_n 1, 1) := by decide +kernel
theorem dX2_deposit_52 : decode cX2_deposit 52 = .ok (.iload_n 2, 1) := by decide +kernel
theorem dX2_deposit_53 : decode cX2_deposit 53 = .ok (.invokevirtual 116, 3) := by decide +kernel
theorem dX2_deposit_56 : decode cX2_deposit 56 = .ok (.goto 4, 3) := by decide +kernel
theorem dX2_deposit_59 : decode cX2_deposit 59 = .ok (.iconst 0, 1) := by decide +kernel
theorem dX2_deposit_60 : decode cX2_deposit 60 = .ok (.ireturn, 1) := by decide +kernel
theorem dX2_beginTerm_0 : decode cX2_beginTerm 0 = .ok (.aload_n 0, 1) := by decide +kernel
theorem dX2_beginTerm_1 : decode cX2_beginTerm 1 = .ok (.getfield 42, 3) := by decide +kernel
theorem dX2_beginTerm_4 : decode cX2_beginTerm 4 = .ok (.iload_n 1, 1) := by decide +kernel
theorem dX2_beginTerm_5 : decode cX2_beginTerm 5 = .ok (.aload_n 0, 1) := by decide +kernel
theorem dX2_beginTerm_6 : decode cX2_beginTerm 6 = .ok (.getfield 119, 3) := by decide +kernel
theorem dX2_beginTerm_9 : decode cX2_beginTerm 9 = .ok (.aload_n 0, 1) := by decide +kernel
theorem dX2_beginTerm_10 : decode cX2_beginTerm 10 = .ok (.getfield 39, 3) := by decide +kernel
theorem dX2_beginTerm_13 : decode cX2_beginTerm 13 = .ok (.iload_n 1, 1) := by decide +kernel
theorem dX2_beginTerm_14 : decode cX2_beginTerm 14 = .ok (.iaload, 1) := by decide +kernel
theorem dX2_beginTerm_15 : decode cX2_beginTerm 15 = .ok (.iadd, 1) := by decide +kernel
theorem dX2_beginTerm_16 : decode cX2_beginTerm 16 = .ok (.iastore, 1) := by decide +kernel
theorem dX2_beginTerm_17 : decode cX2_beginTerm 17 = .ok (.aload_n 0, 1) := by decide +kernel
theorem dX2_beginTerm_18 : decode cX2_beginTerm 18 = .ok (.getfield 36, 3) := by decide +kernel
theorem dX2_beginTerm_21 : decode cX2_beginTerm 21 = .ok (.iload_n 1, 1) := by decide +kernel
theorem dX2_beginTerm_22 : decode cX2_beginTerm 22 = .ok (.aload_n 0, 1) := by decide +kernel
theorem dX2_beginTerm_23 : decode cX2_beginTerm 23 = .ok (.getfield 23, 3) := by decide +kernel
theorem dX2_beginTerm_26 : decode cX2_beginTerm 26 = .ok (.iload_n 1, 1) := by decide +kernel
theorem dX2_beginTerm_27 : decode cX2_beginTerm 27 = .ok (.iaload, 1) := by decide +kernel
theorem dX2_beginTerm_28 : decode cX2_beginTerm 28 = .ok (.i2l, 1) := by decide +kernel
theorem dX2_beginTerm_29 : decode cX2_beginTerm 29 = .ok (.aload_n 0, 1) := by decide +kernel
theorem dX2_beginTerm_30 : decode cX2_beginTerm 30 = .ok (.getfield 66, 3) := by decide +kernel
theorem dX2_beginTerm_33 : decode cX2_beginTerm 33 = .ok (.i2l, 1) := by decide +kernel
theorem dX2_beginTerm_34 : decode cX2_beginTerm 34 = .ok (.lmul, 1) := by decide +kernel
theorem dX2_beginTerm_35 : decode cX2_beginTerm 35 = .ok (.lastore, 1) := by decide +kernel
theorem dX2_beginTerm_36 : decode cX2_beginTerm 36 = .ok (.return_, 1) := by decide +kernel
theorem dX2_depositTerm_0 : decode cX2_depositTerm 0 = .ok (.aload_n 0, 1) := by decide +kernel
theorem dX2_depositTerm_1 : decode cX2_depositTerm 1 = .ok (.iload_n 1, 1) := by decide +kernel
theorem dX2_depositTerm_2 : decode cX2_depositTerm 2 = .ok (.invokestatic 111, 3) := by decide +kernel
theorem dX2_depositTerm_5 : decode cX2_depositTerm 5 = .ok (.ifCond .ne 7, 3) := by decide +kernel
theorem dX2_depositTerm_8 : decode cX2_depositTerm 8 = .ok (.iconst 1, 1) := by decide +kernel
theorem dX2_depositTerm_9 : decode cX2_depositTerm 9 = .ok (.goto 52, 3) := by decide +kernel
theorem dX2_depositTerm_12 : decode cX2_depositTerm 12 = .ok (.iload_n 2, 1) := by decide +kernel
theorem dX2_depositTerm_13 : decode cX2_depositTerm 13 = .ok (.iconst 1, 1) := by decide +kernel
theorem dX2_depositTerm_14 : decode cX2_depositTerm 14 = .ok (.ldc 115, 2) := by decide +kernel
theorem dX2_depositTerm_16 : decode cX2_depositTerm 16 = .ok (.invokestatic 73, 3) := by decide +kernel
theorem dX2_depositTerm_19 : decode cX2_depositTerm 19 = .ok (.ifCond .eq 24, 3) := by decide +kernel
theorem dX2_depositTerm_22 : decode cX2_depositTerm 22 = .ok (.iload_n 3, 1) := by decide +kernel
theorem dX2_depositTerm_23 : decode cX2_depositTerm 23 = .ok (.iconst 1, 1) := by decide +kernel
theorem dX2_depositTerm_24 : decode cX2_depositTerm 24 = .ok (.sipush 400, 3) := by decide +kernel
theorem dX2_depositTerm_27 : decode cX2_depositTerm 27 = .ok (.invokestatic 73, 3) := by decide +kernel
theorem dX2_depositTerm_30 : decode cX2_depositTerm 30 = .ok (.ifCond .eq 13, 3) := by decide +kernel
theorem dX2_depositTerm_33 : decode cX2_depositTerm 33 = .ok (.iload 4, 2) := by decide +kernel
theorem dX2_depositTerm_35 : decode cX2_depositTerm 35 = .ok (.iconst 0, 1) := by decide +kernel
theorem dX2_depositTerm_36 : decode cX2_depositTerm 36 = .ok (.iconst 2, 1) := by decide +kernel
theorem dX2_depositTerm_37 : decode cX2_depositTerm 37 = .ok (.invokestatic 73, 3) := by decide +kernel
theorem dX2_depositTerm_40 : decode cX2_depositTerm 40 = .ok (.ifCond .ne 7, 3) := by decide +kernel
theorem dX2_depositTerm_43 : decode cX2_depositTerm 43 = .ok (.iconst 2, 1) := by decide +kernel
theorem dX2_depositTerm_44 : decode cX2_depositTerm 44 = .ok (.goto 17, 3) := by decide +kernel
theorem dX2_depositTerm_47 : decode cX2_depositTerm 47 = .ok (.aload_n 0, 1) := by decide +kernel
theorem dX2_depositTerm_48 : decode cX2_depositTerm 48 = .ok (.getfield 77, 3) := by decide +kernel
theorem dX2_depositTerm_51 : decode cX2_depositTerm 51 = .ok (.bipush 40, 2) := by decide +kernel
theorem dX2_depositTerm_53 : decode cX2_depositTerm 53 = .ok (.if_icmp .ne 7, 3) := by decide +kernel
theorem dX2_depositTerm_56 : decode cX2_depositTerm 56 = .ok (.iconst 3, 1) := by decide +kernel
theorem dX2_depositTerm_57 : decode cX2_depositTerm 57 = .ok (.goto 4, 3) := by decide +kernel
theorem dX2_depositTerm_60 : decode cX2_depositTerm 60 = .ok (.iconst 0, 1) := by decide +kernel
theorem dX2_depositTerm_61 : decode cX2_depositTerm 61 = .ok (.putfield 70, 3) := by decide +kernel
theorem dX2_depositTerm_64 : decode cX2_depositTerm 64 = .ok (.aload_n 0, 1) := by decide +kernel
theorem dX2_depositTerm_65 : decode cX2_depositTerm 65 = .ok (.getfield 70, 3) := by decide +kernel
theorem dX2_depositTerm_68 : decode cX2_depositTerm 68 = .ok (.ifCond .le 5, 3) := by decide +kernel
theorem dX2_depositTerm_71 : decode cX2_depositTerm 71 = .ok (.iconst 0, 1) := by decide +kernel
theorem dX2_depositTerm_72 : decode cX2_depositTerm 72 = .ok (.ireturn, 1) := by decide +kernel
theorem dX2_depositTerm_73 : decode cX2_depositTerm 73 = .ok (.aload_n 0, 1) := by decide +kernel
theorem dX2_depositTerm_74 : decode cX2_depositTerm 74 = .ok (.iload_n 1, 1) := by decide +kernel
theorem dX2_depositTerm_75 : decode cX2_depositTerm 75 = .ok (.iload_n 2, 1) := by decide +kernel
theorem dX2_depositTerm_76 : decode cX2_depositTerm 76 = .ok (.invokevirtual 116, 3) := by decide +kernel
theorem dX2_depositTerm_79 : decode cX2_depositTerm 79 = .ok (.istore 5, 2) := by decide +kernel
theorem dX2_depositTerm_81 : decode cX2_depositTerm 81 = .ok (.aload_n 0, 1) := by decide +kernel
theorem dX2_depositTerm_82 : decode cX2_depositTerm 82 = .ok (.getfield 17, 3) := by decide +kernel
theorem dX2_depositTerm_85 : decode cX2_depositTerm 85 = .ok (.iload 5, 2) := by decide +kernel
theorem dX2_depositTerm_87 : decode cX2_depositTerm 87 = .ok (.iconst 1, 1) := by decide +kernel
theorem dX2_depositTerm_88 : decode cX2_depositTerm 88 = .ok (.bastore, 1) := by decide +kernel
theorem dX2_depositTerm_89 : decode cX2_depositTerm 89 = .ok (.aload_n 0, 1) := by decide +kernel
theorem dX2_depositTerm_90 : decode cX2_depositTerm 90 = .ok (.getfield 39, 3) := by decide +kernel
theorem dX2_depositTerm_93 : decode cX2_depositTerm 93 = .ok (.iload 5, 2) := by decide +kernel
theorem dX2_depositTerm_95 : decode cX2_depositTerm 95 = .ok (.iload_n 3, 1) := by decide +kernel
theorem dX2_depositTerm_96 : decode cX2_depositTerm 96 = .ok (.iastore, 1) := by decide +kernel
theorem dX2_depositTerm_97 : decode cX2_depositTerm 97 = .ok (.aload_n 0, 1) := by decide +kernel
theorem dX2_depositTerm_98 : decode cX2_depositTerm 98 = .ok (.getfield 45, 3) := by decide +kernel
theorem dX2_depositTerm_101 : decode cX2_depositTerm 101 = .ok (.iload 5, 2) := by decide +kernel
theorem dX2_depositTerm_103 : decode cX2_depositTerm 103 = .ok (.iload 4, 2) := by decide +kernel
theorem dX2_depositTerm_105 : decode cX2_depositTerm 105 = .ok (.iastore, 1) := by decide +kernel
theorem dX2_depositTerm_106 : decode cX2_depositTerm 106 = .ok (.aload_n 0, 1) := by decide +kernel
theorem dX2_depositTerm_107 : decode cX2_depositTerm 107 = .ok (.iload 5, 2) := by decide +kernel
theorem dX2_depositTerm_109 : decode cX2_depositTerm 109 = .ok (.invokevirtual 122, 3) := by decide +kernel
theorem dX2_depositTerm_112 : decode cX2_depositTerm 112 = .ok (.iload 5, 2) := by decide +kernel
theorem dX2_depositTerm_114 : decode cX2_depositTerm 114 = .ok (.ireturn, 1) := by decide +kernel
theorem dX2_give_0 : decode cX2_give 0 = .ok (.aload_n 0, 1) := by decide +kernel
theorem dX2_give_1 : decode cX2_give 1 = .ok (.aload_n 0, 1) := by decide +kernel
theorem dX2_give_2 : decode cX2_give 2 = .ok (.iload_n 1, 1) := by decide +kernel
theorem dX2_give_3 : decode cX2_give 3 = .ok (.invokevirtual 126, 3) := by decide +kernel
theorem dX2_give_6 : decode cX2_give 6 = .ok (.ifCond .ne 7, 3) := by decide +kernel
theorem dX2_give_9 : decode cX2_give 9 = .ok (.iconst 1, 1) := by decide +kernel
theorem dX2_give_10 : decode cX2_give 10 = .ok (.goto 44, 3) := by decide +kernel
theorem dX2_give_13 : decode cX2_give 13 = .ok (.iload_n 2, 1) := by decide +kernel
theorem dX2_give_14 : decode cX2_give 14 = .ok (.iconst 1, 1) := by decide +kernel
theorem dX2_give_15 : decode cX2_give 15 = .ok (.aload_n 0, 1) := by decide +kernel
theorem dX2_give_16 : decode cX2_give 16 = .ok (.getfield 23, 3) := by decide +kernel
theorem dX2_give_19 : decode cX2_give 19 = .ok (.iload_n 1, 1) := by decide +kernel
theorem dX2_give_20 : decode cX2_give 20 = .ok (.iaload, 1) := by decide +kernel
theorem dX2_give_21 : decode cX2_give 21 = .ok (.invokestatic 73, 3) := by decide +kernel
theorem dX2_give_24 : decode cX2_give 24 = .ok (.ifCond .ne 7, 3) := by decide +kernel
theorem dX2_give_27 : decode cX2_give 27 = .ok (.iconst 2, 1) := by decide +kernel
theorem dX2_give_28 : decode cX2_give 28 = .ok (.goto 26, 3) := by decide +kernel
theorem dX2_give_31 : decode cX2_give 31 = .ok (.aload_n 0, 1) := by decide +kernel
theorem dX2_give_32 : decode cX2_give 32 = .ok (.getfield 17, 3) := by decide +kernel
theorem dX2_give_35 : decode cX2_give 35 = .ok (.iload_n 1, 1) := by decide +kernel
theorem dX2_give_36 : decode cX2_give 36 = .ok (.baload, 1) := by decide +kernel
theorem dX2_give_37 : decode cX2_give 37 = .ok (.ifCond .ne 12, 3) := by decide +kernel
theorem dX2_give_40 : decode cX2_give 40 = .ok (.aload_n 0, 1) := by decide +kernel
theorem dX2_give_41 : decode cX2_give 41 = .ok (.getfield 30, 3) := by decide +kernel
theorem dX2_give_44 : decode cX2_give 44 = .ok (.iload_n 1, 1) := by decide +kernel
theorem dX2_give_45 : decode cX2_give 45 = .ok (.iaload, 1) := by decide +kernel
theorem dX2_give_46 : decode cX2_give 46 = .ok (.ifCond .le 7, 3) := by decide +kernel
theorem dX2_give_49 : decode cX2_give 49 = .ok (.iconst 3, 1) := by decide +kernel
theorem dX2_give_50 : decode cX2_give 50 = .ok (.goto 4, 3) := by decide +kernel
theorem dX2_give_53 : decode cX2_give 53 = .ok (.iconst 0, 1) := by decide +kernel
theorem dX2_give_54 : decode cX2_give 54 = .ok (.putfield 70, 3) := by decide +kernel
theorem dX2_give_57 : decode cX2_give 57 = .ok (.aload_n 0, 1) := by decide +kernel
theorem dX2_give_58 : decode cX2_give 58 = .ok (.getfield 70, 3) := by decide +kernel
theorem dX2_give_61 : decode cX2_give 61 = .ok (.ifCond .le 5, 3) := by decide +kernel
theorem dX2_give_64 : decode cX2_give 64 = .ok (.iconst 0, 1) := by decide +kernel
theorem dX2_give_65 : decode cX2_give 65 = .ok (.ireturn, 1) := by decide +kernel
theorem dX2_give_66 : decode cX2_give 66 = .ok (.aload_n 0, 1) := by decide +kernel
theorem dX2_give_67 : decode cX2_give 67 = .ok (.getfield 30, 3) := by decide +kernel
theorem dX2_give_70 : decode cX2_give 70 = .ok (.iload_n 1, 1) := by decide +kernel
theorem dX2_give_71 : decode cX2_give 71 = .ok (.iload_n 2, 1) := by decide +kernel
theorem dX2_give_72 : decode cX2_give 72 = .ok (.iastore, 1) := by decide +kernel
theorem dX2_give_73 : decode cX2_give 73 = .ok (.aload_n 0, 1) := by decide +kernel
theorem dX2_give_74 : decode cX2_give 74 = .ok (.getfield 33, 3) := by decide +kernel
theorem dX2_give_77 : decode cX2_give 77 = .ok (.iload_n 1, 1) := by decide +kernel
theorem dX2_give_78 : decode cX2_give 78 = .ok (.aload_n 0, 1) := by decide +kernel
theorem dX2_give_79 : decode cX2_give 79 = .ok (.getfield 119, 3) := by decide +kernel
theorem dX2_give_82 : decode cX2_give 82 = .ok (.iastore, 1) := by decide +kernel
theorem dX2_give_83 : decode cX2_give 83 = .ok (.aload_n 0, 1) := by decide +kernel
theorem dX2_give_84 : decode cX2_give 84 = .ok (.getfield 119, 3) := by decide +kernel
theorem dX2_give_87 : decode cX2_give 87 = .ok (.bipush 32, 2) := by decide +kernel
theorem dX2_give_89 : decode cX2_give 89 = .ok (.iadd, 1) := by decide +kernel
theorem dX2_give_90 : decode cX2_give 90 = .ok (.ireturn, 1) := by decide +kernel
theorem dX2_withdraw_0 : decode cX2_withdraw 0 = .ok (.aload_n 0, 1) := by decide +kernel
theorem dX2_withdraw_1 : decode cX2_withdraw 1 = .ok (.aload_n 0, 1) := by decide +kernel
theorem dX2_withdraw_2 : decode cX2_withdraw 2 = .ok (.iload_n 1, 1) := by decide +kernel
theorem dX2_withdraw_3 : decode cX2_withdraw 3 = .ok (.invokevirtual 126, 3) := by decide +kernel
theorem dX2_withdraw_6 : decode cX2_withdraw 6 = .ok (.ifCond .ne 7, 3) := by decide +kernel
theorem dX2_withdraw_9 : decode cX2_withdraw 9 = .ok (.iconst 1, 1) := by decide +kernel
theorem dX2_withdraw_10 : decode cX2_withdraw 10 = .ok (.goto 26, 3) := by decide +kernel
theorem dX2_withdraw_13 : decode cX2_withdraw 13 = .ok (.aload_n 0, 1) := by decide +kernel
theorem dX2_withdraw_14 : decode cX2_withdraw 14 = .ok (.getfield 17, 3) := by decide +kernel
theorem dX2_withdraw_17 : decode cX2_withdraw 17 = .ok (.iload_n 1, 1) := by decide +kernel
theorem dX2_withdraw_18 : decode cX2_withdraw 18 = .ok (.baload, 1) := by decide +kernel
theorem dX2_withdraw_19 : decode cX2_withdraw 19 = .ok (.ifCond .ne 12, 3) := by decide +kernel
theorem dX2_withdraw_22 : decode cX2_withdraw 22 = .ok (.aload_n 0, 1) := by decide +kernel
theorem dX2_withdraw_23 : decode cX2_withdraw 23 = .ok (.getfield 30, 3) := by decide +kernel
theorem dX2_withdraw_26 : decode cX2_withdraw 26 = .ok (.iload_n 1, 1) := by decide +kernel
theorem dX2_withdraw_27 : decode cX2_withdraw 27 = .ok (.iaload, 1) := by decide +kernel
theorem dX2_withdraw_28 : decode cX2_withdraw 28 = .ok (.ifCond .ne 7, 3) := by decide +kernel
theorem dX2_withdraw_31 : decode cX2_withdraw 31 = .ok (.iconst 2, 1) := by decide +kernel
theorem dX2_withdraw_32 : decode cX2_withdraw 32 = .ok (.goto 4, 3) := by decide +kernel
theorem dX2_withdraw_35 : decode cX2_withdraw 35 = .ok (.iconst 0, 1) := by decide +kernel
theorem dX2_withdraw_36 : decode cX2_withdraw 36 = .ok (.putfield 70, 3) := by decide +kernel
theorem dX2_withdraw_39 : decode cX2_withdraw 39 = .ok (.aload_n 0, 1) := by decide +kernel
theorem dX2_withdraw_40 : decode cX2_withdraw 40 = .ok (.getfield 70, 3) := by decide +kernel
theorem dX2_withdraw_43 : decode cX2_withdraw 43 = .ok (.ifCond .le 5, 3) := by decide +kernel
theorem dX2_withdraw_46 : decode cX2_withdraw 46 = .ok (.iconst 0, 1) := by decide +kernel
theorem dX2_withdraw_47 : decode cX2_withdraw 47 = .ok (.ireturn, 1) := by decide +kernel
theorem dX2_withdraw_48 : decode cX2_withdraw 48 = .ok (.aload_n 0, 1) := by decide +kernel
theorem dX2_withdraw_49 : decode cX2_withdraw 49 = .ok (.getfield 30, 3) := by decide +kernel
theorem dX2_withdraw_52 : decode cX2_withdraw 52 = .ok (.iload_n 1, 1) := by decide +kernel
theorem dX2_withdraw_53 : decode cX2_withdraw 53 = .ok (.iaload, 1) := by decide +kernel
theorem dX2_withdraw_54 : decode cX2_withdraw 54 = .ok (.istore_n 2, 1) := by decide +kernel
theorem dX2_withdraw_55 : decode cX2_withdraw 55 = .ok (.aload_n 0, 1) := by decide +kernel
theorem dX2_withdraw_56 : decode cX2_withdraw 56 = .ok (.getfield 30, 3) := by decide +kernel
theorem dX2_withdraw_59 : decode cX2_withdraw 59 = .ok (.iload_n 1, 1) := by decide +kernel
theorem dX2_withdraw_60 : decode cX2_withdraw 60 = .ok (.iconst 0, 1) := by decide +kernel
theorem dX2_withdraw_61 : decode cX2_withdraw 61 = .ok (.iastore, 1) := by decide +kernel
theorem dX2_withdraw_62 : decode cX2_withdraw 62 = .ok (.iload_n 2, 1) := by decide +kernel
theorem dX2_withdraw_63 : decode cX2_withdraw 63 = .ok (.ireturn, 1) := by decide +kernel
theorem dX2_take_0 : decode cX2_take 0 = .ok (.aload_n 0, 1) := by decide +kernel
theorem dX2_take_1 : decode cX2_take 1 = .ok (.aload_n 0, 1) := by decide +kernel
theorem dX2_take_2 : decode cX2_take 2 = .ok (.iload_n 1, 1) := by decide +kernel
theorem dX2_take_3 : decode cX2_take 3 = .ok (.invokevirtual 126, 3) := by decide +kernel
theorem dX2_take_6 : decode cX2_take 6 = .ok (.ifCond .ne 7, 3) := by decide +kernel
theorem dX2_take_9 : decode cX2_take 9 = .ok (.iconst 1, 1) := by decide +kernel
theorem dX2_take_10 : decode cX2_take 10 = .ok (.goto 42, 3) := by decide +kernel
theorem dX2_take_13 : decode cX2_take 13 = .ok (.aload_n 0, 1) := by decide +kernel
theorem dX2_take_14 : decode cX2_take 14 = .ok (.getfield 17, 3) := by decide +kernel
theorem dX2_take_17 : decode cX2_take 17 = .ok (.iload_n 1, 1) := by decide +kernel
theorem dX2_take_18 : decode cX2_take 18 = .ok (.baload, 1) := by decide +kernel
theorem dX2_take_19 : decode cX2_take 19 = .ok (.ifCond .ne 28, 3) := by decide +kernel
theorem dX2_take_22 : decode cX2_take 22 = .ok (.aload_n 0, 1) := by decide +kernel
theorem dX2_take_23 : decode cX2_take 23 = .ok (.getfield 30, 3) := by decide +kernel
theorem dX2_take_26 : decode cX2_take 26 = .ok (.iload_n 1, 1) := by decide +kernel
theorem dX2_take_27 : decode cX2_take 27 = .ok (.iaload, 1) := by decide +kernel
theorem dX2_take_28 : decode cX2_take 28 = .ok (.ifCond .eq 19, 3) := by decide +kernel
theorem dX2_take_31 : decode cX2_take 31 = .ok (.aload_n 0, 1) := by decide +kernel
theorem dX2_take_32 : decode cX2_take 32 = .ok (.getfield 119, 3) := by decide +kernel
theorem dX2_take_35 : decode cX2_take 35 = .ok (.aload_n 0, 1) := by decide +kernel
theorem dX2_take_36 : decode cX2_take 36 = .ok (.getfield 33, 3) := by decide +kernel
theorem dX2_take_39 : decode cX2_take 39 = .ok (.iload_n 1, 1) := by decide +kernel
theorem dX2_take_40 : decode cX2_take 40 = .ok (.iaload, 1) := by decide +kernel
theorem dX2_take_41 : decode cX2_take 41 = .ok (.bipush 32, 2) := by decide +kernel
theorem dX2_take_43 : decode cX2_take 43 = .ok (.iadd, 1) := by decide +kernel
theorem dX2_take_44 : decode cX2_take 44 = .ok (.if_icmp .ge 7, 3) := by decide +kernel
theorem dX2_take_47 : decode cX2_take 47 = .ok (.iconst 2, 1) := by decide +kernel
theorem dX2_take_48 : decode cX2_take 48 = .ok (.goto 4, 3) := by decide +kernel
theorem dX2_take_51 : decode cX2_take 51 = .ok (.iconst 0, 1) := by decide +kernel
theorem dX2_take_52 : decode cX2_take 52 = .ok (.putfield 70, 3) := by decide +kernel
theorem dX2_take_55 : decode cX2_take 55 = .ok (.aload_n 0, 1) := by decide +kernel
theorem dX2_take_56 : decode cX2_take 56 = .ok (.getfield 70, 3) := by decide +kernel
theorem dX2_take_59 : decode cX2_take 59 = .ok (.ifCond .le 5, 3) := by decide +kernel
theorem dX2_take_62 : decode cX2_take 62 = .ok (.iconst 0, 1) := by decide +kernel
theorem dX2_take_63 : decode cX2_take 63 = .ok (.ireturn, 1) := by decide +kernel
theorem dX2_take_64 : decode cX2_take 64 = .ok (.aload_n 0, 1) := by decide +kernel
theorem dX2_take_65 : decode cX2_take 65 = .ok (.getfield 30, 3) := by decide +kernel
theorem dX2_take_68 : decode cX2_take 68 = .ok (.iload_n 1, 1) := by decide +kernel
theorem dX2_take_69 : decode cX2_take 69 = .ok (.iaload, 1) := by decide +kernel
theorem dX2_take_70 : decode cX2_take 70 = .ok (.istore_n 2, 1) := by decide +kernel
theorem dX2_take_71 : decode cX2_take 71 = .ok (.aload_n 0, 1) := by decide +kernel
theorem dX2_take_72 : decode cX2_take 72 = .ok (.getfield 23, 3) := by decide +kernel
theorem dX2_take_75 : decode cX2_take 75 = .ok (.iload_n 1, 1) := by decide +kernel
theorem dX2_take_76 : decode cX2_take 76 = .ok (.dup2, 1) := by decide +kernel
theorem dX2_take_77 : decode cX2_take 77 = .ok (.iaload, 1) := by decide +kernel
theorem dX2_take_78 : decode cX2_take 78 = .ok (.iload_n 2, 1) := by decide +kernel
theorem dX2_take_79 : decode cX2_take 79 = .ok (.isub, 1) := by decide +kernel
theorem dX2_take_80 : decode cX2_take 80 = .ok (.iastore, 1) := by decide +kernel
theorem dX2_take_81 : decode cX2_take 81 = .ok (.aload_n 0, 1) := by decide +kernel
theorem dX2_take_82 : decode cX2_take 82 = .ok (.getfield 30, 3) := by decide +kernel
theorem dX2_take_85 : decode cX2_take 85 = .ok (.iload_n 1, 1) := by decide +kernel
theorem dX2_take_86 : decode cX2_take 86 = .ok (.iconst 0, 1) := by decide +kernel
theorem dX2_take_87 : decode cX2_take 87 = .ok (.iastore, 1) := by decide +kernel
theorem dX2_take_88 : decode cX2_take 88 = .ok (.aload_n 0, 1) := by decide +kernel
theorem dX2_take_89 : decode cX2_take 89 = .ok (.getfield 23, 3) := by decide +kernel
theorem dX2_take_92 : decode cX2_take 92 = .ok (.iload_n 1, 1) := by decide +kernel
theorem dX2_take_93 : decode cX2_take 93 = .ok (.iaload, 1) := by decide +kernel
theorem dX2_take_94 : decode cX2_take 94 = .ok (.ifCond .ne 11, 3) := by decide +kernel
theorem dX2_take_97 : decode cX2_take 97 = .ok (.iload_n 2, 1) := by decide +kernel
theorem dX2_take_98 : decode cX2_take 98 = .ok (.aload_n 0, 1) := by decide +kernel
theorem dX2_take_99 : decode cX2_take 99 = .ok (.iload_n 1, 1) := by decide +kernel
theorem dX2_take_100 : decode cX2_take 100 = .ok (.invokevirtual 129, 3) := by decide +kernel
theorem dX2_take_103 : decode cX2_take 103 = .ok (.iadd, 1) := by decide +kernel
theorem dX2_take_104 : decode cX2_take 104 = .ok (.istore_n 2, 1) := by decide +kernel
theorem dX2_take_105 : decode cX2_take 105 = .ok (.aload_n 0, 1) := by decide +kernel
theorem dX2_take_106 : decode cX2_take 106 = .ok (.aload_n 0, 1) := by decide +kernel
theorem dX2_take_107 : decode cX2_take 107 = .ok (.getfield 20, 3) := by decide +kernel
theorem dX2_take_110 : decode cX2_take 110 = .ok (.iload_n 1, 1) := by decide +kernel
theorem dX2_take_111 : decode cX2_take 111 = .ok (.iaload, 1) := by decide +kernel
theorem dX2_take_112 : decode cX2_take 112 = .ok (.iload_n 2, 1) := by decide +kernel
theorem dX2_take_113 : decode cX2_take 113 = .ok (.invokevirtual 132, 3) := by decide +kernel
theorem dX2_take_116 : decode cX2_take 116 = .ok (.ireturn, 1) := by decide +kernel
theorem dX2_nextFor_0 : decode cX2_nextFor 0 = .ok (.iconst (-1), 1) := by decide +kernel
theorem dX2_nextFor_1 : decode cX2_nextFor 1 = .ok (.istore_n 2, 1) := by decide +kernel
theorem dX2_nextFor_2 : decode cX2_nextFor 2 = .ok (.iconst 0, 1) := by decide +kernel
theorem dX2_nextFor_3 : decode cX2_nextFor 3 = .ok (.istore_n 3, 1) := by decide +kernel
theorem dX2_nextFor_4 : decode cX2_nextFor 4 = .ok (.iload_n 3, 1) := by decide +kernel
theorem dX2_nextFor_5 : decode cX2_nextFor 5 = .ok (.aload_n 0, 1) := by decide +kernel
theorem dX2_nextFor_6 : decode cX2_nextFor 6 = .ok (.getfield 77, 3) := by decide +kernel
theorem dX2_nextFor_9 : decode cX2_nextFor 9 = .ok (.if_icmp .ge 82, 3) := by decide +kernel
theorem dX2_nextFor_12 : decode cX2_nextFor 12 = .ok (.aload_n 0, 1) := by decide +kernel
theorem dX2_nextFor_13 : decode cX2_nextFor 13 = .ok (.iload_n 3, 1) := by decide +kernel
theorem dX2_nextFor_14 : decode cX2_nextFor 14 = .ok (.iload_n 1, 1) := by decide +kernel
theorem dX2_nextFor_15 : decode cX2_nextFor 15 = .ok (.invokevirtual 84, 3) := by decide +kernel
theorem dX2_nextFor_18 : decode cX2_nextFor 18 = .ok (.ifCond .eq 67, 3) := by decide +kernel
theorem dX2_nextFor_21 : decode cX2_nextFor 21 = .ok (.aload_n 0, 1) := by decide +kernel
theorem dX2_nextFor_22 : decode cX2_nextFor 22 = .ok (.getfield 63, 3) := by decide +kernel
theorem dX2_nextFor_25 : decode cX2_nextFor 25 = .ok (.iload_n 3, 1) := by decide +kernel
theorem dX2_nextFor_26 : decode cX2_nextFor 26 = .ok (.baload, 1) := by decide +kernel
theorem dX2_nextFor_27 : decode cX2_nextFor 27 = .ok (.ifCond .ne 58, 3) := by decide +kernel
theorem dX2_nextFor_30 : decode cX2_nextFor 30 = .ok (.iload_n 2, 1) := by decide +kernel
theorem dX2_nextFor_31 : decode cX2_nextFor 31 = .ok (.iconst (-1), 1) := by decide +kernel
theorem dX2_nextFor_32 : decode cX2_nextFor 32 = .ok (.if_icmp .eq 35, 3) := by decide +kernel
theorem dX2_nextFor_35 : decode cX2_nextFor 35 = .ok (.aload_n 0, 1) := by decide +kernel
theorem dX2_nextFor_36 : decode cX2_nextFor 36 = .ok (.getfield 57, 3) := by decide +kernel
theorem dX2_nextFor_39 : decode cX2_nextFor 39 = .ok (.iload_n 3, 1) := by decide +kernel
theorem dX2_nextFor_40 : decode cX2_nextFor 40 = .ok (.laload, 1) := by decide +kernel
theorem dX2_nextFor_41 : decode cX2_nextFor 41 = .ok (.aload_n 0, 1) := by decide +kernel
theorem dX2_nextFor_42 : decode cX2_nextFor 42 = .ok (.getfield 60, 3) := by decide +kernel
theorem dX2_nextFor_45 : decode cX2_nextFor 45 = .ok (.iload_n 2, 1) := by decide +kernel
theorem dX2_nextFor_46 : decode cX2_nextFor 46 = .ok (.iaload, 1) := by decide +kernel
theorem dX2_nextFor_47 : decode cX2_nextFor 47 = .ok (.i2l, 1) := by decide +kernel
theorem dX2_nextFor_48 : decode cX2_nextFor 48 = .ok (.lmul, 1) := by decide +kernel
theorem dX2_nextFor_49 : decode cX2_nextFor 49 = .ok (.aload_n 0, 1) := by decide +kernel
theorem dX2_nextFor_50 : decode cX2_nextFor 50 = .ok (.getfield 57, 3) := by decide +kernel
theorem dX2_nextFor_53 : decode cX2_nextFor 53 = .ok (.iload_n 2, 1) := by decide +kernel
theorem dX2_nextFor_54 : decode cX2_nextFor 54 = .ok (.laload, 1) := by decide +kernel
theorem dX2_nextFor_55 : decode cX2_nextFor 55 = .ok (.aload_n 0, 1) := by decide +kernel
theorem dX2_nextFor_56 : decode cX2_nextFor 56 = .ok (.getfield 60, 3) := by decide +kernel
theorem dX2_nextFor_59 : decode cX2_nextFor 59 = .ok (.iload_n 3, 1) := by decide +kernel
theorem dX2_nextFor_60 : decode cX2_nextFor 60 = .ok (.iaload, 1) := by decide +kernel
theorem dX2_nextFor_61 : decode cX2_nextFor 61 = .ok (.i2l, 1) := by decide +kernel
theorem dX2_nextFor_62 : decode cX2_nextFor 62 = .ok (.lmul, 1) := by decide +kernel
theorem dX2_nextFor_63 : decode cX2_nextFor 63 = .ok (.lcmp, 1) := by decide +kernel
theorem dX2_nextFor_64 : decode cX2_nextFor 64 = .ok (.ifCond .gt 7, 3) := by decide +kernel
theorem dX2_nextFor_67 : decode cX2_nextFor 67 = .ok (.iconst 1, 1) := by decide +kernel
theorem dX2_nextFor_68 : decode cX2_nextFor 68 = .ok (.goto 4, 3) := by decide +kernel
theorem dX2_nextFor_71 : decode cX2_nextFor 71 = .ok (.iconst 0, 1) := by decide +kernel
theorem dX2_nextFor_72 : decode cX2_nextFor 72 = .ok (.istore 4, 2) := by decide +kernel
theorem dX2_nextFor_74 : decode cX2_nextFor 74 = .ok (.iload 4, 2) := by decide +kernel
theorem dX2_nextFor_76 : decode cX2_nextFor 76 = .ok (.ifCond .eq 7, 3) := by decide +kernel
theorem dX2_nextFor_79 : decode cX2_nextFor 79 = .ok (.iload_n 3, 1) := by decide +kernel
theorem dX2_nextFor_80 : decode cX2_nextFor 80 = .ok (.goto 4, 3) := by decide +kernel
theorem dX2_nextFor_83 : decode cX2_nextFor 83 = .ok (.iload_n 2, 1) := by decide +kernel
theorem dX2_nextFor_84 : decode cX2_nextFor 84 = .ok (.istore_n 2, 1) := by decide +kernel
theorem dX2_nextFor_85 : decode cX2_nextFor 85 = .ok (.iinc 3 1, 3) := by decide +kernel
theorem dX2_nextFor_88 : decode cX2_nextFor 88 = .ok (.goto (-84), 3) := by decide +kernel
theorem dX2_nextFor_91 : decode cX2_nextFor 91 = .ok (.iload_n 2, 1) := by decide +kernel
theorem dX2_nextFor_92 : decode cX2_nextFor 92 = .ok (.ireturn, 1) := by decide +kernel
theorem dX2_early_0 : decode cX2_early 0 = .ok (.aload_n 0, 1) := by decide +kernel
theorem dX2_early_1 : decode cX2_early 1 = .ok (.iload_n 1, 1) := by decide +kernel
theorem dX2_early_2 : decode cX2_early 2 = .ok (.invokestatic 111, 3) := by decide +kernel
theorem dX2_early_5 : decode cX2_early 5 = .ok (.ifCond .ne 7, 3) := by decide +kernel
theorem dX2_early_8 : decode cX2_early 8 = .ok (.iconst 1, 1) := by decide +kernel
theorem dX2_early_9 : decode cX2_early 9 = .ok (.goto 18, 3) := by decide +kernel
theorem dX2_early_12 : decode cX2_early 12 = .ok (.iload_n 2, 1) := by decide +kernel
theorem dX2_early_13 : decode cX2_early 13 = .ok (.iconst 1, 1) := by decide +kernel
theorem dX2_early_14 : decode cX2_early 14 = .ok (.ldc 135, 2) := by decide +kernel
theorem dX2_early_16 : decode cX2_early 16 = .ok (.invokestatic 73, 3) := by decide +kernel
theorem dX2_early_19 : decode cX2_early 19 = .ok (.ifCond .ne 7, 3) := by decide +kernel
theorem dX2_early_22 : decode cX2_early 22 = .ok (.iconst 2, 1) := by decide +kernel
theorem dX2_early_23 : decode cX2_early 23 = .ok (.goto 4, 3) := by decide +kernel
theorem dX2_early_26 : decode cX2_early 26 = .ok (.iconst 0, 1) := by decide +kernel
theorem dX2_early_27 : decode cX2_early 27 = .ok (.putfield 70, 3) := by decide +kernel
theorem dX2_early_30 : decode cX2_early 30 = .ok (.iconst 0, 1) := by decide +kernel
theorem dX2_early_31 : decode cX2_early 31 = .ok (.istore_n 3, 1) := by decide +kernel
theorem dX2_early_32 : decode cX2_early 32 = .ok (.iconst 0, 1) := by decide +kernel
theorem dX2_early_33 : decode cX2_early 33 = .ok (.istore 4, 2) := by decide +kernel
theorem dX2_early_35 : decode cX2_early 35 = .ok (.iload 4, 2) := by decide +kernel
theorem dX2_early_37 : decode cX2_early 37 = .ok (.aload_n 0, 1) := by decide +kernel
theorem dX2_early_38 : decode cX2_early 38 = .ok (.getfield 77, 3) := by decide +kernel
theorem dX2_early_41 : decode cX2_early 41 = .ok (.if_icmp .ge 48, 3) := by decide +kernel
theorem dX2_early_44 : decode cX2_early 44 = .ok (.aload_n 0, 1) := by decide +kernel
theorem dX2_early_45 : decode cX2_early 45 = .ok (.getfield 70, 3) := by decide +kernel
theorem dX2_early_48 : decode cX2_early 48 = .ok (.ifCond .ne 41, 3) := by decide +kernel
theorem dX2_early_51 : decode cX2_early 51 = .ok (.iload_n 3, 1) := by decide +kernel
theorem dX2_early_52 : decode cX2_early 52 = .ok (.aload_n 0, 1) := by decide +kernel
theorem dX2_early_53 : decode cX2_early 53 = .ok (.iload 4, 2) := by decide +kernel
theorem dX2_early_55 : decode cX2_early 55 = .ok (.iload_n 1, 1) := by decide +kernel
theorem dX2_early_56 : decode cX2_early 56 = .ok (.invokevirtual 84, 3) := by decide +kernel
theorem dX2_early_59 : decode cX2_early 59 = .ok (.ifCond .eq 21, 3) := by decide +kernel
theorem dX2_early_62 : decode cX2_early 62 = .ok (.aload_n 0, 1) := by decide +kernel
theorem dX2_early_63 : decode cX2_early 63 = .ok (.getfield 23, 3) := by decide +kernel
theorem dX2_early_66 : decode cX2_early 66 = .ok (.iload 4, 2) := by decide +kernel
theorem dX2_early_68 : decode cX2_early 68 = .ok (.iaload, 1) := by decide +kernel
theorem dX2_early_69 : decode cX2_early 69 = .ok (.aload_n 0, 1) := by decide +kernel
theorem dX2_early_70 : decode cX2_early 70 = .ok (.getfield 30, 3) := by decide +kernel
theorem dX2_early_73 : decode cX2_early 73 = .ok (.iload 4, 2) := by decide +kernel
theorem dX2_early_75 : decode cX2_early 75 = .ok (.iaload, 1) := by decide +kernel
theorem dX2_early_76 : decode cX2_early 76 = .ok (.isub, 1) := by decide +kernel
theorem dX2_early_77 : decode cX2_early 77 = .ok (.goto 4, 3) := by decide +kernel
theorem dX2_early_80 : decode cX2_early 80 = .ok (.iconst 0, 1) := by decide +kernel
theorem dX2_early_81 : decode cX2_early 81 = .ok (.iadd, 1) := by decide +kernel
theorem dX2_early_82 : decode cX2_early 82 = .ok (.istore_n 3, 1) := by decide +kernel
theorem dX2_early_83 : decode cX2_early 83 = .ok (.iinc 4 1, 3) := by decide +kernel
theorem dX2_early_86 : decode cX2_early 86 = .ok (.goto (-51), 3) := by decide +kernel
theorem dX2_early_89 : decode cX2_early 89 = .ok (.aload_n 0, 1) := by decide +kernel
theorem dX2_early_90 : decode cX2_early 90 = .ok (.aload_n 0, 1) := by decide +kernel
theorem dX2_early_91 : decode cX2_early 91 = .ok (.getfield 70, 3) := by decide +kernel
theorem dX2_early_94 : decode cX2_early 94 = .ok (.ifCond .ne 12, 3) := by decide +kernel
theorem dX2_early_97 : decode cX2_early 97 = .ok (.iload_n 3, 1) := by decide +kernel
theorem dX2_early_98 : decode cX2_early 98 = .ok (.iload_n 2, 1) := by decide +kernel
theorem dX2_early_99 : decode cX2_early 99 = .ok (.if_icmp .ge 7, 3) := by decide +kernel
theorem dX2_early_102 : decode cX2_early 102 = .ok (.iconst 3, 1) := by decide +kernel
theorem dX2_early_103 : decode cX2_early 103 = .ok (.goto 7, 3) := by decide +kernel
theorem dX2_early_106 : decode cX2_early 106 = .ok (.aload_n 0, 1) := by decide +kernel
theorem dX2_early_107 : decode cX2_early 107 = .ok (.getfield 70, 3) := by decide +kernel
theorem dX2_early_110 : decode cX2_early 110 = .ok (.putfield 70, 3) := by decide +kernel
theorem dX2_early_113 : decode cX2_early 113 = .ok (.aload_n 0, 1) := by decide +kernel
theorem dX2_early_114 : decode cX2_early 114 = .ok (.getfield 70, 3) := by decide +kernel
theorem dX2_early_117 : decode cX2_early 117 = .ok (.ifCond .le 5, 3) := by decide +kernel
theorem dX2_early_120 : decode cX2_early 120 = .ok (.iconst 0, 1) := by decide +kernel
theorem dX2_early_121 : decode cX2_early 121 = .ok (.ireturn, 1) := by decide +kernel
theorem dX2_early_122 : decode cX2_early 122 = .ok (.iconst 0, 1) := by decide +kernel
theorem dX2_early_123 : decode cX2_early 123 = .ok (.istore 4, 2) := by decide +kernel
theorem dX2_early_125 : decode cX2_early 125 = .ok (.iload 4, 2) := by decide +kernel
theorem dX2_early_127 : decode cX2_early 127 = .ok (.aload_n 0, 1) := by decide +kernel
theorem dX2_early_128 : decode cX2_early 128 = .ok (.getfield 77, 3) := by decide +kernel
theorem dX2_early_131 : decode cX2_early 131 = .ok (.if_icmp .ge 58, 3) := by decide +kernel
theorem dX2_early_134 : decode cX2_early 134 = .ok (.aload_n 0, 1) := by decide +kernel
theorem dX2_early_135 : decode cX2_early 135 = .ok (.getfield 63, 3) := by decide +kernel
theorem dX2_early_138 : decode cX2_early 138 = .ok (.iload 4, 2) := by decide +kernel
theorem dX2_early_140 : decode cX2_early 140 = .ok (.iconst 0, 1) := by decide +kernel
theorem dX2_early_141 : decode cX2_early 141 = .ok (.bastore, 1) := by decide +kernel
theorem dX2_early_142 : decode cX2_early 142 = .ok (.aload_n 0, 1) := by decide +kernel
theorem dX2_early_143 : decode cX2_early 143 = .ok (.getfield 57, 3) := by decide +kernel
theorem dX2_early_146 : decode cX2_early 146 = .ok (.iload 4, 2) := by decide +kernel
theorem dX2_early_148 : decode cX2_early 148 = .ok (.aload_n 0, 1) := by decide +kernel
theorem dX2_early_149 : decode cX2_early 149 = .ok (.getfield 13, 3) := by decide +kernel
theorem dX2_early_152 : decode cX2_early 152 = .ok (.iload 4, 2) := by decide +kernel
theorem dX2_early_154 : decode cX2_early 154 = .ok (.baload, 1) := by decide +kernel
theorem dX2_early_155 : decode cX2_early 155 = .ok (.ifCond .eq 12, 3) := by decide +kernel
theorem dX2_early_158 : decode cX2_early 158 = .ok (.aload_n 0, 1) := by decide +kernel
theorem dX2_early_159 : decode cX2_early 159 = .ok (.iload 4, 2) := by decide +kernel
theorem dX2_early_161 : decode cX2_early 161 = .ok (.invokevirtual 136, 3) := by decide +kernel
theorem dX2_early_164 : decode cX2_early 164 = .ok (.goto 4, 3) := by decide +kernel
theorem dX2_early_167 : decode cX2_early 167 = .ok (.lconst 0, 1) := by decide +kernel
theorem dX2_early_168 : decode cX2_early 168 = .ok (.lastore, 1) := by decide +kernel
theorem dX2_early_169 : decode cX2_early 169 = .ok (.aload_n 0, 1) := by decide +kernel
theorem dX2_early_170 : decode cX2_early 170 = .ok (.getfield 60, 3) := by decide +kernel
theorem dX2_early_173 : decode cX2_early 173 = .ok (.iload 4, 2) := by decide +kernel
theorem dX2_early_175 : decode cX2_early 175 = .ok (.aload_n 0, 1) := by decide +kernel
theorem dX2_early_176 : decode cX2_early 176 = .ok (.getfield 23, 3) := by decide +kernel
theorem dX2_early_179 : decode cX2_early 179 = .ok (.iload 4, 2) := by decide +kernel
theorem dX2_early_181 : decode cX2_early 181 = .ok (.iaload, 1) := by decide +kernel
theorem dX2_early_182 : decode cX2_early 182 = .ok (.iastore, 1) := by decide +kernel
theorem dX2_early_183 : decode cX2_early 183 = .ok (.iinc 4 1, 3) := by decide +kernel
theorem dX2_early_186 : decode cX2_early 186 = .ok (.goto (-61), 3) := by decide +kernel
theorem dX2_early_189 : decode cX2_early 189 = .ok (.iload_n 2, 1) := by decide +kernel
theorem dX2_early_190 : decode cX2_early 190 = .ok (.istore 4, 2) := by decide +kernel
theorem dX2_early_192 : decode cX2_early 192 = .ok (.iload_n 2, 1) := by decide +kernel
theorem dX2_early_193 : decode cX2_early 193 = .ok (.istore 5, 2) := by decide +kernel
theorem dX2_early_195 : decode cX2_early 195 = .ok (.iload 4, 2) := by decide +kernel
theorem dX2_early_197 : decode cX2_early 197 = .ok (.ifCond .le 170, 3) := by decide +kernel
theorem dX2_early_200 : decode cX2_early 200 = .ok (.aload_n 0, 1) := by decide +kernel
theorem dX2_early_201 : decode cX2_early 201 = .ok (.iload_n 1, 1) := by decide +kernel
theorem dX2_early_202 : decode cX2_early 202 = .ok (.invokevirtual 139, 3) := by decide +kernel
theorem dX2_early_205 : decode cX2_early 205 = .ok (.istore 6, 2) := by decide +kernel
theorem dX2_early_207 : decode cX2_early 207 = .ok (.aload_n 0, 1) := by decide +kernel
theorem dX2_early_208 : decode cX2_early 208 = .ok (.getfield 23, 3) := by decide +kernel
theorem dX2_early_211 : decode cX2_early 211 = .ok (.iload 6, 2) := by decide +kernel
theorem dX2_early_213 : decode cX2_early 213 = .ok (.iaload, 1) := by decide +kernel
theorem dX2_early_214 : decode cX2_early 214 = .ok (.aload_n 0, 1) := by decide +kernel
theorem dX2_early_215 : decode cX2_early 215 = .ok (.getfield 30, 3) := by decide +kernel
theorem dX2_early_218 : decode cX2_early 218 = .ok (.iload 6, 2) := by decide +kernel
theorem dX2_early_220 : decode cX2_early 220 = .ok (.iaload, 1) := by decide +kernel
theorem dX2_early_221 : decode cX2_early 221 = .ok (.isub, 1) := by decide +kernel
theorem dX2_early_222 : decode cX2_early 222 = .ok (.istore 7, 2) := by decide +kernel
theorem dX2_early_224 : decode cX2_early 224 = .ok (.iload 7, 2) := by decide +kernel
theorem dX2_early_226 : decode cX2_early 226 = .ok (.iload 4, 2) := by decide +kernel
theorem dX2_early_228 : decode cX2_early 228 = .ok (.if_icmp .ge 8, 3) := by decide +kernel
theorem dX2_early_231 : decode cX2_early 231 = .ok (.iload 7, 2) := by decide +kernel
theorem dX2_early_233 : decode cX2_early 233 = .ok (.goto 5, 3) := by decide +kernel
theorem dX2_early_236 : decode cX2_early 236 = .ok (.iload 4, 2) := by decide +kernel
theorem dX2_early_238 : decode cX2_early 238 = .ok (.istore 8, 2) := by decide +kernel
theorem dX2_early_240 : decode cX2_early 240 = .ok (.ldc2_w 142, 3) := by decide +kernel
theorem dX2_early_243 : decode cX2_early 243 = .ok (.aload_n 0, 1) := by decide +kernel
theorem dX2_early_244 : decode cX2_early 244 = .ok (.getfield 57, 3) := by decide +kernel
theorem dX2_early_247 : decode cX2_early 247 = .ok (.iload 6, 2) := by decide +kernel
theorem dX2_early_249 : decode cX2_early 249 = .ok (.laload, 1) := by decide +kernel
theorem dX2_early_250 : decode cX2_early 250 = .ok (.lmul, 1) := by decide +kernel
theorem dX2_early_251 : decode cX2_early 251 = .ok (.iload 8, 2) := by decide +kernel
theorem dX2_early_253 : decode cX2_early 253 = .ok (.i2l, 1) := by decide +kernel
theorem dX2_early_254 : decode cX2_early 254 = .ok (.lmul, 1) := by decide +kernel
theorem dX2_early_255 : decode cX2_early 255 = .ok (.aload_n 0, 1) := by decide +kernel
theorem dX2_early_256 : decode cX2_early 256 = .ok (.getfield 60, 3) := by decide +kernel
theorem dX2_early_259 : decode cX2_early 259 = .ok (.iload 6, 2) := by decide +kernel
theorem dX2_early_261 : decode cX2_early 261 = .ok (.iaload, 1) := by decide +kernel
theorem dX2_early_262 : decode cX2_early 262 = .ok (.i2l, 1) := by decide +kernel
theorem dX2_early_263 : decode cX2_early 263 = .ok (.ldiv, 1) := by decide +kernel
theorem dX2_early_264 : decode cX2_early 264 = .ok (.lstore 9, 2) := by decide +kernel
theorem dX2_early_266 : decode cX2_early 266 = .ok (.lload 9, 2) := by decide +kernel
theorem dX2_early_268 : decode cX2_early 268 = .ok (.aload_n 0, 1) := by decide +kernel
theorem dX2_early_269 : decode cX2_early 269 = .ok (.getfield 26, 3) := by decide +kernel
theorem dX2_early_272 : decode cX2_early 272 = .ok (.iload 6, 2) := by decide +kernel
theorem dX2_early_274 : decode cX2_early 274 = .ok (.laload, 1) := by decide +kernel
theorem dX2_early_275 : decode cX2_early 275 = .ok (.lcmp, 1) := by decide +kernel
theorem dX2_early_276 : decode cX2_early 276 = .ok (.ifCond .le 13, 3) := by decide +kernel
theorem dX2_early_279 : decode cX2_early 279 = .ok (.aload_n 0, 1) := by decide +kernel
theorem dX2_early_280 : decode cX2_early 280 = .ok (.getfield 26, 3) := by decide +kernel
theorem dX2_early_283 : decode cX2_early 283 = .ok (.iload 6, 2) := by decide +kernel
theorem dX2_early_285 : decode cX2_early 285 = .ok (.laload, 1) := by decide +kernel
theorem dX2_early_286 : decode cX2_early 286 = .ok (.goto 5, 3) := by decide +kernel
theorem dX2_early_289 : decode cX2_early 289 = .ok (.lload 9, 2) := by decide +kernel
theorem dX2_early_291 : decode cX2_early 291 = .ok (.lstore 9, 2) := by decide +kernel
theorem dX2_early_293 : decode cX2_early 293 = .ok (.aload_n 0, 1) := by decide +kernel
theorem dX2_early_294 : decode cX2_early 294 = .ok (.getfield 26, 3) := by decide +kernel
theorem dX2_early_297 : decode cX2_early 297 = .ok (.iload 6, 2) := by decide +kernel
theorem dX2_early_299 : decode cX2_early 299 = .ok (.dup2, 1) := by decide +kernel
theorem dX2_early_300 : decode cX2_early 300 = .ok (.laload, 1) := by decide +kernel
theorem dX2_early_301 : decode cX2_early 301 = .ok (.lload 9, 2) := by decide +kernel
theorem dX2_early_303 : decode cX2_early 303 = .ok (.lsub, 1) := by decide +kernel
theorem dX2_early_304 : decode cX2_early 304 = .ok (.lastore, 1) := by decide +kernel
theorem dX2_early_305 : decode cX2_early 305 = .ok (.aload_n 0, 1) := by decide +kernel
theorem dX2_early_306 : decode cX2_early 306 = .ok (.getfield 54, 3) := by decide +kernel
theorem dX2_early_309 : decode cX2_early 309 = .ok (.iload_n 1, 1) := by decide +kernel
theorem dX2_early_310 : decode cX2_early 310 = .ok (.dup2, 1) := by decide +kernel
theorem dX2_early_311 : decode cX2_early 311 = .ok (.laload, 1) := by decide +kernel
theorem dX2_early_312 : decode cX2_early 312 = .ok (.lload 9, 2) := by decide +kernel
theorem dX2_early_314 : decode cX2_early 314 = .ok (.ladd, 1) := by decide +kernel
theorem dX2_early_315 : decode cX2_early 315 = .ok (.lastore, 1) := by decide +kernel
theorem dX2_early_316 : decode cX2_early 316 = .ok (.aload_n 0, 1) := by decide +kernel
theorem dX2_early_317 : decode cX2_early 317 = .ok (.getfield 23, 3) := by decide +kernel
theorem dX2_early_320 : decode cX2_early 320 = .ok (.iload 6, 2) := by decide +kernel
theorem dX2_early_322 : decode cX2_early 322 = .ok (.dup2, 1) := by decide +kernel
theorem dX2_early_323 : decode cX2_early 323 = .ok (.iaload, 1) := by decide +kernel
theorem dX2_early_324 : decode cX2_early 324 = .ok (.iload 8, 2) := by decide +kernel
theorem dX2_early_326 : decode cX2_early 326 = .ok (.isub, 1) := by decide +kernel
theorem dX2_early_327 : decode cX2_early 327 = .ok (.iastore, 1) := by decide +kernel
theorem dX2_early_328 : decode cX2_early 328 = .ok (.iload 4, 2) := by decide +kernel
theorem dX2_early_330 : decode cX2_early 330 = .ok (.iload 8, 2) := by decide +kernel
theorem dX2_early_332 : decode cX2_early 332 = .ok (.isub, 1) := by decide +kernel
theorem dX2_early_333 : decode cX2_early 333 = .ok (.istore 4, 2) := by decide +kernel
theorem dX2_early_335 : decode cX2_early 335 = .ok (.aload_n 0, 1) := by decide +kernel
theorem dX2_early_336 : decode cX2_early 336 = .ok (.getfield 63, 3) := by decide +kernel
theorem dX2_early_339 : decode cX2_early 339 = .ok (.iload 6, 2) := by decide +kernel
theorem dX2_early_341 : decode cX2_early 341 = .ok (.iconst 1, 1) := by decide +kernel
theorem dX2_early_342 : decode cX2_early 342 = .ok (.bastore, 1) := by decide +kernel
theorem dX2_early_343 : decode cX2_early 343 = .ok (.aload_n 0, 1) := by decide +kernel
theorem dX2_early_344 : decode cX2_early 344 = .ok (.getfield 23, 3) := by decide +kernel
theorem dX2_early_347 : decode cX2_early 347 = .ok (.iload 6, 2) := by decide +kernel
theorem dX2_early_349 : decode cX2_early 349 = .ok (.iaload, 1) := by decide +kernel
theorem dX2_early_350 : decode cX2_early 350 = .ok (.ifCond .ne 14, 3) := by decide +kernel
theorem dX2_early_353 : decode cX2_early 353 = .ok (.iload 5, 2) := by decide +kernel
theorem dX2_early_355 : decode cX2_early 355 = .ok (.aload_n 0, 1) := by decide +kernel
theorem dX2_early_356 : decode cX2_early 356 = .ok (.iload 6, 2) := by decide +kernel
theorem dX2_early_358 : decode cX2_early 358 = .ok (.invokevirtual 129, 3) := by decide +kernel
theorem dX2_early_361 : decode cX2_early 361 = .ok (.iadd, 1) := by decide +kernel
theorem dX2_early_362 : decode cX2_early 362 = .ok (.istore 5, 2) := by decide +kernel
theorem dX2_early_364 : decode cX2_early 364 = .ok (.goto (-169), 3) := by decide +kernel
theorem dX2_early_367 : decode cX2_early 367 = .ok (.aload_n 0, 1) := by decide +kernel
theorem dX2_early_368 : decode cX2_early 368 = .ok (.iload_n 1, 1) := by decide +kernel
theorem dX2_early_369 : decode cX2_early 369 = .ok (.iload 5, 2) := by decide +kernel
theorem dX2_early_371 : decode cX2_early 371 = .ok (.invokevirtual 132, 3) := by decide +kernel
theorem dX2_early_374 : decode cX2_early 374 = .ok (.ireturn, 1) := by decide +kernel
theorem dX2_instruct_0 : decode cX2_instruct 0 = .ok (.aload_n 0, 1) := by decide +kernel
theorem dX2_instruct_1 : decode cX2_instruct 1 = .ok (.aload_n 0, 1) := by decide +kernel
theorem dX2_instruct_2 : decode cX2_instruct 2 = .ok (.iload_n 1, 1) := by decide +kernel
theorem dX2_instruct_3 : decode cX2_instruct 3 = .ok (.invokevirtual 126, 3) := by decide +kernel
theorem dX2_instruct_6 : decode cX2_instruct 6 = .ok (.ifCond .ne 7, 3) := by decide +kernel
theorem dX2_instruct_9 : decode cX2_instruct 9 = .ok (.iconst 1, 1) := by decide +kernel
theorem dX2_instruct_10 : decode cX2_instruct 10 = .ok (.goto 30, 3) := by decide +kernel
theorem dX2_instruct_13 : decode cX2_instruct 13 = .ok (.iload_n 2, 1) := by decide +kernel
theorem dX2_instruct_14 : decode cX2_instruct 14 = .ok (.iconst 0, 1) := by decide +kernel
theorem dX2_instruct_15 : decode cX2_instruct 15 = .ok (.iconst 2, 1) := by decide +kernel
theorem dX2_instruct_16 : decode cX2_instruct 16 = .ok (.invokestatic 73, 3) := by decide +kernel
theorem dX2_instruct_19 : decode cX2_instruct 19 = .ok (.ifCond .ne 7, 3) := by decide +kernel
theorem dX2_instruct_22 : decode cX2_instruct 22 = .ok (.iconst 2, 1) := by decide +kernel
theorem dX2_instruct_23 : decode cX2_instruct 23 = .ok (.goto 17, 3) := by decide +kernel
theorem dX2_instruct_26 : decode cX2_instruct 26 = .ok (.aload_n 0, 1) := by decide +kernel
theorem dX2_instruct_27 : decode cX2_instruct 27 = .ok (.getfield 17, 3) := by decide +kernel
theorem dX2_instruct_30 : decode cX2_instruct 30 = .ok (.iload_n 1, 1) := by decide +kernel
theorem dX2_instruct_31 : decode cX2_instruct 31 = .ok (.baload, 1) := by decide +kernel
theorem dX2_instruct_32 : decode cX2_instruct 32 = .ok (.ifCond .ne 7, 3) := by decide +kernel
theorem dX2_instruct_35 : decode cX2_instruct 35 = .ok (.iconst 3, 1) := by decide +kernel
theorem dX2_instruct_36 : decode cX2_instruct 36 = .ok (.goto 4, 3) := by decide +kernel
theorem dX2_instruct_39 : decode cX2_instruct 39 = .ok (.iconst 0, 1) := by decide +kernel
theorem dX2_instruct_40 : decode cX2_instruct 40 = .ok (.putfield 70, 3) := by decide +kernel
theorem dX2_instruct_43 : decode cX2_instruct 43 = .ok (.aload_n 0, 1) := by decide +kernel
theorem dX2_instruct_44 : decode cX2_instruct 44 = .ok (.getfield 70, 3) := by decide +kernel
theorem dX2_instruct_47 : decode cX2_instruct 47 = .ok (.ifCond .le 5, 3) := by decide +kernel
theorem dX2_instruct_50 : decode cX2_instruct 50 = .ok (.iconst 0, 1) := by decide +kernel
theorem dX2_instruct_51 : decode cX2_instruct 51 = .ok (.ireturn, 1) := by decide +kernel
theorem dX2_instruct_52 : decode cX2_instruct 52 = .ok (.aload_n 0, 1) := by decide +kernel
theorem dX2_instruct_53 : decode cX2_instruct 53 = .ok (.getfield 45, 3) := by decide +kernel
theorem dX2_instruct_56 : decode cX2_instruct 56 = .ok (.iload_n 1, 1) := by decide +kernel
theorem dX2_instruct_57 : decode cX2_instruct 57 = .ok (.iaload, 1) := by decide +kernel
theorem dX2_instruct_58 : decode cX2_instruct 58 = .ok (.istore_n 3, 1) := by decide +kernel
theorem dX2_instruct_59 : decode cX2_instruct 59 = .ok (.aload_n 0, 1) := by decide +kernel
theorem dX2_instruct_60 : decode cX2_instruct 60 = .ok (.getfield 45, 3) := by decide +kernel
theorem dX2_instruct_63 : decode cX2_instruct 63 = .ok (.iload_n 1, 1) := by decide +kernel
theorem dX2_instruct_64 : decode cX2_instruct 64 = .ok (.iload_n 2, 1) := by decide +kernel
theorem dX2_instruct_65 : decode cX2_instruct 65 = .ok (.iastore, 1) := by decide +kernel
theorem dX2_instruct_66 : decode cX2_instruct 66 = .ok (.iload_n 3, 1) := by decide +kernel
theorem dX2_instruct_67 : decode cX2_instruct 67 = .ok (.ireturn, 1) := by decide +kernel
theorem dX2_letGo_0 : decode cX2_letGo 0 = .ok (.aload_n 0, 1) := by decide +kernel
theorem dX2_letGo_1 : decode cX2_letGo 1 = .ok (.aload_n 0, 1) := by decide +kernel
theorem dX2_letGo_2 : decode cX2_letGo 2 = .ok (.iload_n 1, 1) := by decide +kernel
theorem dX2_letGo_3 : decode cX2_letGo 3 = .ok (.invokevirtual 126, 3) := by decide +kernel
theorem dX2_letGo_6 : decode cX2_letGo 6 = .ok (.ifCond .ne 7, 3) := by decide +kernel
theorem dX2_letGo_9 : decode cX2_letGo 9 = .ok (.iconst 1, 1) := by decide +kernel
theorem dX2_letGo_10 : decode cX2_letGo 10 = .ok (.goto 43, 3) := by decide +kernel
theorem dX2_letGo_13 : decode cX2_letGo 13 = .ok (.aload_n 0, 1) := by decide +kernel
theorem dX2_letGo_14 : decode cX2_letGo 14 = .ok (.getfield 17, 3) := by decide +kernel
theorem dX2_letGo_17 : decode cX2_letGo 17 = .ok (.iload_n 1, 1) := by decide +kernel
theorem dX2_letGo_18 : decode cX2_letGo 18 = .ok (.baload, 1) := by decide +kernel
theorem dX2_letGo_19 : decode cX2_letGo 19 = .ok (.ifCond .eq 29, 3) := by decide +kernel
theorem dX2_letGo_22 : decode cX2_letGo 22 = .ok (.aload_n 0, 1) := by decide +kernel
theorem dX2_letGo_23 : decode cX2_letGo 23 = .ok (.getfield 48, 3) := by decide +kernel
theorem dX2_letGo_26 : decode cX2_letGo 26 = .ok (.iload_n 1, 1) := by decide +kernel
theorem dX2_letGo_27 : decode cX2_letGo 27 = .ok (.iaload, 1) := by decide +kernel
theorem dX2_letGo_28 : decode cX2_letGo 28 = .ok (.iconst (-1), 1) := by decide +kernel
theorem dX2_letGo_29 : decode cX2_letGo 29 = .ok (.if_icmp .eq 19, 3) := by decide +kernel
theorem dX2_letGo_32 : decode cX2_letGo 32 = .ok (.aload_n 0, 1) := by decide +kernel
theorem dX2_letGo_33 : decode cX2_letGo 33 = .ok (.getfield 48, 3) := by decide +kernel
theorem dX2_letGo_36 : decode cX2_letGo 36 = .ok (.iload_n 1, 1) := by decide +kernel
theorem dX2_letGo_37 : decode cX2_letGo 37 = .ok (.iaload, 1) := by decide +kernel
theorem dX2_letGo_38 : decode cX2_letGo 38 = .ok (.aload_n 0, 1) := by decide +kernel
theorem dX2_letGo_39 : decode cX2_letGo 39 = .ok (.getfield 119, 3) := by decide +kernel
theorem dX2_letGo_42 : decode cX2_letGo 42 = .ok (.bipush 6, 2) := by decide +kernel
theorem dX2_letGo_44 : decode cX2_letGo 44 = .ok (.isub, 1) := by decide +kernel
theorem dX2_letGo_45 : decode cX2_letGo 45 = .ok (.if_icmp .ge 7, 3) := by decide +kernel
theorem dX2_letGo_48 : decode cX2_letGo 48 = .ok (.iconst 2, 1) := by decide +kernel
theorem dX2_letGo_49 : decode cX2_letGo 49 = .ok (.goto 4, 3) := by decide +kernel
theorem dX2_letGo_52 : decode cX2_letGo 52 = .ok (.iconst 0, 1) := by decide +kernel
theorem dX2_letGo_53 : decode cX2_letGo 53 = .ok (.putfield 70, 3) := by decide +kernel
theorem dX2_letGo_56 : decode cX2_letGo 56 = .ok (.aload_n 0, 1) := by decide +kernel
theorem dX2_letGo_57 : decode cX2_letGo 57 = .ok (.getfield 70, 3) := by decide +kernel
theorem dX2_letGo_60 : decode cX2_letGo 60 = .ok (.ifCond .le 5, 3) := by decide +kernel
theorem dX2_letGo_63 : decode cX2_letGo 63 = .ok (.iconst 0, 1) := by decide +kernel
theorem dX2_letGo_64 : decode cX2_letGo 64 = .ok (.ireturn, 1) := by decide +kernel
theorem dX2_letGo_65 : decode cX2_letGo 65 = .ok (.aload_n 0, 1) := by decide +kernel
theorem dX2_letGo_66 : decode cX2_letGo 66 = .ok (.getfield 54, 3) := by decide +kernel
theorem dX2_letGo_69 : decode cX2_letGo 69 = .ok (.aload_n 0, 1) := by decide +kernel
theorem dX2_letGo_70 : decode cX2_letGo 70 = .ok (.getfield 20, 3) := by decide +kernel
theorem dX2_letGo_73 : decode cX2_letGo 73 = .ok (.iload_n 1, 1) := by decide +kernel
theorem dX2_letGo_74 : decode cX2_letGo 74 = .ok (.iaload, 1) := by decide +kernel
theorem dX2_letGo_75 : decode cX2_letGo 75 = .ok (.dup2, 1) := by decide +kernel
theorem dX2_letGo_76 : decode cX2_letGo 76 = .ok (.laload, 1) := by decide +kernel
theorem dX2_letGo_77 : decode cX2_letGo 77 = .ok (.aload_n 0, 1) := by decide +kernel
theorem dX2_letGo_78 : decode cX2_letGo 78 = .ok (.getfield 26, 3) := by decide +kernel
theorem dX2_letGo_81 : decode cX2_letGo 81 = .ok (.iload_n 1, 1) := by decide +kernel
theorem dX2_letGo_82 : decode cX2_letGo 82 = .ok (.laload, 1) := by decide +kernel
theorem dX2_letGo_83 : decode cX2_letGo 83 = .ok (.ladd, 1) := by decide +kernel
theorem dX2_letGo_84 : decode cX2_letGo 84 = .ok (.lastore, 1) := by decide +kernel
theorem dX2_letGo_85 : decode cX2_letGo 85 = .ok (.aload_n 0, 1) := by decide +kernel
theorem dX2_letGo_86 : decode cX2_letGo 86 = .ok (.getfield 13, 3) := by decide +kernel
theorem dX2_letGo_89 : decode cX2_letGo 89 = .ok (.iload_n 1, 1) := by decide +kernel
theorem dX2_letGo_90 : decode cX2_letGo 90 = .ok (.iconst 0, 1) := by decide +kernel
theorem dX2_letGo_91 : decode cX2_letGo 91 = .ok (.bastore, 1) := by decide +kernel
theorem dX2_letGo_92 : decode cX2_letGo 92 = .ok (.aload_n 0, 1) := by decide +kernel
theorem dX2_letGo_93 : decode cX2_letGo 93 = .ok (.aload_n 0, 1) := by decide +kernel
theorem dX2_letGo_94 : decode cX2_letGo 94 = .ok (.getfield 20, 3) := by decide +kernel
theorem dX2_letGo_97 : decode cX2_letGo 97 = .ok (.iload_n 1, 1) := by decide +kernel
theorem dX2_letGo_98 : decode cX2_letGo 98 = .ok (.iaload, 1) := by decide +kernel
theorem dX2_letGo_99 : decode cX2_letGo 99 = .ok (.aload_n 0, 1) := by decide +kernel
theorem dX2_letGo_100 : decode cX2_letGo 100 = .ok (.getfield 23, 3) := by decide +kernel
theorem dX2_letGo_103 : decode cX2_letGo 103 = .ok (.iload_n 1, 1) := by decide +kernel
theorem dX2_letGo_104 : decode cX2_letGo 104 = .ok (.iaload, 1) := by decide +kernel
theorem dX2_letGo_105 : decode cX2_letGo 105 = .ok (.invokevirtual 132, 3) := by decide +kernel
theorem dX2_letGo_108 : decode cX2_letGo 108 = .ok (.ireturn, 1) := by decide +kernel
theorem dX2_join_0 : decode cX2_join 0 = .ok (.aload_n 0, 1) := by decide +kernel
theorem dX2_join_1 : decode cX2_join 1 = .ok (.aload_n 0, 1) := by decide +kernel
theorem dX2_join_2 : decode cX2_join 2 = .ok (.iload_n 1, 1) := by decide +kernel
theorem dX2_join_3 : decode cX2_join 3 = .ok (.invokevirtual 126, 3) := by decide +kernel
theorem dX2_join_6 : decode cX2_join 6 = .ok (.ifCond .eq 11, 3) := by decide +kernel
theorem dX2_join_9 : decode cX2_join 9 = .ok (.aload_n 0, 1) := by decide +kernel
theorem dX2_join_10 : decode cX2_join 10 = .ok (.iload_n 2, 1) := by decide +kernel
theorem dX2_join_11 : decode cX2_join 11 = .ok (.invokevirtual 126, 3) := by decide +kernel
theorem dX2_join_14 : decode cX2_join 14 = .ok (.ifCond .ne 7, 3) := by decide +kernel
theorem dX2_join_17 : decode cX2_join 17 = .ok (.iconst 1, 1) := by decide +kernel
theorem dX2_join_18 : decode cX2_join 18 = .ok (.goto 13, 3) := by decide +kernel
theorem dX2_join_21 : decode cX2_join 21 = .ok (.iload_n 1, 1) := by decide +kernel
theorem dX2_join_22 : decode cX2_join 22 = .ok (.iload_n 2, 1) := by decide +kernel
theorem dX2_join_23 : decode cX2_join 23 = .ok (.if_icmp .ne 7, 3) := by decide +kernel
theorem dX2_join_26 : decode cX2_join 26 = .ok (.iconst 2, 1) := by decide +kernel
theorem dX2_join_27 : decode cX2_join 27 = .ok (.goto 4, 3) := by decide +kernel
theorem dX2_join_30 : decode cX2_join 30 = .ok (.iconst 0, 1) := by decide +kernel
theorem dX2_join_31 : decode cX2_join 31 = .ok (.putfield 70, 3) := by decide +kernel
theorem dX2_join_34 : decode cX2_join 34 = .ok (.aload_n 0, 1) := by decide +kernel
theorem dX2_join_35 : decode cX2_join 35 = .ok (.getfield 70, 3) := by decide +kernel
theorem dX2_join_38 : decode cX2_join 38 = .ok (.ifCond .ne 92, 3) := by decide +kernel
theorem dX2_join_41 : decode cX2_join 41 = .ok (.aload_n 0, 1) := by decide +kernel
theorem dX2_join_42 : decode cX2_join 42 = .ok (.getfield 17, 3) := by decide +kernel
theorem dX2_join_45 : decode cX2_join 45 = .ok (.iload_n 1, 1) := by decide +kernel
theorem dX2_join_46 : decode cX2_join 46 = .ok (.baload, 1) := by decide +kernel
theorem dX2_join_47 : decode cX2_join 47 = .ok (.ifCond .eq 46, 3) := by decide +kernel
theorem dX2_join_50 : decode cX2_join 50 = .ok (.aload_n 0, 1) := by decide +kernel
theorem dX2_join_51 : decode cX2_join 51 = .ok (.getfield 17, 3) := by decide +kernel
theorem dX2_join_54 : decode cX2_join 54 = .ok (.iload_n 2, 1) := by decide +kernel
theorem dX2_join_55 : decode cX2_join 55 = .ok (.baload, 1) := by decide +kernel
theorem dX2_join_56 : decode cX2_join 56 = .ok (.ifCond .eq 37, 3) := by decide +kernel
theorem dX2_join_59 : decode cX2_join 59 = .ok (.aload_n 0, 1) := by decide +kernel
theorem dX2_join_60 : decode cX2_join 60 = .ok (.getfield 20, 3) := by decide +kernel
theorem dX2_join_63 : decode cX2_join 63 = .ok (.iload_n 1, 1) := by decide +kernel
theorem dX2_join_64 : decode cX2_join 64 = .ok (.iaload, 1) := by decide +kernel
theorem dX2_join_65 : decode cX2_join 65 = .ok (.aload_n 0, 1) := by decide +kernel
theorem dX2_join_66 : decode cX2_join 66 = .ok (.getfield 20, 3) := by decide +kernel
theorem dX2_join_69 : decode cX2_join 69 = .ok (.iload_n 2, 1) := by decide +kernel
theorem dX2_join_70 : decode cX2_join 70 = .ok (.iaload, 1) := by decide +kernel
theorem dX2_join_71 : decode cX2_join 71 = .ok (.if_icmp .ne 22, 3) := by decide +kernel
theorem dX2_join_74 : decode cX2_join 74 = .ok (.aload_n 0, 1) := by decide +kernel
theorem dX2_join_75 : decode cX2_join 75 = .ok (.getfield 42, 3) := by decide +kernel
theorem dX2_join_78 : decode cX2_join 78 = .ok (.iload_n 1, 1) := by decide +kernel
theorem dX2_join_79 : decode cX2_join 79 = .ok (.iaload, 1) := by decide +kernel
theorem dX2_join_80 : decode cX2_join 80 = .ok (.aload_n 0, 1) := by decide +kernel
theorem dX2_join_81 : decode cX2_join 81 = .ok (.getfield 42, 3) := by decide +kernel
theorem dX2_join_84 : decode cX2_join 84 = .ok (.iload_n 2, 1) := by decide +kernel
theorem dX2_join_85 : decode cX2_join 85 = .ok (.iaload, 1) := by decide +kernel
theorem dX2_join_86 : decode cX2_join 86 = .ok (.if_icmp .ne 7, 3) := by decide +kernel
theorem dX2_join_89 : decode cX2_join 89 = .ok (.iconst 1, 1) := by decide +kernel
theorem dX2_join_90 : decode cX2_join 90 = .ok (.goto 4, 3) := by decide +kernel
theorem dX2_join_93 : decode cX2_join 93 = .ok (.iconst 0, 1) := by decide +kernel
theorem dX2_join_94 : decode cX2_join 94 = .ok (.istore_n 3, 1) := by decide +kernel
theorem dX2_join_95 : decode cX2_join 95 = .ok (.aload_n 0, 1) := by decide +kernel
theorem dX2_join_96 : decode cX2_join 96 = .ok (.iload_n 3, 1) := by decide +kernel
theorem dX2_join_97 : decode cX2_join 97 = .ok (.ifCond .eq 25, 3) := by decide +kernel
theorem dX2_join_100 : decode cX2_join 100 = .ok (.aload_n 0, 1) := by decide +kernel
theorem dX2_join_101 : decode cX2_join 101 = .ok (.getfield 23, 3) := by decide +kernel
theorem dX2_join_104 : decode cX2_join 104 = .ok (.iload_n 1, 1) := by decide +kernel
theorem dX2_join_105 : decode cX2_join 105 = .ok (.iaload, 1) := by decide +kernel
theorem dX2_join_106 : decode cX2_join 106 = .ok (.i2l, 1) := by decide +kernel
theorem dX2_join_107 : decode cX2_join 107 = .ok (.aload_n 0, 1) := by decide +kernel
theorem dX2_join_108 : decode cX2_join 108 = .ok (.getfield 23, 3) := by decide +kernel
theorem dX2_join_111 : decode cX2_join 111 = .ok (.iload_n 2, 1) := by decide +kernel
theorem dX2_join_112 : decode cX2_join 112 = .ok (.iaload, 1) := by decide +kernel
theorem dX2_join_113 : decode cX2_join 113 = .ok (.i2l, 1) := by decide +kernel
theorem dX2_join_114 : decode cX2_join 114 = .ok (.ladd, 1) := by decide +kernel
theorem dX2_join_115 : decode cX2_join 115 = .ok (.ldc2_w 144, 3) := by decide +kernel
theorem dX2_join_118 : decode cX2_join 118 = .ok (.lcmp, 1) := by decide +kernel
theorem dX2_join_119 : decode cX2_join 119 = .ok (.ifCond .le 7, 3) := by decide +kernel
theorem dX2_join_122 : decode cX2_join 122 = .ok (.iconst 3, 1) := by decide +kernel
theorem dX2_join_123 : decode cX2_join 123 = .ok (.goto 4, 3) := by decide +kernel
theorem dX2_join_126 : decode cX2_join 126 = .ok (.iconst 0, 1) := by decide +kernel
theorem dX2_join_127 : decode cX2_join 127 = .ok (.putfield 70, 3) := by decide +kernel
theorem dX2_join_130 : decode cX2_join 130 = .ok (.aload_n 0, 1) := by decide +kernel
theorem dX2_join_131 : decode cX2_join 131 = .ok (.getfield 70, 3) := by decide +kernel
theorem dX2_join_134 : decode cX2_join 134 = .ok (.ifCond .le 5, 3) := by decide +kernel
theorem dX2_join_137 : decode cX2_join 137 = .ok (.iconst 0, 1) := by decide +kernel
theorem dX2_join_138 : decode cX2_join 138 = .ok (.ireturn, 1) := by decide +kernel
theorem dX2_join_139 : decode cX2_join 139 = .ok (.aload_n 0, 1) := by decide +kernel
theorem dX2_join_140 : decode cX2_join 140 = .ok (.getfield 23, 3) := by decide +kernel
theorem dX2_join_143 : decode cX2_join 143 = .ok (.iload_n 1, 1) := by decide +kernel
theorem dX2_join_144 : decode cX2_join 144 = .ok (.dup2, 1) := by decide +kernel
theorem dX2_join_145 : decode cX2_join 145 = .ok (.iaload, 1) := by decide +kernel
theorem dX2_join_146 : decode cX2_join 146 = .ok (.aload_n 0, 1) := by decide +kernel
theorem dX2_join_147 : decode cX2_join 147 = .ok (.getfield 23, 3) := by decide +kernel
theorem dX2_join_150 : decode cX2_join 150 = .ok (.iload_n 2, 1) := by decide +kernel
theorem dX2_join_151 : decode cX2_join 151 = .ok (.iaload, 1) := by decide +kernel
theorem dX2_join_152 : decode cX2_join 152 = .ok (.iadd, 1) := by decide +kernel
theorem dX2_join_153 : decode cX2_join 153 = .ok (.iastore, 1) := by decide +kernel
theorem dX2_join_154 : decode cX2_join 154 = .ok (.aload_n 0, 1) := by decide +kernel
theorem dX2_join_155 : decode cX2_join 155 = .ok (.getfield 26, 3) := by decide +kernel
theorem dX2_join_158 : decode cX2_join 158 = .ok (.iload_n 1, 1) := by decide +kernel
theorem dX2_join_159 : decode cX2_join 159 = .ok (.dup2, 1) := by decide +kernel
theorem dX2_join_160 : decode cX2_join 160 = .ok (.laload, 1) := by decide +kernel
theorem dX2_join_161 : decode cX2_join 161 = .ok (.aload_n 0, 1) := by decide +kernel
theorem dX2_join_162 : decode cX2_join 162 = .ok (.getfield 26, 3) := by decide +kernel
theorem dX2_join_165 : decode cX2_join 165 = .ok (.iload_n 2, 1) := by decide +kernel
theorem dX2_join_166 : decode cX2_join 166 = .ok (.laload, 1) := by decide +kernel
theorem dX2_join_167 : decode cX2_join 167 = .ok (.ladd, 1) := by decide +kernel
theorem dX2_join_168 : decode cX2_join 168 = .ok (.lastore, 1) := by decide +kernel
theorem dX2_join_169 : decode cX2_join 169 = .ok (.aload_n 0, 1) := by decide +kernel
theorem dX2_join_170 : decode cX2_join 170 = .ok (.getfield 36, 3) := by decide +kernel
theorem dX2_join_173 : decode cX2_join 173 = .ok (.iload_n 1, 1) := by decide +kernel
theorem dX2_join_174 : decode cX2_join 174 = .ok (.dup2, 1) := by decide +kernel
theorem dX2_join_175 : decode cX2_join 175 = .ok (.laload, 1) := by decide +kernel
theorem dX2_join_176 : decode cX2_join 176 = .ok (.aload_n 0, 1) := by decide +kernel
theorem dX2_join_177 : decode cX2_join 177 = .ok (.getfield 36, 3) := by decide +kernel
theorem dX2_join_180 : decode cX2_join 180 = .ok (.iload_n 2, 1) := by decide +kernel
theorem dX2_join_181 : decode cX2_join 181 = .ok (.laload, 1) := by decide +kernel
theorem dX2_join_182 : decode cX2_join 182 = .ok (.ladd, 1) := by decide +kernel
theorem dX2_join_183 : decode cX2_join 183 = .ok (.lastore, 1) := by decide +kernel
theorem dX2_join_184 : decode cX2_join 184 = .ok (.aload_n 0, 1) := by decide +kernel
theorem dX2_join_185 : decode cX2_join 185 = .ok (.getfield 48, 3) := by decide +kernel
theorem dX2_join_188 : decode cX2_join 188 = .ok (.iload_n 1, 1) := by decide +kernel
theorem dX2_join_189 : decode cX2_join 189 = .ok (.iconst (-1), 1) := by decide +kernel
theorem dX2_join_190 : decode cX2_join 190 = .ok (.iastore, 1) := by decide +kernel
theorem dX2_join_191 : decode cX2_join 191 = .ok (.aload_n 0, 1) := by decide +kernel
theorem dX2_join_192 : decode cX2_join 192 = .ok (.getfield 13, 3) := by decide +kernel
theorem dX2_join_195 : decode cX2_join 195 = .ok (.iload_n 2, 1) := by decide +kernel
theorem dX2_join_196 : decode cX2_join 196 = .ok (.iconst 0, 1) := by decide +kernel
theorem dX2_join_197 : decode cX2_join 197 = .ok (.bastore, 1) := by decide +kernel
theorem dX2_join_198 : decode cX2_join 198 = .ok (.aload_n 0, 1) := by decide +kernel
theorem dX2_join_199 : decode cX2_join 199 = .ok (.getfield 23, 3) := by decide +kernel
theorem dX2_join_202 : decode cX2_join 202 = .ok (.iload_n 1, 1) := by decide +kernel
theorem dX2_join_203 : decode cX2_join 203 = .ok (.iaload, 1) := by decide +kernel
theorem dX2_join_204 : decode cX2_join 204 = .ok (.ireturn, 1) := by decide +kernel
theorem dX2_endTerm_0 : decode cX2_endTerm 0 = .ok (.aload_n 0, 1) := by decide +kernel
theorem dX2_endTerm_1 : decode cX2_endTerm 1 = .ok (.getfield 45, 3) := by decide +kernel
theorem dX2_endTerm_4 : decode cX2_endTerm 4 = .ok (.iload_n 1, 1) := by decide +kernel
theorem dX2_endTerm_5 : decode cX2_endTerm 5 = .ok (.iaload, 1) := by decide +kernel
theorem dX2_endTerm_6 : decode cX2_endTerm 6 = .ok (.ifCond .ne 38, 3) := by decide +kernel
theorem dX2_endTerm_9 : decode cX2_endTerm 9 = .ok (.aload_n 0, 1) := by decide +kernel
theorem dX2_endTerm_10 : decode cX2_endTerm 10 = .ok (.getfield 23, 3) := by decide +kernel
theorem dX2_endTerm_13 : decode cX2_endTerm 13 = .ok (.iload_n 1, 1) := by decide +kernel
theorem dX2_endTerm_14 : decode cX2_endTerm 14 = .ok (.iaload, 1) := by decide +kernel
theorem dX2_endTerm_15 : decode cX2_endTerm 15 = .ok (.istore_n 2, 1) := by decide +kernel
theorem dX2_endTerm_16 : decode cX2_endTerm 16 = .ok (.aload_n 0, 1) := by decide +kernel
theorem dX2_endTerm_17 : decode cX2_endTerm 17 = .ok (.iload_n 1, 1) := by decide +kernel
theorem dX2_endTerm_18 : decode cX2_endTerm 18 = .ok (.invokevirtual 129, 3) := by decide +kernel
theorem dX2_endTerm_21 : decode cX2_endTerm 21 = .ok (.istore_n 3, 1) := by decide +kernel
theorem dX2_endTerm_22 : decode cX2_endTerm 22 = .ok (.aload_n 0, 1) := by decide +kernel
theorem dX2_endTerm_23 : decode cX2_endTerm 23 = .ok (.getfield 51, 3) := by decide +kernel
theorem dX2_endTerm_26 : decode cX2_endTerm 26 = .ok (.aload_n 0, 1) := by decide +kernel
theorem dX2_endTerm_27 : decode cX2_endTerm 27 = .ok (.getfield 20, 3) := by decide +kernel
theorem dX2_endTerm_30 : decode cX2_endTerm 30 = .ok (.iload_n 1, 1) := by decide +kernel
theorem dX2_endTerm_31 : decode cX2_endTerm 31 = .ok (.iaload, 1) := by decide +kernel
theorem dX2_endTerm_32 : decode cX2_endTerm 32 = .ok (.dup2, 1) := by decide +kernel
theorem dX2_endTerm_33 : decode cX2_endTerm 33 = .ok (.laload, 1) := by decide +kernel
theorem dX2_endTerm_34 : decode cX2_endTerm 34 = .ok (.iload_n 2, 1) := by decide +kernel
theorem dX2_endTerm_35 : decode cX2_endTerm 35 = .ok (.i2l, 1) := by decide +kernel
theorem dX2_endTerm_36 : decode cX2_endTerm 36 = .ok (.iload_n 3, 1) := by decide +kernel
theorem dX2_endTerm_37 : decode cX2_endTerm 37 = .ok (.i2l, 1) := by decide +kernel
theorem dX2_endTerm_38 : decode cX2_endTerm 38 = .ok (.ladd, 1) := by decide +kernel
theorem dX2_endTerm_39 : decode cX2_endTerm 39 = .ok (.ladd, 1) := by decide +kernel
theorem dX2_endTerm_40 : decode cX2_endTerm 40 = .ok (.lastore, 1) := by decide +kernel
theorem dX2_endTerm_41 : decode cX2_endTerm 41 = .ok (.goto 59, 3) := by decide +kernel
theorem dX2_endTerm_44 : decode cX2_endTerm 44 = .ok (.aload_n 0, 1) := by decide +kernel
theorem dX2_endTerm_45 : decode cX2_endTerm 45 = .ok (.iload_n 1, 1) := by decide +kernel
theorem dX2_endTerm_46 : decode cX2_endTerm 46 = .ok (.invokevirtual 108, 3) := by decide +kernel
theorem dX2_endTerm_49 : decode cX2_endTerm 49 = .ok (.istore_n 2, 1) := by decide +kernel
theorem dX2_endTerm_50 : decode cX2_endTerm 50 = .ok (.aload_n 0, 1) := by decide +kernel
theorem dX2_endTerm_51 : decode cX2_endTerm 51 = .ok (.getfield 45, 3) := by decide +kernel
theorem dX2_endTerm_54 : decode cX2_endTerm 54 = .ok (.iload_n 1, 1) := by decide +kernel
theorem dX2_endTerm_55 : decode cX2_endTerm 55 = .ok (.iaload, 1) := by decide +kernel
theorem dX2_endTerm_56 : decode cX2_endTerm 56 = .ok (.iconst 1, 1) := by decide +kernel
theorem dX2_endTerm_57 : decode cX2_endTerm 57 = .ok (.if_icmp .ne 18, 3) := by decide +kernel
theorem dX2_endTerm_60 : decode cX2_endTerm 60 = .ok (.aload_n 0, 1) := by decide +kernel
theorem dX2_endTerm_61 : decode cX2_endTerm 61 = .ok (.aload_n 0, 1) := by decide +kernel
theorem dX2_endTerm_62 : decode cX2_endTerm 62 = .ok (.getfield 20, 3) := by decide +kernel
theorem dX2_endTerm_65 : decode cX2_endTerm 65 = .ok (.iload_n 1, 1) := by decide +kernel
theorem dX2_endTerm_66 : decode cX2_endTerm 66 = .ok (.iaload, 1) := by decide +kernel
theorem dX2_endTerm_67 : decode cX2_endTerm 67 = .ok (.iload_n 2, 1) := by decide +kernel
theorem dX2_endTerm_68 : decode cX2_endTerm 68 = .ok (.invokevirtual 132, 3) := by decide +kernel
theorem dX2_endTerm_71 : decode cX2_endTerm 71 = .ok (.pop, 1) := by decide +kernel
theorem dX2_endTerm_72 : decode cX2_endTerm 72 = .ok (.goto 13, 3) := by decide +kernel
theorem dX2_endTerm_75 : decode cX2_endTerm 75 = .ok (.aload_n 0, 1) := by decide +kernel
theorem dX2_endTerm_76 : decode cX2_endTerm 76 = .ok (.getfield 23, 3) := by decide +kernel
theorem dX2_endTerm_79 : decode cX2_endTerm 79 = .ok (.iload_n 1, 1) := by decide +kernel
theorem dX2_endTerm_80 : decode cX2_endTerm 80 = .ok (.dup2, 1) := by decide +kernel
theorem dX2_endTerm_81 : decode cX2_endTerm 81 = .ok (.iaload, 1) := by decide +kernel
theorem dX2_endTerm_82 : decode cX2_endTerm 82 = .ok (.iload_n 2, 1) := by decide +kernel
theorem dX2_endTerm_83 : decode cX2_endTerm 83 = .ok (.iadd, 1) := by decide +kernel
theorem dX2_endTerm_84 : decode cX2_endTerm 84 = .ok (.iastore, 1) := by decide +kernel
theorem dX2_endTerm_85 : decode cX2_endTerm 85 = .ok (.aload_n 0, 1) := by decide +kernel
theorem dX2_endTerm_86 : decode cX2_endTerm 86 = .ok (.iload_n 1, 1) := by decide +kernel
theorem dX2_endTerm_87 : decode cX2_endTerm 87 = .ok (.invokevirtual 122, 3) := by decide +kernel
theorem dX2_endTerm_90 : decode cX2_endTerm 90 = .ok (.aload_n 0, 1) := by decide +kernel
theorem dX2_endTerm_91 : decode cX2_endTerm 91 = .ok (.getfield 48, 3) := by decide +kernel
theorem dX2_endTerm_94 : decode cX2_endTerm 94 = .ok (.iload_n 1, 1) := by decide +kernel
theorem dX2_endTerm_95 : decode cX2_endTerm 95 = .ok (.aload_n 0, 1) := by decide +kernel
theorem dX2_endTerm_96 : decode cX2_endTerm 96 = .ok (.getfield 119, 3) := by decide +kernel
theorem dX2_endTerm_99 : decode cX2_endTerm 99 = .ok (.iastore, 1) := by decide +kernel
theorem dX2_endTerm_100 : decode cX2_endTerm 100 = .ok (.return_, 1) := by decide +kernel
theorem dX2_pass_0 : decode cX2_pass 0 = .ok (.aload_n 0, 1) := by decide +kernel
theorem dX2_pass_1 : decode cX2_pass 1 = .ok (.iload_n 1, 1) := by decide +kernel
theorem dX2_pass_2 : decode cX2_pass 2 = .ok (.iconst 1, 1) := by decide +kernel
theorem dX2_pass_3 : decode cX2_pass 3 = .ok (.bipush 100, 2) := by decide +kernel
theorem dX2_pass_5 : decode cX2_pass 5 = .ok (.invokestatic 73, 3) := by decide +kernel
theorem dX2_pass_8 : decode cX2_pass 8 = .ok (.ifCond .ne 7, 3) := by decide +kernel
theorem dX2_pass_11 : decode cX2_pass 11 = .ok (.iconst 1, 1) := by decide +kernel
theorem dX2_pass_12 : decode cX2_pass 12 = .ok (.goto 20, 3) := by decide +kernel
theorem dX2_pass_15 : decode cX2_pass 15 = .ok (.aload_n 0, 1) := by decide +kernel
theorem dX2_pass_16 : decode cX2_pass 16 = .ok (.getfield 119, 3) := by decide +kernel
theorem dX2_pass_19 : decode cX2_pass 19 = .ok (.iload_n 1, 1) := by decide +kernel
theorem dX2_pass_20 : decode cX2_pass 20 = .ok (.iadd, 1) := by decide +kernel
theorem dX2_pass_21 : decode cX2_pass 21 = .ok (.sipush 3000, 3) := by decide +kernel
theorem dX2_pass_24 : decode cX2_pass 24 = .ok (.if_icmp .le 7, 3) := by decide +kernel
theorem dX2_pass_27 : decode cX2_pass 27 = .ok (.iconst 2, 1) := by decide +kernel
theorem dX2_pass_28 : decode cX2_pass 28 = .ok (.goto 4, 3) := by decide +kernel
theorem dX2_pass_31 : decode cX2_pass 31 = .ok (.iconst 0, 1) := by decide +kernel
theorem dX2_pass_32 : decode cX2_pass 32 = .ok (.putfield 70, 3) := by decide +kernel
theorem dX2_pass_35 : decode cX2_pass 35 = .ok (.iconst 0, 1) := by decide +kernel
theorem dX2_pass_36 : decode cX2_pass 36 = .ok (.istore_n 2, 1) := by decide +kernel
theorem dX2_pass_37 : decode cX2_pass 37 = .ok (.iconst 0, 1) := by decide +kernel
theorem dX2_pass_38 : decode cX2_pass 38 = .ok (.istore_n 3, 1) := by decide +kernel
theorem dX2_pass_39 : decode cX2_pass 39 = .ok (.iload_n 3, 1) := by decide +kernel
theorem dX2_pass_40 : decode cX2_pass 40 = .ok (.iload_n 1, 1) := by decide +kernel
theorem dX2_pass_41 : decode cX2_pass 41 = .ok (.if_icmp .ge 196, 3) := by decide +kernel
theorem dX2_pass_44 : decode cX2_pass 44 = .ok (.aload_n 0, 1) := by decide +kernel
theorem dX2_pass_45 : decode cX2_pass 45 = .ok (.getfield 70, 3) := by decide +kernel
theorem dX2_pass_48 : decode cX2_pass 48 = .ok (.ifCond .ne 189, 3) := by decide +kernel
theorem dX2_pass_51 : decode cX2_pass 51 = .ok (.iconst 0, 1) := by decide +kernel
theorem dX2_pass_52 : decode cX2_pass 52 = .ok (.istore 4, 2) := by decide +kernel
theorem dX2_pass_54 : decode cX2_pass 54 = .ok (.iload 4, 2) := by decide +kernel
theorem dX2_pass_56 : decode cX2_pass 56 = .ok (.aload_n 0, 1) := by decide +kernel
theorem dX2_pass_57 : decode cX2_pass 57 = .ok (.getfield 77, 3) := by decide +kernel
theorem dX2_pass_60 : decode cX2_pass 60 = .ok (.if_icmp .ge 39, 3) := by decide +kernel
theorem dX2_pass_63 : decode cX2_pass 63 = .ok (.aload_n 0, 1) := by decide +kernel
theorem dX2_pass_64 : decode cX2_pass 64 = .ok (.getfield 26, 3) := by decide +kernel
theorem dX2_pass_67 : decode cX2_pass 67 = .ok (.iload 4, 2) := by decide +kernel
theorem dX2_pass_69 : decode cX2_pass 69 = .ok (.dup2, 1) := by decide +kernel
theorem dX2_pass_70 : decode cX2_pass 70 = .ok (.laload, 1) := by decide +kernel
theorem dX2_pass_71 : decode cX2_pass 71 = .ok (.aload_n 0, 1) := by decide +kernel
theorem dX2_pass_72 : decode cX2_pass 72 = .ok (.getfield 13, 3) := by decide +kernel
theorem dX2_pass_75 : decode cX2_pass 75 = .ok (.iload 4, 2) := by decide +kernel
theorem dX2_pass_77 : decode cX2_pass 77 = .ok (.baload, 1) := by decide +kernel
theorem dX2_pass_78 : decode cX2_pass 78 = .ok (.ifCond .eq 12, 3) := by decide +kernel
theorem dX2_pass_81 : decode cX2_pass 81 = .ok (.aload_n 0, 1) := by decide +kernel
theorem dX2_pass_82 : decode cX2_pass 82 = .ok (.iload 4, 2) := by decide +kernel
theorem dX2_pass_84 : decode cX2_pass 84 = .ok (.invokevirtual 136, 3) := by decide +kernel
theorem dX2_pass_87 : decode cX2_pass 87 = .ok (.goto 4, 3) := by decide +kernel
theorem dX2_pass_90 : decode cX2_pass 90 = .ok (.lconst 0, 1) := by decide +kernel
theorem dX2_pass_91 : decode cX2_pass 91 = .ok (.ladd, 1) := by decide +kernel
theorem dX2_pass_92 : decode cX2_pass 92 = .ok (.lastore, 1) := by decide +kernel
theorem dX2_pass_93 : decode cX2_pass 93 = .ok (.iinc 4 1, 3) := by decide +kernel
theorem dX2_pass_96 : decode cX2_pass 96 = .ok (.goto (-42), 3) := by decide +kernel
theorem dX2_pass_99 : decode cX2_pass 99 = .ok (.aload_n 0, 1) := by decide +kernel
theorem dX2_pass_100 : decode cX2_pass 100 = .ok (.dup, 1) := by decide +kernel
theorem dX2_pass_101 : decode cX2_pass 101 = .ok (.getfield 119, 3) := by decide +kernel
theorem dX2_pass_104 : decode cX2_pass 104 = .ok (.iconst 1, 1) := by decide +kernel
theorem dX2_pass_105 : decode cX2_pass 105 = .ok (.iadd, 1) := by decide +kernel
theorem dX2_pass_106 : decode cX2_pass 106 = .ok (.putfield 119, 3) := by decide +kernel
theorem dX2_pass_109 : decode cX2_pass 109 = .ok (.iconst 0, 1) := by decide +kernel
theorem dX2_pass_110 : decode cX2_pass 110 = .ok (.istore 4, 2) := by decide +kernel
theorem dX2_pass_112 : decode cX2_pass 112 = .ok (.iload 4, 2) := by decide +kernel
theorem dX2_pass_114 : decode cX2_pass 114 = .ok (.aload_n 0, 1) := by decide +kernel
theorem dX2_pass_115 : decode cX2_pass 115 = .ok (.getfield 77, 3) := by decide +kernel
theorem dX2_pass_118 : decode cX2_pass 118 = .ok (.if_icmp .ge 113, 3) := by decide +kernel
theorem dX2_pass_121 : decode cX2_pass 121 = .ok (.aload_n 0, 1) := by decide +kernel
theorem dX2_pass_122 : decode cX2_pass 122 = .ok (.getfield 13, 3) := by decide +kernel
theorem dX2_pass_125 : decode cX2_pass 125 = .ok (.iload 4, 2) := by decide +kernel
theorem dX2_pass_127 : decode cX2_pass 127 = .ok (.baload, 1) := by decide +kernel
theorem dX2_pass_128 : decode cX2_pass 128 = .ok (.ifCond .eq 54, 3) := by decide +kernel
theorem dX2_pass_131 : decode cX2_pass 131 = .ok (.aload_n 0, 1) := by decide +kernel
theorem dX2_pass_132 : decode cX2_pass 132 = .ok (.getfield 17, 3) := by decide +kernel
theorem dX2_pass_135 : decode cX2_pass 135 = .ok (.iload 4, 2) := by decide +kernel
theorem dX2_pass_137 : decode cX2_pass 137 = .ok (.baload, 1) := by decide +kernel
theorem dX2_pass_138 : decode cX2_pass 138 = .ok (.ifCond .ne 44, 3) := by decide +kernel
theorem dX2_pass_141 : decode cX2_pass 141 = .ok (.aload_n 0, 1) := by decide +kernel
theorem dX2_pass_142 : decode cX2_pass 142 = .ok (.getfield 30, 3) := by decide +kernel
theorem dX2_pass_145 : decode cX2_pass 145 = .ok (.iload 4, 2) := by decide +kernel
theorem dX2_pass_147 : decode cX2_pass 147 = .ok (.iaload, 1) := by decide +kernel
theorem dX2_pass_148 : decode cX2_pass 148 = .ok (.ifCond .le 34, 3) := by decide +kernel
theorem dX2_pass_151 : decode cX2_pass 151 = .ok (.aload_n 0, 1) := by decide +kernel
theorem dX2_pass_152 : decode cX2_pass 152 = .ok (.getfield 119, 3) := by decide +kernel
theorem dX2_pass_155 : decode cX2_pass 155 = .ok (.aload_n 0, 1) := by decide +kernel
theorem dX2_pass_156 : decode cX2_pass 156 = .ok (.getfield 33, 3) := by decide +kernel
theorem dX2_pass_159 : decode cX2_pass 159 = .ok (.iload 4, 2) := by decide +kernel
theorem dX2_pass_161 : decode cX2_pass 161 = .ok (.iaload, 1) := by decide +kernel
theorem dX2_pass_162 : decode cX2_pass 162 = .ok (.bipush 32, 2) := by decide +kernel
theorem dX2_pass_164 : decode cX2_pass 164 = .ok (.iadd, 1) := by decide +kernel
theorem dX2_pass_165 : decode cX2_pass 165 = .ok (.bipush 7, 2) := by decide +kernel
theorem dX2_pass_167 : decode cX2_pass 167 = .ok (.iadd, 1) := by decide +kernel
theorem dX2_pass_168 : decode cX2_pass 168 = .ok (.if_icmp .ne 14, 3) := by decide +kernel
theorem dX2_pass_171 : decode cX2_pass 171 = .ok (.aload_n 0, 1) := by decide +kernel
theorem dX2_pass_172 : decode cX2_pass 172 = .ok (.getfield 30, 3) := by decide +kernel
theorem dX2_pass_175 : decode cX2_pass 175 = .ok (.iload 4, 2) := by decide +kernel
theorem dX2_pass_177 : decode cX2_pass 177 = .ok (.iconst 0, 1) := by decide +kernel
theorem dX2_pass_178 : decode cX2_pass 178 = .ok (.iastore, 1) := by decide +kernel
theorem dX2_pass_179 : decode cX2_pass 179 = .ok (.goto 46, 3) := by decide +kernel
theorem dX2_pass_182 : decode cX2_pass 182 = .ok (.aload_n 0, 1) := by decide +kernel
theorem dX2_pass_183 : decode cX2_pass 183 = .ok (.getfield 13, 3) := by decide +kernel
theorem dX2_pass_186 : decode cX2_pass 186 = .ok (.iload 4, 2) := by decide +kernel
theorem dX2_pass_188 : decode cX2_pass 188 = .ok (.baload, 1) := by decide +kernel
theorem dX2_pass_189 : decode cX2_pass 189 = .ok (.ifCond .eq 36, 3) := by decide +kernel
theorem dX2_pass_192 : decode cX2_pass 192 = .ok (.aload_n 0, 1) := by decide +kernel
theorem dX2_pass_193 : decode cX2_pass 193 = .ok (.getfield 17, 3) := by decide +kernel
theorem dX2_pass_196 : decode cX2_pass 196 = .ok (.iload 4, 2) := by decide +kernel
theorem dX2_pass_198 : decode cX2_pass 198 = .ok (.baload, 1) := by decide +kernel
theorem dX2_pass_199 : decode cX2_pass 199 = .ok (.ifCond .eq 26, 3) := by decide +kernel
theorem dX2_pass_202 : decode cX2_pass 202 = .ok (.aload_n 0, 1) := by decide +kernel
theorem dX2_pass_203 : decode cX2_pass 203 = .ok (.getfield 42, 3) := by decide +kernel
theorem dX2_pass_206 : decode cX2_pass 206 = .ok (.iload 4, 2) := by decide +kernel
theorem dX2_pass_208 : decode cX2_pass 208 = .ok (.iaload, 1) := by decide +kernel
theorem dX2_pass_209 : decode cX2_pass 209 = .ok (.aload_n 0, 1) := by decide +kernel
theorem dX2_pass_210 : decode cX2_pass 210 = .ok (.getfield 119, 3) := by decide +kernel
theorem dX2_pass_213 : decode cX2_pass 213 = .ok (.if_icmp .ne 12, 3) := by decide +kernel
theorem dX2_pass_216 : decode cX2_pass 216 = .ok (.aload_n 0, 1) := by decide +kernel
theorem dX2_pass_217 : decode cX2_pass 217 = .ok (.iload 4, 2) := by decide +kernel
theorem dX2_pass_219 : decode cX2_pass 219 = .ok (.invokevirtual 146, 3) := by decide +kernel
theorem dX2_pass_222 : decode cX2_pass 222 = .ok (.iinc 2 1, 3) := by decide +kernel
theorem dX2_pass_225 : decode cX2_pass 225 = .ok (.iinc 4 1, 3) := by decide +kernel
theorem dX2_pass_228 : decode cX2_pass 228 = .ok (.goto (-116), 3) := by decide +kernel
theorem dX2_pass_231 : decode cX2_pass 231 = .ok (.iinc 3 1, 3) := by decide +kernel
theorem dX2_pass_234 : decode cX2_pass 234 = .ok (.goto (-195), 3) := by decide +kernel
theorem dX2_pass_237 : decode cX2_pass 237 = .ok (.iload_n 2, 1) := by decide +kernel
theorem dX2_pass_238 : decode cX2_pass 238 = .ok (.ireturn, 1) := by decide +kernel
theorem dX2_today_0 : decode cX2_today 0 = .ok (.aload_n 0, 1) := by decide +kernel
theorem dX2_today_1 : decode cX2_today 1 = .ok (.iconst 0, 1) := by decide +kernel
theorem dX2_today_2 : decode cX2_today 2 = .ok (.putfield 70, 3) := by decide +kernel
theorem dX2_today_5 : decode cX2_today 5 = .ok (.aload_n 0, 1) := by decide +kernel
theorem dX2_today_6 : decode cX2_today 6 = .ok (.getfield 119, 3) := by decide +kernel
theorem dX2_today_9 : decode cX2_today 9 = .ok (.ireturn, 1) := by decide +kernel
theorem dX2_lots_0 : decode cX2_lots 0 = .ok (.aload_n 0, 1) := by decide +kernel
theorem dX2_lots_1 : decode cX2_lots 1 = .ok (.iconst 0, 1) := by decide +kernel
theorem dX2_lots_2 : decode cX2_lots 2 = .ok (.putfield 70, 3) := by decide +kernel
theorem dX2_lots_5 : decode cX2_lots 5 = .ok (.iconst 0, 1) := by decide +kernel
theorem dX2_lots_6 : decode cX2_lots 6 = .ok (.istore_n 1, 1) := by decide +kernel
theorem dX2_lots_7 : decode cX2_lots 7 = .ok (.iconst 0, 1) := by decide +kernel
theorem dX2_lots_8 : decode cX2_lots 8 = .ok (.istore_n 2, 1) := by decide +kernel
theorem dX2_lots_9 : decode cX2_lots 9 = .ok (.iload_n 2, 1) := by decide +kernel
theorem dX2_lots_10 : decode cX2_lots 10 = .ok (.aload_n 0, 1) := by decide +kernel
theorem dX2_lots_11 : decode cX2_lots 11 = .ok (.getfield 77, 3) := by decide +kernel
theorem dX2_lots_14 : decode cX2_lots 14 = .ok (.if_icmp .ge 26, 3) := by decide +kernel
theorem dX2_lots_17 : decode cX2_lots 17 = .ok (.iload_n 1, 1) := by decide +kernel
theorem dX2_lots_18 : decode cX2_lots 18 = .ok (.aload_n 0, 1) := by decide +kernel
theorem dX2_lots_19 : decode cX2_lots 19 = .ok (.getfield 13, 3) := by decide +kernel
theorem dX2_lots_22 : decode cX2_lots 22 = .ok (.iload_n 2, 1) := by decide +kernel
theorem dX2_lots_23 : decode cX2_lots 23 = .ok (.baload, 1) := by decide +kernel
theorem dX2_lots_24 : decode cX2_lots 24 = .ok (.ifCond .eq 7, 3) := by decide +kernel
theorem dX2_lots_27 : decode cX2_lots 27 = .ok (.iconst 1, 1) := by decide +kernel
theorem dX2_lots_28 : decode cX2_lots 28 = .ok (.goto 4, 3) := by decide +kernel
theorem dX2_lots_31 : decode cX2_lots 31 = .ok (.iconst 0, 1) := by decide +kernel
theorem dX2_lots_32 : decode cX2_lots 32 = .ok (.iadd, 1) := by decide +kernel
theorem dX2_lots_33 : decode cX2_lots 33 = .ok (.istore_n 1, 1) := by decide +kernel
theorem dX2_lots_34 : decode cX2_lots 34 = .ok (.iinc 2 1, 3) := by decide +kernel
theorem dX2_lots_37 : decode cX2_lots 37 = .ok (.goto (-28), 3) := by decide +kernel
theorem dX2_lots_40 : decode cX2_lots 40 = .ok (.iload_n 1, 1) := by decide +kernel
theorem dX2_lots_41 : decode cX2_lots 41 = .ok (.ireturn, 1) := by decide +kernel
theorem dX2_asksFor_0 : decode cX2_asksFor 0 = .ok (.aload_n 0, 1) := by decide +kernel
theorem dX2_asksFor_1 : decode cX2_asksFor 1 = .ok (.aload_n 0, 1) := by decide +kernel
theorem dX2_asksFor_2 : decode cX2_asksFor 2 = .ok (.iload_n 1, 1) := by decide +kernel
theorem dX2_asksFor_3 : decode cX2_asksFor 3 = .ok (.invokevirtual 126, 3) := by decide +kernel
theorem dX2_asksFor_6 : decode cX2_asksFor 6 = .ok (.ifCond .eq 7, 3) := by decide +kernel
theorem dX2_asksFor_9 : decode cX2_asksFor 9 = .ok (.iconst 0, 1) := by decide +kernel
theorem dX2_asksFor_10 : decode cX2_asksFor 10 = .ok (.goto 4, 3) := by decide +kernel
theorem dX2_asksFor_13 : decode cX2_asksFor 13 = .ok (.iconst 1, 1) := by decide +kernel
theorem dX2_asksFor_14 : decode cX2_asksFor 14 = .ok (.putfield 70, 3) := by decide +kernel
theorem dX2_asksFor_17 : decode cX2_asksFor 17 = .ok (.aload_n 0, 1) := by decide +kernel
theorem dX2_asksFor_18 : decode cX2_asksFor 18 = .ok (.getfield 70, 3) := by decide +kernel
theorem dX2_asksFor_21 : decode cX2_asksFor 21 = .ok (.ifCond .ne 7, 3) := by decide +kernel
theorem dX2_asksFor_24 : decode cX2_asksFor 24 = .ok (.iconst 1, 1) := by decide +kernel
theorem dX2_asksFor_25 : decode cX2_asksFor 25 = .ok (.goto 4, 3) := by decide +kernel
theorem dX2_asksFor_28 : decode cX2_asksFor 28 = .ok (.iconst 0, 1) := by decide +kernel
theorem dX2_asksFor_29 : decode cX2_asksFor 29 = .ok (.ireturn, 1) := by decide +kernel
theorem dX2_principal_0 : decode cX2_principal 0 = .ok (.aload_n 0, 1) := by decide +kernel
theorem dX2_principal_1 : decode cX2_principal 1 = .ok (.iload_n 1, 1) := by decide +kernel
theorem dX2_principal_2 : decode cX2_principal 2 = .ok (.invokevirtual 149, 3) := by decide +kernel
theorem dX2_principal_5 : decode cX2_principal 5 = .ok (.ifCond .eq 12, 3) := by decide +kernel
theorem dX2_principal_8 : decode cX2_principal 8 = .ok (.aload_n 0, 1) := by decide +kernel
theorem dX2_principal_9 : decode cX2_principal 9 = .ok (.getfield 23, 3) := by decide +kernel
theorem dX2_principal_12 : decode cX2_principal 12 = .ok (.iload_n 1, 1) := by decide +kernel
theorem dX2_principal_13 : decode cX2_principal 13 = .ok (.iaload, 1) := by decide +kernel
theorem dX2_principal_14 : decode cX2_principal 14 = .ok (.goto 4, 3) := by decide +kernel
theorem dX2_principal_17 : decode cX2_principal 17 = .ok (.iconst 0, 1) := by decide +kernel
theorem dX2_principal_18 : decode cX2_principal 18 = .ok (.ireturn, 1) := by decide +kernel
theorem dX2_earned_0 : decode cX2_earned 0 = .ok (.aload_n 0, 1) := by decide +kernel
theorem dX2_earned_1 : decode cX2_earned 1 = .ok (.iload_n 1, 1) := by decide +kernel
theorem dX2_earned_2 : decode cX2_earned 2 = .ok (.invokevirtual 149, 3) := by decide +kernel
theorem dX2_earned_5 : decode cX2_earned 5 = .ok (.ifCond .eq 12, 3) := by decide +kernel
theorem dX2_earned_8 : decode cX2_earned 8 = .ok (.aload_n 0, 1) := by decide +kernel
theorem dX2_earned_9 : decode cX2_earned 9 = .ok (.getfield 26, 3) := by decide +kernel
theorem dX2_earned_12 : decode cX2_earned 12 = .ok (.iload_n 1, 1) := by decide +kernel
theorem dX2_earned_13 : decode cX2_earned 13 = .ok (.laload, 1) := by decide +kernel
theorem dX2_earned_14 : decode cX2_earned 14 = .ok (.goto 4, 3) := by decide +kernel
theorem dX2_earned_17 : decode cX2_earned 17 = .ok (.lconst 0, 1) := by decide +kernel
theorem dX2_earned_18 : decode cX2_earned 18 = .ok (.lreturn, 1) := by decide +kernel
theorem dX2_partsOfDay_0 : decode cX2_partsOfDay 0 = .ok (.aload_n 0, 1) := by decide +kernel
theorem dX2_partsOfDay_1 : decode cX2_partsOfDay 1 = .ok (.iload_n 1, 1) := by decide +kernel
theorem dX2_partsOfDay_2 : decode cX2_partsOfDay 2 = .ok (.invokevirtual 149, 3) := by decide +kernel
theorem dX2_partsOfDay_5 : decode cX2_partsOfDay 5 = .ok (.ifCond .eq 11, 3) := by decide +kernel
theorem dX2_partsOfDay_8 : decode cX2_partsOfDay 8 = .ok (.aload_n 0, 1) := by decide +kernel
theorem dX2_partsOfDay_9 : decode cX2_partsOfDay 9 = .ok (.iload_n 1, 1) := by decide +kernel
theorem dX2_partsOfDay_10 : decode cX2_partsOfDay 10 = .ok (.invokevirtual 136, 3) := by decide +kernel
theorem dX2_partsOfDay_13 : decode cX2_partsOfDay 13 = .ok (.goto 4, 3) := by decide +kernel
theorem dX2_partsOfDay_16 : decode cX2_partsOfDay 16 = .ok (.lconst 0, 1) := by decide +kernel
theorem dX2_partsOfDay_17 : decode cX2_partsOfDay 17 = .ok (.lreturn, 1) := by decide +kernel
theorem dX2_frozen_0 : decode cX2_frozen 0 = .ok (.aload_n 0, 1) := by decide +kernel
theorem dX2_frozen_1 : decode cX2_frozen 1 = .ok (.iload_n 1, 1) := by decide +kernel
theorem dX2_frozen_2 : decode cX2_frozen 2 = .ok (.invokevirtual 149, 3) := by decide +kernel
theorem dX2_frozen_5 : decode cX2_frozen 5 = .ok (.ifCond .eq 21, 3) := by decide +kernel
theorem dX2_frozen_8 : decode cX2_frozen 8 = .ok (.aload_n 0, 1) := by decide +kernel
theorem dX2_frozen_9 : decode cX2_frozen 9 = .ok (.getfield 17, 3) := by decide +kernel
theorem dX2_frozen_12 : decode cX2_frozen 12 = .ok (.iload_n 1, 1) := by decide +kernel
theorem dX2_frozen_13 : decode cX2_frozen 13 = .ok (.baload, 1) := by decide +kernel
theorem dX2_frozen_14 : decode cX2_frozen 14 = .ok (.ifCond .ne 12, 3) := by decide +kernel
theorem dX2_frozen_17 : decode cX2_frozen 17 = .ok (.aload_n 0, 1) := by decide +kernel
theorem dX2_frozen_18 : decode cX2_frozen 18 = .ok (.getfield 30, 3) := by decide +kernel
theorem dX2_frozen_21 : decode cX2_frozen 21 = .ok (.iload_n 1, 1) := by decide +kernel
theorem dX2_frozen_22 : decode cX2_frozen 22 = .ok (.iaload, 1) := by decide +kernel
theorem dX2_frozen_23 : decode cX2_frozen 23 = .ok (.goto 4, 3) := by decide +kernel
theorem dX2_frozen_26 : decode cX2_frozen 26 = .ok (.iconst 0, 1) := by decide +kernel
theorem dX2_frozen_27 : decode cX2_frozen 27 = .ok (.ireturn, 1) := by decide +kernel
theorem dX2_endOf_0 : decode cX2_endOf 0 = .ok (.aload_n 0, 1) := by decide +kernel
theorem dX2_endOf_1 : decode cX2_endOf 1 = .ok (.iload_n 1, 1) := by decide +kernel
theorem dX2_endOf_2 : decode cX2_endOf 2 = .ok (.invokevirtual 149, 3) := by decide +kernel
theorem dX2_endOf_5 : decode cX2_endOf 5 = .ok (.ifCond .ne 7, 3) := by decide +kernel
theorem dX2_endOf_8 : decode cX2_endOf 8 = .ok (.iconst 0, 1) := by decide +kernel
theorem dX2_endOf_9 : decode cX2_endOf 9 = .ok (.goto 22, 3) := by decide +kernel
theorem dX2_endOf_12 : decode cX2_endOf 12 = .ok (.aload_n 0, 1) := by decide +kernel
theorem dX2_endOf_13 : decode cX2_endOf 13 = .ok (.getfield 17, 3) := by decide +kernel
theorem dX2_endOf_16 : decode cX2_endOf 16 = .ok (.iload_n 1, 1) := by decide +kernel
theorem dX2_endOf_17 : decode cX2_endOf 17 = .ok (.baload, 1) := by decide +kernel
theorem dX2_endOf_18 : decode cX2_endOf 18 = .ok (.ifCond .eq 12, 3) := by decide +kernel
theorem dX2_endOf_21 : decode cX2_endOf 21 = .ok (.aload_n 0, 1) := by decide +kernel
theorem dX2_endOf_22 : decode cX2_endOf 22 = .ok (.getfield 42, 3) := by decide +kernel
theorem dX2_endOf_25 : decode cX2_endOf 25 = .ok (.iload_n 1, 1) := by decide +kernel
theorem dX2_endOf_26 : decode cX2_endOf 26 = .ok (.iaload, 1) := by decide +kernel
theorem dX2_endOf_27 : decode cX2_endOf 27 = .ok (.goto 4, 3) := by decide +kernel
theorem dX2_endOf_30 : decode cX2_endOf 30 = .ok (.iconst (-1), 1) := by decide +kernel
theorem dX2_endOf_31 : decode cX2_endOf 31 = .ok (.ireturn, 1) := by decide +kernel
theorem dX2_total_0 : decode cX2_total 0 = .ok (.aload_n 0, 1) := by decide +kernel
theorem dX2_total_1 : decode cX2_total 1 = .ok (.iload_n 1, 1) := by decide +kernel
theorem dX2_total_2 : decode cX2_total 2 = .ok (.invokestatic 111, 3) := by decide +kernel
theorem dX2_total_5 : decode cX2_total 5 = .ok (.ifCond .eq 7, 3) := by decide +kernel
theorem dX2_total_8 : decode cX2_total 8 = .ok (.iconst 0, 1) := by decide +kernel
theorem dX2_total_9 : decode cX2_total 9 = .ok (.goto 4, 3) := by decide +kernel
theorem dX2_total_12 : decode cX2_total 12 = .ok (.iconst 1, 1) := by decide +kernel
theorem dX2_total_13 : decode cX2_total 13 = .ok (.putfield 70, 3) := by decide +kernel
theorem dX2_total_16 : decode cX2_total 16 = .ok (.aload_n 0, 1) := by decide +kernel
theorem dX2_total_17 : decode cX2_total 17 = .ok (.getfield 70, 3) := by decide +kernel
theorem dX2_total_20 : decode cX2_total 20 = .ok (.ifCond .ne 15, 3) := by decide +kernel
theorem dX2_total_23 : decode cX2_total 23 = .ok (.aload_n 0, 1) := by decide +kernel
theorem dX2_total_24 : decode cX2_total 24 = .ok (.iload_n 1, 1) := by decide +kernel
theorem dX2_total_25 : decode cX2_total 25 = .ok (.aload_n 0, 1) := by decide +kernel
theorem dX2_total_26 : decode cX2_total 26 = .ok (.getfield 77, 3) := by decide +kernel
theorem dX2_total_29 : decode cX2_total 29 = .ok (.invokevirtual 94, 3) := by decide +kernel
theorem dX2_total_32 : decode cX2_total 32 = .ok (.goto 4, 3) := by decide +kernel
theorem dX2_total_35 : decode cX2_total 35 = .ok (.iconst 0, 1) := by decide +kernel
theorem dX2_total_36 : decode cX2_total 36 = .ok (.ireturn, 1) := by decide +kernel
theorem dX2_partsByTotal_0 : decode cX2_partsByTotal 0 = .ok (.aload_n 0, 1) := by decide +kernel
theorem dX2_partsByTotal_1 : decode cX2_partsByTotal 1 = .ok (.iload_n 1, 1) := by decide +kernel
theorem dX2_partsByTotal_2 : decode cX2_partsByTotal 2 = .ok (.invokestatic 111, 3) := by decide +kernel
theorem dX2_partsByTotal_5 : decode cX2_partsByTotal 5 = .ok (.ifCond .eq 7, 3) := by decide +kernel
theorem dX2_partsByTotal_8 : decode cX2_partsByTotal 8 = .ok (.iconst 0, 1) := by decide +kernel
theorem dX2_partsByTotal_9 : decode cX2_partsByTotal 9 = .ok (.goto 4, 3) := by decide +kernel
theorem dX2_partsByTotal_12 : decode cX2_partsByTotal 12 = .ok (.iconst 1, 1) := by decide +kernel
theorem dX2_partsByTotal_13 : decode cX2_partsByTotal 13 = .ok (.putfield 70, 3) := by decide +kernel
theorem dX2_partsByTotal_16 : decode cX2_partsByTotal 16 = .ok (.aload_n 0, 1) := by decide +kernel
theorem dX2_partsByTotal_17 : decode cX2_partsByTotal 17 = .ok (.getfield 70, 3) := by decide +kernel
theorem dX2_partsByTotal_20 : decode cX2_partsByTotal 20 = .ok (.ifCond .ne 15, 3) := by decide +kernel
theorem dX2_partsByTotal_23 : decode cX2_partsByTotal 23 = .ok (.aload_n 0, 1) := by decide +kernel
theorem dX2_partsByTotal_24 : decode cX2_partsByTotal 24 = .ok (.iload_n 1, 1) := by decide +kernel
theorem dX2_partsByTotal_25 : decode cX2_partsByTotal 25 = .ok (.aload_n 0, 1) := by decide +kernel
theorem dX2_partsByTotal_26 : decode cX2_partsByTotal 26 = .ok (.getfield 77, 3) := by decide +kernel
theorem dX2_partsByTotal_29 : decode cX2_partsByTotal 29 = .ok (.invokevirtual 94, 3) := by decide +kernel
theorem dX2_partsByTotal_32 : decode cX2_partsByTotal 32 = .ok (.goto 4, 3) := by decide +kernel
theorem dX2_partsByTotal_35 : decode cX2_partsByTotal 35 = .ok (.iconst 0, 1) := by decide +kernel
theorem dX2_partsByTotal_36 : decode cX2_partsByTotal 36 = .ok (.istore_n 2, 1) := by decide +kernel
theorem dX2_partsByTotal_37 : decode cX2_partsByTotal 37 = .ok (.aload_n 0, 1) := by decide +kernel
theorem dX2_partsByTotal_38 : decode cX2_partsByTotal 38 = .ok (.getfield 80, 3) := by decide +kernel
theorem dX2_partsByTotal_41 : decode cX2_partsByTotal 41 = .ok (.ifCond .eq 11, 3) := by decide +kernel
theorem dX2_partsByTotal_44 : decode cX2_partsByTotal 44 = .ok (.aload_n 0, 1) := by decide +kernel
theorem dX2_partsByTotal_45 : decode cX2_partsByTotal 45 = .ok (.iload_n 2, 1) := by decide +kernel
theorem dX2_partsByTotal_46 : decode cX2_partsByTotal 46 = .ok (.invokevirtual 102, 3) := by decide +kernel
theorem dX2_partsByTotal_49 : decode cX2_partsByTotal 49 = .ok (.goto 12, 3) := by decide +kernel
theorem dX2_partsByTotal_52 : decode cX2_partsByTotal 52 = .ok (.iload_n 2, 1) := by decide +kernel
theorem dX2_partsByTotal_53 : decode cX2_partsByTotal 53 = .ok (.i2l, 1) := by decide +kernel
theorem dX2_partsByTotal_54 : decode cX2_partsByTotal 54 = .ok (.aload_n 0, 1) := by decide +kernel
theorem dX2_partsByTotal_55 : decode cX2_partsByTotal 55 = .ok (.iload_n 2, 1) := by decide +kernel
theorem dX2_partsByTotal_56 : decode cX2_partsByTotal 56 = .ok (.invokevirtual 98, 3) := by decide +kernel
theorem dX2_partsByTotal_59 : decode cX2_partsByTotal 59 = .ok (.i2l, 1) := by decide +kernel
theorem dX2_partsByTotal_60 : decode cX2_partsByTotal 60 = .ok (.lmul, 1) := by decide +kernel
theorem dX2_partsByTotal_61 : decode cX2_partsByTotal 61 = .ok (.lreturn, 1) := by decide +kernel
theorem dX2_paid_0 : decode cX2_paid 0 = .ok (.aload_n 0, 1) := by decide +kernel
theorem dX2_paid_1 : decode cX2_paid 1 = .ok (.iload_n 1, 1) := by decide +kernel
theorem dX2_paid_2 : decode cX2_paid 2 = .ok (.invokestatic 111, 3) := by decide +kernel
theorem dX2_paid_5 : decode cX2_paid 5 = .ok (.ifCond .eq 7, 3) := by decide +kernel
theorem dX2_paid_8 : decode cX2_paid 8 = .ok (.iconst 0, 1) := by decide +kernel
theorem dX2_paid_9 : decode cX2_paid 9 = .ok (.goto 4, 3) := by decide +kernel
theorem dX2_paid_12 : decode cX2_paid 12 = .ok (.iconst 1, 1) := by decide +kernel
theorem dX2_paid_13 : decode cX2_paid 13 = .ok (.putfield 70, 3) := by decide +kernel
theorem dX2_paid_16 : decode cX2_paid 16 = .ok (.aload_n 0, 1) := by decide +kernel
theorem dX2_paid_17 : decode cX2_paid 17 = .ok (.getfield 70, 3) := by decide +kernel
theorem dX2_paid_20 : decode cX2_paid 20 = .ok (.ifCond .ne 12, 3) := by decide +kernel
theorem dX2_paid_23 : decode cX2_paid 23 = .ok (.aload_n 0, 1) := by decide +kernel
theorem dX2_paid_24 : decode cX2_paid 24 = .ok (.getfield 51, 3) := by decide +kernel
theorem dX2_paid_27 : decode cX2_paid 27 = .ok (.iload_n 1, 1) := by decide +kernel
theorem dX2_paid_28 : decode cX2_paid 28 = .ok (.laload, 1) := by decide +kernel
theorem dX2_paid_29 : decode cX2_paid 29 = .ok (.goto 4, 3) := by decide +kernel
theorem dX2_paid_32 : decode cX2_paid 32 = .ok (.lconst 0, 1) := by decide +kernel
theorem dX2_paid_33 : decode cX2_paid 33 = .ok (.lreturn, 1) := by decide +kernel
theorem dX2_lost_0 : decode cX2_lost 0 = .ok (.aload_n 0, 1) := by decide +kernel
theorem dX2_lost_1 : decode cX2_lost 1 = .ok (.iload_n 1, 1) := by decide +kernel
theorem dX2_lost_2 : decode cX2_lost 2 = .ok (.invokestatic 111, 3) := by decide +kernel
theorem dX2_lost_5 : decode cX2_lost 5 = .ok (.ifCond .eq 7, 3) := by decide +kernel
theorem dX2_lost_8 : decode cX2_lost 8 = .ok (.iconst 0, 1) := by decide +kernel
theorem dX2_lost_9 : decode cX2_lost 9 = .ok (.goto 4, 3) := by decide +kernel
theorem dX2_lost_12 : decode cX2_lost 12 = .ok (.iconst 1, 1) := by decide +kernel
theorem dX2_lost_13 : decode cX2_lost 13 = .ok (.putfield 70, 3) := by decide +kernel
theorem dX2_lost_16 : decode cX2_lost 16 = .ok (.aload_n 0, 1) := by decide +kernel
theorem dX2_lost_17 : decode cX2_lost 17 = .ok (.getfield 70, 3) := by decide +kernel
theorem dX2_lost_20 : decode cX2_lost 20 = .ok (.ifCond .ne 12, 3) := by decide +kernel
theorem dX2_lost_23 : decode cX2_lost 23 = .ok (.aload_n 0, 1) := by decide +kernel
theorem dX2_lost_24 : decode cX2_lost 24 = .ok (.getfield 54, 3) := by decide +kernel
theorem dX2_lost_27 : decode cX2_lost 27 = .ok (.iload_n 1, 1) := by decide +kernel
theorem dX2_lost_28 : decode cX2_lost 28 = .ok (.laload, 1) := by decide +kernel
theorem dX2_lost_29 : decode cX2_lost 29 = .ok (.goto 4, 3) := by decide +kernel
theorem dX2_lost_32 : decode cX2_lost 32 = .ok (.lconst 0, 1) := by decide +kernel
theorem dX2_lost_33 : decode cX2_lost 33 = .ok (.lreturn, 1) := by decide +kernel
