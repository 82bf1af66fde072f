theorem dX0_init_0 : decode cX0_init 0 = .ok (.aload_n 0, 1) := by decide +kernel
theorem dX0_init_1 : decode cX0_init 1 = .ok (.invokespecial 3, 3) := by decide +kernel
theorem dX0_init_4 : decode cX0_init 4 = .ok (.aload_n 0, 1) := by decide +kernel
theorem dX0_init_5 : decode cX0_init 5 = .ok (.lconst 0, 1) := by decide +kernel
theorem dX0_init_6 : decode cX0_init 6 = .ok (.putfield 9, 3) := by decide +kernel
theorem dX0_init_9 : decode cX0_init 9 = .ok (.aload_n 0, 1) := by decide +kernel
theorem dX0_init_10 : decode cX0_init 10 = .ok (.lconst 0, 1) := by decide +kernel
theorem dX0_init_11 : decode cX0_init 11 = .ok (.putfield 15, 3) := by decide +kernel
theorem dX0_init_14 : decode cX0_init 14 = .ok (.aload_n 0, 1) := by decide +kernel
theorem dX0_init_15 : decode cX0_init 15 = .ok (.iconst 0, 1) := by decide +kernel
theorem dX0_init_16 : decode cX0_init 16 = .ok (.putfield 18, 3) := by decide +kernel
theorem dX0_init_19 : decode cX0_init 19 = .ok (.aload_n 0, 1) := by decide +kernel
theorem dX0_init_20 : decode cX0_init 20 = .ok (.iconst 0, 1) := by decide +kernel
theorem dX0_init_21 : decode cX0_init 21 = .ok (.putfield 22, 3) := by decide +kernel
theorem dX0_init_24 : decode cX0_init 24 = .ok (.aload_n 0, 1) := by decide +kernel
theorem dX0_init_25 : decode cX0_init 25 = .ok (.iconst (-1), 1) := by decide +kernel
theorem dX0_init_26 : decode cX0_init 26 = .ok (.putfield 25, 3) := by decide +kernel
theorem dX0_init_29 : decode cX0_init 29 = .ok (.aload_n 0, 1) := by decide +kernel
theorem dX0_init_30 : decode cX0_init 30 = .ok (.iconst 0, 1) := by decide +kernel
theorem dX0_init_31 : decode cX0_init 31 = .ok (.putfield 28, 3) := by decide +kernel
theorem dX0_init_34 : decode cX0_init 34 = .ok (.aload_n 0, 1) := by decide +kernel
theorem dX0_init_35 : decode cX0_init 35 = .ok (.iconst (-1), 1) := by decide +kernel
theorem dX0_init_36 : decode cX0_init 36 = .ok (.putfield 31, 3) := by decide +kernel
theorem dX0_init_39 : decode cX0_init 39 = .ok (.aload_n 0, 1) := by decide +kernel
theorem dX0_init_40 : decode cX0_init 40 = .ok (.iload_n 1, 1) := by decide +kernel
theorem dX0_init_41 : decode cX0_init 41 = .ok (.putfield 34, 3) := by decide +kernel
theorem dX0_init_44 : decode cX0_init 44 = .ok (.aload_n 0, 1) := by decide +kernel
theorem dX0_init_45 : decode cX0_init 45 = .ok (.iload_n 2, 1) := by decide +kernel
theorem dX0_init_46 : decode cX0_init 46 = .ok (.putfield 37, 3) := by decide +kernel
theorem dX0_init_49 : decode cX0_init 49 = .ok (.aload_n 0, 1) := by decide +kernel
theorem dX0_init_50 : decode cX0_init 50 = .ok (.iload_n 3, 1) := by decide +kernel
theorem dX0_init_51 : decode cX0_init 51 = .ok (.putfield 40, 3) := by decide +kernel
theorem dX0_init_54 : decode cX0_init 54 = .ok (.return_, 1) := by decide +kernel
theorem dX0_isByTerm_0 : decode cX0_isByTerm 0 = .ok (.aload_n 0, 1) := by decide +kernel
theorem dX0_isByTerm_1 : decode cX0_isByTerm 1 = .ok (.getfield 40, 3) := by decide +kernel
theorem dX0_isByTerm_4 : decode cX0_isByTerm 4 = .ok (.ifCond .le 7, 3) := by decide +kernel
theorem dX0_isByTerm_7 : decode cX0_isByTerm 7 = .ok (.iconst 1, 1) := by decide +kernel
theorem dX0_isByTerm_8 : decode cX0_isByTerm 8 = .ok (.goto 4, 3) := by decide +kernel
theorem dX0_isByTerm_11 : decode cX0_isByTerm 11 = .ok (.iconst 0, 1) := by decide +kernel
theorem dX0_isByTerm_12 : decode cX0_isByTerm 12 = .ok (.ireturn, 1) := by decide +kernel
theorem dX0_unfrozen_0 : decode cX0_unfrozen 0 = .ok (.aload_n 0, 1) := by decide +kernel
theorem dX0_unfrozen_1 : decode cX0_unfrozen 1 = .ok (.getfield 37, 3) := by decide +kernel
theorem dX0_unfrozen_4 : decode cX0_unfrozen 4 = .ok (.aload_n 0, 1) := by decide +kernel
theorem dX0_unfrozen_5 : decode cX0_unfrozen 5 = .ok (.getfield 18, 3) := by decide +kernel
theorem dX0_unfrozen_8 : decode cX0_unfrozen 8 = .ok (.isub, 1) := by decide +kernel
theorem dX0_unfrozen_9 : decode cX0_unfrozen 9 = .ok (.ireturn, 1) := by decide +kernel
theorem dX0_drawWholeCents_0 : decode cX0_drawWholeCents 0 = .ok (.aload_n 0, 1) := by decide +kernel
theorem dX0_drawWholeCents_1 : decode cX0_drawWholeCents 1 = .ok (.getfield 9, 3) := by decide +kernel
theorem dX0_drawWholeCents_4 : decode cX0_drawWholeCents 4 = .ok (.ldc2_w 43, 3) := by decide +kernel
theorem dX0_drawWholeCents_7 : decode cX0_drawWholeCents 7 = .ok (.ldiv, 1) := by decide +kernel
theorem dX0_drawWholeCents_8 : decode cX0_drawWholeCents 8 = .ok (.l2i, 1) := by decide +kernel
theorem dX0_drawWholeCents_9 : decode cX0_drawWholeCents 9 = .ok (.istore_n 1, 1) := by decide +kernel
theorem dX0_drawWholeCents_10 : decode cX0_drawWholeCents 10 = .ok (.aload_n 0, 1) := by decide +kernel
theorem dX0_drawWholeCents_11 : decode cX0_drawWholeCents 11 = .ok (.aload_n 0, 1) := by decide +kernel
theorem dX0_drawWholeCents_12 : decode cX0_drawWholeCents 12 = .ok (.getfield 9, 3) := by decide +kernel
theorem dX0_drawWholeCents_15 : decode cX0_drawWholeCents 15 = .ok (.ldc2_w 43, 3) := by decide +kernel
theorem dX0_drawWholeCents_18 : decode cX0_drawWholeCents 18 = .ok (.lrem, 1) := by decide +kernel
theorem dX0_drawWholeCents_19 : decode cX0_drawWholeCents 19 = .ok (.putfield 9, 3) := by decide +kernel
theorem dX0_drawWholeCents_22 : decode cX0_drawWholeCents 22 = .ok (.iload_n 1, 1) := by decide +kernel
theorem dX0_drawWholeCents_23 : decode cX0_drawWholeCents 23 = .ok (.ireturn, 1) := by decide +kernel
theorem dJ9_min_7cf53_0 : decode cJ9_min_7cf53 0 = .ok (.iload_n 0, 1) := by decide +kernel
theorem dJ9_min_7cf53_1 : decode cJ9_min_7cf53 1 = .ok (.iload_n 1, 1) := by decide +kernel
theorem dJ9_min_7cf53_2 : decode cJ9_min_7cf53 2 = .ok (.if_icmp .gt 7, 3) := by decide +kernel
theorem dJ9_min_7cf53_5 : decode cJ9_min_7cf53 5 = .ok (.iload_n 0, 1) := by decide +kernel
theorem dJ9_min_7cf53_6 : decode cJ9_min_7cf53 6 = .ok (.goto 4, 3) := by decide +kernel
theorem dJ9_min_7cf53_9 : decode cJ9_min_7cf53 9 = .ok (.iload_n 1, 1) := by decide +kernel
theorem dJ9_min_7cf53_10 : decode cJ9_min_7cf53 10 = .ok (.ireturn, 1) := by decide +kernel
theorem dJ9_min_f86c9_0 : decode cJ9_min_f86c9 0 = .ok (.lload_n 0, 1) := by decide +kernel
theorem dJ9_min_f86c9_1 : decode cJ9_min_f86c9 1 = .ok (.lload_n 2, 1) := by decide +kernel
theorem dJ9_min_f86c9_2 : decode cJ9_min_f86c9 2 = .ok (.lcmp, 1) := by decide +kernel
theorem dJ9_min_f86c9_3 : decode cJ9_min_f86c9 3 = .ok (.ifCond .gt 7, 3) := by decide +kernel
theorem dJ9_min_f86c9_6 : decode cJ9_min_f86c9 6 = .ok (.lload_n 0, 1) := by decide +kernel
theorem dJ9_min_f86c9_7 : decode cJ9_min_f86c9 7 = .ok (.goto 4, 3) := by decide +kernel
theorem dJ9_min_f86c9_10 : decode cJ9_min_f86c9 10 = .ok (.lload_n 2, 1) := by decide +kernel
theorem dJ9_min_f86c9_11 : decode cJ9_min_f86c9 11 = .ok (.lreturn, 1) := by decide +kernel
theorem dX1_init_0 : decode cX1_init 0 = .ok (.aload_n 0, 1) := by decide +kernel
theorem dX1_init_1 : decode cX1_init 1 = .ok (.invokespecial 1, 3) := by decide +kernel
theorem dX1_init_4 : decode cX1_init 4 = .ok (.aload_n 0, 1) := by decide +kernel
theorem dX1_init_5 : decode cX1_init 5 = .ok (.iconst 3, 1) := by decide +kernel
theorem dX1_init_6 : decode cX1_init 6 = .ok (.newarray .int, 2) := by decide +kernel
theorem dX1_init_8 : decode cX1_init 8 = .ok (.dup, 1) := by decide +kernel
theorem dX1_init_9 : decode cX1_init 9 = .ok (.iconst 0, 1) := by decide +kernel
theorem dX1_init_10 : decode cX1_init 10 = .ok (.bipush 100, 2) := by decide +kernel
theorem dX1_init_12 : decode cX1_init 12 = .ok (.iastore, 1) := by decide +kernel
theorem dX1_init_13 : decode cX1_init 13 = .ok (.dup, 1) := by decide +kernel
theorem dX1_init_14 : decode cX1_init 14 = .ok (.iconst 1, 1) := by decide +kernel
theorem dX1_init_15 : decode cX1_init 15 = .ok (.sipush 200, 3) := by decide +kernel
theorem dX1_init_18 : decode cX1_init 18 = .ok (.iastore, 1) := by decide +kernel
theorem dX1_init_19 : decode cX1_init 19 = .ok (.dup, 1) := by decide +kernel
theorem dX1_init_20 : decode cX1_init 20 = .ok (.iconst 2, 1) := by decide +kernel
theorem dX1_init_21 : decode cX1_init 21 = .ok (.sipush 300, 3) := by decide +kernel
theorem dX1_init_24 : decode cX1_init 24 = .ok (.iastore, 1) := by decide +kernel
theorem dX1_init_25 : decode cX1_init 25 = .ok (.putfield 7, 3) := by decide +kernel
theorem dX1_init_28 : decode cX1_init 28 = .ok (.aload_n 0, 1) := by decide +kernel
theorem dX1_init_29 : decode cX1_init 29 = .ok (.iconst 4, 1) := by decide +kernel
theorem dX1_init_30 : decode cX1_init 30 = .ok (.newarray .long, 2) := by decide +kernel
theorem dX1_init_32 : decode cX1_init 32 = .ok (.putfield 13, 3) := by decide +kernel
theorem dX1_init_35 : decode cX1_init 35 = .ok (.aload_n 0, 1) := by decide +kernel
theorem dX1_init_36 : decode cX1_init 36 = .ok (.iconst 4, 1) := by decide +kernel
theorem dX1_init_37 : decode cX1_init 37 = .ok (.newarray .long, 2) := by decide +kernel
theorem dX1_init_39 : decode cX1_init 39 = .ok (.putfield 17, 3) := by decide +kernel
theorem dX1_init_42 : decode cX1_init 42 = .ok (.aload_n 0, 1) := by decide +kernel
theorem dX1_init_43 : decode cX1_init 43 = .ok (.bipush 40, 2) := by decide +kernel
theorem dX1_init_45 : decode cX1_init 45 = .ok (.anewarray 20, 3) := by decide +kernel
theorem dX1_init_48 : decode cX1_init 48 = .ok (.putfield 22, 3) := by decide +kernel
theorem dX1_init_51 : decode cX1_init 51 = .ok (.aload_n 0, 1) := by decide +kernel
theorem dX1_init_52 : decode cX1_init 52 = .ok (.iconst 0, 1) := by decide +kernel
theorem dX1_init_53 : decode cX1_init 53 = .ok (.putfield 26, 3) := by decide +kernel
theorem dX1_init_56 : decode cX1_init 56 = .ok (.aload_n 0, 1) := by decide +kernel
theorem dX1_init_57 : decode cX1_init 57 = .ok (.sipush 250, 3) := by decide +kernel
theorem dX1_init_60 : decode cX1_init 60 = .ok (.putfield 30, 3) := by decide +kernel
theorem dX1_init_63 : decode cX1_init 63 = .ok (.aload_n 0, 1) := by decide +kernel
theorem dX1_init_64 : decode cX1_init 64 = .ok (.iconst 0, 1) := by decide +kernel
theorem dX1_init_65 : decode cX1_init 65 = .ok (.putfield 34, 3) := by decide +kernel
theorem dX1_init_68 : decode cX1_init 68 = .ok (.aload_n 0, 1) := by decide +kernel
theorem dX1_init_69 : decode cX1_init 69 = .ok (.iconst 0, 1) := by decide +kernel
theorem dX1_init_70 : decode cX1_init 70 = .ok (.putfield 37, 3) := by decide +kernel
theorem dX1_init_73 : decode cX1_init 73 = .ok (.return_, 1) := by decide +kernel
theorem dX1_setRate_0 : decode cX1_setRate 0 = .ok (.iload_n 1, 1) := by decide +kernel
theorem dX1_setRate_1 : decode cX1_setRate 1 = .ok (.ifCond .lt 12, 3) := by decide +kernel
theorem dX1_setRate_4 : decode cX1_setRate 4 = .ok (.iload_n 1, 1) := by decide +kernel
theorem dX1_setRate_5 : decode cX1_setRate 5 = .ok (.aload_n 0, 1) := by decide +kernel
theorem dX1_setRate_6 : decode cX1_setRate 6 = .ok (.getfield 7, 3) := by decide +kernel
theorem dX1_setRate_9 : decode cX1_setRate 9 = .ok (.arraylength, 1) := by decide +kernel
theorem dX1_setRate_10 : decode cX1_setRate 10 = .ok (.if_icmp .lt 13, 3) := by decide +kernel
theorem dX1_setRate_13 : decode cX1_setRate 13 = .ok (.new 40, 3) := by decide +kernel
theorem dX1_setRate_16 : decode cX1_setRate 16 = .ok (.dup, 1) := by decide +kernel
theorem dX1_setRate_17 : decode cX1_setRate 17 = .ok (.ldc 42, 2) := by decide +kernel
theorem dX1_setRate_19 : decode cX1_setRate 19 = .ok (.invokespecial 44, 3) := by decide +kernel
theorem dX1_setRate_22 : decode cX1_setRate 22 = .ok (.athrow, 1) := by decide +kernel
theorem dX1_setRate_23 : decode cX1_setRate 23 = .ok (.iload_n 2, 1) := by decide +kernel
theorem dX1_setRate_24 : decode cX1_setRate 24 = .ok (.iconst 0, 1) := by decide +kernel
theorem dX1_setRate_25 : decode cX1_setRate 25 = .ok (.sipush 2000, 3) := by decide +kernel
theorem dX1_setRate_28 : decode cX1_setRate 28 = .ok (.invokestatic 47, 3) := by decide +kernel
theorem dX1_setRate_31 : decode cX1_setRate 31 = .ok (.aload_n 0, 1) := by decide +kernel
theorem dX1_setRate_32 : decode cX1_setRate 32 = .ok (.getfield 7, 3) := by decide +kernel
theorem dX1_setRate_35 : decode cX1_setRate 35 = .ok (.iload_n 1, 1) := by decide +kernel
theorem dX1_setRate_36 : decode cX1_setRate 36 = .ok (.iaload, 1) := by decide +kernel
theorem dX1_setRate_37 : decode cX1_setRate 37 = .ok (.istore_n 3, 1) := by decide +kernel
theorem dX1_setRate_38 : decode cX1_setRate 38 = .ok (.aload_n 0, 1) := by decide +kernel
theorem dX1_setRate_39 : decode cX1_setRate 39 = .ok (.getfield 7, 3) := by decide +kernel
theorem dX1_setRate_42 : decode cX1_setRate 42 = .ok (.iload_n 1, 1) := by decide +kernel
theorem dX1_setRate_43 : decode cX1_setRate 43 = .ok (.iload_n 2, 1) := by decide +kernel
theorem dX1_setRate_44 : decode cX1_setRate 44 = .ok (.iastore, 1) := by decide +kernel
theorem dX1_setRate_45 : decode cX1_setRate 45 = .ok (.iload_n 3, 1) := by decide +kernel
theorem dX1_setRate_46 : decode cX1_setRate 46 = .ok (.ireturn, 1) := by decide +kernel
theorem dX1_setByBands_0 : decode cX1_setByBands 0 = .ok (.aload_n 0, 1) := by decide +kernel
theorem dX1_setByBands_1 : decode cX1_setByBands 1 = .ok (.getfield 26, 3) := by decide +kernel
theorem dX1_setByBands_4 : decode cX1_setByBands 4 = .ok (.istore_n 2, 1) := by decide +kernel
theorem dX1_setByBands_5 : decode cX1_setByBands 5 = .ok (.aload_n 0, 1) := by decide +kernel
theorem dX1_setByBands_6 : decode cX1_setByBands 6 = .ok (.iload_n 1, 1) := by decide +kernel
theorem dX1_setByBands_7 : decode cX1_setByBands 7 = .ok (.putfield 26, 3) := by decide +kernel
theorem dX1_setByBands_10 : decode cX1_setByBands 10 = .ok (.iload_n 2, 1) := by decide +kernel
theorem dX1_setByBands_11 : decode cX1_setByBands 11 = .ok (.ireturn, 1) := by decide +kernel
theorem dX1_setTermRate_0 : decode cX1_setTermRate 0 = .ok (.iload_n 1, 1) := by decide +kernel
theorem dX1_setTermRate_1 : decode cX1_setTermRate 1 = .ok (.iconst 0, 1) := by decide +kernel
theorem dX1_setTermRate_2 : decode cX1_setTermRate 2 = .ok (.sipush 2000, 3) := by decide +kernel
theorem dX1_setTermRate_5 : decode cX1_setTermRate 5 = .ok (.invokestatic 47, 3) := by decide +kernel
theorem dX1_setTermRate_8 : decode cX1_setTermRate 8 = .ok (.aload_n 0, 1) := by decide +kernel
theorem dX1_setTermRate_9 : decode cX1_setTermRate 9 = .ok (.getfield 30, 3) := by decide +kernel
theorem dX1_setTermRate_12 : decode cX1_setTermRate 12 = .ok (.istore_n 2, 1) := by decide +kernel
theorem dX1_setTermRate_13 : decode cX1_setTermRate 13 = .ok (.aload_n 0, 1) := by decide +kernel
theorem dX1_setTermRate_14 : decode cX1_setTermRate 14 = .ok (.iload_n 1, 1) := by decide +kernel
theorem dX1_setTermRate_15 : decode cX1_setTermRate 15 = .ok (.putfield 30, 3) := by decide +kernel
theorem dX1_setTermRate_18 : decode cX1_setTermRate 18 = .ok (.iload_n 2, 1) := by decide +kernel
theorem dX1_setTermRate_19 : decode cX1_setTermRate 19 = .ok (.ireturn, 1) := by decide +kernel
theorem dX1_deposit_0 : decode cX1_deposit 0 = .ok (.iload_n 1, 1) := by decide +kernel
theorem dX1_deposit_1 : decode cX1_deposit 1 = .ok (.invokestatic 51, 3) := by decide +kernel
theorem dX1_deposit_4 : decode cX1_deposit 4 = .ok (.iload_n 2, 1) := by decide +kernel
theorem dX1_deposit_5 : decode cX1_deposit 5 = .ok (.iconst 1, 1) := by decide +kernel
theorem dX1_deposit_6 : decode cX1_deposit 6 = .ok (.ldc 55, 2) := by decide +kernel
theorem dX1_deposit_8 : decode cX1_deposit 8 = .ok (.invokestatic 47, 3) := by decide +kernel
theorem dX1_deposit_11 : decode cX1_deposit 11 = .ok (.aload_n 0, 1) := by decide +kernel
theorem dX1_deposit_12 : decode cX1_deposit 12 = .ok (.new 20, 3) := by decide +kernel
theorem dX1_deposit_15 : decode cX1_deposit 15 = .ok (.dup, 1) := by decide +kernel
theorem dX1_deposit_16 : decode cX1_deposit 16 = .ok (.iload_n 1, 1) := by decide +kernel
theorem dX1_deposit_17 : decode cX1_deposit 17 = .ok (.iload_n 2, 1) := by decide +kernel
theorem dX1_deposit_18 : decode cX1_deposit 18 = .ok (.iconst 0, 1) := by decide +kernel
theorem dX1_deposit_19 : decode cX1_deposit 19 = .ok (.invokespecial 56, 3) := by decide +kernel
theorem dX1_deposit_22 : decode cX1_deposit 22 = .ok (.invokevirtual 58, 3) := by decide +kernel
theorem dX1_deposit_25 : decode cX1_deposit 25 = .ok (.ireturn, 1) := by decide +kernel
theorem dX1_depositTerm_0 : decode cX1_depositTerm 0 = .ok (.iload_n 1, 1) := by decide +kernel
theorem dX1_depositTerm_1 : decode cX1_depositTerm 1 = .ok (.invokestatic 51, 3) := by decide +kernel
theorem dX1_depositTerm_4 : decode cX1_depositTerm 4 = .ok (.iload_n 2, 1) := by decide +kernel
theorem dX1_depositTerm_5 : decode cX1_depositTerm 5 = .ok (.iconst 1, 1) := by decide +kernel
theorem dX1_depositTerm_6 : decode cX1_depositTerm 6 = .ok (.ldc 55, 2) := by decide +kernel
theorem dX1_depositTerm_8 : decode cX1_depositTerm 8 = .ok (.invokestatic 47, 3) := by decide +kernel
theorem dX1_depositTerm_11 : decode cX1_depositTerm 11 = .ok (.iload_n 3, 1) := by decide +kernel
theorem dX1_depositTerm_12 : decode cX1_depositTerm 12 = .ok (.iconst 1, 1) := by decide +kernel
theorem dX1_depositTerm_13 : decode cX1_depositTerm 13 = .ok (.sipush 400, 3) := by decide +kernel
theorem dX1_depositTerm_16 : decode cX1_depositTerm 16 = .ok (.invokestatic 47, 3) := by decide +kernel
theorem dX1_depositTerm_19 : decode cX1_depositTerm 19 = .ok (.iload 4, 2) := by decide +kernel
theorem dX1_depositTerm_21 : decode cX1_depositTerm 21 = .ok (.iconst 0, 1) := by decide +kernel
theorem dX1_depositTerm_22 : decode cX1_depositTerm 22 = .ok (.iconst 2, 1) := by decide +kernel
theorem dX1_depositTerm_23 : decode cX1_depositTerm 23 = .ok (.invokestatic 47, 3) := by decide +kernel
theorem dX1_depositTerm_26 : decode cX1_depositTerm 26 = .ok (.new 20, 3) := by decide +kernel
theorem dX1_depositTerm_29 : decode cX1_depositTerm 29 = .ok (.dup, 1) := by decide +kernel
theorem dX1_depositTerm_30 : decode cX1_depositTerm 30 = .ok (.iload_n 1, 1) := by decide +kernel
theorem dX1_depositTerm_31 : decode cX1_depositTerm 31 = .ok (.iload_n 2, 1) := by decide +kernel
theorem dX1_depositTerm_32 : decode cX1_depositTerm 32 = .ok (.iload_n 3, 1) := by decide +kernel
theorem dX1_depositTerm_33 : decode cX1_depositTerm 33 = .ok (.invokespecial 56, 3) := by decide +kernel
theorem dX1_depositTerm_36 : decode cX1_depositTerm 36 = .ok (.astore 5, 2) := by decide +kernel
theorem dX1_depositTerm_38 : decode cX1_depositTerm 38 = .ok (.aload 5, 2) := by decide +kernel
theorem dX1_depositTerm_40 : decode cX1_depositTerm 40 = .ok (.iload 4, 2) := by decide +kernel
theorem dX1_depositTerm_42 : decode cX1_depositTerm 42 = .ok (.putfield 62, 3) := by decide +kernel
theorem dX1_depositTerm_45 : decode cX1_depositTerm 45 = .ok (.aload_n 0, 1) := by decide +kernel
theorem dX1_depositTerm_46 : decode cX1_depositTerm 46 = .ok (.aload 5, 2) := by decide +kernel
theorem dX1_depositTerm_48 : decode cX1_depositTerm 48 = .ok (.invokevirtual 65, 3) := by decide +kernel
theorem dX1_depositTerm_51 : decode cX1_depositTerm 51 = .ok (.aload_n 0, 1) := by decide +kernel
theorem dX1_depositTerm_52 : decode cX1_depositTerm 52 = .ok (.aload 5, 2) := by decide +kernel
theorem dX1_depositTerm_54 : decode cX1_depositTerm 54 = .ok (.invokevirtual 58, 3) := by decide +kernel
theorem dX1_depositTerm_57 : decode cX1_depositTerm 57 = .ok (.ireturn, 1) := by decide +kernel
theorem dX1_give_0 : decode cX1_give 0 = .ok (.aload_n 0, 1) := by decide +kernel
theorem dX1_give_1 : decode cX1_give 1 = .ok (.iload_n 1, 1) := by decide +kernel
theorem dX1_give_2 : decode cX1_give 2 = .ok (.invokevirtual 69, 3) := by decide +kernel
theorem dX1_give_5 : decode cX1_give 5 = .ok (.astore_n 3, 1) := by decide +kernel
theorem dX1_give_6 : decode cX1_give 6 = .ok (.iload_n 2, 1) := by decide +kernel
theorem dX1_give_7 : decode cX1_give 7 = .ok (.iconst 1, 1) := by decide +kernel
theorem dX1_give_8 : decode cX1_give 8 = .ok (.aload_n 3, 1) := by decide +kernel
theorem dX1_give_9 : decode cX1_give 9 = .ok (.getfield 73, 3) := by decide +kernel
theorem dX1_give_12 : decode cX1_give 12 = .ok (.invokestatic 47, 3) := by decide +kernel
theorem dX1_give_15 : decode cX1_give 15 = .ok (.aload_n 3, 1) := by decide +kernel
theorem dX1_give_16 : decode cX1_give 16 = .ok (.invokevirtual 76, 3) := by decide +kernel
theorem dX1_give_19 : decode cX1_give 19 = .ok (.ifCond .ne 10, 3) := by decide +kernel
theorem dX1_give_22 : decode cX1_give 22 = .ok (.aload_n 3, 1) := by decide +kernel
theorem dX1_give_23 : decode cX1_give 23 = .ok (.getfield 80, 3) := by decide +kernel
theorem dX1_give_26 : decode cX1_give 26 = .ok (.ifCond .le 13, 3) := by decide +kernel
theorem dX1_give_29 : decode cX1_give 29 = .ok (.new 83, 3) := by decide +kernel
theorem dX1_give_32 : decode cX1_give 32 = .ok (.dup, 1) := by decide +kernel
theorem dX1_give_33 : decode cX1_give 33 = .ok (.ldc 85, 2) := by decide +kernel
theorem dX1_give_35 : decode cX1_give 35 = .ok (.invokespecial 87, 3) := by decide +kernel
theorem dX1_give_38 : decode cX1_give 38 = .ok (.athrow, 1) := by decide +kernel
theorem dX1_give_39 : decode cX1_give 39 = .ok (.aload_n 3, 1) := by decide +kernel
theorem dX1_give_40 : decode cX1_give 40 = .ok (.iload_n 2, 1) := by decide +kernel
theorem dX1_give_41 : decode cX1_give 41 = .ok (.putfield 80, 3) := by decide +kernel
theorem dX1_give_44 : decode cX1_give 44 = .ok (.aload_n 3, 1) := by decide +kernel
theorem dX1_give_45 : decode cX1_give 45 = .ok (.aload_n 0, 1) := by decide +kernel
theorem dX1_give_46 : decode cX1_give 46 = .ok (.getfield 37, 3) := by decide +kernel
theorem dX1_give_49 : decode cX1_give 49 = .ok (.bipush 32, 2) := by decide +kernel
theorem dX1_give_51 : decode cX1_give 51 = .ok (.iadd, 1) := by decide +kernel
theorem dX1_give_52 : decode cX1_give 52 = .ok (.putfield 88, 3) := by decide +kernel
theorem dX1_give_55 : decode cX1_give 55 = .ok (.aload_n 3, 1) := by decide +kernel
theorem dX1_give_56 : decode cX1_give 56 = .ok (.getfield 88, 3) := by decide +kernel
theorem dX1_give_59 : decode cX1_give 59 = .ok (.ireturn, 1) := by decide +kernel
theorem dX1_withdraw_0 : decode cX1_withdraw 0 = .ok (.aload_n 0, 1) := by decide +kernel
theorem dX1_withdraw_1 : decode cX1_withdraw 1 = .ok (.iload_n 1, 1) := by decide +kernel
theorem dX1_withdraw_2 : decode cX1_withdraw 2 = .ok (.invokevirtual 91, 3) := by decide +kernel
theorem dX1_withdraw_5 : decode cX1_withdraw 5 = .ok (.astore_n 2, 1) := by decide +kernel
theorem dX1_withdraw_6 : decode cX1_withdraw 6 = .ok (.aload_n 2, 1) := by decide +kernel
theorem dX1_withdraw_7 : decode cX1_withdraw 7 = .ok (.getfield 80, 3) := by decide +kernel
theorem dX1_withdraw_10 : decode cX1_withdraw 10 = .ok (.istore_n 3, 1) := by decide +kernel
theorem dX1_withdraw_11 : decode cX1_withdraw 11 = .ok (.aload_n 2, 1) := by decide +kernel
theorem dX1_withdraw_12 : decode cX1_withdraw 12 = .ok (.iconst 0, 1) := by decide +kernel
theorem dX1_withdraw_13 : decode cX1_withdraw 13 = .ok (.putfield 80, 3) := by decide +kernel
theorem dX1_withdraw_16 : decode cX1_withdraw 16 = .ok (.iload_n 3, 1) := by decide +kernel
theorem dX1_withdraw_17 : decode cX1_withdraw 17 = .ok (.ireturn, 1) := by decide +kernel
theorem dX1_take_0 : decode cX1_take 0 = .ok (.aload_n 0, 1) := by decide +kernel
theorem dX1_take_1 : decode cX1_take 1 = .ok (.iload_n 1, 1) := by decide +kernel
theorem dX1_take_2 : decode cX1_take 2 = .ok (.invokevirtual 91, 3) := by decide +kernel
theorem dX1_take_5 : decode cX1_take 5 = .ok (.astore_n 2, 1) := by decide +kernel
theorem dX1_take_6 : decode cX1_take 6 = .ok (.aload_n 0, 1) := by decide +kernel
theorem dX1_take_7 : decode cX1_take 7 = .ok (.getfield 37, 3) := by decide +kernel
theorem dX1_take_10 : decode cX1_take 10 = .ok (.aload_n 2, 1) := by decide +kernel
theorem dX1_take_11 : decode cX1_take 11 = .ok (.getfield 88, 3) := by decide +kernel
theorem dX1_take_14 : decode cX1_take 14 = .ok (.if_icmp .ge 13, 3) := by decide +kernel
theorem dX1_take_17 : decode cX1_take 17 = .ok (.new 83, 3) := by decide +kernel
theorem dX1_take_20 : decode cX1_take 20 = .ok (.dup, 1) := by decide +kernel
theorem dX1_take_21 : decode cX1_take 21 = .ok (.ldc 94, 2) := by decide +kernel
theorem dX1_take_23 : decode cX1_take 23 = .ok (.invokespecial 87, 3) := by decide +kernel
theorem dX1_take_26 : decode cX1_take 26 = .ok (.athrow, 1) := by decide +kernel
theorem dX1_take_27 : decode cX1_take 27 = .ok (.aload_n 2, 1) := by decide +kernel
theorem dX1_take_28 : decode cX1_take 28 = .ok (.getfield 80, 3) := by decide +kernel
theorem dX1_take_31 : decode cX1_take 31 = .ok (.istore_n 3, 1) := by decide +kernel
theorem dX1_take_32 : decode cX1_take 32 = .ok (.aload_n 2, 1) := by decide +kernel
theorem dX1_take_33 : decode cX1_take 33 = .ok (.iconst 0, 1) := by decide +kernel
theorem dX1_take_34 : decode cX1_take 34 = .ok (.putfield 80, 3) := by decide +kernel
theorem dX1_take_37 : decode cX1_take 37 = .ok (.aload_n 0, 1) := by decide +kernel
theorem dX1_take_38 : decode cX1_take 38 = .ok (.aload_n 2, 1) := by decide +kernel
theorem dX1_take_39 : decode cX1_take 39 = .ok (.iload_n 3, 1) := by decide +kernel
theorem dX1_take_40 : decode cX1_take 40 = .ok (.invokevirtual 96, 3) := by decide +kernel
theorem dX1_take_43 : decode cX1_take 43 = .ok (.ireturn, 1) := by decide +kernel
theorem dX1_early_0 : decode cX1_early 0 = .ok (.iload_n 1, 1) := by decide +kernel
theorem dX1_early_1 : decode cX1_early 1 = .ok (.invokestatic 51, 3) := by decide +kernel
theorem dX1_early_4 : decode cX1_early 4 = .ok (.iload_n 2, 1) := by decide +kernel
theorem dX1_early_5 : decode cX1_early 5 = .ok (.iconst 1, 1) := by decide +kernel
theorem dX1_early_6 : decode cX1_early 6 = .ok (.ldc 100, 2) := by decide +kernel
theorem dX1_early_8 : decode cX1_early 8 = .ok (.invokestatic 47, 3) := by decide +kernel
theorem dX1_early_11 : decode cX1_early 11 = .ok (.aload_n 0, 1) := by decide +kernel
theorem dX1_early_12 : decode cX1_early 12 = .ok (.iload_n 1, 1) := by decide +kernel
theorem dX1_early_13 : decode cX1_early 13 = .ok (.invokevirtual 101, 3) := by decide +kernel
theorem dX1_early_16 : decode cX1_early 16 = .ok (.iload_n 2, 1) := by decide +kernel
theorem dX1_early_17 : decode cX1_early 17 = .ok (.if_icmp .ge 13, 3) := by decide +kernel
theorem dX1_early_20 : decode cX1_early 20 = .ok (.new 83, 3) := by decide +kernel
theorem dX1_early_23 : decode cX1_early 23 = .ok (.dup, 1) := by decide +kernel
theorem dX1_early_24 : decode cX1_early 24 = .ok (.ldc 105, 2) := by decide +kernel
theorem dX1_early_26 : decode cX1_early 26 = .ok (.invokespecial 87, 3) := by decide +kernel
theorem dX1_early_29 : decode cX1_early 29 = .ok (.athrow, 1) := by decide +kernel
theorem dX1_early_30 : decode cX1_early 30 = .ok (.aload_n 0, 1) := by decide +kernel
theorem dX1_early_31 : decode cX1_early 31 = .ok (.iload_n 1, 1) := by decide +kernel
theorem dX1_early_32 : decode cX1_early 32 = .ok (.invokevirtual 107, 3) := by decide +kernel
theorem dX1_early_35 : decode cX1_early 35 = .ok (.iload_n 2, 1) := by decide +kernel
theorem dX1_early_36 : decode cX1_early 36 = .ok (.istore_n 3, 1) := by decide +kernel
theorem dX1_early_37 : decode cX1_early 37 = .ok (.iconst 0, 1) := by decide +kernel
theorem dX1_early_38 : decode cX1_early 38 = .ok (.istore 4, 2) := by decide +kernel
theorem dX1_early_40 : decode cX1_early 40 = .ok (.iconst 0, 1) := by decide +kernel
theorem dX1_early_41 : decode cX1_early 41 = .ok (.istore 5, 2) := by decide +kernel
theorem dX1_early_43 : decode cX1_early 43 = .ok (.iload 5, 2) := by decide +kernel
theorem dX1_early_45 : decode cX1_early 45 = .ok (.aload_n 0, 1) := by decide +kernel
theorem dX1_early_46 : decode cX1_early 46 = .ok (.getfield 34, 3) := by decide +kernel
theorem dX1_early_49 : decode cX1_early 49 = .ok (.if_icmp .ge 70, 3) := by decide +kernel
theorem dX1_early_52 : decode cX1_early 52 = .ok (.iload_n 3, 1) := by decide +kernel
theorem dX1_early_53 : decode cX1_early 53 = .ok (.ifCond .le 66, 3) := by decide +kernel
theorem dX1_early_56 : decode cX1_early 56 = .ok (.aload_n 0, 1) := by decide +kernel
theorem dX1_early_57 : decode cX1_early 57 = .ok (.iload_n 1, 1) := by decide +kernel
theorem dX1_early_58 : decode cX1_early 58 = .ok (.invokevirtual 110, 3) := by decide +kernel
theorem dX1_early_61 : decode cX1_early 61 = .ok (.astore 6, 2) := by decide +kernel
theorem dX1_early_63 : decode cX1_early 63 = .ok (.aload 6, 2) := by decide +kernel
theorem dX1_early_65 : decode cX1_early 65 = .ok (.ifnonnull 6, 3) := by decide +kernel
theorem dX1_early_68 : decode cX1_early 68 = .ok (.goto 51, 3) := by decide +kernel
theorem dX1_early_71 : decode cX1_early 71 = .ok (.iload_n 3, 1) := by decide +kernel
theorem dX1_early_72 : decode cX1_early 72 = .ok (.aload 6, 2) := by decide +kernel
theorem dX1_early_74 : decode cX1_early 74 = .ok (.invokevirtual 113, 3) := by decide +kernel
theorem dX1_early_77 : decode cX1_early 77 = .ok (.invokestatic 117, 3) := by decide +kernel
theorem dX1_early_80 : decode cX1_early 80 = .ok (.istore 7, 2) := by decide +kernel
theorem dX1_early_82 : decode cX1_early 82 = .ok (.aload_n 0, 1) := by decide +kernel
theorem dX1_early_83 : decode cX1_early 83 = .ok (.aload 6, 2) := by decide +kernel
theorem dX1_early_85 : decode cX1_early 85 = .ok (.aload 6, 2) := by decide +kernel
theorem dX1_early_87 : decode cX1_early 87 = .ok (.iload 7, 2) := by decide +kernel
theorem dX1_early_89 : decode cX1_early 89 = .ok (.invokestatic 123, 3) := by decide +kernel
theorem dX1_early_92 : decode cX1_early 92 = .ok (.invokevirtual 127, 3) := by decide +kernel
theorem dX1_early_95 : decode cX1_early 95 = .ok (.iload 4, 2) := by decide +kernel
theorem dX1_early_97 : decode cX1_early 97 = .ok (.aload_n 0, 1) := by decide +kernel
theorem dX1_early_98 : decode cX1_early 98 = .ok (.aload 6, 2) := by decide +kernel
theorem dX1_early_100 : decode cX1_early 100 = .ok (.iload 7, 2) := by decide +kernel
theorem dX1_early_102 : decode cX1_early 102 = .ok (.invokevirtual 96, 3) := by decide +kernel
theorem dX1_early_105 : decode cX1_early 105 = .ok (.iadd, 1) := by decide +kernel
theorem dX1_early_106 : decode cX1_early 106 = .ok (.istore 4, 2) := by decide +kernel
theorem dX1_early_108 : decode cX1_early 108 = .ok (.iload_n 3, 1) := by decide +kernel
theorem dX1_early_109 : decode cX1_early 109 = .ok (.iload 7, 2) := by decide +kernel
theorem dX1_early_111 : decode cX1_early 111 = .ok (.isub, 1) := by decide +kernel
theorem dX1_early_112 : decode cX1_early 112 = .ok (.istore_n 3, 1) := by decide +kernel
theorem dX1_early_113 : decode cX1_early 113 = .ok (.iinc 5 1, 3) := by decide +kernel
theorem dX1_early_116 : decode cX1_early 116 = .ok (.goto (-73), 3) := by decide +kernel
theorem dX1_early_119 : decode cX1_early 119 = .ok (.iload 4, 2) := by decide +kernel
theorem dX1_early_121 : decode cX1_early 121 = .ok (.ireturn, 1) := by decide +kernel
theorem dX1_instruct_0 : decode cX1_instruct 0 = .ok (.aload_n 0, 1) := by decide +kernel
theorem dX1_instruct_1 : decode cX1_instruct 1 = .ok (.iload_n 1, 1) := by decide +kernel
theorem dX1_instruct_2 : decode cX1_instruct 2 = .ok (.invokevirtual 69, 3) := by decide +kernel
theorem dX1_instruct_5 : decode cX1_instruct 5 = .ok (.astore_n 3, 1) := by decide +kernel
theorem dX1_instruct_6 : decode cX1_instruct 6 = .ok (.iload_n 2, 1) := by decide +kernel
theorem dX1_instruct_7 : decode cX1_instruct 7 = .ok (.iconst 0, 1) := by decide +kernel
theorem dX1_instruct_8 : decode cX1_instruct 8 = .ok (.iconst 2, 1) := by decide +kernel
theorem dX1_instruct_9 : decode cX1_instruct 9 = .ok (.invokestatic 47, 3) := by decide +kernel
theorem dX1_instruct_12 : decode cX1_instruct 12 = .ok (.aload_n 3, 1) := by decide +kernel
theorem dX1_instruct_13 : decode cX1_instruct 13 = .ok (.invokevirtual 76, 3) := by decide +kernel
theorem dX1_instruct_16 : decode cX1_instruct 16 = .ok (.ifCond .ne 13, 3) := by decide +kernel
theorem dX1_instruct_19 : decode cX1_instruct 19 = .ok (.new 83, 3) := by decide +kernel
theorem dX1_instruct_22 : decode cX1_instruct 22 = .ok (.dup, 1) := by decide +kernel
theorem dX1_instruct_23 : decode cX1_instruct 23 = .ok (.ldc 131, 2) := by decide +kernel
theorem dX1_instruct_25 : decode cX1_instruct 25 = .ok (.invokespecial 87, 3) := by decide +kernel
theorem dX1_instruct_28 : decode cX1_instruct 28 = .ok (.athrow, 1) := by decide +kernel
theorem dX1_instruct_29 : decode cX1_instruct 29 = .ok (.aload_n 3, 1) := by decide +kernel
theorem dX1_instruct_30 : decode cX1_instruct 30 = .ok (.getfield 62, 3) := by decide +kernel
theorem dX1_instruct_33 : decode cX1_instruct 33 = .ok (.istore 4, 2) := by decide +kernel
theorem dX1_instruct_35 : decode cX1_instruct 35 = .ok (.aload_n 3, 1) := by decide +kernel
theorem dX1_instruct_36 : decode cX1_instruct 36 = .ok (.iload_n 2, 1) := by decide +kernel
theorem dX1_instruct_37 : decode cX1_instruct 37 = .ok (.putfield 62, 3) := by decide +kernel
theorem dX1_instruct_40 : decode cX1_instruct 40 = .ok (.iload 4, 2) := by decide +kernel
theorem dX1_instruct_42 : decode cX1_instruct 42 = .ok (.ireturn, 1) := by decide +kernel
theorem dX1_letGo_0 : decode cX1_letGo 0 = .ok (.aload_n 0, 1) := by decide +kernel
theorem dX1_letGo_1 : decode cX1_letGo 1 = .ok (.iload_n 1, 1) := by decide +kernel
theorem dX1_letGo_2 : decode cX1_letGo 2 = .ok (.invokevirtual 69, 3) := by decide +kernel
theorem dX1_letGo_5 : decode cX1_letGo 5 = .ok (.astore_n 2, 1) := by decide +kernel
theorem dX1_letGo_6 : decode cX1_letGo 6 = .ok (.aload_n 2, 1) := by decide +kernel
theorem dX1_letGo_7 : decode cX1_letGo 7 = .ok (.getfield 133, 3) := by decide +kernel
theorem dX1_letGo_10 : decode cX1_letGo 10 = .ok (.iconst (-1), 1) := by decide +kernel
theorem dX1_letGo_11 : decode cX1_letGo 11 = .ok (.if_icmp .eq 17, 3) := by decide +kernel
theorem dX1_letGo_14 : decode cX1_letGo 14 = .ok (.aload_n 0, 1) := by decide +kernel
theorem dX1_letGo_15 : decode cX1_letGo 15 = .ok (.getfield 37, 3) := by decide +kernel
theorem dX1_letGo_18 : decode cX1_letGo 18 = .ok (.aload_n 2, 1) := by decide +kernel
theorem dX1_letGo_19 : decode cX1_letGo 19 = .ok (.getfield 133, 3) := by decide +kernel
theorem dX1_letGo_22 : decode cX1_letGo 22 = .ok (.isub, 1) := by decide +kernel
theorem dX1_letGo_23 : decode cX1_letGo 23 = .ok (.bipush 7, 2) := by decide +kernel
theorem dX1_letGo_25 : decode cX1_letGo 25 = .ok (.if_icmp .lt 13, 3) := by decide +kernel
theorem dX1_letGo_28 : decode cX1_letGo 28 = .ok (.new 83, 3) := by decide +kernel
theorem dX1_letGo_31 : decode cX1_letGo 31 = .ok (.dup, 1) := by decide +kernel
theorem dX1_letGo_32 : decode cX1_letGo 32 = .ok (.ldc 136, 2) := by decide +kernel
theorem dX1_letGo_34 : decode cX1_letGo 34 = .ok (.invokespecial 87, 3) := by decide +kernel
theorem dX1_letGo_37 : decode cX1_letGo 37 = .ok (.athrow, 1) := by decide +kernel
theorem dX1_letGo_38 : decode cX1_letGo 38 = .ok (.aload_n 0, 1) := by decide +kernel
theorem dX1_letGo_39 : decode cX1_letGo 39 = .ok (.aload_n 2, 1) := by decide +kernel
theorem dX1_letGo_40 : decode cX1_letGo 40 = .ok (.aload_n 2, 1) := by decide +kernel
theorem dX1_letGo_41 : decode cX1_letGo 41 = .ok (.getfield 138, 3) := by decide +kernel
theorem dX1_letGo_44 : decode cX1_letGo 44 = .ok (.invokevirtual 127, 3) := by decide +kernel
theorem dX1_letGo_47 : decode cX1_letGo 47 = .ok (.aload_n 0, 1) := by decide +kernel
theorem dX1_letGo_48 : decode cX1_letGo 48 = .ok (.aload_n 2, 1) := by decide +kernel
theorem dX1_letGo_49 : decode cX1_letGo 49 = .ok (.aload_n 2, 1) := by decide +kernel
theorem dX1_letGo_50 : decode cX1_letGo 50 = .ok (.getfield 73, 3) := by decide +kernel
theorem dX1_letGo_53 : decode cX1_letGo 53 = .ok (.invokevirtual 96, 3) := by decide +kernel
theorem dX1_letGo_56 : decode cX1_letGo 56 = .ok (.ireturn, 1) := by decide +kernel
theorem dX1_join_0 : decode cX1_join 0 = .ok (.aload_n 0, 1) := by decide +kernel
theorem dX1_join_1 : decode cX1_join 1 = .ok (.iload_n 1, 1) := by decide +kernel
theorem dX1_join_2 : decode cX1_join 2 = .ok (.invokevirtual 69, 3) := by decide +kernel
theorem dX1_join_5 : decode cX1_join 5 = .ok (.astore_n 3, 1) := by decide +kernel
theorem dX1_join_6 : decode cX1_join 6 = .ok (.aload_n 0, 1) := by decide +kernel
theorem dX1_join_7 : decode cX1_join 7 = .ok (.iload_n 2, 1) := by decide +kernel
theorem dX1_join_8 : decode cX1_join 8 = .ok (.invokevirtual 69, 3) := by decide +kernel
theorem dX1_join_11 : decode cX1_join 11 = .ok (.astore 4, 2) := by decide +kernel
theorem dX1_join_13 : decode cX1_join 13 = .ok (.iload_n 1, 1) := by decide +kernel
theorem dX1_join_14 : decode cX1_join 14 = .ok (.iload_n 2, 1) := by decide +kernel
theorem dX1_join_15 : decode cX1_join 15 = .ok (.if_icmp .ne 13, 3) := by decide +kernel
theorem dX1_join_18 : decode cX1_join 18 = .ok (.new 142, 3) := by decide +kernel
theorem dX1_join_21 : decode cX1_join 21 = .ok (.dup, 1) := by decide +kernel
theorem dX1_join_22 : decode cX1_join 22 = .ok (.ldc 144, 2) := by decide +kernel
theorem dX1_join_24 : decode cX1_join 24 = .ok (.invokespecial 146, 3) := by decide +kernel
theorem dX1_join_27 : decode cX1_join 27 = .ok (.athrow, 1) := by decide +kernel
theorem dX1_join_28 : decode cX1_join 28 = .ok (.aload_n 3, 1) := by decide +kernel
theorem dX1_join_29 : decode cX1_join 29 = .ok (.aload 4, 2) := by decide +kernel
theorem dX1_join_31 : decode cX1_join 31 = .ok (.invokestatic 147, 3) := by decide +kernel
theorem dX1_join_34 : decode cX1_join 34 = .ok (.ifCond .ne 13, 3) := by decide +kernel
theorem dX1_join_37 : decode cX1_join 37 = .ok (.new 83, 3) := by decide +kernel
theorem dX1_join_40 : decode cX1_join 40 = .ok (.dup, 1) := by decide +kernel
theorem dX1_join_41 : decode cX1_join 41 = .ok (.ldc 151, 2) := by decide +kernel
theorem dX1_join_43 : decode cX1_join 43 = .ok (.invokespecial 87, 3) := by decide +kernel
theorem dX1_join_46 : decode cX1_join 46 = .ok (.athrow, 1) := by decide +kernel
theorem dX1_join_47 : decode cX1_join 47 = .ok (.aload_n 3, 1) := by decide +kernel
theorem dX1_join_48 : decode cX1_join 48 = .ok (.dup, 1) := by decide +kernel
theorem dX1_join_49 : decode cX1_join 49 = .ok (.getfield 73, 3) := by decide +kernel
theorem dX1_join_52 : decode cX1_join 52 = .ok (.aload 4, 2) := by decide +kernel
theorem dX1_join_54 : decode cX1_join 54 = .ok (.getfield 73, 3) := by decide +kernel
theorem dX1_join_57 : decode cX1_join 57 = .ok (.iadd, 1) := by decide +kernel
theorem dX1_join_58 : decode cX1_join 58 = .ok (.putfield 73, 3) := by decide +kernel
theorem dX1_join_61 : decode cX1_join 61 = .ok (.aload_n 3, 1) := by decide +kernel
theorem dX1_join_62 : decode cX1_join 62 = .ok (.dup, 1) := by decide +kernel
theorem dX1_join_63 : decode cX1_join 63 = .ok (.getfield 138, 3) := by decide +kernel
theorem dX1_join_66 : decode cX1_join 66 = .ok (.aload 4, 2) := by decide +kernel
theorem dX1_join_68 : decode cX1_join 68 = .ok (.getfield 138, 3) := by decide +kernel
theorem dX1_join_71 : decode cX1_join 71 = .ok (.ladd, 1) := by decide +kernel
theorem dX1_join_72 : decode cX1_join 72 = .ok (.putfield 138, 3) := by decide +kernel
theorem dX1_join_75 : decode cX1_join 75 = .ok (.aload_n 3, 1) := by decide +kernel
theorem dX1_join_76 : decode cX1_join 76 = .ok (.dup, 1) := by decide +kernel
theorem dX1_join_77 : decode cX1_join 77 = .ok (.getfield 153, 3) := by decide +kernel
theorem dX1_join_80 : decode cX1_join 80 = .ok (.aload 4, 2) := by decide +kernel
theorem dX1_join_82 : decode cX1_join 82 = .ok (.getfield 153, 3) := by decide +kernel
theorem dX1_join_85 : decode cX1_join 85 = .ok (.ladd, 1) := by decide +kernel
theorem dX1_join_86 : decode cX1_join 86 = .ok (.putfield 153, 3) := by decide +kernel
theorem dX1_join_89 : decode cX1_join 89 = .ok (.aload_n 3, 1) := by decide +kernel
theorem dX1_join_90 : decode cX1_join 90 = .ok (.iconst (-1), 1) := by decide +kernel
theorem dX1_join_91 : decode cX1_join 91 = .ok (.putfield 133, 3) := by decide +kernel
theorem dX1_join_94 : decode cX1_join 94 = .ok (.aload 4, 2) := by decide +kernel
theorem dX1_join_96 : decode cX1_join 96 = .ok (.iconst 0, 1) := by decide +kernel
theorem dX1_join_97 : decode cX1_join 97 = .ok (.putfield 73, 3) := by decide +kernel
theorem dX1_join_100 : decode cX1_join 100 = .ok (.aload_n 3, 1) := by decide +kernel
theorem dX1_join_101 : decode cX1_join 101 = .ok (.getfield 73, 3) := by decide +kernel
theorem dX1_join_104 : decode cX1_join 104 = .ok (.ireturn, 1) := by decide +kernel
theorem dX1_pass_0 : decode cX1_pass 0 = .ok (.iload_n 1, 1) := by decide +kernel
theorem dX1_pass_1 : decode cX1_pass 1 = .ok (.iconst 1, 1) := by decide +kernel
theorem dX1_pass_2 : decode cX1_pass 2 = .ok (.bipush 100, 2) := by decide +kernel
theorem dX1_pass_4 : decode cX1_pass 4 = .ok (.invokestatic 47, 3) := by decide +kernel
theorem dX1_pass_7 : decode cX1_pass 7 = .ok (.aload_n 0, 1) := by decide +kernel
theorem dX1_pass_8 : decode cX1_pass 8 = .ok (.getfield 37, 3) := by decide +kernel
theorem dX1_pass_11 : decode cX1_pass 11 = .ok (.iload_n 1, 1) := by decide +kernel
theorem dX1_pass_12 : decode cX1_pass 12 = .ok (.iadd, 1) := by decide +kernel
theorem dX1_pass_13 : decode cX1_pass 13 = .ok (.sipush 3000, 3) := by decide +kernel
theorem dX1_pass_16 : decode cX1_pass 16 = .ok (.if_icmp .le 13, 3) := by decide +kernel
theorem dX1_pass_19 : decode cX1_pass 19 = .ok (.new 83, 3) := by decide +kernel
theorem dX1_pass_22 : decode cX1_pass 22 = .ok (.dup, 1) := by decide +kernel
theorem dX1_pass_23 : decode cX1_pass 23 = .ok (.ldc 156, 2) := by decide +kernel
theorem dX1_pass_25 : decode cX1_pass 25 = .ok (.invokespecial 87, 3) := by decide +kernel
theorem dX1_pass_28 : decode cX1_pass 28 = .ok (.athrow, 1) := by decide +kernel
theorem dX1_pass_29 : decode cX1_pass 29 = .ok (.iconst 0, 1) := by decide +kernel
theorem dX1_pass_30 : decode cX1_pass 30 = .ok (.istore_n 2, 1) := by decide +kernel
theorem dX1_pass_31 : decode cX1_pass 31 = .ok (.iload_n 2, 1) := by decide +kernel
theorem dX1_pass_32 : decode cX1_pass 32 = .ok (.iconst 4, 1) := by decide +kernel
theorem dX1_pass_33 : decode cX1_pass 33 = .ok (.if_icmp .ge 14, 3) := by decide +kernel
theorem dX1_pass_36 : decode cX1_pass 36 = .ok (.aload_n 0, 1) := by decide +kernel
theorem dX1_pass_37 : decode cX1_pass 37 = .ok (.iload_n 2, 1) := by decide +kernel
theorem dX1_pass_38 : decode cX1_pass 38 = .ok (.invokevirtual 107, 3) := by decide +kernel
theorem dX1_pass_41 : decode cX1_pass 41 = .ok (.iinc 2 1, 3) := by decide +kernel
theorem dX1_pass_44 : decode cX1_pass 44 = .ok (.goto (-13), 3) := by decide +kernel
theorem dX1_pass_47 : decode cX1_pass 47 = .ok (.iconst 0, 1) := by decide +kernel
theorem dX1_pass_48 : decode cX1_pass 48 = .ok (.istore_n 2, 1) := by decide +kernel
theorem dX1_pass_49 : decode cX1_pass 49 = .ok (.iconst 0, 1) := by decide +kernel
theorem dX1_pass_50 : decode cX1_pass 50 = .ok (.istore_n 3, 1) := by decide +kernel
theorem dX1_pass_51 : decode cX1_pass 51 = .ok (.iload_n 3, 1) := by decide +kernel
theorem dX1_pass_52 : decode cX1_pass 52 = .ok (.iload_n 1, 1) := by decide +kernel
theorem dX1_pass_53 : decode cX1_pass 53 = .ok (.if_icmp .ge 30, 3) := by decide +kernel
theorem dX1_pass_56 : decode cX1_pass 56 = .ok (.aload_n 0, 1) := by decide +kernel
theorem dX1_pass_57 : decode cX1_pass 57 = .ok (.invokevirtual 158, 3) := by decide +kernel
theorem dX1_pass_60 : decode cX1_pass 60 = .ok (.aload_n 0, 1) := by decide +kernel
theorem dX1_pass_61 : decode cX1_pass 61 = .ok (.dup, 1) := by decide +kernel
theorem dX1_pass_62 : decode cX1_pass 62 = .ok (.getfield 37, 3) := by decide +kernel
theorem dX1_pass_65 : decode cX1_pass 65 = .ok (.iconst 1, 1) := by decide +kernel
theorem dX1_pass_66 : decode cX1_pass 66 = .ok (.iadd, 1) := by decide +kernel
theorem dX1_pass_67 : decode cX1_pass 67 = .ok (.putfield 37, 3) := by decide +kernel
theorem dX1_pass_70 : decode cX1_pass 70 = .ok (.iload_n 2, 1) := by decide +kernel
theorem dX1_pass_71 : decode cX1_pass 71 = .ok (.aload_n 0, 1) := by decide +kernel
theorem dX1_pass_72 : decode cX1_pass 72 = .ok (.invokevirtual 161, 3) := by decide +kernel
theorem dX1_pass_75 : decode cX1_pass 75 = .ok (.iadd, 1) := by decide +kernel
theorem dX1_pass_76 : decode cX1_pass 76 = .ok (.istore_n 2, 1) := by decide +kernel
theorem dX1_pass_77 : decode cX1_pass 77 = .ok (.iinc 3 1, 3) := by decide +kernel
theorem dX1_pass_80 : decode cX1_pass 80 = .ok (.goto (-29), 3) := by decide +kernel
theorem dX1_pass_83 : decode cX1_pass 83 = .ok (.iload_n 2, 1) := by decide +kernel
theorem dX1_pass_84 : decode cX1_pass 84 = .ok (.ireturn, 1) := by decide +kernel
theorem dX1_today_0 : decode cX1_today 0 = .ok (.aload_n 0, 1) := by decide +kernel
theorem dX1_today_1 : decode cX1_today 1 = .ok (.getfield 37, 3) := by decide +kernel
theorem dX1_today_4 : decode cX1_today 4 = .ok (.ireturn, 1) := by decide +kernel
theorem dX1_lots_0 : decode cX1_lots 0 = .ok (.iconst 0, 1) := by decide +kernel
theorem dX1_lots_1 : decode cX1_lots 1 = .ok (.istore_n 1, 1) := by decide +kernel
theorem dX1_lots_2 : decode cX1_lots 2 = .ok (.iconst 0, 1) := by decide +kernel
theorem dX1_lots_3 : decode cX1_lots 3 = .ok (.istore_n 2, 1) := by decide +kernel
theorem dX1_lots_4 : decode cX1_lots 4 = .ok (.iload_n 2, 1) := by decide +kernel
theorem dX1_lots_5 : decode cX1_lots 5 = .ok (.aload_n 0, 1) := by decide +kernel
theorem dX1_lots_6 : decode cX1_lots 6 = .ok (.getfield 34, 3) := by decide +kernel
theorem dX1_lots_9 : decode cX1_lots 9 = .ok (.if_icmp .ge 20, 3) := by decide +kernel
theorem dX1_lots_12 : decode cX1_lots 12 = .ok (.aload_n 0, 1) := by decide +kernel
theorem dX1_lots_13 : decode cX1_lots 13 = .ok (.iload_n 2, 1) := by decide +kernel
theorem dX1_lots_14 : decode cX1_lots 14 = .ok (.invokevirtual 164, 3) := by decide +kernel
theorem dX1_lots_17 : decode cX1_lots 17 = .ok (.ifnull 6, 3) := by decide +kernel
theorem dX1_lots_20 : decode cX1_lots 20 = .ok (.iinc 1 1, 3) := by decide +kernel
theorem dX1_lots_23 : decode cX1_lots 23 = .ok (.iinc 2 1, 3) := by decide +kernel
theorem dX1_lots_26 : decode cX1_lots 26 = .ok (.goto (-22), 3) := by decide +kernel
theorem dX1_lots_29 : decode cX1_lots 29 = .ok (.iload_n 1, 1) := by decide +kernel
theorem dX1_lots_30 : decode cX1_lots 30 = .ok (.ireturn, 1) := by decide +kernel
theorem dX1_principal_0 : decode cX1_principal 0 = .ok (.aload_n 0, 1) := by decide +kernel
theorem dX1_principal_1 : decode cX1_principal 1 = .ok (.iload_n 1, 1) := by decide +kernel
theorem dX1_principal_2 : decode cX1_principal 2 = .ok (.invokevirtual 69, 3) := by decide +kernel
theorem dX1_principal_5 : decode cX1_principal 5 = .ok (.getfield 73, 3) := by decide +kernel
theorem dX1_principal_8 : decode cX1_principal 8 = .ok (.ireturn, 1) := by decide +kernel
theorem dX1_earned_0 : decode cX1_earned 0 = .ok (.aload_n 0, 1) := by decide +kernel
theorem dX1_earned_1 : decode cX1_earned 1 = .ok (.iload_n 1, 1) := by decide +kernel
theorem dX1_earned_2 : decode cX1_earned 2 = .ok (.invokevirtual 69, 3) := by decide +kernel
theorem dX1_earned_5 : decode cX1_earned 5 = .ok (.getfield 138, 3) := by decide +kernel
theorem dX1_earned_8 : decode cX1_earned 8 = .ok (.lreturn, 1) := by decide +kernel
theorem dX1_partsOfDay_0 : decode cX1_partsOfDay 0 = .ok (.aload_n 0, 1) := by decide +kernel
theorem dX1_partsOfDay_1 : decode cX1_partsOfDay 1 = .ok (.iload_n 1, 1) := by decide +kernel
theorem dX1_partsOfDay_2 : decode cX1_partsOfDay 2 = .ok (.invokevirtual 69, 3) := by decide +kernel
theorem dX1_partsOfDay_5 : decode cX1_partsOfDay 5 = .ok (.astore_n 2, 1) := by decide +kernel
theorem dX1_partsOfDay_6 : decode cX1_partsOfDay 6 = .ok (.aload_n 0, 1) := by decide +kernel
theorem dX1_partsOfDay_7 : decode cX1_partsOfDay 7 = .ok (.aload_n 2, 1) := by decide +kernel
theorem dX1_partsOfDay_8 : decode cX1_partsOfDay 8 = .ok (.getfield 167, 3) := by decide +kernel
theorem dX1_partsOfDay_11 : decode cX1_partsOfDay 11 = .ok (.invokevirtual 107, 3) := by decide +kernel
theorem dX1_partsOfDay_14 : decode cX1_partsOfDay 14 = .ok (.aload_n 2, 1) := by decide +kernel
theorem dX1_partsOfDay_15 : decode cX1_partsOfDay 15 = .ok (.getfield 153, 3) := by decide +kernel
theorem dX1_partsOfDay_18 : decode cX1_partsOfDay 18 = .ok (.lreturn, 1) := by decide +kernel
theorem dX1_frozen_0 : decode cX1_frozen 0 = .ok (.aload_n 0, 1) := by decide +kernel
theorem dX1_frozen_1 : decode cX1_frozen 1 = .ok (.iload_n 1, 1) := by decide +kernel
theorem dX1_frozen_2 : decode cX1_frozen 2 = .ok (.invokevirtual 69, 3) := by decide +kernel
theorem dX1_frozen_5 : decode cX1_frozen 5 = .ok (.getfield 80, 3) := by decide +kernel
theorem dX1_frozen_8 : decode cX1_frozen 8 = .ok (.ireturn, 1) := by decide +kernel
theorem dX1_endOf_0 : decode cX1_endOf 0 = .ok (.aload_n 0, 1) := by decide +kernel
theorem dX1_endOf_1 : decode cX1_endOf 1 = .ok (.iload_n 1, 1) := by decide +kernel
theorem dX1_endOf_2 : decode cX1_endOf 2 = .ok (.invokevirtual 69, 3) := by decide +kernel
theorem dX1_endOf_5 : decode cX1_endOf 5 = .ok (.getfield 170, 3) := by decide +kernel
theorem dX1_endOf_8 : decode cX1_endOf 8 = .ok (.ireturn, 1) := by decide +kernel
theorem dX1_total_0 : decode cX1_total 0 = .ok (.iload_n 1, 1) := by decide +kernel
theorem dX1_total_1 : decode cX1_total 1 = .ok (.invokestatic 51, 3) := by decide +kernel
theorem dX1_total_4 : decode cX1_total 4 = .ok (.aload_n 0, 1) := by decide +kernel
theorem dX1_total_5 : decode cX1_total 5 = .ok (.iload_n 1, 1) := by decide +kernel
theorem dX1_total_6 : decode cX1_total 6 = .ok (.invokevirtual 173, 3) := by decide +kernel
theorem dX1_total_9 : decode cX1_total 9 = .ok (.ireturn, 1) := by decide +kernel
theorem dX1_partsByTotal_0 : decode cX1_partsByTotal 0 = .ok (.iload_n 1, 1) := by decide +kernel
theorem dX1_partsByTotal_1 : decode cX1_partsByTotal 1 = .ok (.invokestatic 51, 3) := by decide +kernel
theorem dX1_partsByTotal_4 : decode cX1_partsByTotal 4 = .ok (.aload_n 0, 1) := by decide +kernel
theorem dX1_partsByTotal_5 : decode cX1_partsByTotal 5 = .ok (.iload_n 1, 1) := by decide +kernel
theorem dX1_partsByTotal_6 : decode cX1_partsByTotal 6 = .ok (.invokevirtual 173, 3) := by decide +kernel
theorem dX1_partsByTotal_9 : decode cX1_partsByTotal 9 = .ok (.istore_n 2, 1) := by decide +kernel
theorem dX1_partsByTotal_10 : decode cX1_partsByTotal 10 = .ok (.aload_n 0, 1) := by decide +kernel
theorem dX1_partsByTotal_11 : decode cX1_partsByTotal 11 = .ok (.iconst 0, 1) := by decide +kernel
theorem dX1_partsByTotal_12 : decode cX1_partsByTotal 12 = .ok (.iload_n 2, 1) := by decide +kernel
theorem dX1_partsByTotal_13 : decode cX1_partsByTotal 13 = .ok (.iload_n 2, 1) := by decide +kernel
theorem dX1_partsByTotal_14 : decode cX1_partsByTotal 14 = .ok (.invokevirtual 176, 3) := by decide +kernel
theorem dX1_partsByTotal_17 : decode cX1_partsByTotal 17 = .ok (.lreturn, 1) := by decide +kernel
theorem dX1_paid_0 : decode cX1_paid 0 = .ok (.iload_n 1, 1) := by decide +kernel
theorem dX1_paid_1 : decode cX1_paid 1 = .ok (.invokestatic 51, 3) := by decide +kernel
theorem dX1_paid_4 : decode cX1_paid 4 = .ok (.aload_n 0, 1) := by decide +kernel
theorem dX1_paid_5 : decode cX1_paid 5 = .ok (.getfield 13, 3) := by decide +kernel
theorem dX1_paid_8 : decode cX1_paid 8 = .ok (.iload_n 1, 1) := by decide +kernel
theorem dX1_paid_9 : decode cX1_paid 9 = .ok (.laload, 1) := by decide +kernel
theorem dX1_paid_10 : decode cX1_paid 10 = .ok (.lreturn, 1) := by decide +kernel
theorem dX1_lost_0 : decode cX1_lost 0 = .ok (.iload_n 1, 1) := by decide +kernel
theorem dX1_lost_1 : decode cX1_lost 1 = .ok (.invokestatic 51, 3) := by decide +kernel
theorem dX1_lost_4 : decode cX1_lost 4 = .ok (.aload_n 0, 1) := by decide +kernel
theorem dX1_lost_5 : decode cX1_lost 5 = .ok (.getfield 17, 3) := by decide +kernel
theorem dX1_lost_8 : decode cX1_lost 8 = .ok (.iload_n 1, 1) := by decide +kernel
theorem dX1_lost_9 : decode cX1_lost 9 = .ok (.laload, 1) := by decide +kernel
theorem dX1_lost_10 : decode cX1_lost 10 = .ok (.lreturn, 1) := by decide +kernel
theorem dX1_demandCustomer_0 : decode cX1_demandCustomer 0 = .ok (.iload_n 0, 1) := by decide +kernel
theorem dX1_demandCustomer_1 : decode cX1_demandCustomer 1 = .ok (.ifCond .lt 8, 3) := by decide +kernel
theorem dX1_demandCustomer_4 : decode cX1_demandCustomer 4 = .ok (.iload_n 0, 1) := by decide +kernel
theorem dX1_demandCustomer_5 : decode cX1_demandCustomer 5 = .ok (.iconst 4, 1) := by decide +kernel
theorem dX1_demandCustomer_6 : decode cX1_demandCustomer 6 = .ok (.if_icmp .lt 13, 3) := by decide +kernel
theorem dX1_demandCustomer_9 : decode cX1_demandCustomer 9 = .ok (.new 40, 3) := by decide +kernel
theorem dX1_demandCustomer_12 : decode cX1_demandCustomer 12 = .ok (.dup, 1) := by decide +kernel
theorem dX1_demandCustomer_13 : decode cX1_demandCustomer 13 = .ok (.ldc 180, 2) := by decide +kernel
theorem dX1_demandCustomer_15 : decode cX1_demandCustomer 15 = .ok (.invokespecial 44, 3) := by decide +kernel
theorem dX1_demandCustomer_18 : decode cX1_demandCustomer 18 = .ok (.athrow, 1) := by decide +kernel
theorem dX1_demandCustomer_19 : decode cX1_demandCustomer 19 = .ok (.return_, 1) := by decide +kernel
theorem dX1_demandRange_0 : decode cX1_demandRange 0 = .ok (.iload_n 0, 1) := by decide +kernel
theorem dX1_demandRange_1 : decode cX1_demandRange 1 = .ok (.iload_n 1, 1) := by decide +kernel
theorem dX1_demandRange_2 : decode cX1_demandRange 2 = .ok (.if_icmp .lt 8, 3) := by decide +kernel
theorem dX1_demandRange_5 : decode cX1_demandRange 5 = .ok (.iload_n 0, 1) := by decide +kernel
theorem dX1_demandRange_6 : decode cX1_demandRange 6 = .ok (.iload_n 2, 1) := by decide +kernel
theorem dX1_demandRange_7 : decode cX1_demandRange 7 = .ok (.if_icmp .le 13, 3) := by decide +kernel
theorem dX1_demandRange_10 : decode cX1_demandRange 10 = .ok (.new 142, 3) := by decide +kernel
theorem dX1_demandRange_13 : decode cX1_demandRange 13 = .ok (.dup, 1) := by decide +kernel
theorem dX1_demandRange_14 : decode cX1_demandRange 14 = .ok (.ldc 182, 2) := by decide +kernel
theorem dX1_demandRange_16 : decode cX1_demandRange 16 = .ok (.invokespecial 146, 3) := by decide +kernel
theorem dX1_demandRange_19 : decode cX1_demandRange 19 = .ok (.athrow, 1) := by decide +kernel
theorem dX1_demandRange_20 : decode cX1_demandRange 20 = .ok (.return_, 1) := by decide +kernel
theorem dX1_demandLot_0 : decode cX1_demandLot 0 = .ok (.aload_n 0, 1) := by decide +kernel
theorem dX1_demandLot_1 : decode cX1_demandLot 1 = .ok (.iload_n 1, 1) := by decide +kernel
theorem dX1_demandLot_2 : decode cX1_demandLot 2 = .ok (.invokevirtual 164, 3) := by decide +kernel
theorem dX1_demandLot_5 : decode cX1_demandLot 5 = .ok (.astore_n 2, 1) := by decide +kernel
theorem dX1_demandLot_6 : decode cX1_demandLot 6 = .ok (.aload_n 2, 1) := by decide +kernel
theorem dX1_demandLot_7 : decode cX1_demandLot 7 = .ok (.ifnonnull 13, 3) := by decide +kernel
theorem dX1_demandLot_10 : decode cX1_demandLot 10 = .ok (.new 40, 3) := by decide +kernel
theorem dX1_demandLot_13 : decode cX1_demandLot 13 = .ok (.dup, 1) := by decide +kernel
theorem dX1_demandLot_14 : decode cX1_demandLot 14 = .ok (.ldc 184, 2) := by decide +kernel
theorem dX1_demandLot_16 : decode cX1_demandLot 16 = .ok (.invokespecial 44, 3) := by decide +kernel
theorem dX1_demandLot_19 : decode cX1_demandLot 19 = .ok (.athrow, 1) := by decide +kernel
theorem dX1_demandLot_20 : decode cX1_demandLot 20 = .ok (.aload_n 2, 1) := by decide +kernel
theorem dX1_demandLot_21 : decode cX1_demandLot 21 = .ok (.areturn, 1) := by decide +kernel
theorem dX1_demandNotice_0 : decode cX1_demandNotice 0 = .ok (.aload_n 0, 1) := by decide +kernel
theorem dX1_demandNotice_1 : decode cX1_demandNotice 1 = .ok (.iload_n 1, 1) := by decide +kernel
theorem dX1_demandNotice_2 : decode cX1_demandNotice 2 = .ok (.invokevirtual 69, 3) := by decide +kernel
theorem dX1_demandNotice_5 : decode cX1_demandNotice 5 = .ok (.astore_n 2, 1) := by decide +kernel
theorem dX1_demandNotice_6 : decode cX1_demandNotice 6 = .ok (.aload_n 2, 1) := by decide +kernel
theorem dX1_demandNotice_7 : decode cX1_demandNotice 7 = .ok (.getfield 80, 3) := by decide +kernel
theorem dX1_demandNotice_10 : decode cX1_demandNotice 10 = .ok (.ifCond .ne 13, 3) := by decide +kernel
theorem dX1_demandNotice_13 : decode cX1_demandNotice 13 = .ok (.new 83, 3) := by decide +kernel
theorem dX1_demandNotice_16 : decode cX1_demandNotice 16 = .ok (.dup, 1) := by decide +kernel
theorem dX1_demandNotice_17 : decode cX1_demandNotice 17 = .ok (.ldc 186, 2) := by decide +kernel
theorem dX1_demandNotice_19 : decode cX1_demandNotice 19 = .ok (.invokespecial 87, 3) := by decide +kernel
theorem dX1_demandNotice_22 : decode cX1_demandNotice 22 = .ok (.athrow, 1) := by decide +kernel
theorem dX1_demandNotice_23 : decode cX1_demandNotice 23 = .ok (.aload_n 2, 1) := by decide +kernel
theorem dX1_demandNotice_24 : decode cX1_demandNotice 24 = .ok (.areturn, 1) := by decide +kernel
theorem dX1_canJoin_0 : decode cX1_canJoin 0 = .ok (.aload_n 0, 1) := by decide +kernel
theorem dX1_canJoin_1 : decode cX1_canJoin 1 = .ok (.invokevirtual 76, 3) := by decide +kernel
theorem dX1_canJoin_4 : decode cX1_canJoin 4 = .ok (.ifCond .eq 54, 3) := by decide +kernel
theorem dX1_canJoin_7 : decode cX1_canJoin 7 = .ok (.aload_n 1, 1) := by decide +kernel
theorem dX1_canJoin_8 : decode cX1_canJoin 8 = .ok (.invokevirtual 76, 3) := by decide +kernel
theorem dX1_canJoin_11 : decode cX1_canJoin 11 = .ok (.ifCond .eq 47, 3) := by decide +kernel
theorem dX1_canJoin_14 : decode cX1_canJoin 14 = .ok (.aload_n 0, 1) := by decide +kernel
theorem dX1_canJoin_15 : decode cX1_canJoin 15 = .ok (.getfield 167, 3) := by decide +kernel
theorem dX1_canJoin_18 : decode cX1_canJoin 18 = .ok (.aload_n 1, 1) := by decide +kernel
theorem dX1_canJoin_19 : decode cX1_canJoin 19 = .ok (.getfield 167, 3) := by decide +kernel
theorem dX1_canJoin_22 : decode cX1_canJoin 22 = .ok (.if_icmp .ne 36, 3) := by decide +kernel
theorem dX1_canJoin_25 : decode cX1_canJoin 25 = .ok (.aload_n 0, 1) := by decide +kernel
theorem dX1_canJoin_26 : decode cX1_canJoin 26 = .ok (.getfield 170, 3) := by decide +kernel
theorem dX1_canJoin_29 : decode cX1_canJoin 29 = .ok (.aload_n 1, 1) := by decide +kernel
theorem dX1_canJoin_30 : decode cX1_canJoin 30 = .ok (.getfield 170, 3) := by decide +kernel
theorem dX1_canJoin_33 : decode cX1_canJoin 33 = .ok (.if_icmp .ne 25, 3) := by decide +kernel
theorem dX1_canJoin_36 : decode cX1_canJoin 36 = .ok (.aload_n 0, 1) := by decide +kernel
theorem dX1_canJoin_37 : decode cX1_canJoin 37 = .ok (.getfield 73, 3) := by decide +kernel
theorem dX1_canJoin_40 : decode cX1_canJoin 40 = .ok (.i2l, 1) := by decide +kernel
theorem dX1_canJoin_41 : decode cX1_canJoin 41 = .ok (.aload_n 1, 1) := by decide +kernel
theorem dX1_canJoin_42 : decode cX1_canJoin 42 = .ok (.getfield 73, 3) := by decide +kernel
theorem dX1_canJoin_45 : decode cX1_canJoin 45 = .ok (.i2l, 1) := by decide +kernel
theorem dX1_canJoin_46 : decode cX1_canJoin 46 = .ok (.ladd, 1) := by decide +kernel
theorem dX1_canJoin_47 : decode cX1_canJoin 47 = .ok (.ldc2_w 188, 3) := by decide +kernel
theorem dX1_canJoin_50 : decode cX1_canJoin 50 = .ok (.lcmp, 1) := by decide +kernel
theorem dX1_canJoin_51 : decode cX1_canJoin 51 = .ok (.ifCond .gt 7, 3) := by decide +kernel
theorem dX1_canJoin_54 : decode cX1_canJoin 54 = .ok (.iconst 1, 1) := by decide +kernel
theorem dX1_canJoin_55 : decode cX1_canJoin 55 = .ok (.goto 4, 3) := by decide +kernel
theorem dX1_canJoin_58 : decode cX1_canJoin 58 = .ok (.iconst 0, 1) := by decide +kernel
theorem dX1_canJoin_59 : decode cX1_canJoin 59 = .ok (.ireturn, 1) := by decide +kernel
theorem dX1_lotAt_0 : decode cX1_lotAt 0 = .ok (.iload_n 1, 1) := by decide +kernel
theorem dX1_lotAt_1 : decode cX1_lotAt 1 = .ok (.ifCond .lt 12, 3) := by decide +kernel
theorem dX1_lotAt_4 : decode cX1_lotAt 4 = .ok (.iload_n 1, 1) := by decide +kernel
theorem dX1_lotAt_5 : decode cX1_lotAt 5 = .ok (.aload_n 0, 1) := by decide +kernel
theorem dX1_lotAt_6 : decode cX1_lotAt 6 = .ok (.getfield 22, 3) := by decide +kernel
theorem dX1_lotAt_9 : decode cX1_lotAt 9 = .ok (.arraylength, 1) := by decide +kernel
theorem dX1_lotAt_10 : decode cX1_lotAt 10 = .ok (.if_icmp .lt 5, 3) := by decide +kernel
theorem dX1_lotAt_13 : decode cX1_lotAt 13 = .ok (.aconst_null, 1) := by decide +kernel
theorem dX1_lotAt_14 : decode cX1_lotAt 14 = .ok (.areturn, 1) := by decide +kernel
theorem dX1_lotAt_15 : decode cX1_lotAt 15 = .ok (.aload_n 0, 1) := by decide +kernel
theorem dX1_lotAt_16 : decode cX1_lotAt 16 = .ok (.getfield 22, 3) := by decide +kernel
theorem dX1_lotAt_19 : decode cX1_lotAt 19 = .ok (.iload_n 1, 1) := by decide +kernel
theorem dX1_lotAt_20 : decode cX1_lotAt 20 = .ok (.aaload, 1) := by decide +kernel
theorem dX1_lotAt_21 : decode cX1_lotAt 21 = .ok (.astore_n 2, 1) := by decide +kernel
theorem dX1_lotAt_22 : decode cX1_lotAt 22 = .ok (.aload_n 2, 1) := by decide +kernel
theorem dX1_lotAt_23 : decode cX1_lotAt 23 = .ok (.ifnull 14, 3) := by decide +kernel
theorem dX1_lotAt_26 : decode cX1_lotAt 26 = .ok (.aload_n 2, 1) := by decide +kernel
theorem dX1_lotAt_27 : decode cX1_lotAt 27 = .ok (.getfield 73, 3) := by decide +kernel
theorem dX1_lotAt_30 : decode cX1_lotAt 30 = .ok (.ifCond .le 7, 3) := by decide +kernel
theorem dX1_lotAt_33 : decode cX1_lotAt 33 = .ok (.aload_n 2, 1) := by decide +kernel
theorem dX1_lotAt_34 : decode cX1_lotAt 34 = .ok (.goto 4, 3) := by decide +kernel
theorem dX1_lotAt_37 : decode cX1_lotAt 37 = .ok (.aconst_null, 1) := by decide +kernel
theorem dX1_lotAt_38 : decode cX1_lotAt 38 = .ok (.areturn, 1) := by decide +kernel
theorem dX1_noticeLotAt_0 : decode cX1_noticeLotAt 0 = .ok (.aload_n 0, 1) := by decide +kernel
theorem dX1_noticeLotAt_1 : decode cX1_noticeLotAt 1 = .ok (.iload_n 1, 1) := by decide +kernel
theorem dX1_noticeLotAt_2 : decode cX1_noticeLotAt 2 = .ok (.invokevirtual 164, 3) := by decide +kernel
theorem dX1_noticeLotAt_5 : decode cX1_noticeLotAt 5 = .ok (.astore_n 3, 1) := by decide +kernel
theorem dX1_noticeLotAt_6 : decode cX1_noticeLotAt 6 = .ok (.aload_n 3, 1) := by decide +kernel
theorem dX1_noticeLotAt_7 : decode cX1_noticeLotAt 7 = .ok (.ifnull 22, 3) := by decide +kernel
theorem dX1_noticeLotAt_10 : decode cX1_noticeLotAt 10 = .ok (.aload_n 3, 1) := by decide +kernel
theorem dX1_noticeLotAt_11 : decode cX1_noticeLotAt 11 = .ok (.invokevirtual 76, 3) := by decide +kernel
theorem dX1_noticeLotAt_14 : decode cX1_noticeLotAt 14 = .ok (.ifCond .ne 15, 3) := by decide +kernel
theorem dX1_noticeLotAt_17 : decode cX1_noticeLotAt 17 = .ok (.aload_n 3, 1) := by decide +kernel
theorem dX1_noticeLotAt_18 : decode cX1_noticeLotAt 18 = .ok (.getfield 167, 3) := by decide +kernel
theorem dX1_noticeLotAt_21 : decode cX1_noticeLotAt 21 = .ok (.iload_n 2, 1) := by decide +kernel
theorem dX1_noticeLotAt_22 : decode cX1_noticeLotAt 22 = .ok (.if_icmp .ne 7, 3) := by decide +kernel
theorem dX1_noticeLotAt_25 : decode cX1_noticeLotAt 25 = .ok (.aload_n 3, 1) := by decide +kernel
theorem dX1_noticeLotAt_26 : decode cX1_noticeLotAt 26 = .ok (.goto 4, 3) := by decide +kernel
theorem dX1_noticeLotAt_29 : decode cX1_noticeLotAt 29 = .ok (.aconst_null, 1) := by decide +kernel
theorem dX1_noticeLotAt_30 : decode cX1_noticeLotAt 30 = .ok (.areturn, 1) := by decide +kernel
theorem dX1_totalOf_0 : decode cX1_totalOf 0 = .ok (.iconst 0, 1) := by decide +kernel
theorem dX1_totalOf_1 : decode cX1_totalOf 1 = .ok (.istore_n 2, 1) := by decide +kernel
theorem dX1_totalOf_2 : decode cX1_totalOf 2 = .ok (.iconst 0, 1) := by decide +kernel
theorem dX1_totalOf_3 : decode cX1_totalOf 3 = .ok (.istore_n 3, 1) := by decide +kernel
theorem dX1_totalOf_4 : decode cX1_totalOf 4 = .ok (.iload_n 3, 1) := by decide +kernel
theorem dX1_totalOf_5 : decode cX1_totalOf 5 = .ok (.aload_n 0, 1) := by decide +kernel
theorem dX1_totalOf_6 : decode cX1_totalOf 6 = .ok (.getfield 34, 3) := by decide +kernel
theorem dX1_totalOf_9 : decode cX1_totalOf 9 = .ok (.if_icmp .ge 30, 3) := by decide +kernel
theorem dX1_totalOf_12 : decode cX1_totalOf 12 = .ok (.aload_n 0, 1) := by decide +kernel
theorem dX1_totalOf_13 : decode cX1_totalOf 13 = .ok (.iload_n 3, 1) := by decide +kernel
theorem dX1_totalOf_14 : decode cX1_totalOf 14 = .ok (.iload_n 1, 1) := by decide +kernel
theorem dX1_totalOf_15 : decode cX1_totalOf 15 = .ok (.invokevirtual 190, 3) := by decide +kernel
theorem dX1_totalOf_18 : decode cX1_totalOf 18 = .ok (.astore 4, 2) := by decide +kernel
theorem dX1_totalOf_20 : decode cX1_totalOf 20 = .ok (.aload 4, 2) := by decide +kernel
theorem dX1_totalOf_22 : decode cX1_totalOf 22 = .ok (.ifnull 11, 3) := by decide +kernel
theorem dX1_totalOf_25 : decode cX1_totalOf 25 = .ok (.iload_n 2, 1) := by decide +kernel
theorem dX1_totalOf_26 : decode cX1_totalOf 26 = .ok (.aload 4, 2) := by decide +kernel
theorem dX1_totalOf_28 : decode cX1_totalOf 28 = .ok (.getfield 73, 3) := by decide +kernel
theorem dX1_totalOf_31 : decode cX1_totalOf 31 = .ok (.iadd, 1) := by decide +kernel
theorem dX1_totalOf_32 : decode cX1_totalOf 32 = .ok (.istore_n 2, 1) := by decide +kernel
theorem dX1_totalOf_33 : decode cX1_totalOf 33 = .ok (.iinc 3 1, 3) := by decide +kernel
theorem dX1_totalOf_36 : decode cX1_totalOf 36 = .ok (.goto (-32), 3) := by decide +kernel
theorem dX1_totalOf_39 : decode cX1_totalOf 39 = .ok (.iload_n 2, 1) := by decide +kernel
theorem dX1_totalOf_40 : decode cX1_totalOf 40 = .ok (.ireturn, 1) := by decide +kernel
theorem dX1_unfrozenOf_0 : decode cX1_unfrozenOf 0 = .ok (.iconst 0, 1) := by decide +kernel
theorem dX1_unfrozenOf_1 : decode cX1_unfrozenOf 1 = .ok (.istore_n 2, 1) := by decide +kernel
theorem dX1_unfrozenOf_2 : decode cX1_unfrozenOf 2 = .ok (.iconst 0, 1) := by decide +kernel
theorem dX1_unfrozenOf_3 : decode cX1_unfrozenOf 3 = .ok (.istore_n 3, 1) := by decide +kernel
theorem dX1_unfrozenOf_4 : decode cX1_unfrozenOf 4 = .ok (.iload_n 3, 1) := by decide +kernel
theorem dX1_unfrozenOf_5 : decode cX1_unfrozenOf 5 = .ok (.aload_n 0, 1) := by decide +kernel
theorem dX1_unfrozenOf_6 : decode cX1_unfrozenOf 6 = .ok (.getfield 34, 3) := by decide +kernel
theorem dX1_unfrozenOf_9 : decode cX1_unfrozenOf 9 = .ok (.if_icmp .ge 30, 3) := by decide +kernel
theorem dX1_unfrozenOf_12 : decode cX1_unfrozenOf 12 = .ok (.aload_n 0, 1) := by decide +kernel
theorem dX1_unfrozenOf_13 : decode cX1_unfrozenOf 13 = .ok (.iload_n 3, 1) := by decide +kernel
theorem dX1_unfrozenOf_14 : decode cX1_unfrozenOf 14 = .ok (.iload_n 1, 1) := by decide +kernel
theorem dX1_unfrozenOf_15 : decode cX1_unfrozenOf 15 = .ok (.invokevirtual 190, 3) := by decide +kernel
theorem dX1_unfrozenOf_18 : decode cX1_unfrozenOf 18 = .ok (.astore 4, 2) := by decide +kernel
theorem dX1_unfrozenOf_20 : decode cX1_unfrozenOf 20 = .ok (.aload 4, 2) := by decide +kernel
theorem dX1_unfrozenOf_22 : decode cX1_unfrozenOf 22 = .ok (.ifnull 11, 3) := by decide +kernel
theorem dX1_unfrozenOf_25 : decode cX1_unfrozenOf 25 = .ok (.iload_n 2, 1) := by decide +kernel
theorem dX1_unfrozenOf_26 : decode cX1_unfrozenOf 26 = .ok (.aload 4, 2) := by decide +kernel
theorem dX1_unfrozenOf_28 : decode cX1_unfrozenOf 28 = .ok (.invokevirtual 113, 3) := by decide +kernel
theorem dX1_unfrozenOf_31 : decode cX1_unfrozenOf 31 = .ok (.iadd, 1) := by decide +kernel
theorem dX1_unfrozenOf_32 : decode cX1_unfrozenOf 32 = .ok (.istore_n 2, 1) := by decide +kernel
theorem dX1_unfrozenOf_33 : decode cX1_unfrozenOf 33 = .ok (.iinc 3 1, 3) := by decide +kernel
theorem dX1_unfrozenOf_36 : decode cX1_unfrozenOf 36 = .ok (.goto (-32), 3) := by decide +kernel
theorem dX1_unfrozenOf_39 : decode cX1_unfrozenOf 39 = .ok (.iload_n 2, 1) := by decide +kernel
theorem dX1_unfrozenOf_40 : decode cX1_unfrozenOf 40 = .ok (.ireturn, 1) := by decide +kernel
theorem dX1_leastHarmful_0 : decode cX1_leastHarmful 0 = .ok (.aconst_null, 1) := by decide +kernel
theorem dX1_leastHarmful_1 : decode cX1_leastHarmful 1 = .ok (.astore_n 2, 1) := by decide +kernel
theorem dX1_leastHarmful_2 : decode cX1_leastHarmful 2 = .ok (.iconst 0, 1) := by decide +kernel
theorem dX1_leastHarmful_3 : decode cX1_leastHarmful 3 = .ok (.istore_n 3, 1) := by decide +kernel
theorem dX1_leastHarmful_4 : decode cX1_leastHarmful 4 = .ok (.iload_n 3, 1) := by decide +kernel
theorem dX1_leastHarmful_5 : decode cX1_leastHarmful 5 = .ok (.aload_n 0, 1) := by decide +kernel
theorem dX1_leastHarmful_6 : decode cX1_leastHarmful 6 = .ok (.getfield 34, 3) := by decide +kernel
theorem dX1_leastHarmful_9 : decode cX1_leastHarmful 9 = .ok (.if_icmp .ge 46, 3) := by decide +kernel
theorem dX1_leastHarmful_12 : decode cX1_leastHarmful 12 = .ok (.aload_n 0, 1) := by decide +kernel
theorem dX1_leastHarmful_13 : decode cX1_leastHarmful 13 = .ok (.iload_n 3, 1) := by decide +kernel
theorem dX1_leastHarmful_14 : decode cX1_leastHarmful 14 = .ok (.iload_n 1, 1) := by decide +kernel
theorem dX1_leastHarmful_15 : decode cX1_leastHarmful 15 = .ok (.invokevirtual 190, 3) := by decide +kernel
theorem dX1_leastHarmful_18 : decode cX1_leastHarmful 18 = .ok (.astore 4, 2) := by decide +kernel
theorem dX1_leastHarmful_20 : decode cX1_leastHarmful 20 = .ok (.aload 4, 2) := by decide +kernel
theorem dX1_leastHarmful_22 : decode cX1_leastHarmful 22 = .ok (.ifnull 27, 3) := by decide +kernel
theorem dX1_leastHarmful_25 : decode cX1_leastHarmful 25 = .ok (.aload 4, 2) := by decide +kernel
theorem dX1_leastHarmful_27 : decode cX1_leastHarmful 27 = .ok (.invokevirtual 113, 3) := by decide +kernel
theorem dX1_leastHarmful_30 : decode cX1_leastHarmful 30 = .ok (.ifCond .le 19, 3) := by decide +kernel
theorem dX1_leastHarmful_33 : decode cX1_leastHarmful 33 = .ok (.aload_n 2, 1) := by decide +kernel
theorem dX1_leastHarmful_34 : decode cX1_leastHarmful 34 = .ok (.ifnull 12, 3) := by decide +kernel
theorem dX1_leastHarmful_37 : decode cX1_leastHarmful 37 = .ok (.aload 4, 2) := by decide +kernel
theorem dX1_leastHarmful_39 : decode cX1_leastHarmful 39 = .ok (.aload_n 2, 1) := by decide +kernel
theorem dX1_leastHarmful_40 : decode cX1_leastHarmful 40 = .ok (.invokestatic 194, 3) := by decide +kernel
theorem dX1_leastHarmful_43 : decode cX1_leastHarmful 43 = .ok (.ifCond .eq 6, 3) := by decide +kernel
theorem dX1_leastHarmful_46 : decode cX1_leastHarmful 46 = .ok (.aload 4, 2) := by decide +kernel
theorem dX1_leastHarmful_48 : decode cX1_leastHarmful 48 = .ok (.astore_n 2, 1) := by decide +kernel
theorem dX1_leastHarmful_49 : decode cX1_leastHarmful 49 = .ok (.iinc 3 1, 3) := by decide +kernel
theorem dX1_leastHarmful_52 : decode cX1_leastHarmful 52 = .ok (.goto (-48), 3) := by decide +kernel
theorem dX1_leastHarmful_55 : decode cX1_leastHarmful 55 = .ok (.aload_n 2, 1) := by decide +kernel
theorem dX1_leastHarmful_56 : decode cX1_leastHarmful 56 = .ok (.areturn, 1) := by decide +kernel
theorem dX1_harmsNoMore_0 : decode cX1_harmsNoMore 0 = .ok (.aload_n 0, 1) := by decide +kernel
theorem dX1_harmsNoMore_1 : decode cX1_harmsNoMore 1 = .ok (.getfield 153, 3) := by decide +kernel
theorem dX1_harmsNoMore_4 : decode cX1_harmsNoMore 4 = .ok (.aload_n 1, 1) := by decide +kernel
theorem dX1_harmsNoMore_5 : decode cX1_harmsNoMore 5 = .ok (.getfield 73, 3) := by decide +kernel
theorem dX1_harmsNoMore_8 : decode cX1_harmsNoMore 8 = .ok (.i2l, 1) := by decide +kernel
theorem dX1_harmsNoMore_9 : decode cX1_harmsNoMore 9 = .ok (.lmul, 1) := by decide +kernel
theorem dX1_harmsNoMore_10 : decode cX1_harmsNoMore 10 = .ok (.aload_n 1, 1) := by decide +kernel
theorem dX1_harmsNoMore_11 : decode cX1_harmsNoMore 11 = .ok (.getfield 153, 3) := by decide +kernel
theorem dX1_harmsNoMore_14 : decode cX1_harmsNoMore 14 = .ok (.aload_n 0, 1) := by decide +kernel
theorem dX1_harmsNoMore_15 : decode cX1_harmsNoMore 15 = .ok (.getfield 73, 3) := by decide +kernel
theorem dX1_harmsNoMore_18 : decode cX1_harmsNoMore 18 = .ok (.i2l, 1) := by decide +kernel
theorem dX1_harmsNoMore_19 : decode cX1_harmsNoMore 19 = .ok (.lmul, 1) := by decide +kernel
theorem dX1_harmsNoMore_20 : decode cX1_harmsNoMore 20 = .ok (.lcmp, 1) := by decide +kernel
theorem dX1_harmsNoMore_21 : decode cX1_harmsNoMore 21 = .ok (.ifCond .gt 7, 3) := by decide +kernel
theorem dX1_harmsNoMore_24 : decode cX1_harmsNoMore 24 = .ok (.iconst 1, 1) := by decide +kernel
theorem dX1_harmsNoMore_25 : decode cX1_harmsNoMore 25 = .ok (.goto 4, 3) := by decide +kernel
theorem dX1_harmsNoMore_28 : decode cX1_harmsNoMore 28 = .ok (.iconst 0, 1) := by decide +kernel
theorem dX1_harmsNoMore_29 : decode cX1_harmsNoMore 29 = .ok (.ireturn, 1) := by decide +kernel
theorem dX1_noteParts_0 : decode cX1_noteParts 0 = .ok (.aload_n 0, 1) := by decide +kernel
theorem dX1_noteParts_1 : decode cX1_noteParts 1 = .ok (.iload_n 1, 1) := by decide +kernel
theorem dX1_noteParts_2 : decode cX1_noteParts 2 = .ok (.invokevirtual 173, 3) := by decide +kernel
theorem dX1_noteParts_5 : decode cX1_noteParts 5 = .ok (.istore_n 2, 1) := by decide +kernel
theorem dX1_noteParts_6 : decode cX1_noteParts 6 = .ok (.iconst 0, 1) := by decide +kernel
theorem dX1_noteParts_7 : decode cX1_noteParts 7 = .ok (.istore_n 3, 1) := by decide +kernel
theorem dX1_noteParts_8 : decode cX1_noteParts 8 = .ok (.iconst 0, 1) := by decide +kernel
theorem dX1_noteParts_9 : decode cX1_noteParts 9 = .ok (.istore 4, 2) := by decide +kernel
theorem dX1_noteParts_11 : decode cX1_noteParts 11 = .ok (.iload 4, 2) := by decide +kernel
theorem dX1_noteParts_13 : decode cX1_noteParts 13 = .ok (.aload_n 0, 1) := by decide +kernel
theorem dX1_noteParts_14 : decode cX1_noteParts 14 = .ok (.getfield 34, 3) := by decide +kernel
theorem dX1_noteParts_17 : decode cX1_noteParts 17 = .ok (.if_icmp .ge 48, 3) := by decide +kernel
theorem dX1_noteParts_20 : decode cX1_noteParts 20 = .ok (.aload_n 0, 1) := by decide +kernel
theorem dX1_noteParts_21 : decode cX1_noteParts 21 = .ok (.iload 4, 2) := by decide +kernel
theorem dX1_noteParts_23 : decode cX1_noteParts 23 = .ok (.iload_n 1, 1) := by decide +kernel
theorem dX1_noteParts_24 : decode cX1_noteParts 24 = .ok (.invokevirtual 190, 3) := by decide +kernel
theorem dX1_noteParts_27 : decode cX1_noteParts 27 = .ok (.astore 5, 2) := by decide +kernel
theorem dX1_noteParts_29 : decode cX1_noteParts 29 = .ok (.aload 5, 2) := by decide +kernel
theorem dX1_noteParts_31 : decode cX1_noteParts 31 = .ok (.ifnull 28, 3) := by decide +kernel
theorem dX1_noteParts_34 : decode cX1_noteParts 34 = .ok (.iload_n 3, 1) := by decide +kernel
theorem dX1_noteParts_35 : decode cX1_noteParts 35 = .ok (.aload 5, 2) := by decide +kernel
theorem dX1_noteParts_37 : decode cX1_noteParts 37 = .ok (.getfield 73, 3) := by decide +kernel
theorem dX1_noteParts_40 : decode cX1_noteParts 40 = .ok (.iadd, 1) := by decide +kernel
theorem dX1_noteParts_41 : decode cX1_noteParts 41 = .ok (.istore 6, 2) := by decide +kernel
theorem dX1_noteParts_43 : decode cX1_noteParts 43 = .ok (.aload 5, 2) := by decide +kernel
theorem dX1_noteParts_45 : decode cX1_noteParts 45 = .ok (.aload_n 0, 1) := by decide +kernel
theorem dX1_noteParts_46 : decode cX1_noteParts 46 = .ok (.iload_n 3, 1) := by decide +kernel
theorem dX1_noteParts_47 : decode cX1_noteParts 47 = .ok (.iload 6, 2) := by decide +kernel
theorem dX1_noteParts_49 : decode cX1_noteParts 49 = .ok (.iload_n 2, 1) := by decide +kernel
theorem dX1_noteParts_50 : decode cX1_noteParts 50 = .ok (.invokevirtual 176, 3) := by decide +kernel
theorem dX1_noteParts_53 : decode cX1_noteParts 53 = .ok (.putfield 153, 3) := by decide +kernel
theorem dX1_noteParts_56 : decode cX1_noteParts 56 = .ok (.iload 6, 2) := by decide +kernel
theorem dX1_noteParts_58 : decode cX1_noteParts 58 = .ok (.istore_n 3, 1) := by decide +kernel
theorem dX1_noteParts_59 : decode cX1_noteParts 59 = .ok (.iinc 4 1, 3) := by decide +kernel
theorem dX1_noteParts_62 : decode cX1_noteParts 62 = .ok (.goto (-51), 3) := by decide +kernel
theorem dX1_noteParts_65 : decode cX1_noteParts 65 = .ok (.return_, 1) := by decide +kernel
theorem dX1_partsOfCents_0 : decode cX1_partsOfCents 0 = .ok (.aload_n 0, 1) := by decide +kernel
theorem dX1_partsOfCents_1 : decode cX1_partsOfCents 1 = .ok (.getfield 26, 3) := by decide +kernel
theorem dX1_partsOfCents_4 : decode cX1_partsOfCents 4 = .ok (.ifCond .eq 15, 3) := by decide +kernel
theorem dX1_partsOfCents_7 : decode cX1_partsOfCents 7 = .ok (.aload_n 0, 1) := by decide +kernel
theorem dX1_partsOfCents_8 : decode cX1_partsOfCents 8 = .ok (.iload_n 2, 1) := by decide +kernel
theorem dX1_partsOfCents_9 : decode cX1_partsOfCents 9 = .ok (.invokevirtual 197, 3) := by decide +kernel
theorem dX1_partsOfCents_12 : decode cX1_partsOfCents 12 = .ok (.aload_n 0, 1) := by decide +kernel
theorem dX1_partsOfCents_13 : decode cX1_partsOfCents 13 = .ok (.iload_n 1, 1) := by decide +kernel
theorem dX1_partsOfCents_14 : decode cX1_partsOfCents 14 = .ok (.invokevirtual 197, 3) := by decide +kernel
theorem dX1_partsOfCents_17 : decode cX1_partsOfCents 17 = .ok (.lsub, 1) := by decide +kernel
theorem dX1_partsOfCents_18 : decode cX1_partsOfCents 18 = .ok (.lreturn, 1) := by decide +kernel
theorem dX1_partsOfCents_19 : decode cX1_partsOfCents 19 = .ok (.iload_n 2, 1) := by decide +kernel
theorem dX1_partsOfCents_20 : decode cX1_partsOfCents 20 = .ok (.iload_n 1, 1) := by decide +kernel
theorem dX1_partsOfCents_21 : decode cX1_partsOfCents 21 = .ok (.isub, 1) := by decide +kernel
theorem dX1_partsOfCents_22 : decode cX1_partsOfCents 22 = .ok (.i2l, 1) := by decide +kernel
theorem dX1_partsOfCents_23 : decode cX1_partsOfCents 23 = .ok (.aload_n 0, 1) := by decide +kernel
theorem dX1_partsOfCents_24 : decode cX1_partsOfCents 24 = .ok (.iload_n 3, 1) := by decide +kernel
theorem dX1_partsOfCents_25 : decode cX1_partsOfCents 25 = .ok (.invokevirtual 201, 3) := by decide +kernel
theorem dX1_partsOfCents_28 : decode cX1_partsOfCents 28 = .ok (.i2l, 1) := by decide +kernel
theorem dX1_partsOfCents_29 : decode cX1_partsOfCents 29 = .ok (.lmul, 1) := by decide +kernel
theorem dX1_partsOfCents_30 : decode cX1_partsOfCents 30 = .ok (.lreturn, 1) := by decide +kernel
theorem dX1_partsByBands_0 : decode cX1_partsByBands 0 = .ok (.iload_n 1, 1) := by decide +kernel
theorem dX1_partsByBands_1 : decode cX1_partsByBands 1 = .ok (.ldc 204, 2) := by decide +kernel
theorem dX1_partsByBands_3 : decode cX1_partsByBands 3 = .ok (.invokestatic 117, 3) := by decide +kernel
theorem dX1_partsByBands_6 : decode cX1_partsByBands 6 = .ok (.istore_n 2, 1) := by decide +kernel
theorem dX1_partsByBands_7 : decode cX1_partsByBands 7 = .ok (.iload_n 1, 1) := by decide +kernel
theorem dX1_partsByBands_8 : decode cX1_partsByBands 8 = .ok (.ldc 205, 2) := by decide +kernel
theorem dX1_partsByBands_10 : decode cX1_partsByBands 10 = .ok (.invokestatic 117, 3) := by decide +kernel
theorem dX1_partsByBands_13 : decode cX1_partsByBands 13 = .ok (.iload_n 2, 1) := by decide +kernel
theorem dX1_partsByBands_14 : decode cX1_partsByBands 14 = .ok (.isub, 1) := by decide +kernel
theorem dX1_partsByBands_15 : decode cX1_partsByBands 15 = .ok (.istore_n 3, 1) := by decide +kernel
theorem dX1_partsByBands_16 : decode cX1_partsByBands 16 = .ok (.iload_n 1, 1) := by decide +kernel
theorem dX1_partsByBands_17 : decode cX1_partsByBands 17 = .ok (.iload_n 2, 1) := by decide +kernel
theorem dX1_partsByBands_18 : decode cX1_partsByBands 18 = .ok (.isub, 1) := by decide +kernel
theorem dX1_partsByBands_19 : decode cX1_partsByBands 19 = .ok (.iload_n 3, 1) := by decide +kernel
theorem dX1_partsByBands_20 : decode cX1_partsByBands 20 = .ok (.isub, 1) := by decide +kernel
theorem dX1_partsByBands_21 : decode cX1_partsByBands 21 = .ok (.istore 4, 2) := by decide +kernel
theorem dX1_partsByBands_23 : decode cX1_partsByBands 23 = .ok (.iload_n 2, 1) := by decide +kernel
theorem dX1_partsByBands_24 : decode cX1_partsByBands 24 = .ok (.i2l, 1) := by decide +kernel
theorem dX1_partsByBands_25 : decode cX1_partsByBands 25 = .ok (.aload_n 0, 1) := by decide +kernel
theorem dX1_partsByBands_26 : decode cX1_partsByBands 26 = .ok (.getfield 7, 3) := by decide +kernel
theorem dX1_partsByBands_29 : decode cX1_partsByBands 29 = .ok (.iconst 0, 1) := by decide +kernel
theorem dX1_partsByBands_30 : decode cX1_partsByBands 30 = .ok (.iaload, 1) := by decide +kernel
theorem dX1_partsByBands_31 : decode cX1_partsByBands 31 = .ok (.i2l, 1) := by decide +kernel
theorem dX1_partsByBands_32 : decode cX1_partsByBands 32 = .ok (.lmul, 1) := by decide +kernel
theorem dX1_partsByBands_33 : decode cX1_partsByBands 33 = .ok (.iload_n 3, 1) := by decide +kernel
theorem dX1_partsByBands_34 : decode cX1_partsByBands 34 = .ok (.i2l, 1) := by decide +kernel
theorem dX1_partsByBands_35 : decode cX1_partsByBands 35 = .ok (.aload_n 0, 1) := by decide +kernel
theorem dX1_partsByBands_36 : decode cX1_partsByBands 36 = .ok (.getfield 7, 3) := by decide +kernel
theorem dX1_partsByBands_39 : decode cX1_partsByBands 39 = .ok (.iconst 1, 1) := by decide +kernel
theorem dX1_partsByBands_40 : decode cX1_partsByBands 40 = .ok (.iaload, 1) := by decide +kernel
theorem dX1_partsByBands_41 : decode cX1_partsByBands 41 = .ok (.i2l, 1) := by decide +kernel
theorem dX1_partsByBands_42 : decode cX1_partsByBands 42 = .ok (.lmul, 1) := by decide +kernel
theorem dX1_partsByBands_43 : decode cX1_partsByBands 43 = .ok (.ladd, 1) := by decide +kernel
theorem dX1_partsByBands_44 : decode cX1_partsByBands 44 = .ok (.iload 4, 2) := by decide +kernel
theorem dX1_partsByBands_46 : decode cX1_partsByBands 46 = .ok (.i2l, 1) := by decide +kernel
theorem dX1_partsByBands_47 : decode cX1_partsByBands 47 = .ok (.aload_n 0, 1) := by decide +kernel
theorem dX1_partsByBands_48 : decode cX1_partsByBands 48 = .ok (.getfield 7, 3) := by decide +kernel
theorem dX1_partsByBands_51 : decode cX1_partsByBands 51 = .ok (.iconst 2, 1) := by decide +kernel
theorem dX1_partsByBands_52 : decode cX1_partsByBands 52 = .ok (.iaload, 1) := by decide +kernel
theorem dX1_partsByBands_53 : decode cX1_partsByBands 53 = .ok (.i2l, 1) := by decide +kernel
theorem dX1_partsByBands_54 : decode cX1_partsByBands 54 = .ok (.lmul, 1) := by decide +kernel
theorem dX1_partsByBands_55 : decode cX1_partsByBands 55 = .ok (.ladd, 1) := by decide +kernel
theorem dX1_partsByBands_56 : decode cX1_partsByBands 56 = .ok (.lreturn, 1) := by decide +kernel
theorem dX1_rateByWholeSum_0 : decode cX1_rateByWholeSum 0 = .ok (.iload_n 1, 1) := by decide +kernel
theorem dX1_rateByWholeSum_1 : decode cX1_rateByWholeSum 1 = .ok (.iconst 1, 1) := by decide +kernel
theorem dX1_rateByWholeSum_2 : decode cX1_rateByWholeSum 2 = .ok (.isub, 1) := by decide +kernel
theorem dX1_rateByWholeSum_3 : decode cX1_rateByWholeSum 3 = .ok (.istore_n 2, 1) := by decide +kernel
theorem dX1_rateByWholeSum_4 : decode cX1_rateByWholeSum 4 = .ok (.iload_n 2, 1) := by decide +kernel
theorem dX1_rateByWholeSum_5 : decode cX1_rateByWholeSum 5 = .ok (.ldc 204, 2) := by decide +kernel
theorem dX1_rateByWholeSum_7 : decode cX1_rateByWholeSum 7 = .ok (.if_icmp .ge 10, 3) := by decide +kernel
theorem dX1_rateByWholeSum_10 : decode cX1_rateByWholeSum 10 = .ok (.aload_n 0, 1) := by decide +kernel
theorem dX1_rateByWholeSum_11 : decode cX1_rateByWholeSum 11 = .ok (.getfield 7, 3) := by decide +kernel
theorem dX1_rateByWholeSum_14 : decode cX1_rateByWholeSum 14 = .ok (.iconst 0, 1) := by decide +kernel
theorem dX1_rateByWholeSum_15 : decode cX1_rateByWholeSum 15 = .ok (.iaload, 1) := by decide +kernel
theorem dX1_rateByWholeSum_16 : decode cX1_rateByWholeSum 16 = .ok (.ireturn, 1) := by decide +kernel
theorem dX1_rateByWholeSum_17 : decode cX1_rateByWholeSum 17 = .ok (.iload_n 2, 1) := by decide +kernel
theorem dX1_rateByWholeSum_18 : decode cX1_rateByWholeSum 18 = .ok (.ldc 205, 2) := by decide +kernel
theorem dX1_rateByWholeSum_20 : decode cX1_rateByWholeSum 20 = .ok (.if_icmp .ge 12, 3) := by decide +kernel
theorem dX1_rateByWholeSum_23 : decode cX1_rateByWholeSum 23 = .ok (.aload_n 0, 1) := by decide +kernel
theorem dX1_rateByWholeSum_24 : decode cX1_rateByWholeSum 24 = .ok (.getfield 7, 3) := by decide +kernel
theorem dX1_rateByWholeSum_27 : decode cX1_rateByWholeSum 27 = .ok (.iconst 1, 1) := by decide +kernel
theorem dX1_rateByWholeSum_28 : decode cX1_rateByWholeSum 28 = .ok (.iaload, 1) := by decide +kernel
theorem dX1_rateByWholeSum_29 : decode cX1_rateByWholeSum 29 = .ok (.goto 9, 3) := by decide +kernel
theorem dX1_rateByWholeSum_32 : decode cX1_rateByWholeSum 32 = .ok (.aload_n 0, 1) := by decide +kernel
theorem dX1_rateByWholeSum_33 : decode cX1_rateByWholeSum 33 = .ok (.getfield 7, 3) := by decide +kernel
theorem dX1_rateByWholeSum_36 : decode cX1_rateByWholeSum 36 = .ok (.iconst 2, 1) := by decide +kernel
theorem dX1_rateByWholeSum_37 : decode cX1_rateByWholeSum 37 = .ok (.iaload, 1) := by decide +kernel
theorem dX1_rateByWholeSum_38 : decode cX1_rateByWholeSum 38 = .ok (.ireturn, 1) := by decide +kernel
theorem dX1_payOut_0 : decode cX1_payOut 0 = .ok (.aload_n 1, 1) := by decide +kernel
theorem dX1_payOut_1 : decode cX1_payOut 1 = .ok (.dup, 1) := by decide +kernel
theorem dX1_payOut_2 : decode cX1_payOut 2 = .ok (.getfield 73, 3) := by decide +kernel
theorem dX1_payOut_5 : decode cX1_payOut 5 = .ok (.iload_n 2, 1) := by decide +kernel
theorem dX1_payOut_6 : decode cX1_payOut 6 = .ok (.isub, 1) := by decide +kernel
theorem dX1_payOut_7 : decode cX1_payOut 7 = .ok (.putfield 73, 3) := by decide +kernel
theorem dX1_payOut_10 : decode cX1_payOut 10 = .ok (.aload_n 0, 1) := by decide +kernel
theorem dX1_payOut_11 : decode cX1_payOut 11 = .ok (.aload_n 1, 1) := by decide +kernel
theorem dX1_payOut_12 : decode cX1_payOut 12 = .ok (.getfield 167, 3) := by decide +kernel
theorem dX1_payOut_15 : decode cX1_payOut 15 = .ok (.iload_n 2, 1) := by decide +kernel
theorem dX1_payOut_16 : decode cX1_payOut 16 = .ok (.invokevirtual 206, 3) := by decide +kernel
theorem dX1_payOut_19 : decode cX1_payOut 19 = .ok (.aload_n 1, 1) := by decide +kernel
theorem dX1_payOut_20 : decode cX1_payOut 20 = .ok (.getfield 73, 3) := by decide +kernel
theorem dX1_payOut_23 : decode cX1_payOut 23 = .ok (.ifCond .le 5, 3) := by decide +kernel
theorem dX1_payOut_26 : decode cX1_payOut 26 = .ok (.iload_n 2, 1) := by decide +kernel
theorem dX1_payOut_27 : decode cX1_payOut 27 = .ok (.ireturn, 1) := by decide +kernel
theorem dX1_payOut_28 : decode cX1_payOut 28 = .ok (.aload_n 0, 1) := by decide +kernel
theorem dX1_payOut_29 : decode cX1_payOut 29 = .ok (.aload_n 1, 1) := by decide +kernel
theorem dX1_payOut_30 : decode cX1_payOut 30 = .ok (.invokevirtual 210, 3) := by decide +kernel
theorem dX1_payOut_33 : decode cX1_payOut 33 = .ok (.istore_n 3, 1) := by decide +kernel
theorem dX1_payOut_34 : decode cX1_payOut 34 = .ok (.aload_n 0, 1) := by decide +kernel
theorem dX1_payOut_35 : decode cX1_payOut 35 = .ok (.aload_n 1, 1) := by decide +kernel
theorem dX1_payOut_36 : decode cX1_payOut 36 = .ok (.aload_n 1, 1) := by decide +kernel
theorem dX1_payOut_37 : decode cX1_payOut 37 = .ok (.getfield 138, 3) := by decide +kernel
theorem dX1_payOut_40 : decode cX1_payOut 40 = .ok (.invokevirtual 127, 3) := by decide +kernel
theorem dX1_payOut_43 : decode cX1_payOut 43 = .ok (.iload_n 2, 1) := by decide +kernel
theorem dX1_payOut_44 : decode cX1_payOut 44 = .ok (.iload_n 3, 1) := by decide +kernel
theorem dX1_payOut_45 : decode cX1_payOut 45 = .ok (.iadd, 1) := by decide +kernel
theorem dX1_payOut_46 : decode cX1_payOut 46 = .ok (.ireturn, 1) := by decide +kernel
theorem dX1_payInterest_0 : decode cX1_payInterest 0 = .ok (.aload_n 1, 1) := by decide +kernel
theorem dX1_payInterest_1 : decode cX1_payInterest 1 = .ok (.invokevirtual 213, 3) := by decide +kernel
theorem dX1_payInterest_4 : decode cX1_payInterest 4 = .ok (.istore_n 2, 1) := by decide +kernel
theorem dX1_payInterest_5 : decode cX1_payInterest 5 = .ok (.aload_n 0, 1) := by decide +kernel
theorem dX1_payInterest_6 : decode cX1_payInterest 6 = .ok (.aload_n 1, 1) := by decide +kernel
theorem dX1_payInterest_7 : decode cX1_payInterest 7 = .ok (.getfield 167, 3) := by decide +kernel
theorem dX1_payInterest_10 : decode cX1_payInterest 10 = .ok (.iload_n 2, 1) := by decide +kernel
theorem dX1_payInterest_11 : decode cX1_payInterest 11 = .ok (.invokevirtual 206, 3) := by decide +kernel
theorem dX1_payInterest_14 : decode cX1_payInterest 14 = .ok (.iload_n 2, 1) := by decide +kernel
theorem dX1_payInterest_15 : decode cX1_payInterest 15 = .ok (.ireturn, 1) := by decide +kernel
theorem dX1_notePaid_0 : decode cX1_notePaid 0 = .ok (.iload_n 1, 1) := by decide +kernel
theorem dX1_notePaid_1 : decode cX1_notePaid 1 = .ok (.ifCond .lt 23, 3) := by decide +kernel
theorem dX1_notePaid_4 : decode cX1_notePaid 4 = .ok (.iload_n 1, 1) := by decide +kernel
theorem dX1_notePaid_5 : decode cX1_notePaid 5 = .ok (.aload_n 0, 1) := by decide +kernel
theorem dX1_notePaid_6 : decode cX1_notePaid 6 = .ok (.getfield 13, 3) := by decide +kernel
theorem dX1_notePaid_9 : decode cX1_notePaid 9 = .ok (.arraylength, 1) := by decide +kernel
theorem dX1_notePaid_10 : decode cX1_notePaid 10 = .ok (.if_icmp .ge 14, 3) := by decide +kernel
theorem dX1_notePaid_13 : decode cX1_notePaid 13 = .ok (.aload_n 0, 1) := by decide +kernel
theorem dX1_notePaid_14 : decode cX1_notePaid 14 = .ok (.getfield 13, 3) := by decide +kernel
theorem dX1_notePaid_17 : decode cX1_notePaid 17 = .ok (.iload_n 1, 1) := by decide +kernel
theorem dX1_notePaid_18 : decode cX1_notePaid 18 = .ok (.dup2, 1) := by decide +kernel
theorem dX1_notePaid_19 : decode cX1_notePaid 19 = .ok (.laload, 1) := by decide +kernel
theorem dX1_notePaid_20 : decode cX1_notePaid 20 = .ok (.iload_n 2, 1) := by decide +kernel
theorem dX1_notePaid_21 : decode cX1_notePaid 21 = .ok (.i2l, 1) := by decide +kernel
theorem dX1_notePaid_22 : decode cX1_notePaid 22 = .ok (.ladd, 1) := by decide +kernel
theorem dX1_notePaid_23 : decode cX1_notePaid 23 = .ok (.lastore, 1) := by decide +kernel
theorem dX1_notePaid_24 : decode cX1_notePaid 24 = .ok (.return_, 1) := by decide +kernel
theorem dX1_lose_0 : decode cX1_lose 0 = .ok (.aload_n 1, 1) := by decide +kernel
theorem dX1_lose_1 : decode cX1_lose 1 = .ok (.dup, 1) := by decide +kernel
theorem dX1_lose_2 : decode cX1_lose 2 = .ok (.getfield 138, 3) := by decide +kernel
theorem dX1_lose_5 : decode cX1_lose 5 = .ok (.lload_n 2, 1) := by decide +kernel
theorem dX1_lose_6 : decode cX1_lose 6 = .ok (.lsub, 1) := by decide +kernel
theorem dX1_lose_7 : decode cX1_lose 7 = .ok (.putfield 138, 3) := by decide +kernel
theorem dX1_lose_10 : decode cX1_lose 10 = .ok (.aload_n 1, 1) := by decide +kernel
theorem dX1_lose_11 : decode cX1_lose 11 = .ok (.getfield 167, 3) := by decide +kernel
theorem dX1_lose_14 : decode cX1_lose 14 = .ok (.istore 4, 2) := by decide +kernel
theorem dX1_lose_16 : decode cX1_lose 16 = .ok (.iload 4, 2) := by decide +kernel
theorem dX1_lose_18 : decode cX1_lose 18 = .ok (.ifCond .lt 24, 3) := by decide +kernel
theorem dX1_lose_21 : decode cX1_lose 21 = .ok (.iload 4, 2) := by decide +kernel
theorem dX1_lose_23 : decode cX1_lose 23 = .ok (.aload_n 0, 1) := by decide +kernel
theorem dX1_lose_24 : decode cX1_lose 24 = .ok (.getfield 17, 3) := by decide +kernel
theorem dX1_lose_27 : decode cX1_lose 27 = .ok (.arraylength, 1) := by decide +kernel
theorem dX1_lose_28 : decode cX1_lose 28 = .ok (.if_icmp .ge 14, 3) := by decide +kernel
theorem dX1_lose_31 : decode cX1_lose 31 = .ok (.aload_n 0, 1) := by decide +kernel
theorem dX1_lose_32 : decode cX1_lose 32 = .ok (.getfield 17, 3) := by decide +kernel
theorem dX1_lose_35 : decode cX1_lose 35 = .ok (.iload 4, 2) := by decide +kernel
theorem dX1_lose_37 : decode cX1_lose 37 = .ok (.dup2, 1) := by decide +kernel
theorem dX1_lose_38 : decode cX1_lose 38 = .ok (.laload, 1) := by decide +kernel
theorem dX1_lose_39 : decode cX1_lose 39 = .ok (.lload_n 2, 1) := by decide +kernel
theorem dX1_lose_40 : decode cX1_lose 40 = .ok (.ladd, 1) := by decide +kernel
theorem dX1_lose_41 : decode cX1_lose 41 = .ok (.lastore, 1) := by decide +kernel
theorem dX1_lose_42 : decode cX1_lose 42 = .ok (.return_, 1) := by decide +kernel
theorem dX1_lossByEarly_0 : decode cX1_lossByEarly 0 = .ok (.aload_n 0, 1) := by decide +kernel
theorem dX1_lossByEarly_1 : decode cX1_lossByEarly 1 = .ok (.getfield 73, 3) := by decide +kernel
theorem dX1_lossByEarly_4 : decode cX1_lossByEarly 4 = .ok (.ifCond .gt 5, 3) := by decide +kernel
theorem dX1_lossByEarly_7 : decode cX1_lossByEarly 7 = .ok (.lconst 0, 1) := by decide +kernel
theorem dX1_lossByEarly_8 : decode cX1_lossByEarly 8 = .ok (.lreturn, 1) := by decide +kernel
theorem dX1_lossByEarly_9 : decode cX1_lossByEarly 9 = .ok (.ldc2_w 216, 3) := by decide +kernel
theorem dX1_lossByEarly_12 : decode cX1_lossByEarly 12 = .ok (.aload_n 0, 1) := by decide +kernel
theorem dX1_lossByEarly_13 : decode cX1_lossByEarly 13 = .ok (.getfield 153, 3) := by decide +kernel
theorem dX1_lossByEarly_16 : decode cX1_lossByEarly 16 = .ok (.lmul, 1) := by decide +kernel
theorem dX1_lossByEarly_17 : decode cX1_lossByEarly 17 = .ok (.iload_n 1, 1) := by decide +kernel
theorem dX1_lossByEarly_18 : decode cX1_lossByEarly 18 = .ok (.i2l, 1) := by decide +kernel
theorem dX1_lossByEarly_19 : decode cX1_lossByEarly 19 = .ok (.lmul, 1) := by decide +kernel
theorem dX1_lossByEarly_20 : decode cX1_lossByEarly 20 = .ok (.aload_n 0, 1) := by decide +kernel
theorem dX1_lossByEarly_21 : decode cX1_lossByEarly 21 = .ok (.getfield 73, 3) := by decide +kernel
theorem dX1_lossByEarly_24 : decode cX1_lossByEarly 24 = .ok (.i2l, 1) := by decide +kernel
theorem dX1_lossByEarly_25 : decode cX1_lossByEarly 25 = .ok (.ldiv, 1) := by decide +kernel
theorem dX1_lossByEarly_26 : decode cX1_lossByEarly 26 = .ok (.lstore_n 2, 1) := by decide +kernel
theorem dX1_lossByEarly_27 : decode cX1_lossByEarly 27 = .ok (.lload_n 2, 1) := by decide +kernel
theorem dX1_lossByEarly_28 : decode cX1_lossByEarly 28 = .ok (.aload_n 0, 1) := by decide +kernel
theorem dX1_lossByEarly_29 : decode cX1_lossByEarly 29 = .ok (.getfield 138, 3) := by decide +kernel
theorem dX1_lossByEarly_32 : decode cX1_lossByEarly 32 = .ok (.invokestatic 218, 3) := by decide +kernel
theorem dX1_lossByEarly_35 : decode cX1_lossByEarly 35 = .ok (.lreturn, 1) := by decide +kernel
theorem dX1_enter_0 : decode cX1_enter 0 = .ok (.aload_n 0, 1) := by decide +kernel
theorem dX1_enter_1 : decode cX1_enter 1 = .ok (.getfield 34, 3) := by decide +kernel
theorem dX1_enter_4 : decode cX1_enter 4 = .ok (.istore_n 2, 1) := by decide +kernel
theorem dX1_enter_5 : decode cX1_enter 5 = .ok (.iload_n 2, 1) := by decide +kernel
theorem dX1_enter_6 : decode cX1_enter 6 = .ok (.ifCond .lt 12, 3) := by decide +kernel
theorem dX1_enter_9 : decode cX1_enter 9 = .ok (.iload_n 2, 1) := by decide +kernel
theorem dX1_enter_10 : decode cX1_enter 10 = .ok (.aload_n 0, 1) := by decide +kernel
theorem dX1_enter_11 : decode cX1_enter 11 = .ok (.getfield 22, 3) := by decide +kernel
theorem dX1_enter_14 : decode cX1_enter 14 = .ok (.arraylength, 1) := by decide +kernel
theorem dX1_enter_15 : decode cX1_enter 15 = .ok (.if_icmp .lt 13, 3) := by decide +kernel
theorem dX1_enter_18 : decode cX1_enter 18 = .ok (.new 83, 3) := by decide +kernel
theorem dX1_enter_21 : decode cX1_enter 21 = .ok (.dup, 1) := by decide +kernel
theorem dX1_enter_22 : decode cX1_enter 22 = .ok (.ldc 221, 2) := by decide +kernel
theorem dX1_enter_24 : decode cX1_enter 24 = .ok (.invokespecial 87, 3) := by decide +kernel
theorem dX1_enter_27 : decode cX1_enter 27 = .ok (.athrow, 1) := by decide +kernel
theorem dX1_enter_28 : decode cX1_enter 28 = .ok (.aload_n 0, 1) := by decide +kernel
theorem dX1_enter_29 : decode cX1_enter 29 = .ok (.getfield 22, 3) := by decide +kernel
theorem dX1_enter_32 : decode cX1_enter 32 = .ok (.iload_n 2, 1) := by decide +kernel
theorem dX1_enter_33 : decode cX1_enter 33 = .ok (.aload_n 1, 1) := by decide +kernel
theorem dX1_enter_34 : decode cX1_enter 34 = .ok (.aastore, 1) := by decide +kernel
theorem dX1_enter_35 : decode cX1_enter 35 = .ok (.aload_n 0, 1) := by decide +kernel
theorem dX1_enter_36 : decode cX1_enter 36 = .ok (.dup, 1) := by decide +kernel
theorem dX1_enter_37 : decode cX1_enter 37 = .ok (.getfield 34, 3) := by decide +kernel
theorem dX1_enter_40 : decode cX1_enter 40 = .ok (.iconst 1, 1) := by decide +kernel
theorem dX1_enter_41 : decode cX1_enter 41 = .ok (.iadd, 1) := by decide +kernel
theorem dX1_enter_42 : decode cX1_enter 42 = .ok (.putfield 34, 3) := by decide +kernel
theorem dX1_enter_45 : decode cX1_enter 45 = .ok (.iload_n 2, 1) := by decide +kernel
theorem dX1_enter_46 : decode cX1_enter 46 = .ok (.ireturn, 1) := by decide +kernel
theorem dX1_beginTerm_0 : decode cX1_beginTerm 0 = .ok (.aload_n 1, 1) := by decide +kernel
theorem dX1_beginTerm_1 : decode cX1_beginTerm 1 = .ok (.aload_n 1, 1) := by decide +kernel
theorem dX1_beginTerm_2 : decode cX1_beginTerm 2 = .ok (.getfield 73, 3) := by decide +kernel
theorem dX1_beginTerm_5 : decode cX1_beginTerm 5 = .ok (.i2l, 1) := by decide +kernel
theorem dX1_beginTerm_6 : decode cX1_beginTerm 6 = .ok (.aload_n 0, 1) := by decide +kernel
theorem dX1_beginTerm_7 : decode cX1_beginTerm 7 = .ok (.getfield 30, 3) := by decide +kernel
theorem dX1_beginTerm_10 : decode cX1_beginTerm 10 = .ok (.i2l, 1) := by decide +kernel
theorem dX1_beginTerm_11 : decode cX1_beginTerm 11 = .ok (.lmul, 1) := by decide +kernel
theorem dX1_beginTerm_12 : decode cX1_beginTerm 12 = .ok (.putfield 153, 3) := by decide +kernel
theorem dX1_beginTerm_15 : decode cX1_beginTerm 15 = .ok (.aload_n 1, 1) := by decide +kernel
theorem dX1_beginTerm_16 : decode cX1_beginTerm 16 = .ok (.aload_n 0, 1) := by decide +kernel
theorem dX1_beginTerm_17 : decode cX1_beginTerm 17 = .ok (.getfield 37, 3) := by decide +kernel
theorem dX1_beginTerm_20 : decode cX1_beginTerm 20 = .ok (.aload_n 1, 1) := by decide +kernel
theorem dX1_beginTerm_21 : decode cX1_beginTerm 21 = .ok (.getfield 223, 3) := by decide +kernel
theorem dX1_beginTerm_24 : decode cX1_beginTerm 24 = .ok (.iadd, 1) := by decide +kernel
theorem dX1_beginTerm_25 : decode cX1_beginTerm 25 = .ok (.putfield 170, 3) := by decide +kernel
theorem dX1_beginTerm_28 : decode cX1_beginTerm 28 = .ok (.return_, 1) := by decide +kernel
theorem dX1_earnOneDay_0 : decode cX1_earnOneDay 0 = .ok (.iconst 0, 1) := by decide +kernel
theorem dX1_earnOneDay_1 : decode cX1_earnOneDay 1 = .ok (.istore_n 1, 1) := by decide +kernel
theorem dX1_earnOneDay_2 : decode cX1_earnOneDay 2 = .ok (.iload_n 1, 1) := by decide +kernel
theorem dX1_earnOneDay_3 : decode cX1_earnOneDay 3 = .ok (.aload_n 0, 1) := by decide +kernel
theorem dX1_earnOneDay_4 : decode cX1_earnOneDay 4 = .ok (.getfield 34, 3) := by decide +kernel
theorem dX1_earnOneDay_7 : decode cX1_earnOneDay 7 = .ok (.if_icmp .ge 32, 3) := by decide +kernel
theorem dX1_earnOneDay_10 : decode cX1_earnOneDay 10 = .ok (.aload_n 0, 1) := by decide +kernel
theorem dX1_earnOneDay_11 : decode cX1_earnOneDay 11 = .ok (.iload_n 1, 1) := by decide +kernel
theorem dX1_earnOneDay_12 : decode cX1_earnOneDay 12 = .ok (.invokevirtual 164, 3) := by decide +kernel
theorem dX1_earnOneDay_15 : decode cX1_earnOneDay 15 = .ok (.astore_n 2, 1) := by decide +kernel
theorem dX1_earnOneDay_16 : decode cX1_earnOneDay 16 = .ok (.aload_n 2, 1) := by decide +kernel
theorem dX1_earnOneDay_17 : decode cX1_earnOneDay 17 = .ok (.ifnull 16, 3) := by decide +kernel
theorem dX1_earnOneDay_20 : decode cX1_earnOneDay 20 = .ok (.aload_n 2, 1) := by decide +kernel
theorem dX1_earnOneDay_21 : decode cX1_earnOneDay 21 = .ok (.dup, 1) := by decide +kernel
theorem dX1_earnOneDay_22 : decode cX1_earnOneDay 22 = .ok (.getfield 138, 3) := by decide +kernel
theorem dX1_earnOneDay_25 : decode cX1_earnOneDay 25 = .ok (.aload_n 2, 1) := by decide +kernel
theorem dX1_earnOneDay_26 : decode cX1_earnOneDay 26 = .ok (.getfield 153, 3) := by decide +kernel
theorem dX1_earnOneDay_29 : decode cX1_earnOneDay 29 = .ok (.ladd, 1) := by decide +kernel
theorem dX1_earnOneDay_30 : decode cX1_earnOneDay 30 = .ok (.putfield 138, 3) := by decide +kernel
theorem dX1_earnOneDay_33 : decode cX1_earnOneDay 33 = .ok (.iinc 1 1, 3) := by decide +kernel
theorem dX1_earnOneDay_36 : decode cX1_earnOneDay 36 = .ok (.goto (-34), 3) := by decide +kernel
theorem dX1_earnOneDay_39 : decode cX1_earnOneDay 39 = .ok (.return_, 1) := by decide +kernel
theorem dX1_beginDay_0 : decode cX1_beginDay 0 = .ok (.iconst 0, 1) := by decide +kernel
theorem dX1_beginDay_1 : decode cX1_beginDay 1 = .ok (.istore_n 1, 1) := by decide +kernel
theorem dX1_beginDay_2 : decode cX1_beginDay 2 = .ok (.iconst 0, 1) := by decide +kernel
theorem dX1_beginDay_3 : decode cX1_beginDay 3 = .ok (.istore_n 2, 1) := by decide +kernel
theorem dX1_beginDay_4 : decode cX1_beginDay 4 = .ok (.iload_n 2, 1) := by decide +kernel
theorem dX1_beginDay_5 : decode cX1_beginDay 5 = .ok (.aload_n 0, 1) := by decide +kernel
theorem dX1_beginDay_6 : decode cX1_beginDay 6 = .ok (.getfield 34, 3) := by decide +kernel
theorem dX1_beginDay_9 : decode cX1_beginDay 9 = .ok (.if_icmp .ge 57, 3) := by decide +kernel
theorem dX1_beginDay_12 : decode cX1_beginDay 12 = .ok (.aload_n 0, 1) := by decide +kernel
theorem dX1_beginDay_13 : decode cX1_beginDay 13 = .ok (.iload_n 2, 1) := by decide +kernel
theorem dX1_beginDay_14 : decode cX1_beginDay 14 = .ok (.invokevirtual 164, 3) := by decide +kernel
theorem dX1_beginDay_17 : decode cX1_beginDay 17 = .ok (.astore_n 3, 1) := by decide +kernel
theorem dX1_beginDay_18 : decode cX1_beginDay 18 = .ok (.aload_n 3, 1) := by decide +kernel
theorem dX1_beginDay_19 : decode cX1_beginDay 19 = .ok (.ifnull 41, 3) := by decide +kernel
theorem dX1_beginDay_22 : decode cX1_beginDay 22 = .ok (.aload_n 0, 1) := by decide +kernel
theorem dX1_beginDay_23 : decode cX1_beginDay 23 = .ok (.getfield 37, 3) := by decide +kernel
theorem dX1_beginDay_26 : decode cX1_beginDay 26 = .ok (.aload_n 3, 1) := by decide +kernel
theorem dX1_beginDay_27 : decode cX1_beginDay 27 = .ok (.getfield 88, 3) := by decide +kernel
theorem dX1_beginDay_30 : decode cX1_beginDay 30 = .ok (.bipush 7, 2) := by decide +kernel
theorem dX1_beginDay_32 : decode cX1_beginDay 32 = .ok (.iadd, 1) := by decide +kernel
theorem dX1_beginDay_33 : decode cX1_beginDay 33 = .ok (.if_icmp .lt 8, 3) := by decide +kernel
theorem dX1_beginDay_36 : decode cX1_beginDay 36 = .ok (.aload_n 3, 1) := by decide +kernel
theorem dX1_beginDay_37 : decode cX1_beginDay 37 = .ok (.iconst 0, 1) := by decide +kernel
theorem dX1_beginDay_38 : decode cX1_beginDay 38 = .ok (.putfield 80, 3) := by decide +kernel
theorem dX1_beginDay_41 : decode cX1_beginDay 41 = .ok (.aload_n 3, 1) := by decide +kernel
theorem dX1_beginDay_42 : decode cX1_beginDay 42 = .ok (.getfield 170, 3) := by decide +kernel
theorem dX1_beginDay_45 : decode cX1_beginDay 45 = .ok (.aload_n 0, 1) := by decide +kernel
theorem dX1_beginDay_46 : decode cX1_beginDay 46 = .ok (.getfield 37, 3) := by decide +kernel
theorem dX1_beginDay_49 : decode cX1_beginDay 49 = .ok (.if_icmp .ne 11, 3) := by decide +kernel
theorem dX1_beginDay_52 : decode cX1_beginDay 52 = .ok (.aload_n 0, 1) := by decide +kernel
theorem dX1_beginDay_53 : decode cX1_beginDay 53 = .ok (.aload_n 3, 1) := by decide +kernel
theorem dX1_beginDay_54 : decode cX1_beginDay 54 = .ok (.invokevirtual 226, 3) := by decide +kernel
theorem dX1_beginDay_57 : decode cX1_beginDay 57 = .ok (.iinc 1 1, 3) := by decide +kernel
theorem dX1_beginDay_60 : decode cX1_beginDay 60 = .ok (.iinc 2 1, 3) := by decide +kernel
theorem dX1_beginDay_63 : decode cX1_beginDay 63 = .ok (.goto (-59), 3) := by decide +kernel
theorem dX1_beginDay_66 : decode cX1_beginDay 66 = .ok (.iload_n 1, 1) := by decide +kernel
theorem dX1_beginDay_67 : decode cX1_beginDay 67 = .ok (.ireturn, 1) := by decide +kernel
theorem dX1_endTerm_0 : decode cX1_endTerm 0 = .ok (.aload_n 1, 1) := by decide +kernel
theorem dX1_endTerm_1 : decode cX1_endTerm 1 = .ok (.getfield 62, 3) := by decide +kernel
theorem dX1_endTerm_4 : decode cX1_endTerm 4 = .ok (.ifCond .ne 14, 3) := by decide +kernel
theorem dX1_endTerm_7 : decode cX1_endTerm 7 = .ok (.aload_n 0, 1) := by decide +kernel
theorem dX1_endTerm_8 : decode cX1_endTerm 8 = .ok (.aload_n 1, 1) := by decide +kernel
theorem dX1_endTerm_9 : decode cX1_endTerm 9 = .ok (.aload_n 1, 1) := by decide +kernel
theorem dX1_endTerm_10 : decode cX1_endTerm 10 = .ok (.getfield 73, 3) := by decide +kernel
theorem dX1_endTerm_13 : decode cX1_endTerm 13 = .ok (.invokevirtual 96, 3) := by decide +kernel
theorem dX1_endTerm_16 : decode cX1_endTerm 16 = .ok (.pop, 1) := by decide +kernel
theorem dX1_endTerm_17 : decode cX1_endTerm 17 = .ok (.return_, 1) := by decide +kernel
theorem dX1_endTerm_18 : decode cX1_endTerm 18 = .ok (.aload_n 1, 1) := by decide +kernel
theorem dX1_endTerm_19 : decode cX1_endTerm 19 = .ok (.getfield 62, 3) := by decide +kernel
theorem dX1_endTerm_22 : decode cX1_endTerm 22 = .ok (.iconst 1, 1) := by decide +kernel
theorem dX1_endTerm_23 : decode cX1_endTerm 23 = .ok (.if_icmp .ne 12, 3) := by decide +kernel
theorem dX1_endTerm_26 : decode cX1_endTerm 26 = .ok (.aload_n 0, 1) := by decide +kernel
theorem dX1_endTerm_27 : decode cX1_endTerm 27 = .ok (.aload_n 1, 1) := by decide +kernel
theorem dX1_endTerm_28 : decode cX1_endTerm 28 = .ok (.invokevirtual 210, 3) := by decide +kernel
theorem dX1_endTerm_31 : decode cX1_endTerm 31 = .ok (.pop, 1) := by decide +kernel
theorem dX1_endTerm_32 : decode cX1_endTerm 32 = .ok (.goto 16, 3) := by decide +kernel
theorem dX1_endTerm_35 : decode cX1_endTerm 35 = .ok (.aload_n 1, 1) := by decide +kernel
theorem dX1_endTerm_36 : decode cX1_endTerm 36 = .ok (.dup, 1) := by decide +kernel
theorem dX1_endTerm_37 : decode cX1_endTerm 37 = .ok (.getfield 73, 3) := by decide +kernel
theorem dX1_endTerm_40 : decode cX1_endTerm 40 = .ok (.aload_n 1, 1) := by decide +kernel
theorem dX1_endTerm_41 : decode cX1_endTerm 41 = .ok (.invokevirtual 213, 3) := by decide +kernel
theorem dX1_endTerm_44 : decode cX1_endTerm 44 = .ok (.iadd, 1) := by decide +kernel
theorem dX1_endTerm_45 : decode cX1_endTerm 45 = .ok (.putfield 73, 3) := by decide +kernel
theorem dX1_endTerm_48 : decode cX1_endTerm 48 = .ok (.aload_n 0, 1) := by decide +kernel
theorem dX1_endTerm_49 : decode cX1_endTerm 49 = .ok (.aload_n 1, 1) := by decide +kernel
theorem dX1_endTerm_50 : decode cX1_endTerm 50 = .ok (.invokevirtual 65, 3) := by decide +kernel
theorem dX1_endTerm_53 : decode cX1_endTerm 53 = .ok (.aload_n 1, 1) := by decide +kernel
theorem dX1_endTerm_54 : decode cX1_endTerm 54 = .ok (.aload_n 0, 1) := by decide +kernel
theorem dX1_endTerm_55 : decode cX1_endTerm 55 = .ok (.getfield 37, 3) := by decide +kernel
theorem dX1_endTerm_58 : decode cX1_endTerm 58 = .ok (.putfield 133, 3) := by decide +kernel
theorem dX1_endTerm_61 : decode cX1_endTerm 61 = .ok (.return_, 1) := by decide +kernel
