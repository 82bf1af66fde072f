theorem dL_setRate_0 : decode cL_setRate 0 = .ok (.aload_n 3, 1) := by decide +kernel
theorem dL_setRate_1 : decode cL_setRate 1 = .ok (.iconst 0, 1) := by decide +kernel
theorem dL_setRate_2 : decode cL_setRate 2 = .ok (.aload_n 0, 1) := by decide +kernel
theorem dL_setRate_3 : decode cL_setRate 3 = .ok (.iload_n 1, 1) := by decide +kernel
theorem dL_setRate_4 : decode cL_setRate 4 = .ok (.iload_n 2, 1) := by decide +kernel
theorem dL_setRate_5 : decode cL_setRate 5 = .ok (.invokevirtual 7, 3) := by decide +kernel
theorem dL_setRate_8 : decode cL_setRate 8 = .ok (.i2l, 1) := by decide +kernel
theorem dL_setRate_9 : decode cL_setRate 9 = .ok (.lastore, 1) := by decide +kernel
theorem dL_setRate_10 : decode cL_setRate 10 = .ok (.goto 11, 3) := by decide +kernel
theorem dL_setRate_13 : decode cL_setRate 13 = .ok (.astore 4, 2) := by decide +kernel
theorem dL_setRate_15 : decode cL_setRate 15 = .ok (.iconst 1, 1) := by decide +kernel
theorem dL_setRate_16 : decode cL_setRate 16 = .ok (.ireturn, 1) := by decide +kernel
theorem dL_setRate_17 : decode cL_setRate 17 = .ok (.astore 4, 2) := by decide +kernel
theorem dL_setRate_19 : decode cL_setRate 19 = .ok (.iconst 2, 1) := by decide +kernel
theorem dL_setRate_20 : decode cL_setRate 20 = .ok (.ireturn, 1) := by decide +kernel
theorem dL_setRate_21 : decode cL_setRate 21 = .ok (.iconst 0, 1) := by decide +kernel
theorem dL_setRate_22 : decode cL_setRate 22 = .ok (.ireturn, 1) := by decide +kernel
theorem dL_setTermRate_0 : decode cL_setTermRate 0 = .ok (.aload_n 2, 1) := by decide +kernel
theorem dL_setTermRate_1 : decode cL_setTermRate 1 = .ok (.iconst 0, 1) := by decide +kernel
theorem dL_setTermRate_2 : decode cL_setTermRate 2 = .ok (.aload_n 0, 1) := by decide +kernel
theorem dL_setTermRate_3 : decode cL_setTermRate 3 = .ok (.iload_n 1, 1) := by decide +kernel
theorem dL_setTermRate_4 : decode cL_setTermRate 4 = .ok (.invokevirtual 17, 3) := by decide +kernel
theorem dL_setTermRate_7 : decode cL_setTermRate 7 = .ok (.i2l, 1) := by decide +kernel
theorem dL_setTermRate_8 : decode cL_setTermRate 8 = .ok (.lastore, 1) := by decide +kernel
theorem dL_setTermRate_9 : decode cL_setTermRate 9 = .ok (.goto 6, 3) := by decide +kernel
theorem dL_setTermRate_12 : decode cL_setTermRate 12 = .ok (.astore_n 3, 1) := by decide +kernel
theorem dL_setTermRate_13 : decode cL_setTermRate 13 = .ok (.iconst 1, 1) := by decide +kernel
theorem dL_setTermRate_14 : decode cL_setTermRate 14 = .ok (.ireturn, 1) := by decide +kernel
theorem dL_setTermRate_15 : decode cL_setTermRate 15 = .ok (.iconst 0, 1) := by decide +kernel
theorem dL_setTermRate_16 : decode cL_setTermRate 16 = .ok (.ireturn, 1) := by decide +kernel
theorem dL_deposit_0 : decode cL_deposit 0 = .ok (.aload_n 3, 1) := by decide +kernel
theorem dL_deposit_1 : decode cL_deposit 1 = .ok (.iconst 0, 1) := by decide +kernel
theorem dL_deposit_2 : decode cL_deposit 2 = .ok (.aload_n 0, 1) := by decide +kernel
theorem dL_deposit_3 : decode cL_deposit 3 = .ok (.iload_n 1, 1) := by decide +kernel
theorem dL_deposit_4 : decode cL_deposit 4 = .ok (.iload_n 2, 1) := by decide +kernel
theorem dL_deposit_5 : decode cL_deposit 5 = .ok (.invokevirtual 21, 3) := by decide +kernel
theorem dL_deposit_8 : decode cL_deposit 8 = .ok (.i2l, 1) := by decide +kernel
theorem dL_deposit_9 : decode cL_deposit 9 = .ok (.lastore, 1) := by decide +kernel
theorem dL_deposit_10 : decode cL_deposit 10 = .ok (.goto 15, 3) := by decide +kernel
theorem dL_deposit_13 : decode cL_deposit 13 = .ok (.astore 4, 2) := by decide +kernel
theorem dL_deposit_15 : decode cL_deposit 15 = .ok (.iconst 1, 1) := by decide +kernel
theorem dL_deposit_16 : decode cL_deposit 16 = .ok (.ireturn, 1) := by decide +kernel
theorem dL_deposit_17 : decode cL_deposit 17 = .ok (.astore 4, 2) := by decide +kernel
theorem dL_deposit_19 : decode cL_deposit 19 = .ok (.iconst 2, 1) := by decide +kernel
theorem dL_deposit_20 : decode cL_deposit 20 = .ok (.ireturn, 1) := by decide +kernel
theorem dL_deposit_21 : decode cL_deposit 21 = .ok (.astore 4, 2) := by decide +kernel
theorem dL_deposit_23 : decode cL_deposit 23 = .ok (.iconst 3, 1) := by decide +kernel
theorem dL_deposit_24 : decode cL_deposit 24 = .ok (.ireturn, 1) := by decide +kernel
theorem dL_deposit_25 : decode cL_deposit 25 = .ok (.iconst 0, 1) := by decide +kernel
theorem dL_deposit_26 : decode cL_deposit 26 = .ok (.ireturn, 1) := by decide +kernel
theorem dL_depositTerm_0 : decode cL_depositTerm 0 = .ok (.aload 5, 2) := by decide +kernel
theorem dL_depositTerm_2 : decode cL_depositTerm 2 = .ok (.iconst 0, 1) := by decide +kernel
theorem dL_depositTerm_3 : decode cL_depositTerm 3 = .ok (.aload_n 0, 1) := by decide +kernel
theorem dL_depositTerm_4 : decode cL_depositTerm 4 = .ok (.iload_n 1, 1) := by decide +kernel
theorem dL_depositTerm_5 : decode cL_depositTerm 5 = .ok (.iload_n 2, 1) := by decide +kernel
theorem dL_depositTerm_6 : decode cL_depositTerm 6 = .ok (.iload_n 3, 1) := by decide +kernel
theorem dL_depositTerm_7 : decode cL_depositTerm 7 = .ok (.iload 4, 2) := by decide +kernel
theorem dL_depositTerm_9 : decode cL_depositTerm 9 = .ok (.invokevirtual 26, 3) := by decide +kernel
theorem dL_depositTerm_12 : decode cL_depositTerm 12 = .ok (.i2l, 1) := by decide +kernel
theorem dL_depositTerm_13 : decode cL_depositTerm 13 = .ok (.lastore, 1) := by decide +kernel
theorem dL_depositTerm_14 : decode cL_depositTerm 14 = .ok (.goto 15, 3) := by decide +kernel
theorem dL_depositTerm_17 : decode cL_depositTerm 17 = .ok (.astore 6, 2) := by decide +kernel
theorem dL_depositTerm_19 : decode cL_depositTerm 19 = .ok (.iconst 1, 1) := by decide +kernel
theorem dL_depositTerm_20 : decode cL_depositTerm 20 = .ok (.ireturn, 1) := by decide +kernel
theorem dL_depositTerm_21 : decode cL_depositTerm 21 = .ok (.astore 6, 2) := by decide +kernel
theorem dL_depositTerm_23 : decode cL_depositTerm 23 = .ok (.iconst 2, 1) := by decide +kernel
theorem dL_depositTerm_24 : decode cL_depositTerm 24 = .ok (.ireturn, 1) := by decide +kernel
theorem dL_depositTerm_25 : decode cL_depositTerm 25 = .ok (.astore 6, 2) := by decide +kernel
theorem dL_depositTerm_27 : decode cL_depositTerm 27 = .ok (.iconst 3, 1) := by decide +kernel
theorem dL_depositTerm_28 : decode cL_depositTerm 28 = .ok (.ireturn, 1) := by decide +kernel
theorem dL_depositTerm_29 : decode cL_depositTerm 29 = .ok (.iconst 0, 1) := by decide +kernel
theorem dL_depositTerm_30 : decode cL_depositTerm 30 = .ok (.ireturn, 1) := by decide +kernel
theorem dL_give_0 : decode cL_give 0 = .ok (.aload_n 3, 1) := by decide +kernel
theorem dL_give_1 : decode cL_give 1 = .ok (.iconst 0, 1) := by decide +kernel
theorem dL_give_2 : decode cL_give 2 = .ok (.aload_n 0, 1) := by decide +kernel
theorem dL_give_3 : decode cL_give 3 = .ok (.iload_n 1, 1) := by decide +kernel
theorem dL_give_4 : decode cL_give 4 = .ok (.iload_n 2, 1) := by decide +kernel
theorem dL_give_5 : decode cL_give 5 = .ok (.invokevirtual 30, 3) := by decide +kernel
theorem dL_give_8 : decode cL_give 8 = .ok (.i2l, 1) := by decide +kernel
theorem dL_give_9 : decode cL_give 9 = .ok (.lastore, 1) := by decide +kernel
theorem dL_give_10 : decode cL_give 10 = .ok (.goto 15, 3) := by decide +kernel
theorem dL_give_13 : decode cL_give 13 = .ok (.astore 4, 2) := by decide +kernel
theorem dL_give_15 : decode cL_give 15 = .ok (.iconst 1, 1) := by decide +kernel
theorem dL_give_16 : decode cL_give 16 = .ok (.ireturn, 1) := by decide +kernel
theorem dL_give_17 : decode cL_give 17 = .ok (.astore 4, 2) := by decide +kernel
theorem dL_give_19 : decode cL_give 19 = .ok (.iconst 2, 1) := by decide +kernel
theorem dL_give_20 : decode cL_give 20 = .ok (.ireturn, 1) := by decide +kernel
theorem dL_give_21 : decode cL_give 21 = .ok (.astore 4, 2) := by decide +kernel
theorem dL_give_23 : decode cL_give 23 = .ok (.iconst 3, 1) := by decide +kernel
theorem dL_give_24 : decode cL_give 24 = .ok (.ireturn, 1) := by decide +kernel
theorem dL_give_25 : decode cL_give 25 = .ok (.iconst 0, 1) := by decide +kernel
theorem dL_give_26 : decode cL_give 26 = .ok (.ireturn, 1) := by decide +kernel
theorem dL_withdraw_0 : decode cL_withdraw 0 = .ok (.aload_n 2, 1) := by decide +kernel
theorem dL_withdraw_1 : decode cL_withdraw 1 = .ok (.iconst 0, 1) := by decide +kernel
theorem dL_withdraw_2 : decode cL_withdraw 2 = .ok (.aload_n 0, 1) := by decide +kernel
theorem dL_withdraw_3 : decode cL_withdraw 3 = .ok (.iload_n 1, 1) := by decide +kernel
theorem dL_withdraw_4 : decode cL_withdraw 4 = .ok (.invokevirtual 33, 3) := by decide +kernel
theorem dL_withdraw_7 : decode cL_withdraw 7 = .ok (.i2l, 1) := by decide +kernel
theorem dL_withdraw_8 : decode cL_withdraw 8 = .ok (.lastore, 1) := by decide +kernel
theorem dL_withdraw_9 : decode cL_withdraw 9 = .ok (.goto 9, 3) := by decide +kernel
theorem dL_withdraw_12 : decode cL_withdraw 12 = .ok (.astore_n 3, 1) := by decide +kernel
theorem dL_withdraw_13 : decode cL_withdraw 13 = .ok (.iconst 1, 1) := by decide +kernel
theorem dL_withdraw_14 : decode cL_withdraw 14 = .ok (.ireturn, 1) := by decide +kernel
theorem dL_withdraw_15 : decode cL_withdraw 15 = .ok (.astore_n 3, 1) := by decide +kernel
theorem dL_withdraw_16 : decode cL_withdraw 16 = .ok (.iconst 2, 1) := by decide +kernel
theorem dL_withdraw_17 : decode cL_withdraw 17 = .ok (.ireturn, 1) := by decide +kernel
theorem dL_withdraw_18 : decode cL_withdraw 18 = .ok (.iconst 0, 1) := by decide +kernel
theorem dL_withdraw_19 : decode cL_withdraw 19 = .ok (.ireturn, 1) := by decide +kernel
theorem dL_take_0 : decode cL_take 0 = .ok (.aload_n 2, 1) := by decide +kernel
theorem dL_take_1 : decode cL_take 1 = .ok (.iconst 0, 1) := by decide +kernel
theorem dL_take_2 : decode cL_take 2 = .ok (.aload_n 0, 1) := by decide +kernel
theorem dL_take_3 : decode cL_take 3 = .ok (.iload_n 1, 1) := by decide +kernel
theorem dL_take_4 : decode cL_take 4 = .ok (.invokevirtual 36, 3) := by decide +kernel
theorem dL_take_7 : decode cL_take 7 = .ok (.i2l, 1) := by decide +kernel
theorem dL_take_8 : decode cL_take 8 = .ok (.lastore, 1) := by decide +kernel
theorem dL_take_9 : decode cL_take 9 = .ok (.goto 9, 3) := by decide +kernel
theorem dL_take_12 : decode cL_take 12 = .ok (.astore_n 3, 1) := by decide +kernel
theorem dL_take_13 : decode cL_take 13 = .ok (.iconst 1, 1) := by decide +kernel
theorem dL_take_14 : decode cL_take 14 = .ok (.ireturn, 1) := by decide +kernel
theorem dL_take_15 : decode cL_take 15 = .ok (.astore_n 3, 1) := by decide +kernel
theorem dL_take_16 : decode cL_take 16 = .ok (.iconst 2, 1) := by decide +kernel
theorem dL_take_17 : decode cL_take 17 = .ok (.ireturn, 1) := by decide +kernel
theorem dL_take_18 : decode cL_take 18 = .ok (.iconst 0, 1) := by decide +kernel
theorem dL_take_19 : decode cL_take 19 = .ok (.ireturn, 1) := by decide +kernel
theorem dL_early_0 : decode cL_early 0 = .ok (.aload_n 3, 1) := by decide +kernel
theorem dL_early_1 : decode cL_early 1 = .ok (.iconst 0, 1) := by decide +kernel
theorem dL_early_2 : decode cL_early 2 = .ok (.aload_n 0, 1) := by decide +kernel
theorem dL_early_3 : decode cL_early 3 = .ok (.iload_n 1, 1) := by decide +kernel
theorem dL_early_4 : decode cL_early 4 = .ok (.iload_n 2, 1) := by decide +kernel
theorem dL_early_5 : decode cL_early 5 = .ok (.invokevirtual 39, 3) := by decide +kernel
theorem dL_early_8 : decode cL_early 8 = .ok (.i2l, 1) := by decide +kernel
theorem dL_early_9 : decode cL_early 9 = .ok (.lastore, 1) := by decide +kernel
theorem dL_early_10 : decode cL_early 10 = .ok (.goto 15, 3) := by decide +kernel
theorem dL_early_13 : decode cL_early 13 = .ok (.astore 4, 2) := by decide +kernel
theorem dL_early_15 : decode cL_early 15 = .ok (.iconst 1, 1) := by decide +kernel
theorem dL_early_16 : decode cL_early 16 = .ok (.ireturn, 1) := by decide +kernel
theorem dL_early_17 : decode cL_early 17 = .ok (.astore 4, 2) := by decide +kernel
theorem dL_early_19 : decode cL_early 19 = .ok (.iconst 2, 1) := by decide +kernel
theorem dL_early_20 : decode cL_early 20 = .ok (.ireturn, 1) := by decide +kernel
theorem dL_early_21 : decode cL_early 21 = .ok (.astore 4, 2) := by decide +kernel
theorem dL_early_23 : decode cL_early 23 = .ok (.iconst 3, 1) := by decide +kernel
theorem dL_early_24 : decode cL_early 24 = .ok (.ireturn, 1) := by decide +kernel
theorem dL_early_25 : decode cL_early 25 = .ok (.iconst 0, 1) := by decide +kernel
theorem dL_early_26 : decode cL_early 26 = .ok (.ireturn, 1) := by decide +kernel
theorem dL_instruct_0 : decode cL_instruct 0 = .ok (.aload_n 3, 1) := by decide +kernel
theorem dL_instruct_1 : decode cL_instruct 1 = .ok (.iconst 0, 1) := by decide +kernel
theorem dL_instruct_2 : decode cL_instruct 2 = .ok (.aload_n 0, 1) := by decide +kernel
theorem dL_instruct_3 : decode cL_instruct 3 = .ok (.iload_n 1, 1) := by decide +kernel
theorem dL_instruct_4 : decode cL_instruct 4 = .ok (.iload_n 2, 1) := by decide +kernel
theorem dL_instruct_5 : decode cL_instruct 5 = .ok (.invokevirtual 42, 3) := by decide +kernel
theorem dL_instruct_8 : decode cL_instruct 8 = .ok (.i2l, 1) := by decide +kernel
theorem dL_instruct_9 : decode cL_instruct 9 = .ok (.lastore, 1) := by decide +kernel
theorem dL_instruct_10 : decode cL_instruct 10 = .ok (.goto 15, 3) := by decide +kernel
theorem dL_instruct_13 : decode cL_instruct 13 = .ok (.astore 4, 2) := by decide +kernel
theorem dL_instruct_15 : decode cL_instruct 15 = .ok (.iconst 1, 1) := by decide +kernel
theorem dL_instruct_16 : decode cL_instruct 16 = .ok (.ireturn, 1) := by decide +kernel
theorem dL_instruct_17 : decode cL_instruct 17 = .ok (.astore 4, 2) := by decide +kernel
theorem dL_instruct_19 : decode cL_instruct 19 = .ok (.iconst 2, 1) := by decide +kernel
theorem dL_instruct_20 : decode cL_instruct 20 = .ok (.ireturn, 1) := by decide +kernel
theorem dL_instruct_21 : decode cL_instruct 21 = .ok (.astore 4, 2) := by decide +kernel
theorem dL_instruct_23 : decode cL_instruct 23 = .ok (.iconst 3, 1) := by decide +kernel
theorem dL_instruct_24 : decode cL_instruct 24 = .ok (.ireturn, 1) := by decide +kernel
theorem dL_instruct_25 : decode cL_instruct 25 = .ok (.iconst 0, 1) := by decide +kernel
theorem dL_instruct_26 : decode cL_instruct 26 = .ok (.ireturn, 1) := by decide +kernel
theorem dL_letGo_0 : decode cL_letGo 0 = .ok (.aload_n 2, 1) := by decide +kernel
theorem dL_letGo_1 : decode cL_letGo 1 = .ok (.iconst 0, 1) := by decide +kernel
theorem dL_letGo_2 : decode cL_letGo 2 = .ok (.aload_n 0, 1) := by decide +kernel
theorem dL_letGo_3 : decode cL_letGo 3 = .ok (.iload_n 1, 1) := by decide +kernel
theorem dL_letGo_4 : decode cL_letGo 4 = .ok (.invokevirtual 45, 3) := by decide +kernel
theorem dL_letGo_7 : decode cL_letGo 7 = .ok (.i2l, 1) := by decide +kernel
theorem dL_letGo_8 : decode cL_letGo 8 = .ok (.lastore, 1) := by decide +kernel
theorem dL_letGo_9 : decode cL_letGo 9 = .ok (.goto 9, 3) := by decide +kernel
theorem dL_letGo_12 : decode cL_letGo 12 = .ok (.astore_n 3, 1) := by decide +kernel
theorem dL_letGo_13 : decode cL_letGo 13 = .ok (.iconst 1, 1) := by decide +kernel
theorem dL_letGo_14 : decode cL_letGo 14 = .ok (.ireturn, 1) := by decide +kernel
theorem dL_letGo_15 : decode cL_letGo 15 = .ok (.astore_n 3, 1) := by decide +kernel
theorem dL_letGo_16 : decode cL_letGo 16 = .ok (.iconst 2, 1) := by decide +kernel
theorem dL_letGo_17 : decode cL_letGo 17 = .ok (.ireturn, 1) := by decide +kernel
theorem dL_letGo_18 : decode cL_letGo 18 = .ok (.iconst 0, 1) := by decide +kernel
theorem dL_letGo_19 : decode cL_letGo 19 = .ok (.ireturn, 1) := by decide +kernel
theorem dL_join_0 : decode cL_join 0 = .ok (.aload_n 3, 1) := by decide +kernel
theorem dL_join_1 : decode cL_join 1 = .ok (.iconst 0, 1) := by decide +kernel
theorem dL_join_2 : decode cL_join 2 = .ok (.aload_n 0, 1) := by decide +kernel
theorem dL_join_3 : decode cL_join 3 = .ok (.iload_n 1, 1) := by decide +kernel
theorem dL_join_4 : decode cL_join 4 = .ok (.iload_n 2, 1) := by decide +kernel
theorem dL_join_5 : decode cL_join 5 = .ok (.invokevirtual 48, 3) := by decide +kernel
theorem dL_join_8 : decode cL_join 8 = .ok (.i2l, 1) := by decide +kernel
theorem dL_join_9 : decode cL_join 9 = .ok (.lastore, 1) := by decide +kernel
theorem dL_join_10 : decode cL_join 10 = .ok (.goto 15, 3) := by decide +kernel
theorem dL_join_13 : decode cL_join 13 = .ok (.astore 4, 2) := by decide +kernel
theorem dL_join_15 : decode cL_join 15 = .ok (.iconst 1, 1) := by decide +kernel
theorem dL_join_16 : decode cL_join 16 = .ok (.ireturn, 1) := by decide +kernel
theorem dL_join_17 : decode cL_join 17 = .ok (.astore 4, 2) := by decide +kernel
theorem dL_join_19 : decode cL_join 19 = .ok (.iconst 2, 1) := by decide +kernel
theorem dL_join_20 : decode cL_join 20 = .ok (.ireturn, 1) := by decide +kernel
theorem dL_join_21 : decode cL_join 21 = .ok (.astore 4, 2) := by decide +kernel
theorem dL_join_23 : decode cL_join 23 = .ok (.iconst 3, 1) := by decide +kernel
theorem dL_join_24 : decode cL_join 24 = .ok (.ireturn, 1) := by decide +kernel
theorem dL_join_25 : decode cL_join 25 = .ok (.iconst 0, 1) := by decide +kernel
theorem dL_join_26 : decode cL_join 26 = .ok (.ireturn, 1) := by decide +kernel
theorem dL_pass_0 : decode cL_pass 0 = .ok (.aload_n 2, 1) := by decide +kernel
theorem dL_pass_1 : decode cL_pass 1 = .ok (.iconst 0, 1) := by decide +kernel
theorem dL_pass_2 : decode cL_pass 2 = .ok (.aload_n 0, 1) := by decide +kernel
theorem dL_pass_3 : decode cL_pass 3 = .ok (.iload_n 1, 1) := by decide +kernel
theorem dL_pass_4 : decode cL_pass 4 = .ok (.invokevirtual 51, 3) := by decide +kernel
theorem dL_pass_7 : decode cL_pass 7 = .ok (.i2l, 1) := by decide +kernel
theorem dL_pass_8 : decode cL_pass 8 = .ok (.lastore, 1) := by decide +kernel
theorem dL_pass_9 : decode cL_pass 9 = .ok (.goto 9, 3) := by decide +kernel
theorem dL_pass_12 : decode cL_pass 12 = .ok (.astore_n 3, 1) := by decide +kernel
theorem dL_pass_13 : decode cL_pass 13 = .ok (.iconst 1, 1) := by decide +kernel
theorem dL_pass_14 : decode cL_pass 14 = .ok (.ireturn, 1) := by decide +kernel
theorem dL_pass_15 : decode cL_pass 15 = .ok (.astore_n 3, 1) := by decide +kernel
theorem dL_pass_16 : decode cL_pass 16 = .ok (.iconst 2, 1) := by decide +kernel
theorem dL_pass_17 : decode cL_pass 17 = .ok (.ireturn, 1) := by decide +kernel
theorem dL_pass_18 : decode cL_pass 18 = .ok (.iconst 0, 1) := by decide +kernel
theorem dL_pass_19 : decode cL_pass 19 = .ok (.ireturn, 1) := by decide +kernel
theorem dL_principal_0 : decode cL_principal 0 = .ok (.aload_n 2, 1) := by decide +kernel
theorem dL_principal_1 : decode cL_principal 1 = .ok (.iconst 0, 1) := by decide +kernel
theorem dL_principal_2 : decode cL_principal 2 = .ok (.aload_n 0, 1) := by decide +kernel
theorem dL_principal_3 : decode cL_principal 3 = .ok (.iload_n 1, 1) := by decide +kernel
theorem dL_principal_4 : decode cL_principal 4 = .ok (.invokevirtual 54, 3) := by decide +kernel
theorem dL_principal_7 : decode cL_principal 7 = .ok (.i2l, 1) := by decide +kernel
theorem dL_principal_8 : decode cL_principal 8 = .ok (.lastore, 1) := by decide +kernel
theorem dL_principal_9 : decode cL_principal 9 = .ok (.goto 6, 3) := by decide +kernel
theorem dL_principal_12 : decode cL_principal 12 = .ok (.astore_n 3, 1) := by decide +kernel
theorem dL_principal_13 : decode cL_principal 13 = .ok (.iconst 1, 1) := by decide +kernel
theorem dL_principal_14 : decode cL_principal 14 = .ok (.ireturn, 1) := by decide +kernel
theorem dL_principal_15 : decode cL_principal 15 = .ok (.iconst 0, 1) := by decide +kernel
theorem dL_principal_16 : decode cL_principal 16 = .ok (.ireturn, 1) := by decide +kernel
theorem dL_earned_0 : decode cL_earned 0 = .ok (.aload_n 2, 1) := by decide +kernel
theorem dL_earned_1 : decode cL_earned 1 = .ok (.iconst 0, 1) := by decide +kernel
theorem dL_earned_2 : decode cL_earned 2 = .ok (.aload_n 0, 1) := by decide +kernel
theorem dL_earned_3 : decode cL_earned 3 = .ok (.iload_n 1, 1) := by decide +kernel
theorem dL_earned_4 : decode cL_earned 4 = .ok (.invokevirtual 57, 3) := by decide +kernel
theorem dL_earned_7 : decode cL_earned 7 = .ok (.lastore, 1) := by decide +kernel
theorem dL_earned_8 : decode cL_earned 8 = .ok (.goto 6, 3) := by decide +kernel
theorem dL_earned_11 : decode cL_earned 11 = .ok (.astore_n 3, 1) := by decide +kernel
theorem dL_earned_12 : decode cL_earned 12 = .ok (.iconst 1, 1) := by decide +kernel
theorem dL_earned_13 : decode cL_earned 13 = .ok (.ireturn, 1) := by decide +kernel
theorem dL_earned_14 : decode cL_earned 14 = .ok (.iconst 0, 1) := by decide +kernel
theorem dL_earned_15 : decode cL_earned 15 = .ok (.ireturn, 1) := by decide +kernel
theorem dL_partsOfDay_0 : decode cL_partsOfDay 0 = .ok (.aload_n 2, 1) := by decide +kernel
theorem dL_partsOfDay_1 : decode cL_partsOfDay 1 = .ok (.iconst 0, 1) := by decide +kernel
theorem dL_partsOfDay_2 : decode cL_partsOfDay 2 = .ok (.aload_n 0, 1) := by decide +kernel
theorem dL_partsOfDay_3 : decode cL_partsOfDay 3 = .ok (.iload_n 1, 1) := by decide +kernel
theorem dL_partsOfDay_4 : decode cL_partsOfDay 4 = .ok (.invokevirtual 61, 3) := by decide +kernel
theorem dL_partsOfDay_7 : decode cL_partsOfDay 7 = .ok (.lastore, 1) := by decide +kernel
theorem dL_partsOfDay_8 : decode cL_partsOfDay 8 = .ok (.goto 6, 3) := by decide +kernel
theorem dL_partsOfDay_11 : decode cL_partsOfDay 11 = .ok (.astore_n 3, 1) := by decide +kernel
theorem dL_partsOfDay_12 : decode cL_partsOfDay 12 = .ok (.iconst 1, 1) := by decide +kernel
theorem dL_partsOfDay_13 : decode cL_partsOfDay 13 = .ok (.ireturn, 1) := by decide +kernel
theorem dL_partsOfDay_14 : decode cL_partsOfDay 14 = .ok (.iconst 0, 1) := by decide +kernel
theorem dL_partsOfDay_15 : decode cL_partsOfDay 15 = .ok (.ireturn, 1) := by decide +kernel
theorem dL_frozen_0 : decode cL_frozen 0 = .ok (.aload_n 2, 1) := by decide +kernel
theorem dL_frozen_1 : decode cL_frozen 1 = .ok (.iconst 0, 1) := by decide +kernel
theorem dL_frozen_2 : decode cL_frozen 2 = .ok (.aload_n 0, 1) := by decide +kernel
theorem dL_frozen_3 : decode cL_frozen 3 = .ok (.iload_n 1, 1) := by decide +kernel
theorem dL_frozen_4 : decode cL_frozen 4 = .ok (.invokevirtual 64, 3) := by decide +kernel
theorem dL_frozen_7 : decode cL_frozen 7 = .ok (.i2l, 1) := by decide +kernel
theorem dL_frozen_8 : decode cL_frozen 8 = .ok (.lastore, 1) := by decide +kernel
theorem dL_frozen_9 : decode cL_frozen 9 = .ok (.goto 6, 3) := by decide +kernel
theorem dL_frozen_12 : decode cL_frozen 12 = .ok (.astore_n 3, 1) := by decide +kernel
theorem dL_frozen_13 : decode cL_frozen 13 = .ok (.iconst 1, 1) := by decide +kernel
theorem dL_frozen_14 : decode cL_frozen 14 = .ok (.ireturn, 1) := by decide +kernel
theorem dL_frozen_15 : decode cL_frozen 15 = .ok (.iconst 0, 1) := by decide +kernel
theorem dL_frozen_16 : decode cL_frozen 16 = .ok (.ireturn, 1) := by decide +kernel
theorem dL_endOf_0 : decode cL_endOf 0 = .ok (.aload_n 2, 1) := by decide +kernel
theorem dL_endOf_1 : decode cL_endOf 1 = .ok (.iconst 0, 1) := by decide +kernel
theorem dL_endOf_2 : decode cL_endOf 2 = .ok (.aload_n 0, 1) := by decide +kernel
theorem dL_endOf_3 : decode cL_endOf 3 = .ok (.iload_n 1, 1) := by decide +kernel
theorem dL_endOf_4 : decode cL_endOf 4 = .ok (.invokevirtual 67, 3) := by decide +kernel
theorem dL_endOf_7 : decode cL_endOf 7 = .ok (.i2l, 1) := by decide +kernel
theorem dL_endOf_8 : decode cL_endOf 8 = .ok (.lastore, 1) := by decide +kernel
theorem dL_endOf_9 : decode cL_endOf 9 = .ok (.goto 6, 3) := by decide +kernel
theorem dL_endOf_12 : decode cL_endOf 12 = .ok (.astore_n 3, 1) := by decide +kernel
theorem dL_endOf_13 : decode cL_endOf 13 = .ok (.iconst 1, 1) := by decide +kernel
theorem dL_endOf_14 : decode cL_endOf 14 = .ok (.ireturn, 1) := by decide +kernel
theorem dL_endOf_15 : decode cL_endOf 15 = .ok (.iconst 0, 1) := by decide +kernel
theorem dL_endOf_16 : decode cL_endOf 16 = .ok (.ireturn, 1) := by decide +kernel
theorem dL_total_0 : decode cL_total 0 = .ok (.aload_n 2, 1) := by decide +kernel
theorem dL_total_1 : decode cL_total 1 = .ok (.iconst 0, 1) := by decide +kernel
theorem dL_total_2 : decode cL_total 2 = .ok (.aload_n 0, 1) := by decide +kernel
theorem dL_total_3 : decode cL_total 3 = .ok (.iload_n 1, 1) := by decide +kernel
theorem dL_total_4 : decode cL_total 4 = .ok (.invokevirtual 70, 3) := by decide +kernel
theorem dL_total_7 : decode cL_total 7 = .ok (.i2l, 1) := by decide +kernel
theorem dL_total_8 : decode cL_total 8 = .ok (.lastore, 1) := by decide +kernel
theorem dL_total_9 : decode cL_total 9 = .ok (.goto 6, 3) := by decide +kernel
theorem dL_total_12 : decode cL_total 12 = .ok (.astore_n 3, 1) := by decide +kernel
theorem dL_total_13 : decode cL_total 13 = .ok (.iconst 1, 1) := by decide +kernel
theorem dL_total_14 : decode cL_total 14 = .ok (.ireturn, 1) := by decide +kernel
theorem dL_total_15 : decode cL_total 15 = .ok (.iconst 0, 1) := by decide +kernel
theorem dL_total_16 : decode cL_total 16 = .ok (.ireturn, 1) := by decide +kernel
theorem dL_partsByTotal_0 : decode cL_partsByTotal 0 = .ok (.aload_n 2, 1) := by decide +kernel
theorem dL_partsByTotal_1 : decode cL_partsByTotal 1 = .ok (.iconst 0, 1) := by decide +kernel
theorem dL_partsByTotal_2 : decode cL_partsByTotal 2 = .ok (.aload_n 0, 1) := by decide +kernel
theorem dL_partsByTotal_3 : decode cL_partsByTotal 3 = .ok (.iload_n 1, 1) := by decide +kernel
theorem dL_partsByTotal_4 : decode cL_partsByTotal 4 = .ok (.invokevirtual 73, 3) := by decide +kernel
theorem dL_partsByTotal_7 : decode cL_partsByTotal 7 = .ok (.lastore, 1) := by decide +kernel
theorem dL_partsByTotal_8 : decode cL_partsByTotal 8 = .ok (.goto 6, 3) := by decide +kernel
theorem dL_partsByTotal_11 : decode cL_partsByTotal 11 = .ok (.astore_n 3, 1) := by decide +kernel
theorem dL_partsByTotal_12 : decode cL_partsByTotal 12 = .ok (.iconst 1, 1) := by decide +kernel
theorem dL_partsByTotal_13 : decode cL_partsByTotal 13 = .ok (.ireturn, 1) := by decide +kernel
theorem dL_partsByTotal_14 : decode cL_partsByTotal 14 = .ok (.iconst 0, 1) := by decide +kernel
theorem dL_partsByTotal_15 : decode cL_partsByTotal 15 = .ok (.ireturn, 1) := by decide +kernel
theorem dL_paid_0 : decode cL_paid 0 = .ok (.aload_n 2, 1) := by decide +kernel
theorem dL_paid_1 : decode cL_paid 1 = .ok (.iconst 0, 1) := by decide +kernel
theorem dL_paid_2 : decode cL_paid 2 = .ok (.aload_n 0, 1) := by decide +kernel
theorem dL_paid_3 : decode cL_paid 3 = .ok (.iload_n 1, 1) := by decide +kernel
theorem dL_paid_4 : decode cL_paid 4 = .ok (.invokevirtual 76, 3) := by decide +kernel
theorem dL_paid_7 : decode cL_paid 7 = .ok (.lastore, 1) := by decide +kernel
theorem dL_paid_8 : decode cL_paid 8 = .ok (.goto 6, 3) := by decide +kernel
theorem dL_paid_11 : decode cL_paid 11 = .ok (.astore_n 3, 1) := by decide +kernel
theorem dL_paid_12 : decode cL_paid 12 = .ok (.iconst 1, 1) := by decide +kernel
theorem dL_paid_13 : decode cL_paid 13 = .ok (.ireturn, 1) := by decide +kernel
theorem dL_paid_14 : decode cL_paid 14 = .ok (.iconst 0, 1) := by decide +kernel
theorem dL_paid_15 : decode cL_paid 15 = .ok (.ireturn, 1) := by decide +kernel
theorem dL_lost_0 : decode cL_lost 0 = .ok (.aload_n 2, 1) := by decide +kernel
theorem dL_lost_1 : decode cL_lost 1 = .ok (.iconst 0, 1) := by decide +kernel
theorem dL_lost_2 : decode cL_lost 2 = .ok (.aload_n 0, 1) := by decide +kernel
theorem dL_lost_3 : decode cL_lost 3 = .ok (.iload_n 1, 1) := by decide +kernel
theorem dL_lost_4 : decode cL_lost 4 = .ok (.invokevirtual 79, 3) := by decide +kernel
theorem dL_lost_7 : decode cL_lost 7 = .ok (.lastore, 1) := by decide +kernel
theorem dL_lost_8 : decode cL_lost 8 = .ok (.goto 6, 3) := by decide +kernel
theorem dL_lost_11 : decode cL_lost 11 = .ok (.astore_n 3, 1) := by decide +kernel
theorem dL_lost_12 : decode cL_lost 12 = .ok (.iconst 1, 1) := by decide +kernel
theorem dL_lost_13 : decode cL_lost 13 = .ok (.ireturn, 1) := by decide +kernel
theorem dL_lost_14 : decode cL_lost 14 = .ok (.iconst 0, 1) := by decide +kernel
theorem dL_lost_15 : decode cL_lost 15 = .ok (.ireturn, 1) := by decide +kernel
