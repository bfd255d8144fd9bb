theorem dL_addLoan_0 : decode cL_addLoan 0 = .ok (.aload 5, 2) := by decide +kernel
theorem dL_addLoan_2 : decode cL_addLoan 2 = .ok (.iconst 0, 1) := by decide +kernel
theorem dL_addLoan_3 : decode cL_addLoan 3 = .ok (.aload_n 0, 1) := by decide +kernel
theorem dL_addLoan_4 : decode cL_addLoan 4 = .ok (.iload_n 1, 1) := by decide +kernel
theorem dL_addLoan_5 : decode cL_addLoan 5 = .ok (.iload_n 2, 1) := by decide +kernel
theorem dL_addLoan_6 : decode cL_addLoan 6 = .ok (.iload_n 3, 1) := by decide +kernel
theorem dL_addLoan_7 : decode cL_addLoan 7 = .ok (.iload 4, 2) := by decide +kernel
theorem dL_addLoan_9 : decode cL_addLoan 9 = .ok (.invokevirtual 7, 3) := by decide +kernel
theorem dL_addLoan_12 : decode cL_addLoan 12 = .ok (.i2l, 1) := by decide +kernel
theorem dL_addLoan_13 : decode cL_addLoan 13 = .ok (.lastore, 1) := by decide +kernel
theorem dL_addLoan_14 : decode cL_addLoan 14 = .ok (.goto 11, 3) := by decide +kernel
theorem dL_addLoan_17 : decode cL_addLoan 17 = .ok (.astore 6, 2) := by decide +kernel
theorem dL_addLoan_19 : decode cL_addLoan 19 = .ok (.iconst 1, 1) := by decide +kernel
theorem dL_addLoan_20 : decode cL_addLoan 20 = .ok (.ireturn, 1) := by decide +kernel
theorem dL_addLoan_21 : decode cL_addLoan 21 = .ok (.astore 6, 2) := by decide +kernel
theorem dL_addLoan_23 : decode cL_addLoan 23 = .ok (.iconst 2, 1) := by decide +kernel
theorem dL_addLoan_24 : decode cL_addLoan 24 = .ok (.ireturn, 1) := by decide +kernel
theorem dL_addLoan_25 : decode cL_addLoan 25 = .ok (.iconst 0, 1) := by decide +kernel
theorem dL_addLoan_26 : decode cL_addLoan 26 = .ok (.ireturn, 1) := by decide +kernel
theorem dL_enter_0 : decode cL_enter 0 = .ok (.aload_n 2, 1) := by decide +kernel
theorem dL_enter_1 : decode cL_enter 1 = .ok (.iconst 0, 1) := by decide +kernel
theorem dL_enter_2 : decode cL_enter 2 = .ok (.aload_n 0, 1) := by decide +kernel
theorem dL_enter_3 : decode cL_enter 3 = .ok (.iload_n 1, 1) := by decide +kernel
theorem dL_enter_4 : decode cL_enter 4 = .ok (.invokevirtual 17, 3) := by decide +kernel
theorem dL_enter_7 : decode cL_enter 7 = .ok (.i2l, 1) := by decide +kernel
theorem dL_enter_8 : decode cL_enter 8 = .ok (.lastore, 1) := by decide +kernel
theorem dL_enter_9 : decode cL_enter 9 = .ok (.goto 9, 3) := by decide +kernel
theorem dL_enter_12 : decode cL_enter 12 = .ok (.astore_n 3, 1) := by decide +kernel
theorem dL_enter_13 : decode cL_enter 13 = .ok (.iconst 1, 1) := by decide +kernel
theorem dL_enter_14 : decode cL_enter 14 = .ok (.ireturn, 1) := by decide +kernel
theorem dL_enter_15 : decode cL_enter 15 = .ok (.astore_n 3, 1) := by decide +kernel
theorem dL_enter_16 : decode cL_enter 16 = .ok (.iconst 2, 1) := by decide +kernel
theorem dL_enter_17 : decode cL_enter 17 = .ok (.ireturn, 1) := by decide +kernel
theorem dL_enter_18 : decode cL_enter 18 = .ok (.iconst 0, 1) := by decide +kernel
theorem dL_enter_19 : decode cL_enter 19 = .ok (.ireturn, 1) := by decide +kernel
theorem dL_leave_0 : decode cL_leave 0 = .ok (.aload_n 2, 1) := by decide +kernel
theorem dL_leave_1 : decode cL_leave 1 = .ok (.iconst 0, 1) := by decide +kernel
theorem dL_leave_2 : decode cL_leave 2 = .ok (.aload_n 0, 1) := by decide +kernel
theorem dL_leave_3 : decode cL_leave 3 = .ok (.iload_n 1, 1) := by decide +kernel
theorem dL_leave_4 : decode cL_leave 4 = .ok (.invokevirtual 23, 3) := by decide +kernel
theorem dL_leave_7 : decode cL_leave 7 = .ok (.ifCond .eq 7, 3) := by decide +kernel
theorem dL_leave_10 : decode cL_leave 10 = .ok (.lconst 1, 1) := by decide +kernel
theorem dL_leave_11 : decode cL_leave 11 = .ok (.goto 4, 3) := by decide +kernel
theorem dL_leave_14 : decode cL_leave 14 = .ok (.lconst 0, 1) := by decide +kernel
theorem dL_leave_15 : decode cL_leave 15 = .ok (.lastore, 1) := by decide +kernel
theorem dL_leave_16 : decode cL_leave 16 = .ok (.goto 9, 3) := by decide +kernel
theorem dL_leave_19 : decode cL_leave 19 = .ok (.astore_n 3, 1) := by decide +kernel
theorem dL_leave_20 : decode cL_leave 20 = .ok (.iconst 1, 1) := by decide +kernel
theorem dL_leave_21 : decode cL_leave 21 = .ok (.ireturn, 1) := by decide +kernel
theorem dL_leave_22 : decode cL_leave 22 = .ok (.astore_n 3, 1) := by decide +kernel
theorem dL_leave_23 : decode cL_leave 23 = .ok (.iconst 2, 1) := by decide +kernel
theorem dL_leave_24 : decode cL_leave 24 = .ok (.ireturn, 1) := by decide +kernel
theorem dL_leave_25 : decode cL_leave 25 = .ok (.iconst 0, 1) := by decide +kernel
theorem dL_leave_26 : decode cL_leave 26 = .ok (.ireturn, 1) := by decide +kernel
theorem dL_swap_0 : decode cL_swap 0 = .ok (.aload_n 3, 1) := by decide +kernel
theorem dL_swap_1 : decode cL_swap 1 = .ok (.iconst 0, 1) := by decide +kernel
theorem dL_swap_2 : decode cL_swap 2 = .ok (.aload_n 0, 1) := by decide +kernel
theorem dL_swap_3 : decode cL_swap 3 = .ok (.iload_n 1, 1) := by decide +kernel
theorem dL_swap_4 : decode cL_swap 4 = .ok (.iload_n 2, 1) := by decide +kernel
theorem dL_swap_5 : decode cL_swap 5 = .ok (.invokevirtual 27, 3) := by decide +kernel
theorem dL_swap_8 : decode cL_swap 8 = .ok (.ifCond .eq 7, 3) := by decide +kernel
theorem dL_swap_11 : decode cL_swap 11 = .ok (.lconst 1, 1) := by decide +kernel
theorem dL_swap_12 : decode cL_swap 12 = .ok (.goto 4, 3) := by decide +kernel
theorem dL_swap_15 : decode cL_swap 15 = .ok (.lconst 0, 1) := by decide +kernel
theorem dL_swap_16 : decode cL_swap 16 = .ok (.lastore, 1) := by decide +kernel
theorem dL_swap_17 : decode cL_swap 17 = .ok (.goto 11, 3) := by decide +kernel
theorem dL_swap_20 : decode cL_swap 20 = .ok (.astore 4, 2) := by decide +kernel
theorem dL_swap_22 : decode cL_swap 22 = .ok (.iconst 1, 1) := by decide +kernel
theorem dL_swap_23 : decode cL_swap 23 = .ok (.ireturn, 1) := by decide +kernel
theorem dL_swap_24 : decode cL_swap 24 = .ok (.astore 4, 2) := by decide +kernel
theorem dL_swap_26 : decode cL_swap 26 = .ok (.iconst 2, 1) := by decide +kernel
theorem dL_swap_27 : decode cL_swap 27 = .ok (.ireturn, 1) := by decide +kernel
theorem dL_swap_28 : decode cL_swap 28 = .ok (.iconst 0, 1) := by decide +kernel
theorem dL_swap_29 : decode cL_swap 29 = .ok (.ireturn, 1) := by decide +kernel
theorem dL_setArrears_0 : decode cL_setArrears 0 = .ok (.aload_n 3, 1) := by decide +kernel
theorem dL_setArrears_1 : decode cL_setArrears 1 = .ok (.iconst 0, 1) := by decide +kernel
theorem dL_setArrears_2 : decode cL_setArrears 2 = .ok (.aload_n 0, 1) := by decide +kernel
theorem dL_setArrears_3 : decode cL_setArrears 3 = .ok (.iload_n 1, 1) := by decide +kernel
theorem dL_setArrears_4 : decode cL_setArrears 4 = .ok (.iload_n 2, 1) := by decide +kernel
theorem dL_setArrears_5 : decode cL_setArrears 5 = .ok (.invokevirtual 31, 3) := by decide +kernel
theorem dL_setArrears_8 : decode cL_setArrears 8 = .ok (.i2l, 1) := by decide +kernel
theorem dL_setArrears_9 : decode cL_setArrears 9 = .ok (.lastore, 1) := by decide +kernel
theorem dL_setArrears_10 : decode cL_setArrears 10 = .ok (.goto 15, 3) := by decide +kernel
theorem dL_setArrears_13 : decode cL_setArrears 13 = .ok (.astore 4, 2) := by decide +kernel
theorem dL_setArrears_15 : decode cL_setArrears 15 = .ok (.iconst 1, 1) := by decide +kernel
theorem dL_setArrears_16 : decode cL_setArrears 16 = .ok (.ireturn, 1) := by decide +kernel
theorem dL_setArrears_17 : decode cL_setArrears 17 = .ok (.astore 4, 2) := by decide +kernel
theorem dL_setArrears_19 : decode cL_setArrears 19 = .ok (.iconst 2, 1) := by decide +kernel
theorem dL_setArrears_20 : decode cL_setArrears 20 = .ok (.ireturn, 1) := by decide +kernel
theorem dL_setArrears_21 : decode cL_setArrears 21 = .ok (.astore 4, 2) := by decide +kernel
theorem dL_setArrears_23 : decode cL_setArrears 23 = .ok (.iconst 3, 1) := by decide +kernel
theorem dL_setArrears_24 : decode cL_setArrears 24 = .ok (.ireturn, 1) := by decide +kernel
theorem dL_setArrears_25 : decode cL_setArrears 25 = .ok (.iconst 0, 1) := by decide +kernel
theorem dL_setArrears_26 : decode cL_setArrears 26 = .ok (.ireturn, 1) := by decide +kernel
theorem dL_setWorth_0 : decode cL_setWorth 0 = .ok (.aload_n 3, 1) := by decide +kernel
theorem dL_setWorth_1 : decode cL_setWorth 1 = .ok (.iconst 0, 1) := by decide +kernel
theorem dL_setWorth_2 : decode cL_setWorth 2 = .ok (.aload_n 0, 1) := by decide +kernel
theorem dL_setWorth_3 : decode cL_setWorth 3 = .ok (.iload_n 1, 1) := by decide +kernel
theorem dL_setWorth_4 : decode cL_setWorth 4 = .ok (.iload_n 2, 1) := by decide +kernel
theorem dL_setWorth_5 : decode cL_setWorth 5 = .ok (.invokevirtual 35, 3) := by decide +kernel
theorem dL_setWorth_8 : decode cL_setWorth 8 = .ok (.i2l, 1) := by decide +kernel
theorem dL_setWorth_9 : decode cL_setWorth 9 = .ok (.lastore, 1) := by decide +kernel
theorem dL_setWorth_10 : decode cL_setWorth 10 = .ok (.goto 11, 3) := by decide +kernel
theorem dL_setWorth_13 : decode cL_setWorth 13 = .ok (.astore 4, 2) := by decide +kernel
theorem dL_setWorth_15 : decode cL_setWorth 15 = .ok (.iconst 1, 1) := by decide +kernel
theorem dL_setWorth_16 : decode cL_setWorth 16 = .ok (.ireturn, 1) := by decide +kernel
theorem dL_setWorth_17 : decode cL_setWorth 17 = .ok (.astore 4, 2) := by decide +kernel
theorem dL_setWorth_19 : decode cL_setWorth 19 = .ok (.iconst 2, 1) := by decide +kernel
theorem dL_setWorth_20 : decode cL_setWorth 20 = .ok (.ireturn, 1) := by decide +kernel
theorem dL_setWorth_21 : decode cL_setWorth 21 = .ok (.iconst 0, 1) := by decide +kernel
theorem dL_setWorth_22 : decode cL_setWorth 22 = .ok (.ireturn, 1) := by decide +kernel
theorem dL_stateOf_0 : decode cL_stateOf 0 = .ok (.aload_n 2, 1) := by decide +kernel
theorem dL_stateOf_1 : decode cL_stateOf 1 = .ok (.iconst 0, 1) := by decide +kernel
theorem dL_stateOf_2 : decode cL_stateOf 2 = .ok (.aload_n 0, 1) := by decide +kernel
theorem dL_stateOf_3 : decode cL_stateOf 3 = .ok (.iload_n 1, 1) := by decide +kernel
theorem dL_stateOf_4 : decode cL_stateOf 4 = .ok (.invokevirtual 38, 3) := by decide +kernel
theorem dL_stateOf_7 : decode cL_stateOf 7 = .ok (.i2l, 1) := by decide +kernel
theorem dL_stateOf_8 : decode cL_stateOf 8 = .ok (.lastore, 1) := by decide +kernel
theorem dL_stateOf_9 : decode cL_stateOf 9 = .ok (.goto 6, 3) := by decide +kernel
theorem dL_stateOf_12 : decode cL_stateOf 12 = .ok (.astore_n 3, 1) := by decide +kernel
theorem dL_stateOf_13 : decode cL_stateOf 13 = .ok (.iconst 1, 1) := by decide +kernel
theorem dL_stateOf_14 : decode cL_stateOf 14 = .ok (.ireturn, 1) := by decide +kernel
theorem dL_stateOf_15 : decode cL_stateOf 15 = .ok (.iconst 0, 1) := by decide +kernel
theorem dL_stateOf_16 : decode cL_stateOf 16 = .ok (.ireturn, 1) := by decide +kernel
theorem dL_counts_0 : decode cL_counts 0 = .ok (.aload_n 2, 1) := by decide +kernel
theorem dL_counts_1 : decode cL_counts 1 = .ok (.iconst 0, 1) := by decide +kernel
theorem dL_counts_2 : decode cL_counts 2 = .ok (.aload_n 0, 1) := by decide +kernel
theorem dL_counts_3 : decode cL_counts 3 = .ok (.iload_n 1, 1) := by decide +kernel
theorem dL_counts_4 : decode cL_counts 4 = .ok (.invokevirtual 41, 3) := by decide +kernel
theorem dL_counts_7 : decode cL_counts 7 = .ok (.i2l, 1) := by decide +kernel
theorem dL_counts_8 : decode cL_counts 8 = .ok (.lastore, 1) := by decide +kernel
theorem dL_counts_9 : decode cL_counts 9 = .ok (.goto 6, 3) := by decide +kernel
theorem dL_counts_12 : decode cL_counts 12 = .ok (.astore_n 3, 1) := by decide +kernel
theorem dL_counts_13 : decode cL_counts 13 = .ok (.iconst 1, 1) := by decide +kernel
theorem dL_counts_14 : decode cL_counts 14 = .ok (.ireturn, 1) := by decide +kernel
theorem dL_counts_15 : decode cL_counts 15 = .ok (.iconst 0, 1) := by decide +kernel
theorem dL_counts_16 : decode cL_counts 16 = .ok (.ireturn, 1) := by decide +kernel
theorem dL_addBond_0 : decode cL_addBond 0 = .ok (.aload_n 3, 1) := by decide +kernel
theorem dL_addBond_1 : decode cL_addBond 1 = .ok (.iconst 0, 1) := by decide +kernel
theorem dL_addBond_2 : decode cL_addBond 2 = .ok (.aload_n 0, 1) := by decide +kernel
theorem dL_addBond_3 : decode cL_addBond 3 = .ok (.iload_n 1, 1) := by decide +kernel
theorem dL_addBond_4 : decode cL_addBond 4 = .ok (.iload_n 2, 1) := by decide +kernel
theorem dL_addBond_5 : decode cL_addBond 5 = .ok (.invokevirtual 44, 3) := by decide +kernel
theorem dL_addBond_8 : decode cL_addBond 8 = .ok (.i2l, 1) := by decide +kernel
theorem dL_addBond_9 : decode cL_addBond 9 = .ok (.lastore, 1) := by decide +kernel
theorem dL_addBond_10 : decode cL_addBond 10 = .ok (.goto 11, 3) := by decide +kernel
theorem dL_addBond_13 : decode cL_addBond 13 = .ok (.astore 4, 2) := by decide +kernel
theorem dL_addBond_15 : decode cL_addBond 15 = .ok (.iconst 1, 1) := by decide +kernel
theorem dL_addBond_16 : decode cL_addBond 16 = .ok (.ireturn, 1) := by decide +kernel
theorem dL_addBond_17 : decode cL_addBond 17 = .ok (.astore 4, 2) := by decide +kernel
theorem dL_addBond_19 : decode cL_addBond 19 = .ok (.iconst 2, 1) := by decide +kernel
theorem dL_addBond_20 : decode cL_addBond 20 = .ok (.ireturn, 1) := by decide +kernel
theorem dL_addBond_21 : decode cL_addBond 21 = .ok (.iconst 0, 1) := by decide +kernel
theorem dL_addBond_22 : decode cL_addBond 22 = .ok (.ireturn, 1) := by decide +kernel
theorem dL_takeCash_0 : decode cL_takeCash 0 = .ok (.aload_n 2, 1) := by decide +kernel
theorem dL_takeCash_1 : decode cL_takeCash 1 = .ok (.iconst 0, 1) := by decide +kernel
theorem dL_takeCash_2 : decode cL_takeCash 2 = .ok (.aload_n 0, 1) := by decide +kernel
theorem dL_takeCash_3 : decode cL_takeCash 3 = .ok (.iload_n 1, 1) := by decide +kernel
theorem dL_takeCash_4 : decode cL_takeCash 4 = .ok (.invokevirtual 47, 3) := by decide +kernel
theorem dL_takeCash_7 : decode cL_takeCash 7 = .ok (.i2l, 1) := by decide +kernel
theorem dL_takeCash_8 : decode cL_takeCash 8 = .ok (.lastore, 1) := by decide +kernel
theorem dL_takeCash_9 : decode cL_takeCash 9 = .ok (.goto 9, 3) := by decide +kernel
theorem dL_takeCash_12 : decode cL_takeCash 12 = .ok (.astore_n 3, 1) := by decide +kernel
theorem dL_takeCash_13 : decode cL_takeCash 13 = .ok (.iconst 1, 1) := by decide +kernel
theorem dL_takeCash_14 : decode cL_takeCash 14 = .ok (.ireturn, 1) := by decide +kernel
theorem dL_takeCash_15 : decode cL_takeCash 15 = .ok (.astore_n 3, 1) := by decide +kernel
theorem dL_takeCash_16 : decode cL_takeCash 16 = .ok (.iconst 2, 1) := by decide +kernel
theorem dL_takeCash_17 : decode cL_takeCash 17 = .ok (.ireturn, 1) := by decide +kernel
theorem dL_takeCash_18 : decode cL_takeCash 18 = .ok (.iconst 0, 1) := by decide +kernel
theorem dL_takeCash_19 : decode cL_takeCash 19 = .ok (.ireturn, 1) := by decide +kernel
theorem dL_setRules_0 : decode cL_setRules 0 = .ok (.aload_n 0, 1) := by decide +kernel
theorem dL_setRules_1 : decode cL_setRules 1 = .ok (.iload_n 1, 1) := by decide +kernel
theorem dL_setRules_2 : decode cL_setRules 2 = .ok (.iload_n 2, 1) := by decide +kernel
theorem dL_setRules_3 : decode cL_setRules 3 = .ok (.iload_n 3, 1) := by decide +kernel
theorem dL_setRules_4 : decode cL_setRules 4 = .ok (.invokevirtual 50, 3) := by decide +kernel
theorem dL_setRules_7 : decode cL_setRules 7 = .ok (.goto 7, 3) := by decide +kernel
theorem dL_setRules_10 : decode cL_setRules 10 = .ok (.astore 4, 2) := by decide +kernel
theorem dL_setRules_12 : decode cL_setRules 12 = .ok (.iconst 1, 1) := by decide +kernel
theorem dL_setRules_13 : decode cL_setRules 13 = .ok (.ireturn, 1) := by decide +kernel
theorem dL_setRules_14 : decode cL_setRules 14 = .ok (.iconst 0, 1) := by decide +kernel
theorem dL_setRules_15 : decode cL_setRules 15 = .ok (.ireturn, 1) := by decide +kernel
theorem dL_bondState_0 : decode cL_bondState 0 = .ok (.aload_n 2, 1) := by decide +kernel
theorem dL_bondState_1 : decode cL_bondState 1 = .ok (.iconst 0, 1) := by decide +kernel
theorem dL_bondState_2 : decode cL_bondState 2 = .ok (.aload_n 0, 1) := by decide +kernel
theorem dL_bondState_3 : decode cL_bondState 3 = .ok (.iload_n 1, 1) := by decide +kernel
theorem dL_bondState_4 : decode cL_bondState 4 = .ok (.invokevirtual 54, 3) := by decide +kernel
theorem dL_bondState_7 : decode cL_bondState 7 = .ok (.i2l, 1) := by decide +kernel
theorem dL_bondState_8 : decode cL_bondState 8 = .ok (.lastore, 1) := by decide +kernel
theorem dL_bondState_9 : decode cL_bondState 9 = .ok (.goto 6, 3) := by decide +kernel
theorem dL_bondState_12 : decode cL_bondState 12 = .ok (.astore_n 3, 1) := by decide +kernel
theorem dL_bondState_13 : decode cL_bondState 13 = .ok (.iconst 1, 1) := by decide +kernel
theorem dL_bondState_14 : decode cL_bondState 14 = .ok (.ireturn, 1) := by decide +kernel
theorem dL_bondState_15 : decode cL_bondState 15 = .ok (.iconst 0, 1) := by decide +kernel
theorem dL_bondState_16 : decode cL_bondState 16 = .ok (.ireturn, 1) := by decide +kernel
theorem dL_dueOf_0 : decode cL_dueOf 0 = .ok (.aload_n 2, 1) := by decide +kernel
theorem dL_dueOf_1 : decode cL_dueOf 1 = .ok (.iconst 0, 1) := by decide +kernel
theorem dL_dueOf_2 : decode cL_dueOf 2 = .ok (.aload_n 0, 1) := by decide +kernel
theorem dL_dueOf_3 : decode cL_dueOf 3 = .ok (.iload_n 1, 1) := by decide +kernel
theorem dL_dueOf_4 : decode cL_dueOf 4 = .ok (.invokevirtual 57, 3) := by decide +kernel
theorem dL_dueOf_7 : decode cL_dueOf 7 = .ok (.i2l, 1) := by decide +kernel
theorem dL_dueOf_8 : decode cL_dueOf 8 = .ok (.lastore, 1) := by decide +kernel
theorem dL_dueOf_9 : decode cL_dueOf 9 = .ok (.goto 6, 3) := by decide +kernel
theorem dL_dueOf_12 : decode cL_dueOf 12 = .ok (.astore_n 3, 1) := by decide +kernel
theorem dL_dueOf_13 : decode cL_dueOf 13 = .ok (.iconst 1, 1) := by decide +kernel
theorem dL_dueOf_14 : decode cL_dueOf 14 = .ok (.ireturn, 1) := by decide +kernel
theorem dL_dueOf_15 : decode cL_dueOf 15 = .ok (.iconst 0, 1) := by decide +kernel
theorem dL_dueOf_16 : decode cL_dueOf 16 = .ok (.ireturn, 1) := by decide +kernel
theorem dL_pass_0 : decode cL_pass 0 = .ok (.aload_n 2, 1) := by decide +kernel
theorem dL_pass_1 : decode cL_pass 1 = .ok (.iconst 0, 1) := by decide +kernel
theorem dL_pass_2 : decode cL_pass 2 = .ok (.aload_n 0, 1) := by decide +kernel
theorem dL_pass_3 : decode cL_pass 3 = .ok (.iload_n 1, 1) := by decide +kernel
theorem dL_pass_4 : decode cL_pass 4 = .ok (.invokevirtual 60, 3) := by decide +kernel
theorem dL_pass_7 : decode cL_pass 7 = .ok (.i2l, 1) := by decide +kernel
theorem dL_pass_8 : decode cL_pass 8 = .ok (.lastore, 1) := by decide +kernel
theorem dL_pass_9 : decode cL_pass 9 = .ok (.goto 6, 3) := by decide +kernel
theorem dL_pass_12 : decode cL_pass 12 = .ok (.astore_n 3, 1) := by decide +kernel
theorem dL_pass_13 : decode cL_pass 13 = .ok (.iconst 1, 1) := by decide +kernel
theorem dL_pass_14 : decode cL_pass 14 = .ok (.ireturn, 1) := by decide +kernel
theorem dL_pass_15 : decode cL_pass 15 = .ok (.iconst 0, 1) := by decide +kernel
theorem dL_pass_16 : decode cL_pass 16 = .ok (.ireturn, 1) := by decide +kernel
theorem dL_holds_0 : decode cL_holds 0 = .ok (.aload_n 2, 1) := by decide +kernel
theorem dL_holds_1 : decode cL_holds 1 = .ok (.iconst 0, 1) := by decide +kernel
theorem dL_holds_2 : decode cL_holds 2 = .ok (.aload_n 0, 1) := by decide +kernel
theorem dL_holds_3 : decode cL_holds 3 = .ok (.iload_n 1, 1) := by decide +kernel
theorem dL_holds_4 : decode cL_holds 4 = .ok (.invokevirtual 63, 3) := by decide +kernel
theorem dL_holds_7 : decode cL_holds 7 = .ok (.ifCond .eq 7, 3) := by decide +kernel
theorem dL_holds_10 : decode cL_holds 10 = .ok (.lconst 1, 1) := by decide +kernel
theorem dL_holds_11 : decode cL_holds 11 = .ok (.goto 4, 3) := by decide +kernel
theorem dL_holds_14 : decode cL_holds 14 = .ok (.lconst 0, 1) := by decide +kernel
theorem dL_holds_15 : decode cL_holds 15 = .ok (.lastore, 1) := by decide +kernel
theorem dL_holds_16 : decode cL_holds 16 = .ok (.goto 6, 3) := by decide +kernel
theorem dL_holds_19 : decode cL_holds 19 = .ok (.astore_n 3, 1) := by decide +kernel
theorem dL_holds_20 : decode cL_holds 20 = .ok (.iconst 1, 1) := by decide +kernel
theorem dL_holds_21 : decode cL_holds 21 = .ok (.ireturn, 1) := by decide +kernel
theorem dL_holds_22 : decode cL_holds 22 = .ok (.iconst 0, 1) := by decide +kernel
theorem dL_holds_23 : decode cL_holds 23 = .ok (.ireturn, 1) := by decide +kernel
theorem dL_lacking_0 : decode cL_lacking 0 = .ok (.aload_n 2, 1) := by decide +kernel
theorem dL_lacking_1 : decode cL_lacking 1 = .ok (.iconst 0, 1) := by decide +kernel
theorem dL_lacking_2 : decode cL_lacking 2 = .ok (.aload_n 0, 1) := by decide +kernel
