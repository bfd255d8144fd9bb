theorem dL_cell_0 : decode cL_cell 0 = .ok (.iload_n 1, 1) := by decide +kernel
theorem dL_cell_1 : decode cL_cell 1 = .ok (.aload_n 0, 1) := by decide +kernel
theorem dL_cell_2 : decode cL_cell 2 = .ok (.arraylength, 1) := by decide +kernel
theorem dL_cell_3 : decode cL_cell 3 = .ok (.if_icmp .ge 9, 3) := by decide +kernel
theorem dL_cell_6 : decode cL_cell 6 = .ok (.aload_n 0, 1) := by decide +kernel
theorem dL_cell_7 : decode cL_cell 7 = .ok (.iload_n 1, 1) := by decide +kernel
theorem dL_cell_8 : decode cL_cell 8 = .ok (.iaload, 1) := by decide +kernel
theorem dL_cell_9 : decode cL_cell 9 = .ok (.goto 15, 3) := by decide +kernel
theorem dL_cell_12 : decode cL_cell 12 = .ok (.ldc 7, 2) := by decide +kernel
theorem dL_cell_14 : decode cL_cell 14 = .ok (.iload_n 1, 1) := by decide +kernel
theorem dL_cell_15 : decode cL_cell 15 = .ok (.sipush 6379, 3) := by decide +kernel
theorem dL_cell_18 : decode cL_cell 18 = .ok (.irem, 1) := by decide +kernel
theorem dL_cell_19 : decode cL_cell 19 = .ok (.imul, 1) := by decide +kernel
theorem dL_cell_20 : decode cL_cell 20 = .ok (.sipush 3907, 3) := by decide +kernel
theorem dL_cell_23 : decode cL_cell 23 = .ok (.iadd, 1) := by decide +kernel
theorem dL_cell_24 : decode cL_cell 24 = .ok (.ldc 8, 2) := by decide +kernel
theorem dL_cell_26 : decode cL_cell 26 = .ok (.iand, 1) := by decide +kernel
theorem dL_cell_27 : decode cL_cell 27 = .ok (.ireturn, 1) := by decide +kernel
theorem dL_addLoan_0 : decode cL_addLoan 0 = .ok (.aload_n 0, 1) := by decide +kernel
theorem dL_addLoan_1 : decode cL_addLoan 1 = .ok (.iload_n 1, 1) := by decide +kernel
theorem dL_addLoan_2 : decode cL_addLoan 2 = .ok (.iload_n 2, 1) := by decide +kernel
theorem dL_addLoan_3 : decode cL_addLoan 3 = .ok (.iload_n 3, 1) := by decide +kernel
theorem dL_addLoan_4 : decode cL_addLoan 4 = .ok (.iload 4, 2) := by decide +kernel
theorem dL_addLoan_6 : decode cL_addLoan 6 = .ok (.invokevirtual 9, 3) := by decide +kernel
theorem dL_addLoan_9 : decode cL_addLoan 9 = .ok (.ireturn, 1) := by decide +kernel
theorem dL_addLoan_10 : decode cL_addLoan 10 = .ok (.astore 5, 2) := by decide +kernel
theorem dL_addLoan_12 : decode cL_addLoan 12 = .ok (.bipush (-102), 2) := by decide +kernel
theorem dL_addLoan_14 : decode cL_addLoan 14 = .ok (.ireturn, 1) := by decide +kernel
theorem dL_addLoan_15 : decode cL_addLoan 15 = .ok (.astore 5, 2) := by decide +kernel
theorem dL_addLoan_17 : decode cL_addLoan 17 = .ok (.bipush (-103), 2) := by decide +kernel
theorem dL_addLoan_19 : decode cL_addLoan 19 = .ok (.ireturn, 1) := by decide +kernel
theorem dL_enter_0 : decode cL_enter 0 = .ok (.aload_n 0, 1) := by decide +kernel
theorem dL_enter_1 : decode cL_enter 1 = .ok (.iload_n 1, 1) := by decide +kernel
theorem dL_enter_2 : decode cL_enter 2 = .ok (.invokevirtual 19, 3) := by decide +kernel
theorem dL_enter_5 : decode cL_enter 5 = .ok (.ireturn, 1) := by decide +kernel
theorem dL_enter_6 : decode cL_enter 6 = .ok (.astore_n 2, 1) := by decide +kernel
theorem dL_enter_7 : decode cL_enter 7 = .ok (.bipush (-101), 2) := by decide +kernel
theorem dL_enter_9 : decode cL_enter 9 = .ok (.ireturn, 1) := by decide +kernel
theorem dL_enter_10 : decode cL_enter 10 = .ok (.astore_n 2, 1) := by decide +kernel
theorem dL_enter_11 : decode cL_enter 11 = .ok (.bipush (-103), 2) := by decide +kernel
theorem dL_enter_13 : decode cL_enter 13 = .ok (.ireturn, 1) := by decide +kernel
theorem dL_leave_0 : decode cL_leave 0 = .ok (.aload_n 0, 1) := by decide +kernel
theorem dL_leave_1 : decode cL_leave 1 = .ok (.iload_n 1, 1) := by decide +kernel
theorem dL_leave_2 : decode cL_leave 2 = .ok (.invokevirtual 25, 3) := by decide +kernel
theorem dL_leave_5 : decode cL_leave 5 = .ok (.ifCond .eq 7, 3) := by decide +kernel
theorem dL_leave_8 : decode cL_leave 8 = .ok (.iconst 1, 1) := by decide +kernel
theorem dL_leave_9 : decode cL_leave 9 = .ok (.goto 4, 3) := by decide +kernel
theorem dL_leave_12 : decode cL_leave 12 = .ok (.iconst 0, 1) := by decide +kernel
theorem dL_leave_13 : decode cL_leave 13 = .ok (.ireturn, 1) := by decide +kernel
theorem dL_leave_14 : decode cL_leave 14 = .ok (.astore_n 2, 1) := by decide +kernel
theorem dL_leave_15 : decode cL_leave 15 = .ok (.bipush (-101), 2) := by decide +kernel
theorem dL_leave_17 : decode cL_leave 17 = .ok (.ireturn, 1) := by decide +kernel
theorem dL_leave_18 : decode cL_leave 18 = .ok (.astore_n 2, 1) := by decide +kernel
theorem dL_leave_19 : decode cL_leave 19 = .ok (.bipush (-103), 2) := by decide +kernel
theorem dL_leave_21 : decode cL_leave 21 = .ok (.ireturn, 1) := by decide +kernel
theorem dL_swap_0 : decode cL_swap 0 = .ok (.aload_n 0, 1) := by decide +kernel
theorem dL_swap_1 : decode cL_swap 1 = .ok (.iload_n 1, 1) := by decide +kernel
theorem dL_swap_2 : decode cL_swap 2 = .ok (.iload_n 2, 1) := by decide +kernel
theorem dL_swap_3 : decode cL_swap 3 = .ok (.invokevirtual 29, 3) := by decide +kernel
theorem dL_swap_6 : decode cL_swap 6 = .ok (.ifCond .eq 7, 3) := by decide +kernel
theorem dL_swap_9 : decode cL_swap 9 = .ok (.iconst 1, 1) := by decide +kernel
theorem dL_swap_10 : decode cL_swap 10 = .ok (.goto 4, 3) := by decide +kernel
theorem dL_swap_13 : decode cL_swap 13 = .ok (.iconst 0, 1) := by decide +kernel
theorem dL_swap_14 : decode cL_swap 14 = .ok (.ireturn, 1) := by decide +kernel
theorem dL_swap_15 : decode cL_swap 15 = .ok (.astore_n 3, 1) := by decide +kernel
theorem dL_swap_16 : decode cL_swap 16 = .ok (.bipush (-101), 2) := by decide +kernel
theorem dL_swap_18 : decode cL_swap 18 = .ok (.ireturn, 1) := by decide +kernel
theorem dL_swap_19 : decode cL_swap 19 = .ok (.astore_n 3, 1) := by decide +kernel
theorem dL_swap_20 : decode cL_swap 20 = .ok (.bipush (-103), 2) := by decide +kernel
theorem dL_swap_22 : decode cL_swap 22 = .ok (.ireturn, 1) := by decide +kernel
theorem dL_arrears_0 : decode cL_arrears 0 = .ok (.aload_n 0, 1) := by decide +kernel
theorem dL_arrears_1 : decode cL_arrears 1 = .ok (.iload_n 1, 1) := by decide +kernel
theorem dL_arrears_2 : decode cL_arrears 2 = .ok (.iload_n 2, 1) := by decide +kernel
theorem dL_arrears_3 : decode cL_arrears 3 = .ok (.invokevirtual 33, 3) := by decide +kernel
theorem dL_arrears_6 : decode cL_arrears 6 = .ok (.ireturn, 1) := by decide +kernel
theorem dL_arrears_7 : decode cL_arrears 7 = .ok (.astore_n 3, 1) := by decide +kernel
theorem dL_arrears_8 : decode cL_arrears 8 = .ok (.bipush (-101), 2) := by decide +kernel
theorem dL_arrears_10 : decode cL_arrears 10 = .ok (.ireturn, 1) := by decide +kernel
theorem dL_arrears_11 : decode cL_arrears 11 = .ok (.astore_n 3, 1) := by decide +kernel
theorem dL_arrears_12 : decode cL_arrears 12 = .ok (.bipush (-102), 2) := by decide +kernel
theorem dL_arrears_14 : decode cL_arrears 14 = .ok (.ireturn, 1) := by decide +kernel
theorem dL_arrears_15 : decode cL_arrears 15 = .ok (.astore_n 3, 1) := by decide +kernel
theorem dL_arrears_16 : decode cL_arrears 16 = .ok (.bipush (-103), 2) := by decide +kernel
theorem dL_arrears_18 : decode cL_arrears 18 = .ok (.ireturn, 1) := by decide +kernel
theorem dL_setWorth_0 : decode cL_setWorth 0 = .ok (.aload_n 0, 1) := by decide +kernel
theorem dL_setWorth_1 : decode cL_setWorth 1 = .ok (.iload_n 1, 1) := by decide +kernel
theorem dL_setWorth_2 : decode cL_setWorth 2 = .ok (.iload_n 2, 1) := by decide +kernel
theorem dL_setWorth_3 : decode cL_setWorth 3 = .ok (.invokevirtual 37, 3) := by decide +kernel
theorem dL_setWorth_6 : decode cL_setWorth 6 = .ok (.ireturn, 1) := by decide +kernel
theorem dL_setWorth_7 : decode cL_setWorth 7 = .ok (.astore_n 3, 1) := by decide +kernel
theorem dL_setWorth_8 : decode cL_setWorth 8 = .ok (.bipush (-101), 2) := by decide +kernel
theorem dL_setWorth_10 : decode cL_setWorth 10 = .ok (.ireturn, 1) := by decide +kernel
theorem dL_setWorth_11 : decode cL_setWorth 11 = .ok (.astore_n 3, 1) := by decide +kernel
theorem dL_setWorth_12 : decode cL_setWorth 12 = .ok (.bipush (-102), 2) := by decide +kernel
theorem dL_setWorth_14 : decode cL_setWorth 14 = .ok (.ireturn, 1) := by decide +kernel
theorem dL_state_0 : decode cL_state 0 = .ok (.aload_n 0, 1) := by decide +kernel
theorem dL_state_1 : decode cL_state 1 = .ok (.iload_n 1, 1) := by decide +kernel
theorem dL_state_2 : decode cL_state 2 = .ok (.invokevirtual 40, 3) := by decide +kernel
theorem dL_state_5 : decode cL_state 5 = .ok (.ireturn, 1) := by decide +kernel
theorem dL_state_6 : decode cL_state 6 = .ok (.astore_n 2, 1) := by decide +kernel
theorem dL_state_7 : decode cL_state 7 = .ok (.bipush (-101), 2) := by decide +kernel
theorem dL_state_9 : decode cL_state 9 = .ok (.ireturn, 1) := by decide +kernel
theorem dL_counts_0 : decode cL_counts 0 = .ok (.aload_n 0, 1) := by decide +kernel
theorem dL_counts_1 : decode cL_counts 1 = .ok (.iload_n 1, 1) := by decide +kernel
theorem dL_counts_2 : decode cL_counts 2 = .ok (.invokevirtual 43, 3) := by decide +kernel
theorem dL_counts_5 : decode cL_counts 5 = .ok (.ireturn, 1) := by decide +kernel
theorem dL_counts_6 : decode cL_counts 6 = .ok (.astore_n 2, 1) := by decide +kernel
theorem dL_counts_7 : decode cL_counts 7 = .ok (.bipush (-101), 2) := by decide +kernel
theorem dL_counts_9 : decode cL_counts 9 = .ok (.ireturn, 1) := by decide +kernel
theorem dL_addBond_0 : decode cL_addBond 0 = .ok (.aload_n 0, 1) := by decide +kernel
theorem dL_addBond_1 : decode cL_addBond 1 = .ok (.iload_n 1, 1) := by decide +kernel
theorem dL_addBond_2 : decode cL_addBond 2 = .ok (.iload_n 2, 1) := by decide +kernel
theorem dL_addBond_3 : decode cL_addBond 3 = .ok (.invokevirtual 46, 3) := by decide +kernel
theorem dL_addBond_6 : decode cL_addBond 6 = .ok (.ireturn, 1) := by decide +kernel
theorem dL_addBond_7 : decode cL_addBond 7 = .ok (.astore_n 3, 1) := by decide +kernel
theorem dL_addBond_8 : decode cL_addBond 8 = .ok (.bipush (-102), 2) := by decide +kernel
theorem dL_addBond_10 : decode cL_addBond 10 = .ok (.ireturn, 1) := by decide +kernel
theorem dL_addBond_11 : decode cL_addBond 11 = .ok (.astore_n 3, 1) := by decide +kernel
theorem dL_addBond_12 : decode cL_addBond 12 = .ok (.bipush (-103), 2) := by decide +kernel
theorem dL_addBond_14 : decode cL_addBond 14 = .ok (.ireturn, 1) := by decide +kernel
theorem dL_take_0 : decode cL_take 0 = .ok (.aload_n 0, 1) := by decide +kernel
theorem dL_take_1 : decode cL_take 1 = .ok (.iload_n 1, 1) := by decide +kernel
theorem dL_take_2 : decode cL_take 2 = .ok (.invokevirtual 49, 3) := by decide +kernel
theorem dL_take_5 : decode cL_take 5 = .ok (.ireturn, 1) := by decide +kernel
theorem dL_take_6 : decode cL_take 6 = .ok (.astore_n 2, 1) := by decide +kernel
theorem dL_take_7 : decode cL_take 7 = .ok (.bipush (-102), 2) := by decide +kernel
theorem dL_take_9 : decode cL_take 9 = .ok (.ireturn, 1) := by decide +kernel
theorem dL_take_10 : decode cL_take 10 = .ok (.astore_n 2, 1) := by decide +kernel
theorem dL_take_11 : decode cL_take 11 = .ok (.bipush (-103), 2) := by decide +kernel
theorem dL_take_13 : decode cL_take 13 = .ok (.ireturn, 1) := by decide +kernel
theorem dL_rules_0 : decode cL_rules 0 = .ok (.aload_n 0, 1) := by decide +kernel
theorem dL_rules_1 : decode cL_rules 1 = .ok (.iload_n 1, 1) := by decide +kernel
theorem dL_rules_2 : decode cL_rules 2 = .ok (.iload_n 2, 1) := by decide +kernel
theorem dL_rules_3 : decode cL_rules 3 = .ok (.iload_n 3, 1) := by decide +kernel
theorem dL_rules_4 : decode cL_rules 4 = .ok (.invokevirtual 52, 3) := by decide +kernel
theorem dL_rules_7 : decode cL_rules 7 = .ok (.goto 8, 3) := by decide +kernel
theorem dL_rules_10 : decode cL_rules 10 = .ok (.astore 4, 2) := by decide +kernel
theorem dL_rules_12 : decode cL_rules 12 = .ok (.bipush (-102), 2) := by decide +kernel
theorem dL_rules_14 : decode cL_rules 14 = .ok (.ireturn, 1) := by decide +kernel
theorem dL_rules_15 : decode cL_rules 15 = .ok (.iconst 0, 1) := by decide +kernel
theorem dL_rules_16 : decode cL_rules 16 = .ok (.ireturn, 1) := by decide +kernel
theorem dL_bond_0 : decode cL_bond 0 = .ok (.aload_n 0, 1) := by decide +kernel
theorem dL_bond_1 : decode cL_bond 1 = .ok (.iload_n 1, 1) := by decide +kernel
theorem dL_bond_2 : decode cL_bond 2 = .ok (.invokevirtual 56, 3) := by decide +kernel
theorem dL_bond_5 : decode cL_bond 5 = .ok (.ireturn, 1) := by decide +kernel
theorem dL_bond_6 : decode cL_bond 6 = .ok (.astore_n 2, 1) := by decide +kernel
theorem dL_bond_7 : decode cL_bond 7 = .ok (.bipush (-101), 2) := by decide +kernel
theorem dL_bond_9 : decode cL_bond 9 = .ok (.ireturn, 1) := by decide +kernel
theorem dL_due_0 : decode cL_due 0 = .ok (.aload_n 0, 1) := by decide +kernel
theorem dL_due_1 : decode cL_due 1 = .ok (.iload_n 1, 1) := by decide +kernel
theorem dL_due_2 : decode cL_due 2 = .ok (.invokevirtual 59, 3) := by decide +kernel
theorem dL_due_5 : decode cL_due 5 = .ok (.ireturn, 1) := by decide +kernel
theorem dL_due_6 : decode cL_due 6 = .ok (.astore_n 2, 1) := by decide +kernel
theorem dL_due_7 : decode cL_due 7 = .ok (.bipush (-101), 2) := by decide +kernel
theorem dL_due_9 : decode cL_due 9 = .ok (.ireturn, 1) := by decide +kernel
theorem dL_pass_0 : decode cL_pass 0 = .ok (.aload_n 0, 1) := by decide +kernel
theorem dL_pass_1 : decode cL_pass 1 = .ok (.iload_n 1, 1) := by decide +kernel
theorem dL_pass_2 : decode cL_pass 2 = .ok (.invokevirtual 62, 3) := by decide +kernel
theorem dL_pass_5 : decode cL_pass 5 = .ok (.ireturn, 1) := by decide +kernel
theorem dL_pass_6 : decode cL_pass 6 = .ok (.astore_n 2, 1) := by decide +kernel
theorem dL_pass_7 : decode cL_pass 7 = .ok (.bipush (-102), 2) := by decide +kernel
theorem dL_pass_9 : decode cL_pass 9 = .ok (.ireturn, 1) := by decide +kernel
theorem dL_holds_0 : decode cL_holds 0 = .ok (.aload_n 0, 1) := by decide +kernel
theorem dL_holds_1 : decode cL_holds 1 = .ok (.iload_n 1, 1) := by decide +kernel
theorem dL_holds_2 : decode cL_holds 2 = .ok (.invokevirtual 65, 3) := by decide +kernel
theorem dL_holds_5 : decode cL_holds 5 = .ok (.ifCond .eq 7, 3) := by decide +kernel
theorem dL_holds_8 : decode cL_holds 8 = .ok (.iconst 1, 1) := by decide +kernel
theorem dL_holds_9 : decode cL_holds 9 = .ok (.goto 4, 3) := by decide +kernel
theorem dL_holds_12 : decode cL_holds 12 = .ok (.iconst 0, 1) := by decide +kernel
theorem dL_holds_13 : decode cL_holds 13 = .ok (.ireturn, 1) := by decide +kernel
theorem dL_holds_14 : decode cL_holds 14 = .ok (.astore_n 2, 1) := by decide +kernel
theorem dL_holds_15 : decode cL_holds 15 = .ok (.bipush (-102), 2) := by decide +kernel
theorem dL_holds_17 : decode cL_holds 17 = .ok (.ireturn, 1) := by decide +kernel
theorem dL_lacking_0 : decode cL_lacking 0 = .ok (.aload_n 0, 1) := by decide +kernel
theorem dL_lacking_1 : decode cL_lacking 1 = .ok (.iload_n 1, 1) := by decide +kernel
theorem dL_lacking_2 : decode cL_lacking 2 = .ok (.invokevirtual 68, 3) := by decide +kernel
theorem dL_lacking_5 : decode cL_lacking 5 = .ok (.lreturn, 1) := by decide +kernel
theorem dL_lacking_6 : decode cL_lacking 6 = .ok (.astore_n 2, 1) := by decide +kernel
theorem dL_lacking_7 : decode cL_lacking 7 = .ok (.ldc2_w 72, 3) := by decide +kernel
theorem dL_lacking_10 : decode cL_lacking 10 = .ok (.lreturn, 1) := by decide +kernel
theorem dL_allHold_0 : decode cL_allHold 0 = .ok (.aload_n 0, 1) := by decide +kernel
theorem dL_allHold_1 : decode cL_allHold 1 = .ok (.iconst 0, 1) := by decide +kernel
theorem dL_allHold_2 : decode cL_allHold 2 = .ok (.invokestatic 74, 3) := by decide +kernel
theorem dL_allHold_5 : decode cL_allHold 5 = .ok (.iconst 1, 1) := by decide +kernel
theorem dL_allHold_6 : decode cL_allHold 6 = .ok (.if_icmp .ne 25, 3) := by decide +kernel
theorem dL_allHold_9 : decode cL_allHold 9 = .ok (.aload_n 0, 1) := by decide +kernel
theorem dL_allHold_10 : decode cL_allHold 10 = .ok (.iconst 1, 1) := by decide +kernel
theorem dL_allHold_11 : decode cL_allHold 11 = .ok (.invokestatic 74, 3) := by decide +kernel
theorem dL_allHold_14 : decode cL_allHold 14 = .ok (.iconst 1, 1) := by decide +kernel
theorem dL_allHold_15 : decode cL_allHold 15 = .ok (.if_icmp .ne 16, 3) := by decide +kernel
theorem dL_allHold_18 : decode cL_allHold 18 = .ok (.aload_n 0, 1) := by decide +kernel
theorem dL_allHold_19 : decode cL_allHold 19 = .ok (.iconst 2, 1) := by decide +kernel
theorem dL_allHold_20 : decode cL_allHold 20 = .ok (.invokestatic 74, 3) := by decide +kernel
theorem dL_allHold_23 : decode cL_allHold 23 = .ok (.iconst 1, 1) := by decide +kernel
theorem dL_allHold_24 : decode cL_allHold 24 = .ok (.if_icmp .ne 7, 3) := by decide +kernel
theorem dL_allHold_27 : decode cL_allHold 27 = .ok (.iconst 1, 1) := by decide +kernel
theorem dL_allHold_28 : decode cL_allHold 28 = .ok (.goto 4, 3) := by decide +kernel
theorem dL_allHold_31 : decode cL_allHold 31 = .ok (.iconst 0, 1) := by decide +kernel
theorem dL_allHold_32 : decode cL_allHold 32 = .ok (.ireturn, 1) := by decide +kernel
theorem dL_adds_0 : decode cL_adds 0 = .ok (.aload_n 0, 1) := by decide +kernel
theorem dL_adds_1 : decode cL_adds 1 = .ok (.invokevirtual 79, 3) := by decide +kernel
theorem dL_adds_4 : decode cL_adds 4 = .ok (.istore_n 2, 1) := by decide +kernel
theorem dL_adds_5 : decode cL_adds 5 = .ok (.aload_n 0, 1) := by decide +kernel
theorem dL_adds_6 : decode cL_adds 6 = .ok (.invokevirtual 83, 3) := by decide +kernel
theorem dL_adds_9 : decode cL_adds 9 = .ok (.iload_n 2, 1) := by decide +kernel
theorem dL_adds_10 : decode cL_adds 10 = .ok (.if_icmp .ne 23, 3) := by decide +kernel
theorem dL_adds_13 : decode cL_adds 13 = .ok (.iload_n 2, 1) := by decide +kernel
theorem dL_adds_14 : decode cL_adds 14 = .ok (.ifCond .ne 7, 3) := by decide +kernel
theorem dL_adds_17 : decode cL_adds 17 = .ok (.iconst 1, 1) := by decide +kernel
theorem dL_adds_18 : decode cL_adds 18 = .ok (.goto 4, 3) := by decide +kernel
theorem dL_adds_21 : decode cL_adds 21 = .ok (.iconst 0, 1) := by decide +kernel
theorem dL_adds_22 : decode cL_adds 22 = .ok (.aload_n 0, 1) := by decide +kernel
theorem dL_adds_23 : decode cL_adds 23 = .ok (.invokestatic 86, 3) := by decide +kernel
theorem dL_adds_26 : decode cL_adds 26 = .ok (.if_icmp .ne 7, 3) := by decide +kernel
theorem dL_adds_29 : decode cL_adds 29 = .ok (.iconst 1, 1) := by decide +kernel
theorem dL_adds_30 : decode cL_adds 30 = .ok (.goto 4, 3) := by decide +kernel
theorem dL_adds_33 : decode cL_adds 33 = .ok (.iconst 0, 1) := by decide +kernel
theorem dL_adds_34 : decode cL_adds 34 = .ok (.istore_n 3, 1) := by decide +kernel
theorem dL_adds_35 : decode cL_adds 35 = .ok (.iload_n 3, 1) := by decide +kernel
theorem dL_adds_36 : decode cL_adds 36 = .ok (.ifCond .eq 113, 3) := by decide +kernel
theorem dL_adds_39 : decode cL_adds 39 = .ok (.iload_n 2, 1) := by decide +kernel
theorem dL_adds_40 : decode cL_adds 40 = .ok (.ifCond .le 109, 3) := by decide +kernel
theorem dL_adds_43 : decode cL_adds 43 = .ok (.iconst (-1), 1) := by decide +kernel
theorem dL_adds_44 : decode cL_adds 44 = .ok (.istore 4, 2) := by decide +kernel
theorem dL_adds_46 : decode cL_adds 46 = .ok (.iconst 0, 1) := by decide +kernel
theorem dL_adds_47 : decode cL_adds 47 = .ok (.istore 5, 2) := by decide +kernel
theorem dL_adds_49 : decode cL_adds 49 = .ok (.iload 5, 2) := by decide +kernel
theorem dL_adds_51 : decode cL_adds 51 = .ok (.iload_n 1, 1) := by decide +kernel
theorem dL_adds_52 : decode cL_adds 52 = .ok (.if_icmp .ge 64, 3) := by decide +kernel
theorem dL_adds_55 : decode cL_adds 55 = .ok (.iload_n 3, 1) := by decide +kernel
theorem dL_adds_56 : decode cL_adds 56 = .ok (.ifCond .eq 60, 3) := by decide +kernel
theorem dL_adds_59 : decode cL_adds 59 = .ok (.iload_n 2, 1) := by decide +kernel
theorem dL_adds_60 : decode cL_adds 60 = .ok (.iload 5, 2) := by decide +kernel
theorem dL_adds_62 : decode cL_adds 62 = .ok (.ishr, 1) := by decide +kernel
theorem dL_adds_63 : decode cL_adds 63 = .ok (.iconst 1, 1) := by decide +kernel
theorem dL_adds_64 : decode cL_adds 64 = .ok (.iand, 1) := by decide +kernel
theorem dL_adds_65 : decode cL_adds 65 = .ok (.iconst 1, 1) := by decide +kernel
theorem dL_adds_66 : decode cL_adds 66 = .ok (.if_icmp .ne 44, 3) := by decide +kernel
theorem dL_adds_69 : decode cL_adds 69 = .ok (.aload_n 0, 1) := by decide +kernel
theorem dL_adds_70 : decode cL_adds 70 = .ok (.invokestatic 86, 3) := by decide +kernel
theorem dL_adds_73 : decode cL_adds 73 = .ok (.ifCond .ne 31, 3) := by decide +kernel
theorem dL_adds_76 : decode cL_adds 76 = .ok (.aload_n 0, 1) := by decide +kernel
theorem dL_adds_77 : decode cL_adds 77 = .ok (.iload 5, 2) := by decide +kernel
theorem dL_adds_79 : decode cL_adds 79 = .ok (.invokestatic 90, 3) := by decide +kernel
theorem dL_adds_82 : decode cL_adds 82 = .ok (.ifCond .ne 22, 3) := by decide +kernel
theorem dL_adds_85 : decode cL_adds 85 = .ok (.aload_n 0, 1) := by decide +kernel
theorem dL_adds_86 : decode cL_adds 86 = .ok (.iload 5, 2) := by decide +kernel
theorem dL_adds_88 : decode cL_adds 88 = .ok (.invokestatic 93, 3) := by decide +kernel
theorem dL_adds_91 : decode cL_adds 91 = .ok (.aload_n 0, 1) := by decide +kernel
theorem dL_adds_92 : decode cL_adds 92 = .ok (.iload 5, 2) := by decide +kernel
theorem dL_adds_94 : decode cL_adds 94 = .ok (.invokestatic 95, 3) := by decide +kernel
theorem dL_adds_97 : decode cL_adds 97 = .ok (.if_icmp .ne 7, 3) := by decide +kernel
theorem dL_adds_100 : decode cL_adds 100 = .ok (.iconst 1, 1) := by decide +kernel
theorem dL_adds_101 : decode cL_adds 101 = .ok (.goto 4, 3) := by decide +kernel
