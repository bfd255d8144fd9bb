theorem dX3_leastToAdd_15 : decode cX3_leastToAdd 15 = .ok (.invokevirtual 88, 3) := by decide +kernel
theorem dX3_leastToAdd_18 : decode cX3_leastToAdd 18 = .ok (.iconst 0, 1) := by decide +kernel
theorem dX3_leastToAdd_19 : decode cX3_leastToAdd 19 = .ok (.iconst 0, 1) := by decide +kernel
theorem dX3_leastToAdd_20 : decode cX3_leastToAdd 20 = .ok (.iconst (-1), 1) := by decide +kernel
theorem dX3_leastToAdd_21 : decode cX3_leastToAdd 21 = .ok (.invokestatic 152, 3) := by decide +kernel
theorem dX3_leastToAdd_24 : decode cX3_leastToAdd 24 = .ok (.ireturn, 1) := by decide +kernel
theorem dX3_leastToAddByAll_0 : decode cX3_leastToAddByAll 0 = .ok (.aload_n 0, 1) := by decide +kernel
theorem dX3_leastToAddByAll_1 : decode cX3_leastToAddByAll 1 = .ok (.invokevirtual 85, 3) := by decide +kernel
theorem dX3_leastToAddByAll_4 : decode cX3_leastToAddByAll 4 = .ok (.aload_n 0, 1) := by decide +kernel
theorem dX3_leastToAddByAll_5 : decode cX3_leastToAddByAll 5 = .ok (.iconst 1, 1) := by decide +kernel
theorem dX3_leastToAddByAll_6 : decode cX3_leastToAddByAll 6 = .ok (.invokevirtual 88, 3) := by decide +kernel
theorem dX3_leastToAddByAll_9 : decode cX3_leastToAddByAll 9 = .ok (.istore_n 1, 1) := by decide +kernel
theorem dX3_leastToAddByAll_10 : decode cX3_leastToAddByAll 10 = .ok (.aload_n 0, 1) := by decide +kernel
theorem dX3_leastToAddByAll_11 : decode cX3_leastToAddByAll 11 = .ok (.iconst 0, 1) := by decide +kernel
theorem dX3_leastToAddByAll_12 : decode cX3_leastToAddByAll 12 = .ok (.invokevirtual 88, 3) := by decide +kernel
theorem dX3_leastToAddByAll_15 : decode cX3_leastToAddByAll 15 = .ok (.istore_n 2, 1) := by decide +kernel
theorem dX3_leastToAddByAll_16 : decode cX3_leastToAddByAll 16 = .ok (.iconst (-1), 1) := by decide +kernel
theorem dX3_leastToAddByAll_17 : decode cX3_leastToAddByAll 17 = .ok (.istore_n 3, 1) := by decide +kernel
theorem dX3_leastToAddByAll_18 : decode cX3_leastToAddByAll 18 = .ok (.iconst 0, 1) := by decide +kernel
theorem dX3_leastToAddByAll_19 : decode cX3_leastToAddByAll 19 = .ok (.istore 4, 2) := by decide +kernel
theorem dX3_leastToAddByAll_21 : decode cX3_leastToAddByAll 21 = .ok (.iload 4, 2) := by decide +kernel
theorem dX3_leastToAddByAll_23 : decode cX3_leastToAddByAll 23 = .ok (.iconst 1, 1) := by decide +kernel
theorem dX3_leastToAddByAll_24 : decode cX3_leastToAddByAll 24 = .ok (.aload_n 0, 1) := by decide +kernel
theorem dX3_leastToAddByAll_25 : decode cX3_leastToAddByAll 25 = .ok (.getfield 10, 3) := by decide +kernel
theorem dX3_leastToAddByAll_28 : decode cX3_leastToAddByAll 28 = .ok (.invokevirtual 50, 3) := by decide +kernel
theorem dX3_leastToAddByAll_31 : decode cX3_leastToAddByAll 31 = .ok (.ishl, 1) := by decide +kernel
theorem dX3_leastToAddByAll_32 : decode cX3_leastToAddByAll 32 = .ok (.if_icmp .ge 44, 3) := by decide +kernel
theorem dX3_leastToAddByAll_35 : decode cX3_leastToAddByAll 35 = .ok (.iload 4, 2) := by decide +kernel
theorem dX3_leastToAddByAll_37 : decode cX3_leastToAddByAll 37 = .ok (.iload_n 2, 1) := by decide +kernel
theorem dX3_leastToAddByAll_38 : decode cX3_leastToAddByAll 38 = .ok (.iconst (-1), 1) := by decide +kernel
theorem dX3_leastToAddByAll_39 : decode cX3_leastToAddByAll 39 = .ok (.ixor, 1) := by decide +kernel
theorem dX3_leastToAddByAll_40 : decode cX3_leastToAddByAll 40 = .ok (.iand, 1) := by decide +kernel
theorem dX3_leastToAddByAll_41 : decode cX3_leastToAddByAll 41 = .ok (.ifCond .ne 29, 3) := by decide +kernel
theorem dX3_leastToAddByAll_44 : decode cX3_leastToAddByAll 44 = .ok (.iload 4, 2) := by decide +kernel
theorem dX3_leastToAddByAll_46 : decode cX3_leastToAddByAll 46 = .ok (.iload_n 3, 1) := by decide +kernel
theorem dX3_leastToAddByAll_47 : decode cX3_leastToAddByAll 47 = .ok (.invokestatic 156, 3) := by decide +kernel
theorem dX3_leastToAddByAll_50 : decode cX3_leastToAddByAll 50 = .ok (.ifCond .eq 20, 3) := by decide +kernel
theorem dX3_leastToAddByAll_53 : decode cX3_leastToAddByAll 53 = .ok (.aload_n 0, 1) := by decide +kernel
theorem dX3_leastToAddByAll_54 : decode cX3_leastToAddByAll 54 = .ok (.getfield 22, 3) := by decide +kernel
theorem dX3_leastToAddByAll_57 : decode cX3_leastToAddByAll 57 = .ok (.iload_n 1, 1) := by decide +kernel
theorem dX3_leastToAddByAll_58 : decode cX3_leastToAddByAll 58 = .ok (.iload 4, 2) := by decide +kernel
theorem dX3_leastToAddByAll_60 : decode cX3_leastToAddByAll 60 = .ok (.ior, 1) := by decide +kernel
theorem dX3_leastToAddByAll_61 : decode cX3_leastToAddByAll 61 = .ok (.invokevirtual 92, 3) := by decide +kernel
theorem dX3_leastToAddByAll_64 : decode cX3_leastToAddByAll 64 = .ok (.ifCond .eq 6, 3) := by decide +kernel
theorem dX3_leastToAddByAll_67 : decode cX3_leastToAddByAll 67 = .ok (.iload 4, 2) := by decide +kernel
theorem dX3_leastToAddByAll_69 : decode cX3_leastToAddByAll 69 = .ok (.istore_n 3, 1) := by decide +kernel
theorem dX3_leastToAddByAll_70 : decode cX3_leastToAddByAll 70 = .ok (.iinc 4 1, 3) := by decide +kernel
theorem dX3_leastToAddByAll_73 : decode cX3_leastToAddByAll 73 = .ok (.goto (-52), 3) := by decide +kernel
theorem dX3_leastToAddByAll_76 : decode cX3_leastToAddByAll 76 = .ok (.iload_n 3, 1) := by decide +kernel
theorem dX3_leastToAddByAll_77 : decode cX3_leastToAddByAll 77 = .ok (.ireturn, 1) := by decide +kernel
theorem dX3_requireWithin_0 : decode cX3_requireWithin 0 = .ok (.iload_n 0, 1) := by decide +kernel
theorem dX3_requireWithin_1 : decode cX3_requireWithin 1 = .ok (.iload_n 1, 1) := by decide +kernel
theorem dX3_requireWithin_2 : decode cX3_requireWithin 2 = .ok (.if_icmp .lt 8, 3) := by decide +kernel
theorem dX3_requireWithin_5 : decode cX3_requireWithin 5 = .ok (.iload_n 0, 1) := by decide +kernel
theorem dX3_requireWithin_6 : decode cX3_requireWithin 6 = .ok (.iload_n 2, 1) := by decide +kernel
theorem dX3_requireWithin_7 : decode cX3_requireWithin 7 = .ok (.if_icmp .le 13, 3) := by decide +kernel
theorem dX3_requireWithin_10 : decode cX3_requireWithin 10 = .ok (.new 160, 3) := by decide +kernel
theorem dX3_requireWithin_13 : decode cX3_requireWithin 13 = .ok (.dup, 1) := by decide +kernel
theorem dX3_requireWithin_14 : decode cX3_requireWithin 14 = .ok (.ldc 162, 2) := by decide +kernel
theorem dX3_requireWithin_16 : decode cX3_requireWithin 16 = .ok (.invokespecial 164, 3) := by decide +kernel
theorem dX3_requireWithin_19 : decode cX3_requireWithin 19 = .ok (.athrow, 1) := by decide +kernel
theorem dX3_requireWithin_20 : decode cX3_requireWithin 20 = .ok (.return_, 1) := by decide +kernel
theorem dX3_requireDueAhead_0 : decode cX3_requireDueAhead 0 = .ok (.iload_n 1, 1) := by decide +kernel
theorem dX3_requireDueAhead_1 : decode cX3_requireDueAhead 1 = .ok (.aload_n 0, 1) := by decide +kernel
theorem dX3_requireDueAhead_2 : decode cX3_requireDueAhead 2 = .ok (.getfield 26, 3) := by decide +kernel
theorem dX3_requireDueAhead_5 : decode cX3_requireDueAhead 5 = .ok (.if_icmp .le 10, 3) := by decide +kernel
theorem dX3_requireDueAhead_8 : decode cX3_requireDueAhead 8 = .ok (.iload_n 1, 1) := by decide +kernel
theorem dX3_requireDueAhead_9 : decode cX3_requireDueAhead 9 = .ok (.sipush 600, 3) := by decide +kernel
theorem dX3_requireDueAhead_12 : decode cX3_requireDueAhead 12 = .ok (.if_icmp .le 13, 3) := by decide +kernel
theorem dX3_requireDueAhead_15 : decode cX3_requireDueAhead 15 = .ok (.new 160, 3) := by decide +kernel
theorem dX3_requireDueAhead_18 : decode cX3_requireDueAhead 18 = .ok (.dup, 1) := by decide +kernel
theorem dX3_requireDueAhead_19 : decode cX3_requireDueAhead 19 = .ok (.ldc 165, 2) := by decide +kernel
theorem dX3_requireDueAhead_21 : decode cX3_requireDueAhead 21 = .ok (.invokespecial 164, 3) := by decide +kernel
theorem dX3_requireDueAhead_24 : decode cX3_requireDueAhead 24 = .ok (.athrow, 1) := by decide +kernel
theorem dX3_requireDueAhead_25 : decode cX3_requireDueAhead 25 = .ok (.return_, 1) := by decide +kernel
theorem dX3_requireState_0 : decode cX3_requireState 0 = .ok (.aload_n 0, 1) := by decide +kernel
theorem dX3_requireState_1 : decode cX3_requireState 1 = .ok (.getfield 78, 3) := by decide +kernel
theorem dX3_requireState_4 : decode cX3_requireState 4 = .ok (.iload_n 1, 1) := by decide +kernel
theorem dX3_requireState_5 : decode cX3_requireState 5 = .ok (.if_icmp .eq 13, 3) := by decide +kernel
theorem dX3_requireState_8 : decode cX3_requireState 8 = .ok (.new 54, 3) := by decide +kernel
theorem dX3_requireState_11 : decode cX3_requireState 11 = .ok (.dup, 1) := by decide +kernel
theorem dX3_requireState_12 : decode cX3_requireState 12 = .ok (.ldc 167, 2) := by decide +kernel
theorem dX3_requireState_14 : decode cX3_requireState 14 = .ok (.invokespecial 58, 3) := by decide +kernel
theorem dX3_requireState_17 : decode cX3_requireState 17 = .ok (.athrow, 1) := by decide +kernel
theorem dX3_requireState_18 : decode cX3_requireState 18 = .ok (.return_, 1) := by decide +kernel
theorem dX3_loanAt_0 : decode cX3_loanAt 0 = .ok (.iload_n 1, 1) := by decide +kernel
theorem dX3_loanAt_1 : decode cX3_loanAt 1 = .ok (.ifCond .lt 14, 3) := by decide +kernel
theorem dX3_loanAt_4 : decode cX3_loanAt 4 = .ok (.iload_n 1, 1) := by decide +kernel
theorem dX3_loanAt_5 : decode cX3_loanAt 5 = .ok (.aload_n 0, 1) := by decide +kernel
theorem dX3_loanAt_6 : decode cX3_loanAt 6 = .ok (.getfield 10, 3) := by decide +kernel
theorem dX3_loanAt_9 : decode cX3_loanAt 9 = .ok (.invokevirtual 50, 3) := by decide +kernel
theorem dX3_loanAt_12 : decode cX3_loanAt 12 = .ok (.if_icmp .lt 13, 3) := by decide +kernel
theorem dX3_loanAt_15 : decode cX3_loanAt 15 = .ok (.new 169, 3) := by decide +kernel
theorem dX3_loanAt_18 : decode cX3_loanAt 18 = .ok (.dup, 1) := by decide +kernel
theorem dX3_loanAt_19 : decode cX3_loanAt 19 = .ok (.ldc 171, 2) := by decide +kernel
theorem dX3_loanAt_21 : decode cX3_loanAt 21 = .ok (.invokespecial 173, 3) := by decide +kernel
theorem dX3_loanAt_24 : decode cX3_loanAt 24 = .ok (.athrow, 1) := by decide +kernel
theorem dX3_loanAt_25 : decode cX3_loanAt 25 = .ok (.aload_n 0, 1) := by decide +kernel
theorem dX3_loanAt_26 : decode cX3_loanAt 26 = .ok (.getfield 10, 3) := by decide +kernel
theorem dX3_loanAt_29 : decode cX3_loanAt 29 = .ok (.iload_n 1, 1) := by decide +kernel
theorem dX3_loanAt_30 : decode cX3_loanAt 30 = .ok (.invokevirtual 127, 3) := by decide +kernel
theorem dX3_loanAt_33 : decode cX3_loanAt 33 = .ok (.checkcast 61, 3) := by decide +kernel
theorem dX3_loanAt_36 : decode cX3_loanAt 36 = .ok (.areturn, 1) := by decide +kernel
theorem dX3_bondAt_0 : decode cX3_bondAt 0 = .ok (.iload_n 1, 1) := by decide +kernel
theorem dX3_bondAt_1 : decode cX3_bondAt 1 = .ok (.ifCond .lt 14, 3) := by decide +kernel
theorem dX3_bondAt_4 : decode cX3_bondAt 4 = .ok (.iload_n 1, 1) := by decide +kernel
theorem dX3_bondAt_5 : decode cX3_bondAt 5 = .ok (.aload_n 0, 1) := by decide +kernel
theorem dX3_bondAt_6 : decode cX3_bondAt 6 = .ok (.getfield 16, 3) := by decide +kernel
theorem dX3_bondAt_9 : decode cX3_bondAt 9 = .ok (.invokevirtual 50, 3) := by decide +kernel
theorem dX3_bondAt_12 : decode cX3_bondAt 12 = .ok (.if_icmp .lt 13, 3) := by decide +kernel
theorem dX3_bondAt_15 : decode cX3_bondAt 15 = .ok (.new 169, 3) := by decide +kernel
theorem dX3_bondAt_18 : decode cX3_bondAt 18 = .ok (.dup, 1) := by decide +kernel
theorem dX3_bondAt_19 : decode cX3_bondAt 19 = .ok (.ldc 174, 2) := by decide +kernel
theorem dX3_bondAt_21 : decode cX3_bondAt 21 = .ok (.invokespecial 173, 3) := by decide +kernel
theorem dX3_bondAt_24 : decode cX3_bondAt 24 = .ok (.athrow, 1) := by decide +kernel
theorem dX3_bondAt_25 : decode cX3_bondAt 25 = .ok (.aload_n 0, 1) := by decide +kernel
theorem dX3_bondAt_26 : decode cX3_bondAt 26 = .ok (.getfield 16, 3) := by decide +kernel
theorem dX3_bondAt_29 : decode cX3_bondAt 29 = .ok (.iload_n 1, 1) := by decide +kernel
theorem dX3_bondAt_30 : decode cX3_bondAt 30 = .ok (.invokevirtual 127, 3) := by decide +kernel
theorem dX3_bondAt_33 : decode cX3_bondAt 33 = .ok (.checkcast 111, 3) := by decide +kernel
theorem dX3_bondAt_36 : decode cX3_bondAt 36 = .ok (.areturn, 1) := by decide +kernel
theorem dX3_receiveDueLoans_0 : decode cX3_receiveDueLoans 0 = .ok (.iconst 0, 1) := by decide +kernel
theorem dX3_receiveDueLoans_1 : decode cX3_receiveDueLoans 1 = .ok (.istore_n 1, 1) := by decide +kernel
theorem dX3_receiveDueLoans_2 : decode cX3_receiveDueLoans 2 = .ok (.iload_n 1, 1) := by decide +kernel
theorem dX3_receiveDueLoans_3 : decode cX3_receiveDueLoans 3 = .ok (.aload_n 0, 1) := by decide +kernel
theorem dX3_receiveDueLoans_4 : decode cX3_receiveDueLoans 4 = .ok (.getfield 10, 3) := by decide +kernel
theorem dX3_receiveDueLoans_7 : decode cX3_receiveDueLoans 7 = .ok (.invokevirtual 50, 3) := by decide +kernel
theorem dX3_receiveDueLoans_10 : decode cX3_receiveDueLoans 10 = .ok (.if_icmp .ge 65, 3) := by decide +kernel
theorem dX3_receiveDueLoans_13 : decode cX3_receiveDueLoans 13 = .ok (.aload_n 0, 1) := by decide +kernel
theorem dX3_receiveDueLoans_14 : decode cX3_receiveDueLoans 14 = .ok (.getfield 10, 3) := by decide +kernel
theorem dX3_receiveDueLoans_17 : decode cX3_receiveDueLoans 17 = .ok (.iload_n 1, 1) := by decide +kernel
theorem dX3_receiveDueLoans_18 : decode cX3_receiveDueLoans 18 = .ok (.invokevirtual 127, 3) := by decide +kernel
theorem dX3_receiveDueLoans_21 : decode cX3_receiveDueLoans 21 = .ok (.checkcast 61, 3) := by decide +kernel
theorem dX3_receiveDueLoans_24 : decode cX3_receiveDueLoans 24 = .ok (.astore_n 2, 1) := by decide +kernel
theorem dX3_receiveDueLoans_25 : decode cX3_receiveDueLoans 25 = .ok (.aload_n 2, 1) := by decide +kernel
theorem dX3_receiveDueLoans_26 : decode cX3_receiveDueLoans 26 = .ok (.getfield 78, 3) := by decide +kernel
theorem dX3_receiveDueLoans_29 : decode cX3_receiveDueLoans 29 = .ok (.iconst 1, 1) := by decide +kernel
theorem dX3_receiveDueLoans_30 : decode cX3_receiveDueLoans 30 = .ok (.if_icmp .ne 39, 3) := by decide +kernel
theorem dX3_receiveDueLoans_33 : decode cX3_receiveDueLoans 33 = .ok (.aload_n 2, 1) := by decide +kernel
theorem dX3_receiveDueLoans_34 : decode cX3_receiveDueLoans 34 = .ok (.getfield 176, 3) := by decide +kernel
theorem dX3_receiveDueLoans_37 : decode cX3_receiveDueLoans 37 = .ok (.aload_n 0, 1) := by decide +kernel
theorem dX3_receiveDueLoans_38 : decode cX3_receiveDueLoans 38 = .ok (.getfield 26, 3) := by decide +kernel
theorem dX3_receiveDueLoans_41 : decode cX3_receiveDueLoans 41 = .ok (.if_icmp .gt 28, 3) := by decide +kernel
theorem dX3_receiveDueLoans_44 : decode cX3_receiveDueLoans 44 = .ok (.aload_n 2, 1) := by decide +kernel
theorem dX3_receiveDueLoans_45 : decode cX3_receiveDueLoans 45 = .ok (.getfield 102, 3) := by decide +kernel
theorem dX3_receiveDueLoans_48 : decode cX3_receiveDueLoans 48 = .ok (.ifCond .ne 21, 3) := by decide +kernel
theorem dX3_receiveDueLoans_51 : decode cX3_receiveDueLoans 51 = .ok (.aload_n 2, 1) := by decide +kernel
theorem dX3_receiveDueLoans_52 : decode cX3_receiveDueLoans 52 = .ok (.iconst 2, 1) := by decide +kernel
theorem dX3_receiveDueLoans_53 : decode cX3_receiveDueLoans 53 = .ok (.putfield 78, 3) := by decide +kernel
theorem dX3_receiveDueLoans_56 : decode cX3_receiveDueLoans 56 = .ok (.aload_n 0, 1) := by decide +kernel
theorem dX3_receiveDueLoans_57 : decode cX3_receiveDueLoans 57 = .ok (.dup, 1) := by decide +kernel
theorem dX3_receiveDueLoans_58 : decode cX3_receiveDueLoans 58 = .ok (.getfield 30, 3) := by decide +kernel
theorem dX3_receiveDueLoans_61 : decode cX3_receiveDueLoans 61 = .ok (.aload_n 2, 1) := by decide +kernel
theorem dX3_receiveDueLoans_62 : decode cX3_receiveDueLoans 62 = .ok (.getfield 177, 3) := by decide +kernel
theorem dX3_receiveDueLoans_65 : decode cX3_receiveDueLoans 65 = .ok (.iadd, 1) := by decide +kernel
theorem dX3_receiveDueLoans_66 : decode cX3_receiveDueLoans 66 = .ok (.putfield 30, 3) := by decide +kernel
theorem dX3_receiveDueLoans_69 : decode cX3_receiveDueLoans 69 = .ok (.iinc 1 1, 3) := by decide +kernel
theorem dX3_receiveDueLoans_72 : decode cX3_receiveDueLoans 72 = .ok (.goto (-70), 3) := by decide +kernel
theorem dX3_receiveDueLoans_75 : decode cX3_receiveDueLoans 75 = .ok (.return_, 1) := by decide +kernel
theorem dX3_settleDueBonds_0 : decode cX3_settleDueBonds 0 = .ok (.iconst 0, 1) := by decide +kernel
theorem dX3_settleDueBonds_1 : decode cX3_settleDueBonds 1 = .ok (.istore_n 1, 1) := by decide +kernel
theorem dX3_settleDueBonds_2 : decode cX3_settleDueBonds 2 = .ok (.iload_n 1, 1) := by decide +kernel
theorem dX3_settleDueBonds_3 : decode cX3_settleDueBonds 3 = .ok (.aload_n 0, 1) := by decide +kernel
theorem dX3_settleDueBonds_4 : decode cX3_settleDueBonds 4 = .ok (.getfield 16, 3) := by decide +kernel
theorem dX3_settleDueBonds_7 : decode cX3_settleDueBonds 7 = .ok (.invokevirtual 50, 3) := by decide +kernel
theorem dX3_settleDueBonds_10 : decode cX3_settleDueBonds 10 = .ok (.if_icmp .ge 44, 3) := by decide +kernel
theorem dX3_settleDueBonds_13 : decode cX3_settleDueBonds 13 = .ok (.aload_n 0, 1) := by decide +kernel
theorem dX3_settleDueBonds_14 : decode cX3_settleDueBonds 14 = .ok (.getfield 16, 3) := by decide +kernel
theorem dX3_settleDueBonds_17 : decode cX3_settleDueBonds 17 = .ok (.iload_n 1, 1) := by decide +kernel
theorem dX3_settleDueBonds_18 : decode cX3_settleDueBonds 18 = .ok (.invokevirtual 127, 3) := by decide +kernel
theorem dX3_settleDueBonds_21 : decode cX3_settleDueBonds 21 = .ok (.checkcast 111, 3) := by decide +kernel
theorem dX3_settleDueBonds_24 : decode cX3_settleDueBonds 24 = .ok (.astore_n 2, 1) := by decide +kernel
theorem dX3_settleDueBonds_25 : decode cX3_settleDueBonds 25 = .ok (.aload_n 2, 1) := by decide +kernel
theorem dX3_settleDueBonds_26 : decode cX3_settleDueBonds 26 = .ok (.getfield 123, 3) := by decide +kernel
theorem dX3_settleDueBonds_29 : decode cX3_settleDueBonds 29 = .ok (.ifCond .ne 19, 3) := by decide +kernel
theorem dX3_settleDueBonds_32 : decode cX3_settleDueBonds 32 = .ok (.aload_n 2, 1) := by decide +kernel
theorem dX3_settleDueBonds_33 : decode cX3_settleDueBonds 33 = .ok (.getfield 124, 3) := by decide +kernel
theorem dX3_settleDueBonds_36 : decode cX3_settleDueBonds 36 = .ok (.aload_n 0, 1) := by decide +kernel
theorem dX3_settleDueBonds_37 : decode cX3_settleDueBonds 37 = .ok (.getfield 26, 3) := by decide +kernel
theorem dX3_settleDueBonds_40 : decode cX3_settleDueBonds 40 = .ok (.if_icmp .gt 8, 3) := by decide +kernel
theorem dX3_settleDueBonds_43 : decode cX3_settleDueBonds 43 = .ok (.aload_n 0, 1) := by decide +kernel
theorem dX3_settleDueBonds_44 : decode cX3_settleDueBonds 44 = .ok (.aload_n 2, 1) := by decide +kernel
theorem dX3_settleDueBonds_45 : decode cX3_settleDueBonds 45 = .ok (.invokevirtual 178, 3) := by decide +kernel
theorem dX3_settleDueBonds_48 : decode cX3_settleDueBonds 48 = .ok (.iinc 1 1, 3) := by decide +kernel
theorem dX3_settleDueBonds_51 : decode cX3_settleDueBonds 51 = .ok (.goto (-49), 3) := by decide +kernel
theorem dX3_settleDueBonds_54 : decode cX3_settleDueBonds 54 = .ok (.return_, 1) := by decide +kernel
theorem dX3_settle_0 : decode cX3_settle 0 = .ok (.aload_n 0, 1) := by decide +kernel
theorem dX3_settle_1 : decode cX3_settle 1 = .ok (.getfield 30, 3) := by decide +kernel
theorem dX3_settle_4 : decode cX3_settle 4 = .ok (.aload_n 1, 1) := by decide +kernel
theorem dX3_settle_5 : decode cX3_settle 5 = .ok (.getfield 131, 3) := by decide +kernel
theorem dX3_settle_8 : decode cX3_settle 8 = .ok (.if_icmp .lt 24, 3) := by decide +kernel
theorem dX3_settle_11 : decode cX3_settle 11 = .ok (.aload_n 0, 1) := by decide +kernel
theorem dX3_settle_12 : decode cX3_settle 12 = .ok (.dup, 1) := by decide +kernel
theorem dX3_settle_13 : decode cX3_settle 13 = .ok (.getfield 30, 3) := by decide +kernel
theorem dX3_settle_16 : decode cX3_settle 16 = .ok (.aload_n 1, 1) := by decide +kernel
theorem dX3_settle_17 : decode cX3_settle 17 = .ok (.getfield 131, 3) := by decide +kernel
theorem dX3_settle_20 : decode cX3_settle 20 = .ok (.isub, 1) := by decide +kernel
theorem dX3_settle_21 : decode cX3_settle 21 = .ok (.putfield 30, 3) := by decide +kernel
theorem dX3_settle_24 : decode cX3_settle 24 = .ok (.aload_n 1, 1) := by decide +kernel
theorem dX3_settle_25 : decode cX3_settle 25 = .ok (.iconst 2, 1) := by decide +kernel
theorem dX3_settle_26 : decode cX3_settle 26 = .ok (.putfield 123, 3) := by decide +kernel
theorem dX3_settle_29 : decode cX3_settle 29 = .ok (.goto 34, 3) := by decide +kernel
theorem dX3_settle_32 : decode cX3_settle 32 = .ok (.aload_n 1, 1) := by decide +kernel
theorem dX3_settle_33 : decode cX3_settle 33 = .ok (.getfield 182, 3) := by decide +kernel
theorem dX3_settle_36 : decode cX3_settle 36 = .ok (.ifCond .ne 22, 3) := by decide +kernel
theorem dX3_settle_39 : decode cX3_settle 39 = .ok (.aload_n 1, 1) := by decide +kernel
theorem dX3_settle_40 : decode cX3_settle 40 = .ok (.iconst 1, 1) := by decide +kernel
theorem dX3_settle_41 : decode cX3_settle 41 = .ok (.putfield 182, 3) := by decide +kernel
theorem dX3_settle_44 : decode cX3_settle 44 = .ok (.aload_n 1, 1) := by decide +kernel
theorem dX3_settle_45 : decode cX3_settle 45 = .ok (.aload_n 0, 1) := by decide +kernel
theorem dX3_settle_46 : decode cX3_settle 46 = .ok (.getfield 26, 3) := by decide +kernel
theorem dX3_settle_49 : decode cX3_settle 49 = .ok (.bipush 12, 2) := by decide +kernel
theorem dX3_settle_51 : decode cX3_settle 51 = .ok (.iadd, 1) := by decide +kernel
theorem dX3_settle_52 : decode cX3_settle 52 = .ok (.putfield 124, 3) := by decide +kernel
theorem dX3_settle_55 : decode cX3_settle 55 = .ok (.goto 8, 3) := by decide +kernel
theorem dX3_settle_58 : decode cX3_settle 58 = .ok (.aload_n 1, 1) := by decide +kernel
theorem dX3_settle_59 : decode cX3_settle 59 = .ok (.iconst 3, 1) := by decide +kernel
theorem dX3_settle_60 : decode cX3_settle 60 = .ok (.putfield 123, 3) := by decide +kernel
theorem dX3_settle_63 : decode cX3_settle 63 = .ok (.return_, 1) := by decide +kernel
theorem dX3_countOf_0 : decode cX3_countOf 0 = .ok (.aload_n 1, 1) := by decide +kernel
theorem dX3_countOf_1 : decode cX3_countOf 1 = .ok (.getfield 102, 3) := by decide +kernel
theorem dX3_countOf_4 : decode cX3_countOf 4 = .ok (.iconst 3, 1) := by decide +kernel
theorem dX3_countOf_5 : decode cX3_countOf 5 = .ok (.if_icmp .ge 14, 3) := by decide +kernel
theorem dX3_countOf_8 : decode cX3_countOf 8 = .ok (.aload_n 1, 1) := by decide +kernel
theorem dX3_countOf_9 : decode cX3_countOf 9 = .ok (.getfield 186, 3) := by decide +kernel
theorem dX3_countOf_12 : decode cX3_countOf 12 = .ok (.aload_n 0, 1) := by decide +kernel
theorem dX3_countOf_13 : decode cX3_countOf 13 = .ok (.getfield 33, 3) := by decide +kernel
theorem dX3_countOf_16 : decode cX3_countOf 16 = .ok (.if_icmp .le 5, 3) := by decide +kernel
theorem dX3_countOf_19 : decode cX3_countOf 19 = .ok (.iconst 0, 1) := by decide +kernel
theorem dX3_countOf_20 : decode cX3_countOf 20 = .ok (.ireturn, 1) := by decide +kernel
theorem dX3_countOf_21 : decode cX3_countOf 21 = .ok (.aload_n 1, 1) := by decide +kernel
theorem dX3_countOf_22 : decode cX3_countOf 22 = .ok (.getfield 177, 3) := by decide +kernel
theorem dX3_countOf_25 : decode cX3_countOf 25 = .ok (.aload_n 1, 1) := by decide +kernel
theorem dX3_countOf_26 : decode cX3_countOf 26 = .ok (.getfield 105, 3) := by decide +kernel
theorem dX3_countOf_29 : decode cX3_countOf 29 = .ok (.bipush 80, 2) := by decide +kernel
theorem dX3_countOf_31 : decode cX3_countOf 31 = .ok (.imul, 1) := by decide +kernel
theorem dX3_countOf_32 : decode cX3_countOf 32 = .ok (.bipush 100, 2) := by decide +kernel
theorem dX3_countOf_34 : decode cX3_countOf 34 = .ok (.idiv, 1) := by decide +kernel
theorem dX3_countOf_35 : decode cX3_countOf 35 = .ok (.invokestatic 137, 3) := by decide +kernel
theorem dX3_countOf_38 : decode cX3_countOf 38 = .ok (.ireturn, 1) := by decide +kernel
theorem dX3_worthNow_0 : decode cX3_worthNow 0 = .ok (.sipush 1200, 3) := by decide +kernel
theorem dX3_worthNow_3 : decode cX3_worthNow 3 = .ok (.aload_n 0, 1) := by decide +kernel
theorem dX3_worthNow_4 : decode cX3_worthNow 4 = .ok (.getfield 39, 3) := by decide +kernel
theorem dX3_worthNow_7 : decode cX3_worthNow 7 = .ok (.iconst 0, 1) := by decide +kernel
theorem dX3_worthNow_8 : decode cX3_worthNow 8 = .ok (.iload_n 2, 1) := by decide +kernel
theorem dX3_worthNow_9 : decode cX3_worthNow 9 = .ok (.aload_n 0, 1) := by decide +kernel
theorem dX3_worthNow_10 : decode cX3_worthNow 10 = .ok (.getfield 26, 3) := by decide +kernel
theorem dX3_worthNow_13 : decode cX3_worthNow 13 = .ok (.isub, 1) := by decide +kernel
theorem dX3_worthNow_14 : decode cX3_worthNow 14 = .ok (.invokestatic 189, 3) := by decide +kernel
theorem dX3_worthNow_17 : decode cX3_worthNow 17 = .ok (.imul, 1) := by decide +kernel
theorem dX3_worthNow_18 : decode cX3_worthNow 18 = .ok (.iadd, 1) := by decide +kernel
theorem dX3_worthNow_19 : decode cX3_worthNow 19 = .ok (.istore_n 3, 1) := by decide +kernel
theorem dX3_worthNow_20 : decode cX3_worthNow 20 = .ok (.iload_n 3, 1) := by decide +kernel
theorem dX3_worthNow_21 : decode cX3_worthNow 21 = .ok (.ifCond .gt 5, 3) := by decide +kernel
theorem dX3_worthNow_24 : decode cX3_worthNow 24 = .ok (.iconst 0, 1) := by decide +kernel
theorem dX3_worthNow_25 : decode cX3_worthNow 25 = .ok (.ireturn, 1) := by decide +kernel
theorem dX3_worthNow_26 : decode cX3_worthNow 26 = .ok (.sipush 1200, 3) := by decide +kernel
theorem dX3_worthNow_29 : decode cX3_worthNow 29 = .ok (.iload_n 1, 1) := by decide +kernel
theorem dX3_worthNow_30 : decode cX3_worthNow 30 = .ok (.imul, 1) := by decide +kernel
theorem dX3_worthNow_31 : decode cX3_worthNow 31 = .ok (.iload_n 3, 1) := by decide +kernel
theorem dX3_worthNow_32 : decode cX3_worthNow 32 = .ok (.idiv, 1) := by decide +kernel
theorem dX3_worthNow_33 : decode cX3_worthNow 33 = .ok (.ireturn, 1) := by decide +kernel
theorem dX3_loansThatAre_0 : decode cX3_loansThatAre 0 = .ok (.iconst 0, 1) := by decide +kernel
theorem dX3_loansThatAre_1 : decode cX3_loansThatAre 1 = .ok (.istore_n 2, 1) := by decide +kernel
theorem dX3_loansThatAre_2 : decode cX3_loansThatAre 2 = .ok (.iconst 0, 1) := by decide +kernel
theorem dX3_loansThatAre_3 : decode cX3_loansThatAre 3 = .ok (.istore_n 3, 1) := by decide +kernel
theorem dX3_loansThatAre_4 : decode cX3_loansThatAre 4 = .ok (.iload_n 3, 1) := by decide +kernel
theorem dX3_loansThatAre_5 : decode cX3_loansThatAre 5 = .ok (.aload_n 0, 1) := by decide +kernel
theorem dX3_loansThatAre_6 : decode cX3_loansThatAre 6 = .ok (.getfield 10, 3) := by decide +kernel
theorem dX3_loansThatAre_9 : decode cX3_loansThatAre 9 = .ok (.invokevirtual 50, 3) := by decide +kernel
theorem dX3_loansThatAre_12 : decode cX3_loansThatAre 12 = .ok (.if_icmp .ge 33, 3) := by decide +kernel
theorem dX3_loansThatAre_15 : decode cX3_loansThatAre 15 = .ok (.aload_n 0, 1) := by decide +kernel
theorem dX3_loansThatAre_16 : decode cX3_loansThatAre 16 = .ok (.getfield 10, 3) := by decide +kernel
theorem dX3_loansThatAre_19 : decode cX3_loansThatAre 19 = .ok (.iload_n 3, 1) := by decide +kernel
theorem dX3_loansThatAre_20 : decode cX3_loansThatAre 20 = .ok (.invokevirtual 127, 3) := by decide +kernel
theorem dX3_loansThatAre_23 : decode cX3_loansThatAre 23 = .ok (.checkcast 61, 3) := by decide +kernel
theorem dX3_loansThatAre_26 : decode cX3_loansThatAre 26 = .ok (.getfield 78, 3) := by decide +kernel
theorem dX3_loansThatAre_29 : decode cX3_loansThatAre 29 = .ok (.iload_n 1, 1) := by decide +kernel
theorem dX3_loansThatAre_30 : decode cX3_loansThatAre 30 = .ok (.if_icmp .ne 9, 3) := by decide +kernel
theorem dX3_loansThatAre_33 : decode cX3_loansThatAre 33 = .ok (.iload_n 2, 1) := by decide +kernel
theorem dX3_loansThatAre_34 : decode cX3_loansThatAre 34 = .ok (.iconst 1, 1) := by decide +kernel
theorem dX3_loansThatAre_35 : decode cX3_loansThatAre 35 = .ok (.iload_n 3, 1) := by decide +kernel
theorem dX3_loansThatAre_36 : decode cX3_loansThatAre 36 = .ok (.ishl, 1) := by decide +kernel
theorem dX3_loansThatAre_37 : decode cX3_loansThatAre 37 = .ok (.ior, 1) := by decide +kernel
theorem dX3_loansThatAre_38 : decode cX3_loansThatAre 38 = .ok (.istore_n 2, 1) := by decide +kernel
theorem dX3_loansThatAre_39 : decode cX3_loansThatAre 39 = .ok (.iinc 3 1, 3) := by decide +kernel
theorem dX3_loansThatAre_42 : decode cX3_loansThatAre 42 = .ok (.goto (-38), 3) := by decide +kernel
theorem dX3_loansThatAre_45 : decode cX3_loansThatAre 45 = .ok (.iload_n 2, 1) := by decide +kernel
theorem dX3_loansThatAre_46 : decode cX3_loansThatAre 46 = .ok (.ireturn, 1) := by decide +kernel
theorem dX3_fillSheet_0 : decode cX3_fillSheet 0 = .ok (.iconst 0, 1) := by decide +kernel
theorem dX3_fillSheet_1 : decode cX3_fillSheet 1 = .ok (.istore_n 1, 1) := by decide +kernel
theorem dX3_fillSheet_2 : decode cX3_fillSheet 2 = .ok (.iload_n 1, 1) := by decide +kernel
theorem dX3_fillSheet_3 : decode cX3_fillSheet 3 = .ok (.aload_n 0, 1) := by decide +kernel
theorem dX3_fillSheet_4 : decode cX3_fillSheet 4 = .ok (.getfield 10, 3) := by decide +kernel
theorem dX3_fillSheet_7 : decode cX3_fillSheet 7 = .ok (.invokevirtual 50, 3) := by decide +kernel
theorem dX3_fillSheet_10 : decode cX3_fillSheet 10 = .ok (.if_icmp .ge 49, 3) := by decide +kernel
theorem dX3_fillSheet_13 : decode cX3_fillSheet 13 = .ok (.iload_n 1, 1) := by decide +kernel
theorem dX3_fillSheet_14 : decode cX3_fillSheet 14 = .ok (.bipush 12, 2) := by decide +kernel
theorem dX3_fillSheet_16 : decode cX3_fillSheet 16 = .ok (.if_icmp .ge 43, 3) := by decide +kernel
theorem dX3_fillSheet_19 : decode cX3_fillSheet 19 = .ok (.aload_n 0, 1) := by decide +kernel
theorem dX3_fillSheet_20 : decode cX3_fillSheet 20 = .ok (.getfield 10, 3) := by decide +kernel
theorem dX3_fillSheet_23 : decode cX3_fillSheet 23 = .ok (.iload_n 1, 1) := by decide +kernel
theorem dX3_fillSheet_24 : decode cX3_fillSheet 24 = .ok (.invokevirtual 127, 3) := by decide +kernel
theorem dX3_fillSheet_27 : decode cX3_fillSheet 27 = .ok (.checkcast 61, 3) := by decide +kernel
theorem dX3_fillSheet_30 : decode cX3_fillSheet 30 = .ok (.astore_n 2, 1) := by decide +kernel
theorem dX3_fillSheet_31 : decode cX3_fillSheet 31 = .ok (.aload_n 0, 1) := by decide +kernel
theorem dX3_fillSheet_32 : decode cX3_fillSheet 32 = .ok (.aload_n 0, 1) := by decide +kernel
theorem dX3_fillSheet_33 : decode cX3_fillSheet 33 = .ok (.getfield 22, 3) := by decide +kernel
theorem dX3_fillSheet_36 : decode cX3_fillSheet 36 = .ok (.getfield 192, 3) := by decide +kernel
theorem dX3_fillSheet_39 : decode cX3_fillSheet 39 = .ok (.iload_n 1, 1) := by decide +kernel
theorem dX3_fillSheet_40 : decode cX3_fillSheet 40 = .ok (.aaload, 1) := by decide +kernel
theorem dX3_fillSheet_41 : decode cX3_fillSheet 41 = .ok (.aload_n 0, 1) := by decide +kernel
theorem dX3_fillSheet_42 : decode cX3_fillSheet 42 = .ok (.aload_n 2, 1) := by decide +kernel
theorem dX3_fillSheet_43 : decode cX3_fillSheet 43 = .ok (.invokevirtual 81, 3) := by decide +kernel
theorem dX3_fillSheet_46 : decode cX3_fillSheet 46 = .ok (.aload_n 2, 1) := by decide +kernel
theorem dX3_fillSheet_47 : decode cX3_fillSheet 47 = .ok (.getfield 176, 3) := by decide +kernel
theorem dX3_fillSheet_50 : decode cX3_fillSheet 50 = .ok (.invokevirtual 196, 3) := by decide +kernel
theorem dX3_fillSheet_53 : decode cX3_fillSheet 53 = .ok (.iinc 1 1, 3) := by decide +kernel
theorem dX3_fillSheet_56 : decode cX3_fillSheet 56 = .ok (.goto (-54), 3) := by decide +kernel
theorem dX3_fillSheet_59 : decode cX3_fillSheet 59 = .ok (.aload_n 0, 1) := by decide +kernel
theorem dX3_fillSheet_60 : decode cX3_fillSheet 60 = .ok (.aload_n 0, 1) := by decide +kernel
theorem dX3_fillSheet_61 : decode cX3_fillSheet 61 = .ok (.getfield 22, 3) := by decide +kernel
theorem dX3_fillSheet_64 : decode cX3_fillSheet 64 = .ok (.getfield 200, 3) := by decide +kernel
theorem dX3_fillSheet_67 : decode cX3_fillSheet 67 = .ok (.invokevirtual 204, 3) := by decide +kernel
theorem dX3_fillSheet_70 : decode cX3_fillSheet 70 = .ok (.iconst 0, 1) := by decide +kernel
theorem dX3_fillSheet_71 : decode cX3_fillSheet 71 = .ok (.istore_n 1, 1) := by decide +kernel
theorem dX3_fillSheet_72 : decode cX3_fillSheet 72 = .ok (.iload_n 1, 1) := by decide +kernel
theorem dX3_fillSheet_73 : decode cX3_fillSheet 73 = .ok (.aload_n 0, 1) := by decide +kernel
theorem dX3_fillSheet_74 : decode cX3_fillSheet 74 = .ok (.getfield 16, 3) := by decide +kernel
theorem dX3_fillSheet_77 : decode cX3_fillSheet 77 = .ok (.invokevirtual 50, 3) := by decide +kernel
theorem dX3_fillSheet_80 : decode cX3_fillSheet 80 = .ok (.if_icmp .ge 40, 3) := by decide +kernel
theorem dX3_fillSheet_83 : decode cX3_fillSheet 83 = .ok (.aload_n 0, 1) := by decide +kernel
theorem dX3_fillSheet_84 : decode cX3_fillSheet 84 = .ok (.getfield 16, 3) := by decide +kernel
theorem dX3_fillSheet_87 : decode cX3_fillSheet 87 = .ok (.iload_n 1, 1) := by decide +kernel
theorem dX3_fillSheet_88 : decode cX3_fillSheet 88 = .ok (.invokevirtual 127, 3) := by decide +kernel
theorem dX3_fillSheet_91 : decode cX3_fillSheet 91 = .ok (.checkcast 111, 3) := by decide +kernel
theorem dX3_fillSheet_94 : decode cX3_fillSheet 94 = .ok (.astore_n 2, 1) := by decide +kernel
theorem dX3_fillSheet_95 : decode cX3_fillSheet 95 = .ok (.aload_n 2, 1) := by decide +kernel
theorem dX3_fillSheet_96 : decode cX3_fillSheet 96 = .ok (.getfield 123, 3) := by decide +kernel
theorem dX3_fillSheet_99 : decode cX3_fillSheet 99 = .ok (.ifCond .ne 15, 3) := by decide +kernel
theorem dX3_fillSheet_102 : decode cX3_fillSheet 102 = .ok (.aload_n 0, 1) := by decide +kernel
theorem dX3_fillSheet_103 : decode cX3_fillSheet 103 = .ok (.aload_n 0, 1) := by decide +kernel
theorem dX3_fillSheet_104 : decode cX3_fillSheet 104 = .ok (.getfield 22, 3) := by decide +kernel
theorem dX3_fillSheet_107 : decode cX3_fillSheet 107 = .ok (.getfield 200, 3) := by decide +kernel
theorem dX3_fillSheet_110 : decode cX3_fillSheet 110 = .ok (.aload_n 2, 1) := by decide +kernel
theorem dX3_fillSheet_111 : decode cX3_fillSheet 111 = .ok (.invokevirtual 208, 3) := by decide +kernel
theorem dX3_fillSheet_114 : decode cX3_fillSheet 114 = .ok (.iinc 1 1, 3) := by decide +kernel
theorem dX3_fillSheet_117 : decode cX3_fillSheet 117 = .ok (.goto (-45), 3) := by decide +kernel
theorem dX3_fillSheet_120 : decode cX3_fillSheet 120 = .ok (.return_, 1) := by decide +kernel
theorem dX3_fillRow_0 : decode cX3_fillRow 0 = .ok (.aload_n 1, 1) := by decide +kernel
theorem dX3_fillRow_1 : decode cX3_fillRow 1 = .ok (.iconst 0, 1) := by decide +kernel
theorem dX3_fillRow_2 : decode cX3_fillRow 2 = .ok (.bipush 100, 2) := by decide +kernel
theorem dX3_fillRow_4 : decode cX3_fillRow 4 = .ok (.iload_n 2, 1) := by decide +kernel
theorem dX3_fillRow_5 : decode cX3_fillRow 5 = .ok (.imul, 1) := by decide +kernel
theorem dX3_fillRow_6 : decode cX3_fillRow 6 = .ok (.iastore, 1) := by decide +kernel
theorem dX3_fillRow_7 : decode cX3_fillRow 7 = .ok (.aload_n 1, 1) := by decide +kernel
theorem dX3_fillRow_8 : decode cX3_fillRow 8 = .ok (.iconst 1, 1) := by decide +kernel
theorem dX3_fillRow_9 : decode cX3_fillRow 9 = .ok (.iload_n 2, 1) := by decide +kernel
theorem dX3_fillRow_10 : decode cX3_fillRow 10 = .ok (.iastore, 1) := by decide +kernel
theorem dX3_fillRow_11 : decode cX3_fillRow 11 = .ok (.aload_n 1, 1) := by decide +kernel
theorem dX3_fillRow_12 : decode cX3_fillRow 12 = .ok (.iconst 2, 1) := by decide +kernel
theorem dX3_fillRow_13 : decode cX3_fillRow 13 = .ok (.aload_n 0, 1) := by decide +kernel
theorem dX3_fillRow_14 : decode cX3_fillRow 14 = .ok (.iload_n 2, 1) := by decide +kernel
theorem dX3_fillRow_15 : decode cX3_fillRow 15 = .ok (.iload_n 3, 1) := by decide +kernel
theorem dX3_fillRow_16 : decode cX3_fillRow 16 = .ok (.invokevirtual 212, 3) := by decide +kernel
theorem dX3_fillRow_19 : decode cX3_fillRow 19 = .ok (.iastore, 1) := by decide +kernel
theorem dX3_fillRow_20 : decode cX3_fillRow 20 = .ok (.iconst 1, 1) := by decide +kernel
theorem dX3_fillRow_21 : decode cX3_fillRow 21 = .ok (.istore 4, 2) := by decide +kernel
theorem dX3_fillRow_23 : decode cX3_fillRow 23 = .ok (.iload 4, 2) := by decide +kernel
theorem dX3_fillRow_25 : decode cX3_fillRow 25 = .ok (.bipush 6, 2) := by decide +kernel
theorem dX3_fillRow_27 : decode cX3_fillRow 27 = .ok (.if_icmp .gt 31, 3) := by decide +kernel
theorem dX3_fillRow_30 : decode cX3_fillRow 30 = .ok (.aload_n 1, 1) := by decide +kernel
theorem dX3_fillRow_31 : decode cX3_fillRow 31 = .ok (.iconst 2, 1) := by decide +kernel
theorem dX3_fillRow_32 : decode cX3_fillRow 32 = .ok (.iload 4, 2) := by decide +kernel
theorem dX3_fillRow_34 : decode cX3_fillRow 34 = .ok (.iadd, 1) := by decide +kernel
theorem dX3_fillRow_35 : decode cX3_fillRow 35 = .ok (.iload_n 3, 1) := by decide +kernel
theorem dX3_fillRow_36 : decode cX3_fillRow 36 = .ok (.aload_n 0, 1) := by decide +kernel
theorem dX3_fillRow_37 : decode cX3_fillRow 37 = .ok (.getfield 26, 3) := by decide +kernel
theorem dX3_fillRow_40 : decode cX3_fillRow 40 = .ok (.iload 4, 2) := by decide +kernel
theorem dX3_fillRow_42 : decode cX3_fillRow 42 = .ok (.iadd, 1) := by decide +kernel
theorem dX3_fillRow_43 : decode cX3_fillRow 43 = .ok (.if_icmp .gt 7, 3) := by decide +kernel
theorem dX3_fillRow_46 : decode cX3_fillRow 46 = .ok (.iload_n 2, 1) := by decide +kernel
theorem dX3_fillRow_47 : decode cX3_fillRow 47 = .ok (.goto 4, 3) := by decide +kernel
theorem dX3_fillRow_50 : decode cX3_fillRow 50 = .ok (.iconst 0, 1) := by decide +kernel
theorem dX3_fillRow_51 : decode cX3_fillRow 51 = .ok (.iastore, 1) := by decide +kernel
theorem dX3_fillRow_52 : decode cX3_fillRow 52 = .ok (.iinc 4 1, 3) := by decide +kernel
theorem dX3_fillRow_55 : decode cX3_fillRow 55 = .ok (.goto (-32), 3) := by decide +kernel
theorem dX3_fillRow_58 : decode cX3_fillRow 58 = .ok (.return_, 1) := by decide +kernel
theorem dX3_startWithCashAndSubstitutes_0 : decode cX3_startWithCashAndSubstitutes 0 = .ok (.aload_n 0, 1) := by decide +kernel
theorem dX3_startWithCashAndSubstitutes_1 : decode cX3_startWithCashAndSubstitutes 1 = .ok (.invokevirtual 215, 3) := by decide +kernel
theorem dX3_startWithCashAndSubstitutes_4 : decode cX3_startWithCashAndSubstitutes 4 = .ok (.istore_n 2, 1) := by decide +kernel
theorem dX3_startWithCashAndSubstitutes_5 : decode cX3_startWithCashAndSubstitutes 5 = .ok (.aload_n 1, 1) := by decide +kernel
theorem dX3_startWithCashAndSubstitutes_6 : decode cX3_startWithCashAndSubstitutes 6 = .ok (.iconst 0, 1) := by decide +kernel
theorem dX3_startWithCashAndSubstitutes_7 : decode cX3_startWithCashAndSubstitutes 7 = .ok (.bipush (-100), 2) := by decide +kernel
theorem dX3_startWithCashAndSubstitutes_9 : decode cX3_startWithCashAndSubstitutes 9 = .ok (.iload_n 2, 1) := by decide +kernel
theorem dX3_startWithCashAndSubstitutes_10 : decode cX3_startWithCashAndSubstitutes 10 = .ok (.imul, 1) := by decide +kernel
theorem dX3_startWithCashAndSubstitutes_11 : decode cX3_startWithCashAndSubstitutes 11 = .ok (.iastore, 1) := by decide +kernel
theorem dX3_startWithCashAndSubstitutes_12 : decode cX3_startWithCashAndSubstitutes 12 = .ok (.aload_n 1, 1) := by decide +kernel
theorem dX3_startWithCashAndSubstitutes_13 : decode cX3_startWithCashAndSubstitutes 13 = .ok (.iconst 1, 1) := by decide +kernel
theorem dX3_startWithCashAndSubstitutes_14 : decode cX3_startWithCashAndSubstitutes 14 = .ok (.iload_n 2, 1) := by decide +kernel
theorem dX3_startWithCashAndSubstitutes_15 : decode cX3_startWithCashAndSubstitutes 15 = .ok (.ineg, 1) := by decide +kernel
theorem dX3_startWithCashAndSubstitutes_16 : decode cX3_startWithCashAndSubstitutes 16 = .ok (.iastore, 1) := by decide +kernel
theorem dX3_startWithCashAndSubstitutes_17 : decode cX3_startWithCashAndSubstitutes 17 = .ok (.aload_n 1, 1) := by decide +kernel
theorem dX3_startWithCashAndSubstitutes_18 : decode cX3_startWithCashAndSubstitutes 18 = .ok (.iconst 2, 1) := by decide +kernel
theorem dX3_startWithCashAndSubstitutes_19 : decode cX3_startWithCashAndSubstitutes 19 = .ok (.iload_n 2, 1) := by decide +kernel
theorem dX3_startWithCashAndSubstitutes_20 : decode cX3_startWithCashAndSubstitutes 20 = .ok (.ineg, 1) := by decide +kernel
theorem dX3_startWithCashAndSubstitutes_21 : decode cX3_startWithCashAndSubstitutes 21 = .ok (.iastore, 1) := by decide +kernel
theorem dX3_startWithCashAndSubstitutes_22 : decode cX3_startWithCashAndSubstitutes 22 = .ok (.iconst 1, 1) := by decide +kernel
theorem dX3_startWithCashAndSubstitutes_23 : decode cX3_startWithCashAndSubstitutes 23 = .ok (.istore_n 3, 1) := by decide +kernel
theorem dX3_startWithCashAndSubstitutes_24 : decode cX3_startWithCashAndSubstitutes 24 = .ok (.iload_n 3, 1) := by decide +kernel
theorem dX3_startWithCashAndSubstitutes_25 : decode cX3_startWithCashAndSubstitutes 25 = .ok (.bipush 6, 2) := by decide +kernel
theorem dX3_startWithCashAndSubstitutes_27 : decode cX3_startWithCashAndSubstitutes 27 = .ok (.if_icmp .gt 19, 3) := by decide +kernel
theorem dX3_startWithCashAndSubstitutes_30 : decode cX3_startWithCashAndSubstitutes 30 = .ok (.aload_n 1, 1) := by decide +kernel
theorem dX3_startWithCashAndSubstitutes_31 : decode cX3_startWithCashAndSubstitutes 31 = .ok (.iconst 2, 1) := by decide +kernel
theorem dX3_startWithCashAndSubstitutes_32 : decode cX3_startWithCashAndSubstitutes 32 = .ok (.iload_n 3, 1) := by decide +kernel
theorem dX3_startWithCashAndSubstitutes_33 : decode cX3_startWithCashAndSubstitutes 33 = .ok (.iadd, 1) := by decide +kernel
theorem dX3_startWithCashAndSubstitutes_34 : decode cX3_startWithCashAndSubstitutes 34 = .ok (.aload_n 0, 1) := by decide +kernel
theorem dX3_startWithCashAndSubstitutes_35 : decode cX3_startWithCashAndSubstitutes 35 = .ok (.getfield 30, 3) := by decide +kernel
theorem dX3_startWithCashAndSubstitutes_38 : decode cX3_startWithCashAndSubstitutes 38 = .ok (.ineg, 1) := by decide +kernel
theorem dX3_startWithCashAndSubstitutes_39 : decode cX3_startWithCashAndSubstitutes 39 = .ok (.iastore, 1) := by decide +kernel
theorem dX3_startWithCashAndSubstitutes_40 : decode cX3_startWithCashAndSubstitutes 40 = .ok (.iinc 3 1, 3) := by decide +kernel
theorem dX3_startWithCashAndSubstitutes_43 : decode cX3_startWithCashAndSubstitutes 43 = .ok (.goto (-19), 3) := by decide +kernel
theorem dX3_startWithCashAndSubstitutes_46 : decode cX3_startWithCashAndSubstitutes 46 = .ok (.return_, 1) := by decide +kernel
theorem dX3_addBondTo_0 : decode cX3_addBondTo 0 = .ok (.aload_n 1, 1) := by decide +kernel
theorem dX3_addBondTo_1 : decode cX3_addBondTo 1 = .ok (.iconst 0, 1) := by decide +kernel
theorem dX3_addBondTo_2 : decode cX3_addBondTo 2 = .ok (.dup2, 1) := by decide +kernel
theorem dX3_addBondTo_3 : decode cX3_addBondTo 3 = .ok (.iaload, 1) := by decide +kernel
theorem dX3_addBondTo_4 : decode cX3_addBondTo 4 = .ok (.aload_n 2, 1) := by decide +kernel
theorem dX3_addBondTo_5 : decode cX3_addBondTo 5 = .ok (.getfield 131, 3) := by decide +kernel
theorem dX3_addBondTo_8 : decode cX3_addBondTo 8 = .ok (.bipush 100, 2) := by decide +kernel
theorem dX3_addBondTo_10 : decode cX3_addBondTo 10 = .ok (.aload_n 0, 1) := by decide +kernel
theorem dX3_addBondTo_11 : decode cX3_addBondTo 11 = .ok (.getfield 36, 3) := by decide +kernel
theorem dX3_addBondTo_14 : decode cX3_addBondTo 14 = .ok (.iadd, 1) := by decide +kernel
theorem dX3_addBondTo_15 : decode cX3_addBondTo 15 = .ok (.imul, 1) := by decide +kernel
theorem dX3_addBondTo_16 : decode cX3_addBondTo 16 = .ok (.iadd, 1) := by decide +kernel
theorem dX3_addBondTo_17 : decode cX3_addBondTo 17 = .ok (.iastore, 1) := by decide +kernel
theorem dX3_addBondTo_18 : decode cX3_addBondTo 18 = .ok (.aload_n 1, 1) := by decide +kernel
theorem dX3_addBondTo_19 : decode cX3_addBondTo 19 = .ok (.iconst 1, 1) := by decide +kernel
theorem dX3_addBondTo_20 : decode cX3_addBondTo 20 = .ok (.dup2, 1) := by decide +kernel
theorem dX3_addBondTo_21 : decode cX3_addBondTo 21 = .ok (.iaload, 1) := by decide +kernel
theorem dX3_addBondTo_22 : decode cX3_addBondTo 22 = .ok (.aload_n 2, 1) := by decide +kernel
theorem dX3_addBondTo_23 : decode cX3_addBondTo 23 = .ok (.getfield 131, 3) := by decide +kernel
theorem dX3_addBondTo_26 : decode cX3_addBondTo 26 = .ok (.iadd, 1) := by decide +kernel
theorem dX3_addBondTo_27 : decode cX3_addBondTo 27 = .ok (.iastore, 1) := by decide +kernel
theorem dX3_addBondTo_28 : decode cX3_addBondTo 28 = .ok (.aload_n 1, 1) := by decide +kernel
theorem dX3_addBondTo_29 : decode cX3_addBondTo 29 = .ok (.iconst 2, 1) := by decide +kernel
theorem dX3_addBondTo_30 : decode cX3_addBondTo 30 = .ok (.dup2, 1) := by decide +kernel
theorem dX3_addBondTo_31 : decode cX3_addBondTo 31 = .ok (.iaload, 1) := by decide +kernel
theorem dX3_addBondTo_32 : decode cX3_addBondTo 32 = .ok (.aload_n 0, 1) := by decide +kernel
theorem dX3_addBondTo_33 : decode cX3_addBondTo 33 = .ok (.aload_n 2, 1) := by decide +kernel
theorem dX3_addBondTo_34 : decode cX3_addBondTo 34 = .ok (.getfield 131, 3) := by decide +kernel
theorem dX3_addBondTo_37 : decode cX3_addBondTo 37 = .ok (.aload_n 2, 1) := by decide +kernel
theorem dX3_addBondTo_38 : decode cX3_addBondTo 38 = .ok (.getfield 124, 3) := by decide +kernel
theorem dX3_addBondTo_41 : decode cX3_addBondTo 41 = .ok (.invokevirtual 212, 3) := by decide +kernel
theorem dX3_addBondTo_44 : decode cX3_addBondTo 44 = .ok (.iadd, 1) := by decide +kernel
theorem dX3_addBondTo_45 : decode cX3_addBondTo 45 = .ok (.iastore, 1) := by decide +kernel
theorem dX3_addBondTo_46 : decode cX3_addBondTo 46 = .ok (.iconst 1, 1) := by decide +kernel
theorem dX3_addBondTo_47 : decode cX3_addBondTo 47 = .ok (.istore_n 3, 1) := by decide +kernel
theorem dX3_addBondTo_48 : decode cX3_addBondTo 48 = .ok (.iload_n 3, 1) := by decide +kernel
theorem dX3_addBondTo_49 : decode cX3_addBondTo 49 = .ok (.bipush 6, 2) := by decide +kernel
theorem dX3_addBondTo_51 : decode cX3_addBondTo 51 = .ok (.if_icmp .gt 34, 3) := by decide +kernel
theorem dX3_addBondTo_54 : decode cX3_addBondTo 54 = .ok (.aload_n 2, 1) := by decide +kernel
theorem dX3_addBondTo_55 : decode cX3_addBondTo 55 = .ok (.getfield 124, 3) := by decide +kernel
theorem dX3_addBondTo_58 : decode cX3_addBondTo 58 = .ok (.aload_n 0, 1) := by decide +kernel
theorem dX3_addBondTo_59 : decode cX3_addBondTo 59 = .ok (.getfield 26, 3) := by decide +kernel
theorem dX3_addBondTo_62 : decode cX3_addBondTo 62 = .ok (.iload_n 3, 1) := by decide +kernel
theorem dX3_addBondTo_63 : decode cX3_addBondTo 63 = .ok (.iadd, 1) := by decide +kernel
theorem dX3_addBondTo_64 : decode cX3_addBondTo 64 = .ok (.if_icmp .gt 15, 3) := by decide +kernel
theorem dX3_addBondTo_67 : decode cX3_addBondTo 67 = .ok (.aload_n 1, 1) := by decide +kernel
theorem dX3_addBondTo_68 : decode cX3_addBondTo 68 = .ok (.iconst 2, 1) := by decide +kernel
theorem dX3_addBondTo_69 : decode cX3_addBondTo 69 = .ok (.iload_n 3, 1) := by decide +kernel
theorem dX3_addBondTo_70 : decode cX3_addBondTo 70 = .ok (.iadd, 1) := by decide +kernel
theorem dX3_addBondTo_71 : decode cX3_addBondTo 71 = .ok (.dup2, 1) := by decide +kernel
theorem dX3_addBondTo_72 : decode cX3_addBondTo 72 = .ok (.iaload, 1) := by decide +kernel
theorem dX3_addBondTo_73 : decode cX3_addBondTo 73 = .ok (.aload_n 2, 1) := by decide +kernel
theorem dX3_addBondTo_74 : decode cX3_addBondTo 74 = .ok (.getfield 131, 3) := by decide +kernel
theorem dX3_addBondTo_77 : decode cX3_addBondTo 77 = .ok (.iadd, 1) := by decide +kernel
theorem dX3_addBondTo_78 : decode cX3_addBondTo 78 = .ok (.iastore, 1) := by decide +kernel
theorem dX3_addBondTo_79 : decode cX3_addBondTo 79 = .ok (.iinc 3 1, 3) := by decide +kernel
theorem dX3_addBondTo_82 : decode cX3_addBondTo 82 = .ok (.goto (-34), 3) := by decide +kernel
theorem dX3_addBondTo_85 : decode cX3_addBondTo 85 = .ok (.return_, 1) := by decide +kernel
theorem dX3_leastWith_0 : decode cX3_leastWith 0 = .ok (.iload 4, 2) := by decide +kernel
theorem dX3_leastWith_2 : decode cX3_leastWith 2 = .ok (.iload 5, 2) := by decide +kernel
theorem dX3_leastWith_4 : decode cX3_leastWith 4 = .ok (.invokestatic 156, 3) := by decide +kernel
theorem dX3_leastWith_7 : decode cX3_leastWith 7 = .ok (.ifCond .ne 6, 3) := by decide +kernel
theorem dX3_leastWith_10 : decode cX3_leastWith 10 = .ok (.iload 5, 2) := by decide +kernel
theorem dX3_leastWith_12 : decode cX3_leastWith 12 = .ok (.ireturn, 1) := by decide +kernel
theorem dX3_leastWith_13 : decode cX3_leastWith 13 = .ok (.aload_n 0, 1) := by decide +kernel
theorem dX3_leastWith_14 : decode cX3_leastWith 14 = .ok (.iload_n 1, 1) := by decide +kernel
theorem dX3_leastWith_15 : decode cX3_leastWith 15 = .ok (.iload 4, 2) := by decide +kernel
theorem dX3_leastWith_17 : decode cX3_leastWith 17 = .ok (.ior, 1) := by decide +kernel
theorem dX3_leastWith_18 : decode cX3_leastWith 18 = .ok (.invokevirtual 92, 3) := by decide +kernel
theorem dX3_leastWith_21 : decode cX3_leastWith 21 = .ok (.ifCond .eq 6, 3) := by decide +kernel
theorem dX3_leastWith_24 : decode cX3_leastWith 24 = .ok (.iload 4, 2) := by decide +kernel
theorem dX3_leastWith_26 : decode cX3_leastWith 26 = .ok (.ireturn, 1) := by decide +kernel
theorem dX3_leastWith_27 : decode cX3_leastWith 27 = .ok (.iload 5, 2) := by decide +kernel
theorem dX3_leastWith_29 : decode cX3_leastWith 29 = .ok (.istore 6, 2) := by decide +kernel
theorem dX3_leastWith_31 : decode cX3_leastWith 31 = .ok (.iload_n 3, 1) := by decide +kernel
theorem dX3_leastWith_32 : decode cX3_leastWith 32 = .ok (.istore 7, 2) := by decide +kernel
theorem dX3_leastWith_34 : decode cX3_leastWith 34 = .ok (.iload 7, 2) := by decide +kernel
theorem dX3_leastWith_36 : decode cX3_leastWith 36 = .ok (.bipush 12, 2) := by decide +kernel
theorem dX3_leastWith_38 : decode cX3_leastWith 38 = .ok (.if_icmp .ge 39, 3) := by decide +kernel
theorem dX3_leastWith_41 : decode cX3_leastWith 41 = .ok (.iload_n 2, 1) := by decide +kernel
theorem dX3_leastWith_42 : decode cX3_leastWith 42 = .ok (.iconst 1, 1) := by decide +kernel
theorem dX3_leastWith_43 : decode cX3_leastWith 43 = .ok (.iload 7, 2) := by decide +kernel
theorem dX3_leastWith_45 : decode cX3_leastWith 45 = .ok (.ishl, 1) := by decide +kernel
theorem dX3_leastWith_46 : decode cX3_leastWith 46 = .ok (.iand, 1) := by decide +kernel
theorem dX3_leastWith_47 : decode cX3_leastWith 47 = .ok (.ifCond .eq 24, 3) := by decide +kernel
theorem dX3_leastWith_50 : decode cX3_leastWith 50 = .ok (.aload_n 0, 1) := by decide +kernel
theorem dX3_leastWith_51 : decode cX3_leastWith 51 = .ok (.iload_n 1, 1) := by decide +kernel
theorem dX3_leastWith_52 : decode cX3_leastWith 52 = .ok (.iload_n 2, 1) := by decide +kernel
theorem dX3_leastWith_53 : decode cX3_leastWith 53 = .ok (.iload 7, 2) := by decide +kernel
theorem dX3_leastWith_55 : decode cX3_leastWith 55 = .ok (.iconst 1, 1) := by decide +kernel
theorem dX3_leastWith_56 : decode cX3_leastWith 56 = .ok (.iadd, 1) := by decide +kernel
theorem dX3_leastWith_57 : decode cX3_leastWith 57 = .ok (.iload 4, 2) := by decide +kernel
theorem dX3_leastWith_59 : decode cX3_leastWith 59 = .ok (.iconst 1, 1) := by decide +kernel
theorem dX3_leastWith_60 : decode cX3_leastWith 60 = .ok (.iload 7, 2) := by decide +kernel
theorem dX3_leastWith_62 : decode cX3_leastWith 62 = .ok (.ishl, 1) := by decide +kernel
theorem dX3_leastWith_63 : decode cX3_leastWith 63 = .ok (.ior, 1) := by decide +kernel
theorem dX3_leastWith_64 : decode cX3_leastWith 64 = .ok (.iload 6, 2) := by decide +kernel
theorem dX3_leastWith_66 : decode cX3_leastWith 66 = .ok (.invokestatic 152, 3) := by decide +kernel
theorem dX3_leastWith_69 : decode cX3_leastWith 69 = .ok (.istore 6, 2) := by decide +kernel
theorem dX3_leastWith_71 : decode cX3_leastWith 71 = .ok (.iinc 7 1, 3) := by decide +kernel
theorem dX3_leastWith_74 : decode cX3_leastWith 74 = .ok (.goto (-40), 3) := by decide +kernel
theorem dX3_leastWith_77 : decode cX3_leastWith 77 = .ok (.iload 6, 2) := by decide +kernel
theorem dX3_leastWith_79 : decode cX3_leastWith 79 = .ok (.ireturn, 1) := by decide +kernel
theorem dX3_isLess_0 : decode cX3_isLess 0 = .ok (.iload_n 1, 1) := by decide +kernel
theorem dX3_isLess_1 : decode cX3_isLess 1 = .ok (.iconst (-1), 1) := by decide +kernel
theorem dX3_isLess_2 : decode cX3_isLess 2 = .ok (.if_icmp .ne 5, 3) := by decide +kernel
theorem dX3_isLess_5 : decode cX3_isLess 5 = .ok (.iconst 1, 1) := by decide +kernel
theorem dX3_isLess_6 : decode cX3_isLess 6 = .ok (.ireturn, 1) := by decide +kernel
theorem dX3_isLess_7 : decode cX3_isLess 7 = .ok (.iload_n 0, 1) := by decide +kernel
theorem dX3_isLess_8 : decode cX3_isLess 8 = .ok (.invokestatic 218, 3) := by decide +kernel
theorem dX3_isLess_11 : decode cX3_isLess 11 = .ok (.iload_n 1, 1) := by decide +kernel
theorem dX3_isLess_12 : decode cX3_isLess 12 = .ok (.invokestatic 218, 3) := by decide +kernel
theorem dX3_isLess_15 : decode cX3_isLess 15 = .ok (.isub, 1) := by decide +kernel
theorem dX3_isLess_16 : decode cX3_isLess 16 = .ok (.istore_n 2, 1) := by decide +kernel
theorem dX3_isLess_17 : decode cX3_isLess 17 = .ok (.iload_n 2, 1) := by decide +kernel
theorem dX3_isLess_18 : decode cX3_isLess 18 = .ok (.ifCond .lt 12, 3) := by decide +kernel
theorem dX3_isLess_21 : decode cX3_isLess 21 = .ok (.iload_n 2, 1) := by decide +kernel
theorem dX3_isLess_22 : decode cX3_isLess 22 = .ok (.ifCond .ne 12, 3) := by decide +kernel
theorem dX3_isLess_25 : decode cX3_isLess 25 = .ok (.iload_n 0, 1) := by decide +kernel
theorem dX3_isLess_26 : decode cX3_isLess 26 = .ok (.iload_n 1, 1) := by decide +kernel
theorem dX3_isLess_27 : decode cX3_isLess 27 = .ok (.if_icmp .ge 7, 3) := by decide +kernel
theorem dX3_isLess_30 : decode cX3_isLess 30 = .ok (.iconst 1, 1) := by decide +kernel
theorem dX3_isLess_31 : decode cX3_isLess 31 = .ok (.goto 4, 3) := by decide +kernel
theorem dX3_isLess_34 : decode cX3_isLess 34 = .ok (.iconst 0, 1) := by decide +kernel
theorem dX3_isLess_35 : decode cX3_isLess 35 = .ok (.ireturn, 1) := by decide +kernel
