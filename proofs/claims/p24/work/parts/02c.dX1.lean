theorem dX0_init_0 : decode cX0_init 0 = .ok (.aload_n 0, 1) := by decide +kernel
theorem dX0_init_1 : decode cX0_init 1 = .ok (.invokespecial 3, 3) := by decide +kernel
theorem dX0_init_4 : decode cX0_init 4 = .ok (.aload_n 0, 1) := by decide +kernel
theorem dX0_init_5 : decode cX0_init 5 = .ok (.iconst 0, 1) := by decide +kernel
theorem dX0_init_6 : decode cX0_init 6 = .ok (.putfield 9, 3) := by decide +kernel
theorem dX0_init_9 : decode cX0_init 9 = .ok (.aload_n 0, 1) := by decide +kernel
theorem dX0_init_10 : decode cX0_init 10 = .ok (.iconst 0, 1) := by decide +kernel
theorem dX0_init_11 : decode cX0_init 11 = .ok (.putfield 15, 3) := by decide +kernel
theorem dX0_init_14 : decode cX0_init 14 = .ok (.aload_n 0, 1) := by decide +kernel
theorem dX0_init_15 : decode cX0_init 15 = .ok (.iload_n 1, 1) := by decide +kernel
theorem dX0_init_16 : decode cX0_init 16 = .ok (.putfield 19, 3) := by decide +kernel
theorem dX0_init_19 : decode cX0_init 19 = .ok (.aload_n 0, 1) := by decide +kernel
theorem dX0_init_20 : decode cX0_init 20 = .ok (.iload_n 2, 1) := by decide +kernel
theorem dX0_init_21 : decode cX0_init 21 = .ok (.putfield 22, 3) := by decide +kernel
theorem dX0_init_24 : decode cX0_init 24 = .ok (.return_, 1) := by decide +kernel
theorem dX1_init_0 : decode cX1_init 0 = .ok (.aload_n 0, 1) := by decide +kernel
theorem dX1_init_1 : decode cX1_init 1 = .ok (.invokespecial 3, 3) := by decide +kernel
theorem dX1_init_4 : decode cX1_init 4 = .ok (.aload_n 0, 1) := by decide +kernel
theorem dX1_init_5 : decode cX1_init 5 = .ok (.iconst 0, 1) := by decide +kernel
theorem dX1_init_6 : decode cX1_init 6 = .ok (.putfield 9, 3) := by decide +kernel
theorem dX1_init_9 : decode cX1_init 9 = .ok (.aload_n 0, 1) := by decide +kernel
theorem dX1_init_10 : decode cX1_init 10 = .ok (.iconst 0, 1) := by decide +kernel
theorem dX1_init_11 : decode cX1_init 11 = .ok (.putfield 15, 3) := by decide +kernel
theorem dX1_init_14 : decode cX1_init 14 = .ok (.aload_n 0, 1) := by decide +kernel
theorem dX1_init_15 : decode cX1_init 15 = .ok (.iload_n 1, 1) := by decide +kernel
theorem dX1_init_16 : decode cX1_init 16 = .ok (.putfield 18, 3) := by decide +kernel
theorem dX1_init_19 : decode cX1_init 19 = .ok (.aload_n 0, 1) := by decide +kernel
theorem dX1_init_20 : decode cX1_init 20 = .ok (.iload_n 2, 1) := by decide +kernel
theorem dX1_init_21 : decode cX1_init 21 = .ok (.putfield 21, 3) := by decide +kernel
theorem dX1_init_24 : decode cX1_init 24 = .ok (.aload_n 0, 1) := by decide +kernel
theorem dX1_init_25 : decode cX1_init 25 = .ok (.iload_n 3, 1) := by decide +kernel
theorem dX1_init_26 : decode cX1_init 26 = .ok (.putfield 24, 3) := by decide +kernel
theorem dX1_init_29 : decode cX1_init 29 = .ok (.aload_n 0, 1) := by decide +kernel
theorem dX1_init_30 : decode cX1_init 30 = .ok (.iload 4, 2) := by decide +kernel
theorem dX1_init_32 : decode cX1_init 32 = .ok (.putfield 27, 3) := by decide +kernel
theorem dX1_init_35 : decode cX1_init 35 = .ok (.return_, 1) := by decide +kernel
theorem dX2_init_0 : decode cX2_init 0 = .ok (.aload_n 0, 1) := by decide +kernel
theorem dX2_init_1 : decode cX2_init 1 = .ok (.invokespecial 5, 3) := by decide +kernel
theorem dX2_init_4 : decode cX2_init 4 = .ok (.aload_n 0, 1) := by decide +kernel
theorem dX2_init_5 : decode cX2_init 5 = .ok (.bipush 9, 2) := by decide +kernel
theorem dX2_init_7 : decode cX2_init 7 = .ok (.newarray .int, 2) := by decide +kernel
theorem dX2_init_9 : decode cX2_init 9 = .ok (.putfield 11, 3) := by decide +kernel
theorem dX2_init_12 : decode cX2_init 12 = .ok (.aload_n 0, 1) := by decide +kernel
theorem dX2_init_13 : decode cX2_init 13 = .ok (.bipush 12, 2) := by decide +kernel
theorem dX2_init_15 : decode cX2_init 15 = .ok (.bipush 9, 2) := by decide +kernel
theorem dX2_init_17 : decode cX2_init 17 = .ok (.multianewarray 15 2, 4) := by decide +kernel
theorem dX2_init_21 : decode cX2_init 21 = .ok (.putfield 17, 3) := by decide +kernel
theorem dX2_init_24 : decode cX2_init 24 = .ok (.return_, 1) := by decide +kernel
theorem dX2_allHold_0 : decode cX2_allHold 0 = .ok (.iconst 0, 1) := by decide +kernel
theorem dX2_allHold_1 : decode cX2_allHold 1 = .ok (.istore_n 2, 1) := by decide +kernel
theorem dX2_allHold_2 : decode cX2_allHold 2 = .ok (.iload_n 2, 1) := by decide +kernel
theorem dX2_allHold_3 : decode cX2_allHold 3 = .ok (.bipush 9, 2) := by decide +kernel
theorem dX2_allHold_5 : decode cX2_allHold 5 = .ok (.if_icmp .ge 20, 3) := by decide +kernel
theorem dX2_allHold_8 : decode cX2_allHold 8 = .ok (.aload_n 0, 1) := by decide +kernel
theorem dX2_allHold_9 : decode cX2_allHold 9 = .ok (.iload_n 2, 1) := by decide +kernel
theorem dX2_allHold_10 : decode cX2_allHold 10 = .ok (.iload_n 1, 1) := by decide +kernel
theorem dX2_allHold_11 : decode cX2_allHold 11 = .ok (.invokevirtual 20, 3) := by decide +kernel
theorem dX2_allHold_14 : decode cX2_allHold 14 = .ok (.ifCond .le 5, 3) := by decide +kernel
theorem dX2_allHold_17 : decode cX2_allHold 17 = .ok (.iconst 0, 1) := by decide +kernel
theorem dX2_allHold_18 : decode cX2_allHold 18 = .ok (.ireturn, 1) := by decide +kernel
theorem dX2_allHold_19 : decode cX2_allHold 19 = .ok (.iinc 2 1, 3) := by decide +kernel
theorem dX2_allHold_22 : decode cX2_allHold 22 = .ok (.goto (-20), 3) := by decide +kernel
theorem dX2_allHold_25 : decode cX2_allHold 25 = .ok (.iconst 1, 1) := by decide +kernel
theorem dX2_allHold_26 : decode cX2_allHold 26 = .ok (.ireturn, 1) := by decide +kernel
theorem dX2_mostMissing_0 : decode cX2_mostMissing 0 = .ok (.iconst 0, 1) := by decide +kernel
theorem dX2_mostMissing_1 : decode cX2_mostMissing 1 = .ok (.istore_n 3, 1) := by decide +kernel
theorem dX2_mostMissing_2 : decode cX2_mostMissing 2 = .ok (.iconst 0, 1) := by decide +kernel
theorem dX2_mostMissing_3 : decode cX2_mostMissing 3 = .ok (.istore 4, 2) := by decide +kernel
theorem dX2_mostMissing_5 : decode cX2_mostMissing 5 = .ok (.iload 4, 2) := by decide +kernel
theorem dX2_mostMissing_7 : decode cX2_mostMissing 7 = .ok (.bipush 9, 2) := by decide +kernel
theorem dX2_mostMissing_9 : decode cX2_mostMissing 9 = .ok (.if_icmp .ge 30, 3) := by decide +kernel
theorem dX2_mostMissing_12 : decode cX2_mostMissing 12 = .ok (.iload 4, 2) := by decide +kernel
theorem dX2_mostMissing_14 : decode cX2_mostMissing 14 = .ok (.invokestatic 24, 3) := by decide +kernel
theorem dX2_mostMissing_17 : decode cX2_mostMissing 17 = .ok (.iload_n 1, 1) := by decide +kernel
theorem dX2_mostMissing_18 : decode cX2_mostMissing 18 = .ok (.if_icmp .ne 15, 3) := by decide +kernel
theorem dX2_mostMissing_21 : decode cX2_mostMissing 21 = .ok (.iload_n 3, 1) := by decide +kernel
theorem dX2_mostMissing_22 : decode cX2_mostMissing 22 = .ok (.aload_n 0, 1) := by decide +kernel
theorem dX2_mostMissing_23 : decode cX2_mostMissing 23 = .ok (.iload 4, 2) := by decide +kernel
theorem dX2_mostMissing_25 : decode cX2_mostMissing 25 = .ok (.iload_n 2, 1) := by decide +kernel
theorem dX2_mostMissing_26 : decode cX2_mostMissing 26 = .ok (.invokevirtual 20, 3) := by decide +kernel
theorem dX2_mostMissing_29 : decode cX2_mostMissing 29 = .ok (.invokestatic 28, 3) := by decide +kernel
theorem dX2_mostMissing_32 : decode cX2_mostMissing 32 = .ok (.istore_n 3, 1) := by decide +kernel
theorem dX2_mostMissing_33 : decode cX2_mostMissing 33 = .ok (.iinc 4 1, 3) := by decide +kernel
theorem dX2_mostMissing_36 : decode cX2_mostMissing 36 = .ok (.goto (-31), 3) := by decide +kernel
theorem dX2_mostMissing_39 : decode cX2_mostMissing 39 = .ok (.iload_n 3, 1) := by decide +kernel
theorem dX2_mostMissing_40 : decode cX2_mostMissing 40 = .ok (.ireturn, 1) := by decide +kernel
theorem dX2_testOf_0 : decode cX2_testOf 0 = .ok (.iload_n 0, 1) := by decide +kernel
theorem dX2_testOf_1 : decode cX2_testOf 1 = .ok (.ifCond .ne 5, 3) := by decide +kernel
theorem dX2_testOf_4 : decode cX2_testOf 4 = .ok (.iconst 0, 1) := by decide +kernel
theorem dX2_testOf_5 : decode cX2_testOf 5 = .ok (.ireturn, 1) := by decide +kernel
theorem dX2_testOf_6 : decode cX2_testOf 6 = .ok (.iload_n 0, 1) := by decide +kernel
theorem dX2_testOf_7 : decode cX2_testOf 7 = .ok (.iconst 2, 1) := by decide +kernel
theorem dX2_testOf_8 : decode cX2_testOf 8 = .ok (.if_icmp .gt 7, 3) := by decide +kernel
theorem dX2_testOf_11 : decode cX2_testOf 11 = .ok (.iconst 1, 1) := by decide +kernel
theorem dX2_testOf_12 : decode cX2_testOf 12 = .ok (.goto 4, 3) := by decide +kernel
theorem dX2_testOf_15 : decode cX2_testOf 15 = .ok (.iconst 2, 1) := by decide +kernel
theorem dX2_testOf_16 : decode cX2_testOf 16 = .ok (.ireturn, 1) := by decide +kernel
theorem dX2_missing_0 : decode cX2_missing 0 = .ok (.aload_n 0, 1) := by decide +kernel
theorem dX2_missing_1 : decode cX2_missing 1 = .ok (.getfield 11, 3) := by decide +kernel
theorem dX2_missing_4 : decode cX2_missing 4 = .ok (.iload_n 1, 1) := by decide +kernel
theorem dX2_missing_5 : decode cX2_missing 5 = .ok (.iaload, 1) := by decide +kernel
theorem dX2_missing_6 : decode cX2_missing 6 = .ok (.istore_n 3, 1) := by decide +kernel
theorem dX2_missing_7 : decode cX2_missing 7 = .ok (.iconst 0, 1) := by decide +kernel
theorem dX2_missing_8 : decode cX2_missing 8 = .ok (.istore 4, 2) := by decide +kernel
theorem dX2_missing_10 : decode cX2_missing 10 = .ok (.iload 4, 2) := by decide +kernel
theorem dX2_missing_12 : decode cX2_missing 12 = .ok (.bipush 12, 2) := by decide +kernel
theorem dX2_missing_14 : decode cX2_missing 14 = .ok (.if_icmp .ge 30, 3) := by decide +kernel
theorem dX2_missing_17 : decode cX2_missing 17 = .ok (.iload_n 2, 1) := by decide +kernel
theorem dX2_missing_18 : decode cX2_missing 18 = .ok (.iconst 1, 1) := by decide +kernel
theorem dX2_missing_19 : decode cX2_missing 19 = .ok (.iload 4, 2) := by decide +kernel
theorem dX2_missing_21 : decode cX2_missing 21 = .ok (.ishl, 1) := by decide +kernel
theorem dX2_missing_22 : decode cX2_missing 22 = .ok (.iand, 1) := by decide +kernel
theorem dX2_missing_23 : decode cX2_missing 23 = .ok (.ifCond .eq 15, 3) := by decide +kernel
theorem dX2_missing_26 : decode cX2_missing 26 = .ok (.iload_n 3, 1) := by decide +kernel
theorem dX2_missing_27 : decode cX2_missing 27 = .ok (.aload_n 0, 1) := by decide +kernel
theorem dX2_missing_28 : decode cX2_missing 28 = .ok (.getfield 17, 3) := by decide +kernel
theorem dX2_missing_31 : decode cX2_missing 31 = .ok (.iload 4, 2) := by decide +kernel
theorem dX2_missing_33 : decode cX2_missing 33 = .ok (.aaload, 1) := by decide +kernel
theorem dX2_missing_34 : decode cX2_missing 34 = .ok (.iload_n 1, 1) := by decide +kernel
theorem dX2_missing_35 : decode cX2_missing 35 = .ok (.iaload, 1) := by decide +kernel
theorem dX2_missing_36 : decode cX2_missing 36 = .ok (.isub, 1) := by decide +kernel
theorem dX2_missing_37 : decode cX2_missing 37 = .ok (.istore_n 3, 1) := by decide +kernel
theorem dX2_missing_38 : decode cX2_missing 38 = .ok (.iinc 4 1, 3) := by decide +kernel
theorem dX2_missing_41 : decode cX2_missing 41 = .ok (.goto (-31), 3) := by decide +kernel
theorem dX2_missing_44 : decode cX2_missing 44 = .ok (.iload_n 3, 1) := by decide +kernel
theorem dX2_missing_45 : decode cX2_missing 45 = .ok (.ireturn, 1) := by decide +kernel
theorem dX3_init_0 : decode cX3_init 0 = .ok (.aload_n 0, 1) := by decide +kernel
theorem dX3_init_1 : decode cX3_init 1 = .ok (.invokespecial 1, 3) := by decide +kernel
theorem dX3_init_4 : decode cX3_init 4 = .ok (.aload_n 0, 1) := by decide +kernel
theorem dX3_init_5 : decode cX3_init 5 = .ok (.new 7, 3) := by decide +kernel
theorem dX3_init_8 : decode cX3_init 8 = .ok (.dup, 1) := by decide +kernel
theorem dX3_init_9 : decode cX3_init 9 = .ok (.invokespecial 9, 3) := by decide +kernel
theorem dX3_init_12 : decode cX3_init 12 = .ok (.putfield 10, 3) := by decide +kernel
theorem dX3_init_15 : decode cX3_init 15 = .ok (.aload_n 0, 1) := by decide +kernel
theorem dX3_init_16 : decode cX3_init 16 = .ok (.new 7, 3) := by decide +kernel
theorem dX3_init_19 : decode cX3_init 19 = .ok (.dup, 1) := by decide +kernel
theorem dX3_init_20 : decode cX3_init 20 = .ok (.invokespecial 9, 3) := by decide +kernel
theorem dX3_init_23 : decode cX3_init 23 = .ok (.putfield 16, 3) := by decide +kernel
theorem dX3_init_26 : decode cX3_init 26 = .ok (.aload_n 0, 1) := by decide +kernel
theorem dX3_init_27 : decode cX3_init 27 = .ok (.new 19, 3) := by decide +kernel
theorem dX3_init_30 : decode cX3_init 30 = .ok (.dup, 1) := by decide +kernel
theorem dX3_init_31 : decode cX3_init 31 = .ok (.invokespecial 21, 3) := by decide +kernel
theorem dX3_init_34 : decode cX3_init 34 = .ok (.putfield 22, 3) := by decide +kernel
theorem dX3_init_37 : decode cX3_init 37 = .ok (.aload_n 0, 1) := by decide +kernel
theorem dX3_init_38 : decode cX3_init 38 = .ok (.iconst 0, 1) := by decide +kernel
theorem dX3_init_39 : decode cX3_init 39 = .ok (.putfield 26, 3) := by decide +kernel
theorem dX3_init_42 : decode cX3_init 42 = .ok (.aload_n 0, 1) := by decide +kernel
theorem dX3_init_43 : decode cX3_init 43 = .ok (.iconst 0, 1) := by decide +kernel
theorem dX3_init_44 : decode cX3_init 44 = .ok (.putfield 30, 3) := by decide +kernel
theorem dX3_init_47 : decode cX3_init 47 = .ok (.aload_n 0, 1) := by decide +kernel
theorem dX3_init_48 : decode cX3_init 48 = .ok (.iconst 3, 1) := by decide +kernel
theorem dX3_init_49 : decode cX3_init 49 = .ok (.putfield 33, 3) := by decide +kernel
theorem dX3_init_52 : decode cX3_init 52 = .ok (.aload_n 0, 1) := by decide +kernel
theorem dX3_init_53 : decode cX3_init 53 = .ok (.iconst 5, 1) := by decide +kernel
theorem dX3_init_54 : decode cX3_init 54 = .ok (.putfield 36, 3) := by decide +kernel
theorem dX3_init_57 : decode cX3_init 57 = .ok (.aload_n 0, 1) := by decide +kernel
theorem dX3_init_58 : decode cX3_init 58 = .ok (.bipush 6, 2) := by decide +kernel
theorem dX3_init_60 : decode cX3_init 60 = .ok (.putfield 39, 3) := by decide +kernel
theorem dX3_init_63 : decode cX3_init 63 = .ok (.return_, 1) := by decide +kernel
theorem dX3_addLoan_0 : decode cX3_addLoan 0 = .ok (.iload_n 1, 1) := by decide +kernel
theorem dX3_addLoan_1 : decode cX3_addLoan 1 = .ok (.iconst 1, 1) := by decide +kernel
theorem dX3_addLoan_2 : decode cX3_addLoan 2 = .ok (.sipush 10000, 3) := by decide +kernel
theorem dX3_addLoan_5 : decode cX3_addLoan 5 = .ok (.invokestatic 42, 3) := by decide +kernel
theorem dX3_addLoan_8 : decode cX3_addLoan 8 = .ok (.iload_n 2, 1) := by decide +kernel
theorem dX3_addLoan_9 : decode cX3_addLoan 9 = .ok (.iconst 0, 1) := by decide +kernel
theorem dX3_addLoan_10 : decode cX3_addLoan 10 = .ok (.sipush 20000, 3) := by decide +kernel
theorem dX3_addLoan_13 : decode cX3_addLoan 13 = .ok (.invokestatic 42, 3) := by decide +kernel
theorem dX3_addLoan_16 : decode cX3_addLoan 16 = .ok (.iload_n 3, 1) := by decide +kernel
theorem dX3_addLoan_17 : decode cX3_addLoan 17 = .ok (.iconst 1, 1) := by decide +kernel
theorem dX3_addLoan_18 : decode cX3_addLoan 18 = .ok (.iconst 5, 1) := by decide +kernel
theorem dX3_addLoan_19 : decode cX3_addLoan 19 = .ok (.invokestatic 42, 3) := by decide +kernel
theorem dX3_addLoan_22 : decode cX3_addLoan 22 = .ok (.aload_n 0, 1) := by decide +kernel
theorem dX3_addLoan_23 : decode cX3_addLoan 23 = .ok (.iload 4, 2) := by decide +kernel
theorem dX3_addLoan_25 : decode cX3_addLoan 25 = .ok (.invokevirtual 46, 3) := by decide +kernel
theorem dX3_addLoan_28 : decode cX3_addLoan 28 = .ok (.aload_n 0, 1) := by decide +kernel
theorem dX3_addLoan_29 : decode cX3_addLoan 29 = .ok (.getfield 10, 3) := by decide +kernel
theorem dX3_addLoan_32 : decode cX3_addLoan 32 = .ok (.invokevirtual 50, 3) := by decide +kernel
theorem dX3_addLoan_35 : decode cX3_addLoan 35 = .ok (.bipush 12, 2) := by decide +kernel
theorem dX3_addLoan_37 : decode cX3_addLoan 37 = .ok (.if_icmp .lt 13, 3) := by decide +kernel
theorem dX3_addLoan_40 : decode cX3_addLoan 40 = .ok (.new 54, 3) := by decide +kernel
theorem dX3_addLoan_43 : decode cX3_addLoan 43 = .ok (.dup, 1) := by decide +kernel
theorem dX3_addLoan_44 : decode cX3_addLoan 44 = .ok (.ldc 56, 2) := by decide +kernel
theorem dX3_addLoan_46 : decode cX3_addLoan 46 = .ok (.invokespecial 58, 3) := by decide +kernel
theorem dX3_addLoan_49 : decode cX3_addLoan 49 = .ok (.athrow, 1) := by decide +kernel
theorem dX3_addLoan_50 : decode cX3_addLoan 50 = .ok (.aload_n 0, 1) := by decide +kernel
theorem dX3_addLoan_51 : decode cX3_addLoan 51 = .ok (.getfield 10, 3) := by decide +kernel
theorem dX3_addLoan_54 : decode cX3_addLoan 54 = .ok (.new 61, 3) := by decide +kernel
theorem dX3_addLoan_57 : decode cX3_addLoan 57 = .ok (.dup, 1) := by decide +kernel
theorem dX3_addLoan_58 : decode cX3_addLoan 58 = .ok (.iload_n 1, 1) := by decide +kernel
theorem dX3_addLoan_59 : decode cX3_addLoan 59 = .ok (.iload_n 2, 1) := by decide +kernel
theorem dX3_addLoan_60 : decode cX3_addLoan 60 = .ok (.iload_n 3, 1) := by decide +kernel
theorem dX3_addLoan_61 : decode cX3_addLoan 61 = .ok (.iload 4, 2) := by decide +kernel
theorem dX3_addLoan_63 : decode cX3_addLoan 63 = .ok (.invokespecial 63, 3) := by decide +kernel
theorem dX3_addLoan_66 : decode cX3_addLoan 66 = .ok (.invokevirtual 66, 3) := by decide +kernel
theorem dX3_addLoan_69 : decode cX3_addLoan 69 = .ok (.pop, 1) := by decide +kernel
theorem dX3_addLoan_70 : decode cX3_addLoan 70 = .ok (.aload_n 0, 1) := by decide +kernel
theorem dX3_addLoan_71 : decode cX3_addLoan 71 = .ok (.getfield 10, 3) := by decide +kernel
theorem dX3_addLoan_74 : decode cX3_addLoan 74 = .ok (.invokevirtual 50, 3) := by decide +kernel
theorem dX3_addLoan_77 : decode cX3_addLoan 77 = .ok (.iconst 1, 1) := by decide +kernel
theorem dX3_addLoan_78 : decode cX3_addLoan 78 = .ok (.isub, 1) := by decide +kernel
theorem dX3_addLoan_79 : decode cX3_addLoan 79 = .ok (.ireturn, 1) := by decide +kernel
theorem dX3_enter_0 : decode cX3_enter 0 = .ok (.aload_n 0, 1) := by decide +kernel
theorem dX3_enter_1 : decode cX3_enter 1 = .ok (.iload_n 1, 1) := by decide +kernel
theorem dX3_enter_2 : decode cX3_enter 2 = .ok (.invokevirtual 70, 3) := by decide +kernel
theorem dX3_enter_5 : decode cX3_enter 5 = .ok (.astore_n 2, 1) := by decide +kernel
theorem dX3_enter_6 : decode cX3_enter 6 = .ok (.aload_n 2, 1) := by decide +kernel
theorem dX3_enter_7 : decode cX3_enter 7 = .ok (.iconst 0, 1) := by decide +kernel
theorem dX3_enter_8 : decode cX3_enter 8 = .ok (.invokestatic 74, 3) := by decide +kernel
theorem dX3_enter_11 : decode cX3_enter 11 = .ok (.aload_n 2, 1) := by decide +kernel
theorem dX3_enter_12 : decode cX3_enter 12 = .ok (.iconst 1, 1) := by decide +kernel
theorem dX3_enter_13 : decode cX3_enter 13 = .ok (.putfield 78, 3) := by decide +kernel
theorem dX3_enter_16 : decode cX3_enter 16 = .ok (.aload_n 0, 1) := by decide +kernel
theorem dX3_enter_17 : decode cX3_enter 17 = .ok (.aload_n 2, 1) := by decide +kernel
theorem dX3_enter_18 : decode cX3_enter 18 = .ok (.invokevirtual 81, 3) := by decide +kernel
theorem dX3_enter_21 : decode cX3_enter 21 = .ok (.ireturn, 1) := by decide +kernel
theorem dX3_leave_0 : decode cX3_leave 0 = .ok (.aload_n 0, 1) := by decide +kernel
theorem dX3_leave_1 : decode cX3_leave 1 = .ok (.iload_n 1, 1) := by decide +kernel
theorem dX3_leave_2 : decode cX3_leave 2 = .ok (.invokevirtual 70, 3) := by decide +kernel
theorem dX3_leave_5 : decode cX3_leave 5 = .ok (.astore_n 2, 1) := by decide +kernel
theorem dX3_leave_6 : decode cX3_leave 6 = .ok (.aload_n 2, 1) := by decide +kernel
theorem dX3_leave_7 : decode cX3_leave 7 = .ok (.iconst 1, 1) := by decide +kernel
theorem dX3_leave_8 : decode cX3_leave 8 = .ok (.invokestatic 74, 3) := by decide +kernel
theorem dX3_leave_11 : decode cX3_leave 11 = .ok (.aload_n 0, 1) := by decide +kernel
theorem dX3_leave_12 : decode cX3_leave 12 = .ok (.invokevirtual 85, 3) := by decide +kernel
theorem dX3_leave_15 : decode cX3_leave 15 = .ok (.aload_n 0, 1) := by decide +kernel
theorem dX3_leave_16 : decode cX3_leave 16 = .ok (.getfield 22, 3) := by decide +kernel
theorem dX3_leave_19 : decode cX3_leave 19 = .ok (.aload_n 0, 1) := by decide +kernel
theorem dX3_leave_20 : decode cX3_leave 20 = .ok (.iconst 1, 1) := by decide +kernel
theorem dX3_leave_21 : decode cX3_leave 21 = .ok (.invokevirtual 88, 3) := by decide +kernel
theorem dX3_leave_24 : decode cX3_leave 24 = .ok (.iconst 1, 1) := by decide +kernel
theorem dX3_leave_25 : decode cX3_leave 25 = .ok (.iload_n 1, 1) := by decide +kernel
theorem dX3_leave_26 : decode cX3_leave 26 = .ok (.ishl, 1) := by decide +kernel
theorem dX3_leave_27 : decode cX3_leave 27 = .ok (.iconst (-1), 1) := by decide +kernel
theorem dX3_leave_28 : decode cX3_leave 28 = .ok (.ixor, 1) := by decide +kernel
theorem dX3_leave_29 : decode cX3_leave 29 = .ok (.iand, 1) := by decide +kernel
theorem dX3_leave_30 : decode cX3_leave 30 = .ok (.invokevirtual 92, 3) := by decide +kernel
theorem dX3_leave_33 : decode cX3_leave 33 = .ok (.ifCond .ne 5, 3) := by decide +kernel
theorem dX3_leave_36 : decode cX3_leave 36 = .ok (.iconst 0, 1) := by decide +kernel
theorem dX3_leave_37 : decode cX3_leave 37 = .ok (.ireturn, 1) := by decide +kernel
theorem dX3_leave_38 : decode cX3_leave 38 = .ok (.aload_n 2, 1) := by decide +kernel
theorem dX3_leave_39 : decode cX3_leave 39 = .ok (.iconst 0, 1) := by decide +kernel
theorem dX3_leave_40 : decode cX3_leave 40 = .ok (.putfield 78, 3) := by decide +kernel
theorem dX3_leave_43 : decode cX3_leave 43 = .ok (.iconst 1, 1) := by decide +kernel
theorem dX3_leave_44 : decode cX3_leave 44 = .ok (.ireturn, 1) := by decide +kernel
theorem dX3_swap_0 : decode cX3_swap 0 = .ok (.aload_n 0, 1) := by decide +kernel
theorem dX3_swap_1 : decode cX3_swap 1 = .ok (.iload_n 1, 1) := by decide +kernel
theorem dX3_swap_2 : decode cX3_swap 2 = .ok (.invokevirtual 70, 3) := by decide +kernel
theorem dX3_swap_5 : decode cX3_swap 5 = .ok (.astore_n 3, 1) := by decide +kernel
theorem dX3_swap_6 : decode cX3_swap 6 = .ok (.aload_n 0, 1) := by decide +kernel
theorem dX3_swap_7 : decode cX3_swap 7 = .ok (.iload_n 2, 1) := by decide +kernel
theorem dX3_swap_8 : decode cX3_swap 8 = .ok (.invokevirtual 70, 3) := by decide +kernel
theorem dX3_swap_11 : decode cX3_swap 11 = .ok (.astore 4, 2) := by decide +kernel
theorem dX3_swap_13 : decode cX3_swap 13 = .ok (.aload_n 3, 1) := by decide +kernel
theorem dX3_swap_14 : decode cX3_swap 14 = .ok (.iconst 1, 1) := by decide +kernel
theorem dX3_swap_15 : decode cX3_swap 15 = .ok (.invokestatic 74, 3) := by decide +kernel
theorem dX3_swap_18 : decode cX3_swap 18 = .ok (.aload 4, 2) := by decide +kernel
theorem dX3_swap_20 : decode cX3_swap 20 = .ok (.iconst 0, 1) := by decide +kernel
theorem dX3_swap_21 : decode cX3_swap 21 = .ok (.invokestatic 74, 3) := by decide +kernel
theorem dX3_swap_24 : decode cX3_swap 24 = .ok (.aload_n 0, 1) := by decide +kernel
theorem dX3_swap_25 : decode cX3_swap 25 = .ok (.iconst 1, 1) := by decide +kernel
theorem dX3_swap_26 : decode cX3_swap 26 = .ok (.invokevirtual 88, 3) := by decide +kernel
theorem dX3_swap_29 : decode cX3_swap 29 = .ok (.istore 5, 2) := by decide +kernel
theorem dX3_swap_31 : decode cX3_swap 31 = .ok (.iload 5, 2) := by decide +kernel
theorem dX3_swap_33 : decode cX3_swap 33 = .ok (.iconst 1, 1) := by decide +kernel
theorem dX3_swap_34 : decode cX3_swap 34 = .ok (.iload_n 1, 1) := by decide +kernel
theorem dX3_swap_35 : decode cX3_swap 35 = .ok (.ishl, 1) := by decide +kernel
theorem dX3_swap_36 : decode cX3_swap 36 = .ok (.iconst (-1), 1) := by decide +kernel
theorem dX3_swap_37 : decode cX3_swap 37 = .ok (.ixor, 1) := by decide +kernel
theorem dX3_swap_38 : decode cX3_swap 38 = .ok (.iand, 1) := by decide +kernel
theorem dX3_swap_39 : decode cX3_swap 39 = .ok (.iconst 1, 1) := by decide +kernel
theorem dX3_swap_40 : decode cX3_swap 40 = .ok (.iload_n 2, 1) := by decide +kernel
theorem dX3_swap_41 : decode cX3_swap 41 = .ok (.ishl, 1) := by decide +kernel
theorem dX3_swap_42 : decode cX3_swap 42 = .ok (.ior, 1) := by decide +kernel
theorem dX3_swap_43 : decode cX3_swap 43 = .ok (.istore 6, 2) := by decide +kernel
theorem dX3_swap_45 : decode cX3_swap 45 = .ok (.aload_n 0, 1) := by decide +kernel
theorem dX3_swap_46 : decode cX3_swap 46 = .ok (.invokevirtual 85, 3) := by decide +kernel
theorem dX3_swap_49 : decode cX3_swap 49 = .ok (.iconst 0, 1) := by decide +kernel
theorem dX3_swap_50 : decode cX3_swap 50 = .ok (.istore 7, 2) := by decide +kernel
theorem dX3_swap_52 : decode cX3_swap 52 = .ok (.iload 7, 2) := by decide +kernel
theorem dX3_swap_54 : decode cX3_swap 54 = .ok (.iconst 2, 1) := by decide +kernel
theorem dX3_swap_55 : decode cX3_swap 55 = .ok (.if_icmp .gt 39, 3) := by decide +kernel
theorem dX3_swap_58 : decode cX3_swap 58 = .ok (.aload_n 0, 1) := by decide +kernel
theorem dX3_swap_59 : decode cX3_swap 59 = .ok (.getfield 22, 3) := by decide +kernel
theorem dX3_swap_62 : decode cX3_swap 62 = .ok (.iload 7, 2) := by decide +kernel
theorem dX3_swap_64 : decode cX3_swap 64 = .ok (.iload 5, 2) := by decide +kernel
theorem dX3_swap_66 : decode cX3_swap 66 = .ok (.invokevirtual 96, 3) := by decide +kernel
theorem dX3_swap_69 : decode cX3_swap 69 = .ok (.ifCond .ne 19, 3) := by decide +kernel
theorem dX3_swap_72 : decode cX3_swap 72 = .ok (.aload_n 0, 1) := by decide +kernel
theorem dX3_swap_73 : decode cX3_swap 73 = .ok (.getfield 22, 3) := by decide +kernel
theorem dX3_swap_76 : decode cX3_swap 76 = .ok (.iload 7, 2) := by decide +kernel
theorem dX3_swap_78 : decode cX3_swap 78 = .ok (.iload 6, 2) := by decide +kernel
theorem dX3_swap_80 : decode cX3_swap 80 = .ok (.invokevirtual 96, 3) := by decide +kernel
theorem dX3_swap_83 : decode cX3_swap 83 = .ok (.ifCond .le 5, 3) := by decide +kernel
theorem dX3_swap_86 : decode cX3_swap 86 = .ok (.iconst 0, 1) := by decide +kernel
theorem dX3_swap_87 : decode cX3_swap 87 = .ok (.ireturn, 1) := by decide +kernel
theorem dX3_swap_88 : decode cX3_swap 88 = .ok (.iinc 7 1, 3) := by decide +kernel
theorem dX3_swap_91 : decode cX3_swap 91 = .ok (.goto (-39), 3) := by decide +kernel
theorem dX3_swap_94 : decode cX3_swap 94 = .ok (.aload_n 3, 1) := by decide +kernel
theorem dX3_swap_95 : decode cX3_swap 95 = .ok (.iconst 0, 1) := by decide +kernel
theorem dX3_swap_96 : decode cX3_swap 96 = .ok (.putfield 78, 3) := by decide +kernel
theorem dX3_swap_99 : decode cX3_swap 99 = .ok (.aload 4, 2) := by decide +kernel
theorem dX3_swap_101 : decode cX3_swap 101 = .ok (.iconst 1, 1) := by decide +kernel
theorem dX3_swap_102 : decode cX3_swap 102 = .ok (.putfield 78, 3) := by decide +kernel
theorem dX3_swap_105 : decode cX3_swap 105 = .ok (.iconst 1, 1) := by decide +kernel
theorem dX3_swap_106 : decode cX3_swap 106 = .ok (.ireturn, 1) := by decide +kernel
theorem dX3_setArrears_0 : decode cX3_setArrears 0 = .ok (.aload_n 0, 1) := by decide +kernel
theorem dX3_setArrears_1 : decode cX3_setArrears 1 = .ok (.iload_n 1, 1) := by decide +kernel
theorem dX3_setArrears_2 : decode cX3_setArrears 2 = .ok (.invokevirtual 70, 3) := by decide +kernel
theorem dX3_setArrears_5 : decode cX3_setArrears 5 = .ok (.astore_n 3, 1) := by decide +kernel
theorem dX3_setArrears_6 : decode cX3_setArrears 6 = .ok (.iload_n 2, 1) := by decide +kernel
theorem dX3_setArrears_7 : decode cX3_setArrears 7 = .ok (.iconst 0, 1) := by decide +kernel
theorem dX3_setArrears_8 : decode cX3_setArrears 8 = .ok (.bipush 60, 2) := by decide +kernel
theorem dX3_setArrears_10 : decode cX3_setArrears 10 = .ok (.invokestatic 42, 3) := by decide +kernel
theorem dX3_setArrears_13 : decode cX3_setArrears 13 = .ok (.aload_n 3, 1) := by decide +kernel
theorem dX3_setArrears_14 : decode cX3_setArrears 14 = .ok (.getfield 78, 3) := by decide +kernel
theorem dX3_setArrears_17 : decode cX3_setArrears 17 = .ok (.iconst 2, 1) := by decide +kernel
theorem dX3_setArrears_18 : decode cX3_setArrears 18 = .ok (.if_icmp .ne 13, 3) := by decide +kernel
theorem dX3_setArrears_21 : decode cX3_setArrears 21 = .ok (.new 54, 3) := by decide +kernel
theorem dX3_setArrears_24 : decode cX3_setArrears 24 = .ok (.dup, 1) := by decide +kernel
theorem dX3_setArrears_25 : decode cX3_setArrears 25 = .ok (.ldc 100, 2) := by decide +kernel
theorem dX3_setArrears_27 : decode cX3_setArrears 27 = .ok (.invokespecial 58, 3) := by decide +kernel
theorem dX3_setArrears_30 : decode cX3_setArrears 30 = .ok (.athrow, 1) := by decide +kernel
theorem dX3_setArrears_31 : decode cX3_setArrears 31 = .ok (.aload_n 3, 1) := by decide +kernel
theorem dX3_setArrears_32 : decode cX3_setArrears 32 = .ok (.getfield 102, 3) := by decide +kernel
theorem dX3_setArrears_35 : decode cX3_setArrears 35 = .ok (.istore 4, 2) := by decide +kernel
theorem dX3_setArrears_37 : decode cX3_setArrears 37 = .ok (.aload_n 3, 1) := by decide +kernel
theorem dX3_setArrears_38 : decode cX3_setArrears 38 = .ok (.iload_n 2, 1) := by decide +kernel
theorem dX3_setArrears_39 : decode cX3_setArrears 39 = .ok (.putfield 102, 3) := by decide +kernel
theorem dX3_setArrears_42 : decode cX3_setArrears 42 = .ok (.iload 4, 2) := by decide +kernel
theorem dX3_setArrears_44 : decode cX3_setArrears 44 = .ok (.ireturn, 1) := by decide +kernel
theorem dX3_setWorth_0 : decode cX3_setWorth 0 = .ok (.aload_n 0, 1) := by decide +kernel
theorem dX3_setWorth_1 : decode cX3_setWorth 1 = .ok (.iload_n 1, 1) := by decide +kernel
theorem dX3_setWorth_2 : decode cX3_setWorth 2 = .ok (.invokevirtual 70, 3) := by decide +kernel
theorem dX3_setWorth_5 : decode cX3_setWorth 5 = .ok (.astore_n 3, 1) := by decide +kernel
theorem dX3_setWorth_6 : decode cX3_setWorth 6 = .ok (.iload_n 2, 1) := by decide +kernel
theorem dX3_setWorth_7 : decode cX3_setWorth 7 = .ok (.iconst 0, 1) := by decide +kernel
theorem dX3_setWorth_8 : decode cX3_setWorth 8 = .ok (.sipush 20000, 3) := by decide +kernel
theorem dX3_setWorth_11 : decode cX3_setWorth 11 = .ok (.invokestatic 42, 3) := by decide +kernel
theorem dX3_setWorth_14 : decode cX3_setWorth 14 = .ok (.aload_n 3, 1) := by decide +kernel
theorem dX3_setWorth_15 : decode cX3_setWorth 15 = .ok (.getfield 105, 3) := by decide +kernel
theorem dX3_setWorth_18 : decode cX3_setWorth 18 = .ok (.istore 4, 2) := by decide +kernel
theorem dX3_setWorth_20 : decode cX3_setWorth 20 = .ok (.aload_n 3, 1) := by decide +kernel
theorem dX3_setWorth_21 : decode cX3_setWorth 21 = .ok (.iload_n 2, 1) := by decide +kernel
theorem dX3_setWorth_22 : decode cX3_setWorth 22 = .ok (.putfield 105, 3) := by decide +kernel
theorem dX3_setWorth_25 : decode cX3_setWorth 25 = .ok (.iload 4, 2) := by decide +kernel
theorem dX3_setWorth_27 : decode cX3_setWorth 27 = .ok (.ireturn, 1) := by decide +kernel
theorem dX3_stateOf_0 : decode cX3_stateOf 0 = .ok (.aload_n 0, 1) := by decide +kernel
theorem dX3_stateOf_1 : decode cX3_stateOf 1 = .ok (.iload_n 1, 1) := by decide +kernel
theorem dX3_stateOf_2 : decode cX3_stateOf 2 = .ok (.invokevirtual 70, 3) := by decide +kernel
theorem dX3_stateOf_5 : decode cX3_stateOf 5 = .ok (.getfield 78, 3) := by decide +kernel
theorem dX3_stateOf_8 : decode cX3_stateOf 8 = .ok (.ireturn, 1) := by decide +kernel
theorem dX3_counts_0 : decode cX3_counts 0 = .ok (.aload_n 0, 1) := by decide +kernel
theorem dX3_counts_1 : decode cX3_counts 1 = .ok (.aload_n 0, 1) := by decide +kernel
theorem dX3_counts_2 : decode cX3_counts 2 = .ok (.iload_n 1, 1) := by decide +kernel
theorem dX3_counts_3 : decode cX3_counts 3 = .ok (.invokevirtual 70, 3) := by decide +kernel
theorem dX3_counts_6 : decode cX3_counts 6 = .ok (.invokevirtual 81, 3) := by decide +kernel
theorem dX3_counts_9 : decode cX3_counts 9 = .ok (.ireturn, 1) := by decide +kernel
theorem dX3_addBond_0 : decode cX3_addBond 0 = .ok (.iload_n 1, 1) := by decide +kernel
theorem dX3_addBond_1 : decode cX3_addBond 1 = .ok (.iconst 1, 1) := by decide +kernel
theorem dX3_addBond_2 : decode cX3_addBond 2 = .ok (.ldc 108, 2) := by decide +kernel
theorem dX3_addBond_4 : decode cX3_addBond 4 = .ok (.invokestatic 42, 3) := by decide +kernel
theorem dX3_addBond_7 : decode cX3_addBond 7 = .ok (.aload_n 0, 1) := by decide +kernel
theorem dX3_addBond_8 : decode cX3_addBond 8 = .ok (.iload_n 2, 1) := by decide +kernel
theorem dX3_addBond_9 : decode cX3_addBond 9 = .ok (.invokevirtual 46, 3) := by decide +kernel
theorem dX3_addBond_12 : decode cX3_addBond 12 = .ok (.aload_n 0, 1) := by decide +kernel
theorem dX3_addBond_13 : decode cX3_addBond 13 = .ok (.getfield 16, 3) := by decide +kernel
theorem dX3_addBond_16 : decode cX3_addBond 16 = .ok (.invokevirtual 50, 3) := by decide +kernel
theorem dX3_addBond_19 : decode cX3_addBond 19 = .ok (.iconst 5, 1) := by decide +kernel
theorem dX3_addBond_20 : decode cX3_addBond 20 = .ok (.if_icmp .lt 13, 3) := by decide +kernel
theorem dX3_addBond_23 : decode cX3_addBond 23 = .ok (.new 54, 3) := by decide +kernel
theorem dX3_addBond_26 : decode cX3_addBond 26 = .ok (.dup, 1) := by decide +kernel
theorem dX3_addBond_27 : decode cX3_addBond 27 = .ok (.ldc 109, 2) := by decide +kernel
theorem dX3_addBond_29 : decode cX3_addBond 29 = .ok (.invokespecial 58, 3) := by decide +kernel
theorem dX3_addBond_32 : decode cX3_addBond 32 = .ok (.athrow, 1) := by decide +kernel
theorem dX3_addBond_33 : decode cX3_addBond 33 = .ok (.aload_n 0, 1) := by decide +kernel
theorem dX3_addBond_34 : decode cX3_addBond 34 = .ok (.getfield 16, 3) := by decide +kernel
theorem dX3_addBond_37 : decode cX3_addBond 37 = .ok (.new 111, 3) := by decide +kernel
theorem dX3_addBond_40 : decode cX3_addBond 40 = .ok (.dup, 1) := by decide +kernel
theorem dX3_addBond_41 : decode cX3_addBond 41 = .ok (.iload_n 1, 1) := by decide +kernel
theorem dX3_addBond_42 : decode cX3_addBond 42 = .ok (.iload_n 2, 1) := by decide +kernel
theorem dX3_addBond_43 : decode cX3_addBond 43 = .ok (.invokespecial 113, 3) := by decide +kernel
theorem dX3_addBond_46 : decode cX3_addBond 46 = .ok (.invokevirtual 66, 3) := by decide +kernel
theorem dX3_addBond_49 : decode cX3_addBond 49 = .ok (.pop, 1) := by decide +kernel
theorem dX3_addBond_50 : decode cX3_addBond 50 = .ok (.aload_n 0, 1) := by decide +kernel
theorem dX3_addBond_51 : decode cX3_addBond 51 = .ok (.dup, 1) := by decide +kernel
theorem dX3_addBond_52 : decode cX3_addBond 52 = .ok (.getfield 30, 3) := by decide +kernel
theorem dX3_addBond_55 : decode cX3_addBond 55 = .ok (.iload_n 1, 1) := by decide +kernel
theorem dX3_addBond_56 : decode cX3_addBond 56 = .ok (.iadd, 1) := by decide +kernel
theorem dX3_addBond_57 : decode cX3_addBond 57 = .ok (.putfield 30, 3) := by decide +kernel
theorem dX3_addBond_60 : decode cX3_addBond 60 = .ok (.aload_n 0, 1) := by decide +kernel
theorem dX3_addBond_61 : decode cX3_addBond 61 = .ok (.getfield 16, 3) := by decide +kernel
theorem dX3_addBond_64 : decode cX3_addBond 64 = .ok (.invokevirtual 50, 3) := by decide +kernel
theorem dX3_addBond_67 : decode cX3_addBond 67 = .ok (.iconst 1, 1) := by decide +kernel
theorem dX3_addBond_68 : decode cX3_addBond 68 = .ok (.isub, 1) := by decide +kernel
theorem dX3_addBond_69 : decode cX3_addBond 69 = .ok (.ireturn, 1) := by decide +kernel
theorem dX3_takeCash_0 : decode cX3_takeCash 0 = .ok (.iload_n 1, 1) := by decide +kernel
theorem dX3_takeCash_1 : decode cX3_takeCash 1 = .ok (.iconst 1, 1) := by decide +kernel
theorem dX3_takeCash_2 : decode cX3_takeCash 2 = .ok (.ldc 116, 2) := by decide +kernel
theorem dX3_takeCash_4 : decode cX3_takeCash 4 = .ok (.invokestatic 42, 3) := by decide +kernel
theorem dX3_takeCash_7 : decode cX3_takeCash 7 = .ok (.aload_n 0, 1) := by decide +kernel
theorem dX3_takeCash_8 : decode cX3_takeCash 8 = .ok (.getfield 30, 3) := by decide +kernel
theorem dX3_takeCash_11 : decode cX3_takeCash 11 = .ok (.iload_n 1, 1) := by decide +kernel
theorem dX3_takeCash_12 : decode cX3_takeCash 12 = .ok (.if_icmp .ge 13, 3) := by decide +kernel
theorem dX3_takeCash_15 : decode cX3_takeCash 15 = .ok (.new 54, 3) := by decide +kernel
theorem dX3_takeCash_18 : decode cX3_takeCash 18 = .ok (.dup, 1) := by decide +kernel
theorem dX3_takeCash_19 : decode cX3_takeCash 19 = .ok (.ldc 117, 2) := by decide +kernel
theorem dX3_takeCash_21 : decode cX3_takeCash 21 = .ok (.invokespecial 58, 3) := by decide +kernel
theorem dX3_takeCash_24 : decode cX3_takeCash 24 = .ok (.athrow, 1) := by decide +kernel
theorem dX3_takeCash_25 : decode cX3_takeCash 25 = .ok (.aload_n 0, 1) := by decide +kernel
theorem dX3_takeCash_26 : decode cX3_takeCash 26 = .ok (.dup, 1) := by decide +kernel
theorem dX3_takeCash_27 : decode cX3_takeCash 27 = .ok (.getfield 30, 3) := by decide +kernel
theorem dX3_takeCash_30 : decode cX3_takeCash 30 = .ok (.iload_n 1, 1) := by decide +kernel
theorem dX3_takeCash_31 : decode cX3_takeCash 31 = .ok (.isub, 1) := by decide +kernel
theorem dX3_takeCash_32 : decode cX3_takeCash 32 = .ok (.putfield 30, 3) := by decide +kernel
theorem dX3_takeCash_35 : decode cX3_takeCash 35 = .ok (.aload_n 0, 1) := by decide +kernel
theorem dX3_takeCash_36 : decode cX3_takeCash 36 = .ok (.getfield 30, 3) := by decide +kernel
theorem dX3_takeCash_39 : decode cX3_takeCash 39 = .ok (.ireturn, 1) := by decide +kernel
theorem dX3_setRules_0 : decode cX3_setRules 0 = .ok (.iload_n 1, 1) := by decide +kernel
theorem dX3_setRules_1 : decode cX3_setRules 1 = .ok (.iconst 1, 1) := by decide +kernel
theorem dX3_setRules_2 : decode cX3_setRules 2 = .ok (.iconst 5, 1) := by decide +kernel
theorem dX3_setRules_3 : decode cX3_setRules 3 = .ok (.invokestatic 42, 3) := by decide +kernel
theorem dX3_setRules_6 : decode cX3_setRules 6 = .ok (.iload_n 2, 1) := by decide +kernel
theorem dX3_setRules_7 : decode cX3_setRules 7 = .ok (.iconst 0, 1) := by decide +kernel
theorem dX3_setRules_8 : decode cX3_setRules 8 = .ok (.bipush 50, 2) := by decide +kernel
theorem dX3_setRules_10 : decode cX3_setRules 10 = .ok (.invokestatic 42, 3) := by decide +kernel
theorem dX3_setRules_13 : decode cX3_setRules 13 = .ok (.iload_n 3, 1) := by decide +kernel
theorem dX3_setRules_14 : decode cX3_setRules 14 = .ok (.iconst 0, 1) := by decide +kernel
theorem dX3_setRules_15 : decode cX3_setRules 15 = .ok (.bipush 20, 2) := by decide +kernel
theorem dX3_setRules_17 : decode cX3_setRules 17 = .ok (.invokestatic 42, 3) := by decide +kernel
theorem dX3_setRules_20 : decode cX3_setRules 20 = .ok (.aload_n 0, 1) := by decide +kernel
theorem dX3_setRules_21 : decode cX3_setRules 21 = .ok (.iload_n 1, 1) := by decide +kernel
theorem dX3_setRules_22 : decode cX3_setRules 22 = .ok (.putfield 33, 3) := by decide +kernel
theorem dX3_setRules_25 : decode cX3_setRules 25 = .ok (.aload_n 0, 1) := by decide +kernel
theorem dX3_setRules_26 : decode cX3_setRules 26 = .ok (.iload_n 2, 1) := by decide +kernel
theorem dX3_setRules_27 : decode cX3_setRules 27 = .ok (.putfield 36, 3) := by decide +kernel
theorem dX3_setRules_30 : decode cX3_setRules 30 = .ok (.aload_n 0, 1) := by decide +kernel
theorem dX3_setRules_31 : decode cX3_setRules 31 = .ok (.iload_n 3, 1) := by decide +kernel
theorem dX3_setRules_32 : decode cX3_setRules 32 = .ok (.putfield 39, 3) := by decide +kernel
theorem dX3_setRules_35 : decode cX3_setRules 35 = .ok (.return_, 1) := by decide +kernel
theorem dX3_bondState_0 : decode cX3_bondState 0 = .ok (.aload_n 0, 1) := by decide +kernel
theorem dX3_bondState_1 : decode cX3_bondState 1 = .ok (.iload_n 1, 1) := by decide +kernel
theorem dX3_bondState_2 : decode cX3_bondState 2 = .ok (.invokevirtual 119, 3) := by decide +kernel
theorem dX3_bondState_5 : decode cX3_bondState 5 = .ok (.getfield 123, 3) := by decide +kernel
theorem dX3_bondState_8 : decode cX3_bondState 8 = .ok (.ireturn, 1) := by decide +kernel
theorem dX3_dueOf_0 : decode cX3_dueOf 0 = .ok (.aload_n 0, 1) := by decide +kernel
theorem dX3_dueOf_1 : decode cX3_dueOf 1 = .ok (.iload_n 1, 1) := by decide +kernel
theorem dX3_dueOf_2 : decode cX3_dueOf 2 = .ok (.invokevirtual 119, 3) := by decide +kernel
theorem dX3_dueOf_5 : decode cX3_dueOf 5 = .ok (.getfield 124, 3) := by decide +kernel
theorem dX3_dueOf_8 : decode cX3_dueOf 8 = .ok (.ireturn, 1) := by decide +kernel
theorem dX3_cash_0 : decode cX3_cash 0 = .ok (.aload_n 0, 1) := by decide +kernel
theorem dX3_cash_1 : decode cX3_cash 1 = .ok (.getfield 30, 3) := by decide +kernel
theorem dX3_cash_4 : decode cX3_cash 4 = .ok (.ireturn, 1) := by decide +kernel
theorem dX3_debt_0 : decode cX3_debt 0 = .ok (.iconst 0, 1) := by decide +kernel
theorem dX3_debt_1 : decode cX3_debt 1 = .ok (.istore_n 1, 1) := by decide +kernel
theorem dX3_debt_2 : decode cX3_debt 2 = .ok (.iconst 0, 1) := by decide +kernel
theorem dX3_debt_3 : decode cX3_debt 3 = .ok (.istore_n 2, 1) := by decide +kernel
theorem dX3_debt_4 : decode cX3_debt 4 = .ok (.iload_n 2, 1) := by decide +kernel
theorem dX3_debt_5 : decode cX3_debt 5 = .ok (.aload_n 0, 1) := by decide +kernel
theorem dX3_debt_6 : decode cX3_debt 6 = .ok (.getfield 16, 3) := by decide +kernel
theorem dX3_debt_9 : decode cX3_debt 9 = .ok (.invokevirtual 50, 3) := by decide +kernel
theorem dX3_debt_12 : decode cX3_debt 12 = .ok (.if_icmp .ge 35, 3) := by decide +kernel
theorem dX3_debt_15 : decode cX3_debt 15 = .ok (.aload_n 0, 1) := by decide +kernel
theorem dX3_debt_16 : decode cX3_debt 16 = .ok (.getfield 16, 3) := by decide +kernel
theorem dX3_debt_19 : decode cX3_debt 19 = .ok (.iload_n 2, 1) := by decide +kernel
theorem dX3_debt_20 : decode cX3_debt 20 = .ok (.invokevirtual 127, 3) := by decide +kernel
theorem dX3_debt_23 : decode cX3_debt 23 = .ok (.checkcast 111, 3) := by decide +kernel
theorem dX3_debt_26 : decode cX3_debt 26 = .ok (.astore_n 3, 1) := by decide +kernel
theorem dX3_debt_27 : decode cX3_debt 27 = .ok (.aload_n 3, 1) := by decide +kernel
theorem dX3_debt_28 : decode cX3_debt 28 = .ok (.getfield 123, 3) := by decide +kernel
theorem dX3_debt_31 : decode cX3_debt 31 = .ok (.ifCond .ne 10, 3) := by decide +kernel
theorem dX3_debt_34 : decode cX3_debt 34 = .ok (.iload_n 1, 1) := by decide +kernel
theorem dX3_debt_35 : decode cX3_debt 35 = .ok (.aload_n 3, 1) := by decide +kernel
theorem dX3_debt_36 : decode cX3_debt 36 = .ok (.getfield 131, 3) := by decide +kernel
theorem dX3_debt_39 : decode cX3_debt 39 = .ok (.iadd, 1) := by decide +kernel
theorem dX3_debt_40 : decode cX3_debt 40 = .ok (.istore_n 1, 1) := by decide +kernel
theorem dX3_debt_41 : decode cX3_debt 41 = .ok (.iinc 2 1, 3) := by decide +kernel
theorem dX3_debt_44 : decode cX3_debt 44 = .ok (.goto (-40), 3) := by decide +kernel
theorem dX3_debt_47 : decode cX3_debt 47 = .ok (.iload_n 1, 1) := by decide +kernel
theorem dX3_debt_48 : decode cX3_debt 48 = .ok (.ireturn, 1) := by decide +kernel
theorem dX3_substitutes_0 : decode cX3_substitutes 0 = .ok (.aload_n 0, 1) := by decide +kernel
theorem dX3_substitutes_1 : decode cX3_substitutes 1 = .ok (.getfield 30, 3) := by decide +kernel
theorem dX3_substitutes_4 : decode cX3_substitutes 4 = .ok (.aload_n 0, 1) := by decide +kernel
theorem dX3_substitutes_5 : decode cX3_substitutes 5 = .ok (.invokevirtual 134, 3) := by decide +kernel
theorem dX3_substitutes_8 : decode cX3_substitutes 8 = .ok (.bipush 15, 2) := by decide +kernel
theorem dX3_substitutes_10 : decode cX3_substitutes 10 = .ok (.imul, 1) := by decide +kernel
theorem dX3_substitutes_11 : decode cX3_substitutes 11 = .ok (.bipush 100, 2) := by decide +kernel
theorem dX3_substitutes_13 : decode cX3_substitutes 13 = .ok (.idiv, 1) := by decide +kernel
theorem dX3_substitutes_14 : decode cX3_substitutes 14 = .ok (.invokestatic 137, 3) := by decide +kernel
theorem dX3_substitutes_17 : decode cX3_substitutes 17 = .ok (.ireturn, 1) := by decide +kernel
theorem dX3_pass_0 : decode cX3_pass 0 = .ok (.iload_n 1, 1) := by decide +kernel
theorem dX3_pass_1 : decode cX3_pass 1 = .ok (.iconst 1, 1) := by decide +kernel
theorem dX3_pass_2 : decode cX3_pass 2 = .ok (.bipush 24, 2) := by decide +kernel
theorem dX3_pass_4 : decode cX3_pass 4 = .ok (.invokestatic 42, 3) := by decide +kernel
theorem dX3_pass_7 : decode cX3_pass 7 = .ok (.iconst 0, 1) := by decide +kernel
theorem dX3_pass_8 : decode cX3_pass 8 = .ok (.istore_n 2, 1) := by decide +kernel
theorem dX3_pass_9 : decode cX3_pass 9 = .ok (.iload_n 2, 1) := by decide +kernel
theorem dX3_pass_10 : decode cX3_pass 10 = .ok (.iload_n 1, 1) := by decide +kernel
theorem dX3_pass_11 : decode cX3_pass 11 = .ok (.if_icmp .ge 27, 3) := by decide +kernel
theorem dX3_pass_14 : decode cX3_pass 14 = .ok (.aload_n 0, 1) := by decide +kernel
theorem dX3_pass_15 : decode cX3_pass 15 = .ok (.dup, 1) := by decide +kernel
theorem dX3_pass_16 : decode cX3_pass 16 = .ok (.getfield 26, 3) := by decide +kernel
theorem dX3_pass_19 : decode cX3_pass 19 = .ok (.iconst 1, 1) := by decide +kernel
theorem dX3_pass_20 : decode cX3_pass 20 = .ok (.iadd, 1) := by decide +kernel
theorem dX3_pass_21 : decode cX3_pass 21 = .ok (.putfield 26, 3) := by decide +kernel
theorem dX3_pass_24 : decode cX3_pass 24 = .ok (.aload_n 0, 1) := by decide +kernel
theorem dX3_pass_25 : decode cX3_pass 25 = .ok (.invokevirtual 142, 3) := by decide +kernel
theorem dX3_pass_28 : decode cX3_pass 28 = .ok (.aload_n 0, 1) := by decide +kernel
theorem dX3_pass_29 : decode cX3_pass 29 = .ok (.invokevirtual 145, 3) := by decide +kernel
theorem dX3_pass_32 : decode cX3_pass 32 = .ok (.iinc 2 1, 3) := by decide +kernel
theorem dX3_pass_35 : decode cX3_pass 35 = .ok (.goto (-26), 3) := by decide +kernel
theorem dX3_pass_38 : decode cX3_pass 38 = .ok (.aload_n 0, 1) := by decide +kernel
theorem dX3_pass_39 : decode cX3_pass 39 = .ok (.getfield 26, 3) := by decide +kernel
theorem dX3_pass_42 : decode cX3_pass 42 = .ok (.ireturn, 1) := by decide +kernel
theorem dX3_holds_0 : decode cX3_holds 0 = .ok (.aload_n 0, 1) := by decide +kernel
theorem dX3_holds_1 : decode cX3_holds 1 = .ok (.iload_n 1, 1) := by decide +kernel
theorem dX3_holds_2 : decode cX3_holds 2 = .ok (.invokevirtual 148, 3) := by decide +kernel
theorem dX3_holds_5 : decode cX3_holds 5 = .ok (.lconst 0, 1) := by decide +kernel
theorem dX3_holds_6 : decode cX3_holds 6 = .ok (.lcmp, 1) := by decide +kernel
theorem dX3_holds_7 : decode cX3_holds 7 = .ok (.ifCond .ne 7, 3) := by decide +kernel
theorem dX3_holds_10 : decode cX3_holds 10 = .ok (.iconst 1, 1) := by decide +kernel
theorem dX3_holds_11 : decode cX3_holds 11 = .ok (.goto 4, 3) := by decide +kernel
theorem dX3_holds_14 : decode cX3_holds 14 = .ok (.iconst 0, 1) := by decide +kernel
theorem dX3_holds_15 : decode cX3_holds 15 = .ok (.ireturn, 1) := by decide +kernel
theorem dX3_lacking_0 : decode cX3_lacking 0 = .ok (.iload_n 1, 1) := by decide +kernel
theorem dX3_lacking_1 : decode cX3_lacking 1 = .ok (.iconst 0, 1) := by decide +kernel
theorem dX3_lacking_2 : decode cX3_lacking 2 = .ok (.iconst 2, 1) := by decide +kernel
theorem dX3_lacking_3 : decode cX3_lacking 3 = .ok (.invokestatic 42, 3) := by decide +kernel
theorem dX3_lacking_6 : decode cX3_lacking 6 = .ok (.aload_n 0, 1) := by decide +kernel
theorem dX3_lacking_7 : decode cX3_lacking 7 = .ok (.invokevirtual 85, 3) := by decide +kernel
theorem dX3_lacking_10 : decode cX3_lacking 10 = .ok (.aload_n 0, 1) := by decide +kernel
theorem dX3_lacking_11 : decode cX3_lacking 11 = .ok (.getfield 22, 3) := by decide +kernel
theorem dX3_lacking_14 : decode cX3_lacking 14 = .ok (.iload_n 1, 1) := by decide +kernel
theorem dX3_lacking_15 : decode cX3_lacking 15 = .ok (.aload_n 0, 1) := by decide +kernel
theorem dX3_lacking_16 : decode cX3_lacking 16 = .ok (.iconst 1, 1) := by decide +kernel
theorem dX3_lacking_17 : decode cX3_lacking 17 = .ok (.invokevirtual 88, 3) := by decide +kernel
theorem dX3_lacking_20 : decode cX3_lacking 20 = .ok (.invokevirtual 96, 3) := by decide +kernel
theorem dX3_lacking_23 : decode cX3_lacking 23 = .ok (.i2l, 1) := by decide +kernel
theorem dX3_lacking_24 : decode cX3_lacking 24 = .ok (.lreturn, 1) := by decide +kernel
theorem dX3_leastToAdd_0 : decode cX3_leastToAdd 0 = .ok (.aload_n 0, 1) := by decide +kernel
theorem dX3_leastToAdd_1 : decode cX3_leastToAdd 1 = .ok (.invokevirtual 85, 3) := by decide +kernel
theorem dX3_leastToAdd_4 : decode cX3_leastToAdd 4 = .ok (.aload_n 0, 1) := by decide +kernel
theorem dX3_leastToAdd_5 : decode cX3_leastToAdd 5 = .ok (.getfield 22, 3) := by decide +kernel
theorem dX3_leastToAdd_8 : decode cX3_leastToAdd 8 = .ok (.aload_n 0, 1) := by decide +kernel
theorem dX3_leastToAdd_9 : decode cX3_leastToAdd 9 = .ok (.iconst 1, 1) := by decide +kernel
theorem dX3_leastToAdd_10 : decode cX3_leastToAdd 10 = .ok (.invokevirtual 88, 3) := by decide +kernel
theorem dX3_leastToAdd_13 : decode cX3_leastToAdd 13 = .ok (.aload_n 0, 1) := by decide +kernel
theorem dX3_leastToAdd_14 : decode cX3_leastToAdd 14 = .ok (.iconst 0, 1) := by decide +kernel
