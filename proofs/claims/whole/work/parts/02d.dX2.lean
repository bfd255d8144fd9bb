theorem dX4_isWithin_15 : decode cX4_isWithin 15 = .ok (.ireturn, 1) := by decide +kernel
theorem dX4_isLoan_0 : decode cX4_isLoan 0 = .ok (.iload_n 1, 1) := by decide +kernel
theorem dX4_isLoan_1 : decode cX4_isLoan 1 = .ok (.ifCond .lt 15, 3) := by decide +kernel
theorem dX4_isLoan_4 : decode cX4_isLoan 4 = .ok (.iload_n 1, 1) := by decide +kernel
theorem dX4_isLoan_5 : decode cX4_isLoan 5 = .ok (.aload_n 0, 1) := by decide +kernel
theorem dX4_isLoan_6 : decode cX4_isLoan 6 = .ok (.getfield 54, 3) := by decide +kernel
theorem dX4_isLoan_9 : decode cX4_isLoan 9 = .ok (.if_icmp .ge 7, 3) := by decide +kernel
theorem dX4_isLoan_12 : decode cX4_isLoan 12 = .ok (.iconst 1, 1) := by decide +kernel
theorem dX4_isLoan_13 : decode cX4_isLoan 13 = .ok (.goto 4, 3) := by decide +kernel
theorem dX4_isLoan_16 : decode cX4_isLoan 16 = .ok (.iconst 0, 1) := by decide +kernel
theorem dX4_isLoan_17 : decode cX4_isLoan 17 = .ok (.ireturn, 1) := by decide +kernel
theorem dX4_isBond_0 : decode cX4_isBond 0 = .ok (.iload_n 1, 1) := by decide +kernel
theorem dX4_isBond_1 : decode cX4_isBond 1 = .ok (.ifCond .lt 15, 3) := by decide +kernel
theorem dX4_isBond_4 : decode cX4_isBond 4 = .ok (.iload_n 1, 1) := by decide +kernel
theorem dX4_isBond_5 : decode cX4_isBond 5 = .ok (.aload_n 0, 1) := by decide +kernel
theorem dX4_isBond_6 : decode cX4_isBond 6 = .ok (.getfield 57, 3) := by decide +kernel
theorem dX4_isBond_9 : decode cX4_isBond 9 = .ok (.if_icmp .ge 7, 3) := by decide +kernel
theorem dX4_isBond_12 : decode cX4_isBond 12 = .ok (.iconst 1, 1) := by decide +kernel
theorem dX4_isBond_13 : decode cX4_isBond 13 = .ok (.goto 4, 3) := by decide +kernel
theorem dX4_isBond_16 : decode cX4_isBond 16 = .ok (.iconst 0, 1) := by decide +kernel
theorem dX4_isBond_17 : decode cX4_isBond 17 = .ok (.ireturn, 1) := by decide +kernel
theorem dX4_countOf_0 : decode cX4_countOf 0 = .ok (.aload_n 0, 1) := by decide +kernel
theorem dX4_countOf_1 : decode cX4_countOf 1 = .ok (.getfield 23, 3) := by decide +kernel
theorem dX4_countOf_4 : decode cX4_countOf 4 = .ok (.iload_n 1, 1) := by decide +kernel
theorem dX4_countOf_5 : decode cX4_countOf 5 = .ok (.iaload, 1) := by decide +kernel
theorem dX4_countOf_6 : decode cX4_countOf 6 = .ok (.bipush 80, 2) := by decide +kernel
theorem dX4_countOf_8 : decode cX4_countOf 8 = .ok (.imul, 1) := by decide +kernel
theorem dX4_countOf_9 : decode cX4_countOf 9 = .ok (.bipush 100, 2) := by decide +kernel
theorem dX4_countOf_11 : decode cX4_countOf 11 = .ok (.idiv, 1) := by decide +kernel
theorem dX4_countOf_12 : decode cX4_countOf 12 = .ok (.istore_n 2, 1) := by decide +kernel
theorem dX4_countOf_13 : decode cX4_countOf 13 = .ok (.iload_n 2, 1) := by decide +kernel
theorem dX4_countOf_14 : decode cX4_countOf 14 = .ok (.aload_n 0, 1) := by decide +kernel
theorem dX4_countOf_15 : decode cX4_countOf 15 = .ok (.getfield 19, 3) := by decide +kernel
theorem dX4_countOf_18 : decode cX4_countOf 18 = .ok (.iload_n 1, 1) := by decide +kernel
theorem dX4_countOf_19 : decode cX4_countOf 19 = .ok (.iaload, 1) := by decide +kernel
theorem dX4_countOf_20 : decode cX4_countOf 20 = .ok (.if_icmp .ge 7, 3) := by decide +kernel
theorem dX4_countOf_23 : decode cX4_countOf 23 = .ok (.iload_n 2, 1) := by decide +kernel
theorem dX4_countOf_24 : decode cX4_countOf 24 = .ok (.goto 9, 3) := by decide +kernel
theorem dX4_countOf_27 : decode cX4_countOf 27 = .ok (.aload_n 0, 1) := by decide +kernel
theorem dX4_countOf_28 : decode cX4_countOf 28 = .ok (.getfield 19, 3) := by decide +kernel
theorem dX4_countOf_31 : decode cX4_countOf 31 = .ok (.iload_n 1, 1) := by decide +kernel
theorem dX4_countOf_32 : decode cX4_countOf 32 = .ok (.iaload, 1) := by decide +kernel
theorem dX4_countOf_33 : decode cX4_countOf 33 = .ok (.istore_n 3, 1) := by decide +kernel
theorem dX4_countOf_34 : decode cX4_countOf 34 = .ok (.aload_n 0, 1) := by decide +kernel
theorem dX4_countOf_35 : decode cX4_countOf 35 = .ok (.getfield 32, 3) := by decide +kernel
theorem dX4_countOf_38 : decode cX4_countOf 38 = .ok (.iload_n 1, 1) := by decide +kernel
theorem dX4_countOf_39 : decode cX4_countOf 39 = .ok (.iaload, 1) := by decide +kernel
theorem dX4_countOf_40 : decode cX4_countOf 40 = .ok (.iconst 3, 1) := by decide +kernel
theorem dX4_countOf_41 : decode cX4_countOf 41 = .ok (.if_icmp .ge 16, 3) := by decide +kernel
theorem dX4_countOf_44 : decode cX4_countOf 44 = .ok (.aload_n 0, 1) := by decide +kernel
theorem dX4_countOf_45 : decode cX4_countOf 45 = .ok (.getfield 26, 3) := by decide +kernel
theorem dX4_countOf_48 : decode cX4_countOf 48 = .ok (.iload_n 1, 1) := by decide +kernel
theorem dX4_countOf_49 : decode cX4_countOf 49 = .ok (.iaload, 1) := by decide +kernel
theorem dX4_countOf_50 : decode cX4_countOf 50 = .ok (.aload_n 0, 1) := by decide +kernel
theorem dX4_countOf_51 : decode cX4_countOf 51 = .ok (.getfield 7, 3) := by decide +kernel
theorem dX4_countOf_54 : decode cX4_countOf 54 = .ok (.if_icmp .le 7, 3) := by decide +kernel
theorem dX4_countOf_57 : decode cX4_countOf 57 = .ok (.iconst 0, 1) := by decide +kernel
theorem dX4_countOf_58 : decode cX4_countOf 58 = .ok (.goto 4, 3) := by decide +kernel
theorem dX4_countOf_61 : decode cX4_countOf 61 = .ok (.iload_n 3, 1) := by decide +kernel
theorem dX4_countOf_62 : decode cX4_countOf 62 = .ok (.ireturn, 1) := by decide +kernel
theorem dX4_pool_0 : decode cX4_pool 0 = .ok (.iconst 0, 1) := by decide +kernel
theorem dX4_pool_1 : decode cX4_pool 1 = .ok (.istore_n 1, 1) := by decide +kernel
theorem dX4_pool_2 : decode cX4_pool 2 = .ok (.iconst 0, 1) := by decide +kernel
theorem dX4_pool_3 : decode cX4_pool 3 = .ok (.istore_n 2, 1) := by decide +kernel
theorem dX4_pool_4 : decode cX4_pool 4 = .ok (.iload_n 2, 1) := by decide +kernel
theorem dX4_pool_5 : decode cX4_pool 5 = .ok (.aload_n 0, 1) := by decide +kernel
theorem dX4_pool_6 : decode cX4_pool 6 = .ok (.getfield 54, 3) := by decide +kernel
theorem dX4_pool_9 : decode cX4_pool 9 = .ok (.if_icmp .ge 29, 3) := by decide +kernel
theorem dX4_pool_12 : decode cX4_pool 12 = .ok (.iload_n 1, 1) := by decide +kernel
theorem dX4_pool_13 : decode cX4_pool 13 = .ok (.aload_n 0, 1) := by decide +kernel
theorem dX4_pool_14 : decode cX4_pool 14 = .ok (.getfield 35, 3) := by decide +kernel
theorem dX4_pool_17 : decode cX4_pool 17 = .ok (.iload_n 2, 1) := by decide +kernel
theorem dX4_pool_18 : decode cX4_pool 18 = .ok (.iaload, 1) := by decide +kernel
theorem dX4_pool_19 : decode cX4_pool 19 = .ok (.iconst 1, 1) := by decide +kernel
theorem dX4_pool_20 : decode cX4_pool 20 = .ok (.if_icmp .ne 9, 3) := by decide +kernel
theorem dX4_pool_23 : decode cX4_pool 23 = .ok (.iconst 1, 1) := by decide +kernel
theorem dX4_pool_24 : decode cX4_pool 24 = .ok (.iload_n 2, 1) := by decide +kernel
theorem dX4_pool_25 : decode cX4_pool 25 = .ok (.ishl, 1) := by decide +kernel
theorem dX4_pool_26 : decode cX4_pool 26 = .ok (.goto 4, 3) := by decide +kernel
theorem dX4_pool_29 : decode cX4_pool 29 = .ok (.iconst 0, 1) := by decide +kernel
theorem dX4_pool_30 : decode cX4_pool 30 = .ok (.ior, 1) := by decide +kernel
theorem dX4_pool_31 : decode cX4_pool 31 = .ok (.istore_n 1, 1) := by decide +kernel
theorem dX4_pool_32 : decode cX4_pool 32 = .ok (.iinc 2 1, 3) := by decide +kernel
theorem dX4_pool_35 : decode cX4_pool 35 = .ok (.goto (-31), 3) := by decide +kernel
theorem dX4_pool_38 : decode cX4_pool 38 = .ok (.iload_n 1, 1) := by decide +kernel
theorem dX4_pool_39 : decode cX4_pool 39 = .ok (.ireturn, 1) := by decide +kernel
theorem dX4_owed_0 : decode cX4_owed 0 = .ok (.iconst 0, 1) := by decide +kernel
theorem dX4_owed_1 : decode cX4_owed 1 = .ok (.istore_n 1, 1) := by decide +kernel
theorem dX4_owed_2 : decode cX4_owed 2 = .ok (.iconst 0, 1) := by decide +kernel
theorem dX4_owed_3 : decode cX4_owed 3 = .ok (.istore_n 2, 1) := by decide +kernel
theorem dX4_owed_4 : decode cX4_owed 4 = .ok (.iload_n 2, 1) := by decide +kernel
theorem dX4_owed_5 : decode cX4_owed 5 = .ok (.aload_n 0, 1) := by decide +kernel
theorem dX4_owed_6 : decode cX4_owed 6 = .ok (.getfield 57, 3) := by decide +kernel
theorem dX4_owed_9 : decode cX4_owed 9 = .ok (.if_icmp .ge 31, 3) := by decide +kernel
theorem dX4_owed_12 : decode cX4_owed 12 = .ok (.iload_n 1, 1) := by decide +kernel
theorem dX4_owed_13 : decode cX4_owed 13 = .ok (.aload_n 0, 1) := by decide +kernel
theorem dX4_owed_14 : decode cX4_owed 14 = .ok (.getfield 44, 3) := by decide +kernel
theorem dX4_owed_17 : decode cX4_owed 17 = .ok (.iload_n 2, 1) := by decide +kernel
theorem dX4_owed_18 : decode cX4_owed 18 = .ok (.iaload, 1) := by decide +kernel
theorem dX4_owed_19 : decode cX4_owed 19 = .ok (.ifCond .ne 12, 3) := by decide +kernel
theorem dX4_owed_22 : decode cX4_owed 22 = .ok (.aload_n 0, 1) := by decide +kernel
theorem dX4_owed_23 : decode cX4_owed 23 = .ok (.getfield 38, 3) := by decide +kernel
theorem dX4_owed_26 : decode cX4_owed 26 = .ok (.iload_n 2, 1) := by decide +kernel
theorem dX4_owed_27 : decode cX4_owed 27 = .ok (.iaload, 1) := by decide +kernel
theorem dX4_owed_28 : decode cX4_owed 28 = .ok (.goto 4, 3) := by decide +kernel
theorem dX4_owed_31 : decode cX4_owed 31 = .ok (.iconst 0, 1) := by decide +kernel
theorem dX4_owed_32 : decode cX4_owed 32 = .ok (.iadd, 1) := by decide +kernel
theorem dX4_owed_33 : decode cX4_owed 33 = .ok (.istore_n 1, 1) := by decide +kernel
theorem dX4_owed_34 : decode cX4_owed 34 = .ok (.iinc 2 1, 3) := by decide +kernel
theorem dX4_owed_37 : decode cX4_owed 37 = .ok (.goto (-33), 3) := by decide +kernel
theorem dX4_owed_40 : decode cX4_owed 40 = .ok (.iload_n 1, 1) := by decide +kernel
theorem dX4_owed_41 : decode cX4_owed 41 = .ok (.ireturn, 1) := by decide +kernel
theorem dX4_beside_0 : decode cX4_beside 0 = .ok (.aload_n 0, 1) := by decide +kernel
theorem dX4_beside_1 : decode cX4_beside 1 = .ok (.invokevirtual 60, 3) := by decide +kernel
theorem dX4_beside_4 : decode cX4_beside 4 = .ok (.bipush 15, 2) := by decide +kernel
theorem dX4_beside_6 : decode cX4_beside 6 = .ok (.imul, 1) := by decide +kernel
theorem dX4_beside_7 : decode cX4_beside 7 = .ok (.bipush 100, 2) := by decide +kernel
theorem dX4_beside_9 : decode cX4_beside 9 = .ok (.idiv, 1) := by decide +kernel
theorem dX4_beside_10 : decode cX4_beside 10 = .ok (.istore_n 1, 1) := by decide +kernel
theorem dX4_beside_11 : decode cX4_beside 11 = .ok (.iload_n 1, 1) := by decide +kernel
theorem dX4_beside_12 : decode cX4_beside 12 = .ok (.aload_n 0, 1) := by decide +kernel
theorem dX4_beside_13 : decode cX4_beside 13 = .ok (.getfield 64, 3) := by decide +kernel
theorem dX4_beside_16 : decode cX4_beside 16 = .ok (.if_icmp .ge 7, 3) := by decide +kernel
theorem dX4_beside_19 : decode cX4_beside 19 = .ok (.iload_n 1, 1) := by decide +kernel
theorem dX4_beside_20 : decode cX4_beside 20 = .ok (.goto 7, 3) := by decide +kernel
theorem dX4_beside_23 : decode cX4_beside 23 = .ok (.aload_n 0, 1) := by decide +kernel
theorem dX4_beside_24 : decode cX4_beside 24 = .ok (.getfield 64, 3) := by decide +kernel
theorem dX4_beside_27 : decode cX4_beside 27 = .ok (.ireturn, 1) := by decide +kernel
theorem dX4_valued_0 : decode cX4_valued 0 = .ok (.iload_n 2, 1) := by decide +kernel
theorem dX4_valued_1 : decode cX4_valued 1 = .ok (.aload_n 0, 1) := by decide +kernel
theorem dX4_valued_2 : decode cX4_valued 2 = .ok (.getfield 67, 3) := by decide +kernel
theorem dX4_valued_5 : decode cX4_valued 5 = .ok (.if_icmp .le 12, 3) := by decide +kernel
theorem dX4_valued_8 : decode cX4_valued 8 = .ok (.iload_n 2, 1) := by decide +kernel
theorem dX4_valued_9 : decode cX4_valued 9 = .ok (.aload_n 0, 1) := by decide +kernel
theorem dX4_valued_10 : decode cX4_valued 10 = .ok (.getfield 67, 3) := by decide +kernel
theorem dX4_valued_13 : decode cX4_valued 13 = .ok (.isub, 1) := by decide +kernel
theorem dX4_valued_14 : decode cX4_valued 14 = .ok (.goto 4, 3) := by decide +kernel
theorem dX4_valued_17 : decode cX4_valued 17 = .ok (.iconst 0, 1) := by decide +kernel
theorem dX4_valued_18 : decode cX4_valued 18 = .ok (.istore 4, 2) := by decide +kernel
theorem dX4_valued_20 : decode cX4_valued 20 = .ok (.sipush 1200, 3) := by decide +kernel
theorem dX4_valued_23 : decode cX4_valued 23 = .ok (.iload_n 1, 1) := by decide +kernel
theorem dX4_valued_24 : decode cX4_valued 24 = .ok (.imul, 1) := by decide +kernel
theorem dX4_valued_25 : decode cX4_valued 25 = .ok (.sipush 1200, 3) := by decide +kernel
theorem dX4_valued_28 : decode cX4_valued 28 = .ok (.iload_n 3, 1) := by decide +kernel
theorem dX4_valued_29 : decode cX4_valued 29 = .ok (.iload 4, 2) := by decide +kernel
theorem dX4_valued_31 : decode cX4_valued 31 = .ok (.imul, 1) := by decide +kernel
theorem dX4_valued_32 : decode cX4_valued 32 = .ok (.iadd, 1) := by decide +kernel
theorem dX4_valued_33 : decode cX4_valued 33 = .ok (.idiv, 1) := by decide +kernel
theorem dX4_valued_34 : decode cX4_valued 34 = .ok (.ireturn, 1) := by decide +kernel
theorem dX4_lackOfFace_0 : decode cX4_lackOfFace 0 = .ok (.aload_n 0, 1) := by decide +kernel
theorem dX4_lackOfFace_1 : decode cX4_lackOfFace 1 = .ok (.invokevirtual 70, 3) := by decide +kernel
theorem dX4_lackOfFace_4 : decode cX4_lackOfFace 4 = .ok (.i2l, 1) := by decide +kernel
theorem dX4_lackOfFace_5 : decode cX4_lackOfFace 5 = .ok (.lstore_n 2, 1) := by decide +kernel
theorem dX4_lackOfFace_6 : decode cX4_lackOfFace 6 = .ok (.iconst 0, 1) := by decide +kernel
theorem dX4_lackOfFace_7 : decode cX4_lackOfFace 7 = .ok (.istore 4, 2) := by decide +kernel
theorem dX4_lackOfFace_9 : decode cX4_lackOfFace 9 = .ok (.iload 4, 2) := by decide +kernel
theorem dX4_lackOfFace_11 : decode cX4_lackOfFace 11 = .ok (.aload_n 0, 1) := by decide +kernel
theorem dX4_lackOfFace_12 : decode cX4_lackOfFace 12 = .ok (.getfield 54, 3) := by decide +kernel
theorem dX4_lackOfFace_15 : decode cX4_lackOfFace 15 = .ok (.if_icmp .ge 33, 3) := by decide +kernel
theorem dX4_lackOfFace_18 : decode cX4_lackOfFace 18 = .ok (.lload_n 2, 1) := by decide +kernel
theorem dX4_lackOfFace_19 : decode cX4_lackOfFace 19 = .ok (.iload_n 1, 1) := by decide +kernel
theorem dX4_lackOfFace_20 : decode cX4_lackOfFace 20 = .ok (.iload 4, 2) := by decide +kernel
theorem dX4_lackOfFace_22 : decode cX4_lackOfFace 22 = .ok (.ishr, 1) := by decide +kernel
theorem dX4_lackOfFace_23 : decode cX4_lackOfFace 23 = .ok (.iconst 1, 1) := by decide +kernel
theorem dX4_lackOfFace_24 : decode cX4_lackOfFace 24 = .ok (.iand, 1) := by decide +kernel
theorem dX4_lackOfFace_25 : decode cX4_lackOfFace 25 = .ok (.iconst 1, 1) := by decide +kernel
theorem dX4_lackOfFace_26 : decode cX4_lackOfFace 26 = .ok (.if_icmp .ne 13, 3) := by decide +kernel
theorem dX4_lackOfFace_29 : decode cX4_lackOfFace 29 = .ok (.aload_n 0, 1) := by decide +kernel
theorem dX4_lackOfFace_30 : decode cX4_lackOfFace 30 = .ok (.iload 4, 2) := by decide +kernel
theorem dX4_lackOfFace_32 : decode cX4_lackOfFace 32 = .ok (.invokevirtual 73, 3) := by decide +kernel
theorem dX4_lackOfFace_35 : decode cX4_lackOfFace 35 = .ok (.i2l, 1) := by decide +kernel
theorem dX4_lackOfFace_36 : decode cX4_lackOfFace 36 = .ok (.goto 4, 3) := by decide +kernel
theorem dX4_lackOfFace_39 : decode cX4_lackOfFace 39 = .ok (.lconst 0, 1) := by decide +kernel
theorem dX4_lackOfFace_40 : decode cX4_lackOfFace 40 = .ok (.ladd, 1) := by decide +kernel
theorem dX4_lackOfFace_41 : decode cX4_lackOfFace 41 = .ok (.lstore_n 2, 1) := by decide +kernel
theorem dX4_lackOfFace_42 : decode cX4_lackOfFace 42 = .ok (.iinc 4 1, 3) := by decide +kernel
theorem dX4_lackOfFace_45 : decode cX4_lackOfFace 45 = .ok (.goto (-36), 3) := by decide +kernel
theorem dX4_lackOfFace_48 : decode cX4_lackOfFace 48 = .ok (.aload_n 0, 1) := by decide +kernel
theorem dX4_lackOfFace_49 : decode cX4_lackOfFace 49 = .ok (.invokevirtual 60, 3) := by decide +kernel
theorem dX4_lackOfFace_52 : decode cX4_lackOfFace 52 = .ok (.i2l, 1) := by decide +kernel
theorem dX4_lackOfFace_53 : decode cX4_lackOfFace 53 = .ok (.bipush 100, 2) := by decide +kernel
theorem dX4_lackOfFace_55 : decode cX4_lackOfFace 55 = .ok (.aload_n 0, 1) := by decide +kernel
theorem dX4_lackOfFace_56 : decode cX4_lackOfFace 56 = .ok (.getfield 13, 3) := by decide +kernel
theorem dX4_lackOfFace_59 : decode cX4_lackOfFace 59 = .ok (.iadd, 1) := by decide +kernel
theorem dX4_lackOfFace_60 : decode cX4_lackOfFace 60 = .ok (.i2l, 1) := by decide +kernel
theorem dX4_lackOfFace_61 : decode cX4_lackOfFace 61 = .ok (.lmul, 1) := by decide +kernel
theorem dX4_lackOfFace_62 : decode cX4_lackOfFace 62 = .ok (.ldc2_w 77, 3) := by decide +kernel
theorem dX4_lackOfFace_65 : decode cX4_lackOfFace 65 = .ok (.lload_n 2, 1) := by decide +kernel
theorem dX4_lackOfFace_66 : decode cX4_lackOfFace 66 = .ok (.lmul, 1) := by decide +kernel
theorem dX4_lackOfFace_67 : decode cX4_lackOfFace 67 = .ok (.lsub, 1) := by decide +kernel
theorem dX4_lackOfFace_68 : decode cX4_lackOfFace 68 = .ok (.lstore 4, 2) := by decide +kernel
theorem dX4_lackOfFace_70 : decode cX4_lackOfFace 70 = .ok (.lload 4, 2) := by decide +kernel
theorem dX4_lackOfFace_72 : decode cX4_lackOfFace 72 = .ok (.lconst 0, 1) := by decide +kernel
theorem dX4_lackOfFace_73 : decode cX4_lackOfFace 73 = .ok (.lcmp, 1) := by decide +kernel
theorem dX4_lackOfFace_74 : decode cX4_lackOfFace 74 = .ok (.ifCond .ge 7, 3) := by decide +kernel
theorem dX4_lackOfFace_77 : decode cX4_lackOfFace 77 = .ok (.lconst 0, 1) := by decide +kernel
theorem dX4_lackOfFace_78 : decode cX4_lackOfFace 78 = .ok (.goto 5, 3) := by decide +kernel
theorem dX4_lackOfFace_81 : decode cX4_lackOfFace 81 = .ok (.lload 4, 2) := by decide +kernel
theorem dX4_lackOfFace_83 : decode cX4_lackOfFace 83 = .ok (.lreturn, 1) := by decide +kernel
theorem dX4_lackOfWorth_0 : decode cX4_lackOfWorth 0 = .ok (.aload_n 0, 1) := by decide +kernel
theorem dX4_lackOfWorth_1 : decode cX4_lackOfWorth 1 = .ok (.invokevirtual 70, 3) := by decide +kernel
theorem dX4_lackOfWorth_4 : decode cX4_lackOfWorth 4 = .ok (.ineg, 1) := by decide +kernel
theorem dX4_lackOfWorth_5 : decode cX4_lackOfWorth 5 = .ok (.i2l, 1) := by decide +kernel
theorem dX4_lackOfWorth_6 : decode cX4_lackOfWorth 6 = .ok (.lstore_n 3, 1) := by decide +kernel
theorem dX4_lackOfWorth_7 : decode cX4_lackOfWorth 7 = .ok (.iconst 0, 1) := by decide +kernel
theorem dX4_lackOfWorth_8 : decode cX4_lackOfWorth 8 = .ok (.istore 5, 2) := by decide +kernel
theorem dX4_lackOfWorth_10 : decode cX4_lackOfWorth 10 = .ok (.iload 5, 2) := by decide +kernel
theorem dX4_lackOfWorth_12 : decode cX4_lackOfWorth 12 = .ok (.aload_n 0, 1) := by decide +kernel
theorem dX4_lackOfWorth_13 : decode cX4_lackOfWorth 13 = .ok (.getfield 57, 3) := by decide +kernel
theorem dX4_lackOfWorth_16 : decode cX4_lackOfWorth 16 = .ok (.if_icmp .ge 46, 3) := by decide +kernel
theorem dX4_lackOfWorth_19 : decode cX4_lackOfWorth 19 = .ok (.lload_n 3, 1) := by decide +kernel
theorem dX4_lackOfWorth_20 : decode cX4_lackOfWorth 20 = .ok (.aload_n 0, 1) := by decide +kernel
theorem dX4_lackOfWorth_21 : decode cX4_lackOfWorth 21 = .ok (.getfield 44, 3) := by decide +kernel
theorem dX4_lackOfWorth_24 : decode cX4_lackOfWorth 24 = .ok (.iload 5, 2) := by decide +kernel
theorem dX4_lackOfWorth_26 : decode cX4_lackOfWorth 26 = .ok (.iaload, 1) := by decide +kernel
theorem dX4_lackOfWorth_27 : decode cX4_lackOfWorth 27 = .ok (.ifCond .ne 26, 3) := by decide +kernel
theorem dX4_lackOfWorth_30 : decode cX4_lackOfWorth 30 = .ok (.aload_n 0, 1) := by decide +kernel
theorem dX4_lackOfWorth_31 : decode cX4_lackOfWorth 31 = .ok (.aload_n 0, 1) := by decide +kernel
theorem dX4_lackOfWorth_32 : decode cX4_lackOfWorth 32 = .ok (.getfield 38, 3) := by decide +kernel
theorem dX4_lackOfWorth_35 : decode cX4_lackOfWorth 35 = .ok (.iload 5, 2) := by decide +kernel
theorem dX4_lackOfWorth_37 : decode cX4_lackOfWorth 37 = .ok (.iaload, 1) := by decide +kernel
theorem dX4_lackOfWorth_38 : decode cX4_lackOfWorth 38 = .ok (.aload_n 0, 1) := by decide +kernel
theorem dX4_lackOfWorth_39 : decode cX4_lackOfWorth 39 = .ok (.getfield 41, 3) := by decide +kernel
theorem dX4_lackOfWorth_42 : decode cX4_lackOfWorth 42 = .ok (.iload 5, 2) := by decide +kernel
theorem dX4_lackOfWorth_44 : decode cX4_lackOfWorth 44 = .ok (.iaload, 1) := by decide +kernel
theorem dX4_lackOfWorth_45 : decode cX4_lackOfWorth 45 = .ok (.iload_n 2, 1) := by decide +kernel
theorem dX4_lackOfWorth_46 : decode cX4_lackOfWorth 46 = .ok (.invokevirtual 79, 3) := by decide +kernel
theorem dX4_lackOfWorth_49 : decode cX4_lackOfWorth 49 = .ok (.i2l, 1) := by decide +kernel
theorem dX4_lackOfWorth_50 : decode cX4_lackOfWorth 50 = .ok (.goto 4, 3) := by decide +kernel
theorem dX4_lackOfWorth_53 : decode cX4_lackOfWorth 53 = .ok (.lconst 0, 1) := by decide +kernel
theorem dX4_lackOfWorth_54 : decode cX4_lackOfWorth 54 = .ok (.ladd, 1) := by decide +kernel
theorem dX4_lackOfWorth_55 : decode cX4_lackOfWorth 55 = .ok (.lstore_n 3, 1) := by decide +kernel
theorem dX4_lackOfWorth_56 : decode cX4_lackOfWorth 56 = .ok (.iinc 5 1, 3) := by decide +kernel
theorem dX4_lackOfWorth_59 : decode cX4_lackOfWorth 59 = .ok (.goto (-49), 3) := by decide +kernel
theorem dX4_lackOfWorth_62 : decode cX4_lackOfWorth 62 = .ok (.iconst 0, 1) := by decide +kernel
theorem dX4_lackOfWorth_63 : decode cX4_lackOfWorth 63 = .ok (.istore 5, 2) := by decide +kernel
theorem dX4_lackOfWorth_65 : decode cX4_lackOfWorth 65 = .ok (.iload 5, 2) := by decide +kernel
theorem dX4_lackOfWorth_67 : decode cX4_lackOfWorth 67 = .ok (.aload_n 0, 1) := by decide +kernel
theorem dX4_lackOfWorth_68 : decode cX4_lackOfWorth 68 = .ok (.getfield 54, 3) := by decide +kernel
theorem dX4_lackOfWorth_71 : decode cX4_lackOfWorth 71 = .ok (.if_icmp .ge 45, 3) := by decide +kernel
theorem dX4_lackOfWorth_74 : decode cX4_lackOfWorth 74 = .ok (.lload_n 3, 1) := by decide +kernel
theorem dX4_lackOfWorth_75 : decode cX4_lackOfWorth 75 = .ok (.iload_n 1, 1) := by decide +kernel
theorem dX4_lackOfWorth_76 : decode cX4_lackOfWorth 76 = .ok (.iload 5, 2) := by decide +kernel
theorem dX4_lackOfWorth_78 : decode cX4_lackOfWorth 78 = .ok (.ishr, 1) := by decide +kernel
theorem dX4_lackOfWorth_79 : decode cX4_lackOfWorth 79 = .ok (.iconst 1, 1) := by decide +kernel
theorem dX4_lackOfWorth_80 : decode cX4_lackOfWorth 80 = .ok (.iand, 1) := by decide +kernel
theorem dX4_lackOfWorth_81 : decode cX4_lackOfWorth 81 = .ok (.iconst 1, 1) := by decide +kernel
theorem dX4_lackOfWorth_82 : decode cX4_lackOfWorth 82 = .ok (.if_icmp .ne 25, 3) := by decide +kernel
theorem dX4_lackOfWorth_85 : decode cX4_lackOfWorth 85 = .ok (.aload_n 0, 1) := by decide +kernel
theorem dX4_lackOfWorth_86 : decode cX4_lackOfWorth 86 = .ok (.aload_n 0, 1) := by decide +kernel
theorem dX4_lackOfWorth_87 : decode cX4_lackOfWorth 87 = .ok (.iload 5, 2) := by decide +kernel
theorem dX4_lackOfWorth_89 : decode cX4_lackOfWorth 89 = .ok (.invokevirtual 73, 3) := by decide +kernel
theorem dX4_lackOfWorth_92 : decode cX4_lackOfWorth 92 = .ok (.aload_n 0, 1) := by decide +kernel
theorem dX4_lackOfWorth_93 : decode cX4_lackOfWorth 93 = .ok (.getfield 29, 3) := by decide +kernel
theorem dX4_lackOfWorth_96 : decode cX4_lackOfWorth 96 = .ok (.iload 5, 2) := by decide +kernel
theorem dX4_lackOfWorth_98 : decode cX4_lackOfWorth 98 = .ok (.iaload, 1) := by decide +kernel
theorem dX4_lackOfWorth_99 : decode cX4_lackOfWorth 99 = .ok (.iload_n 2, 1) := by decide +kernel
theorem dX4_lackOfWorth_100 : decode cX4_lackOfWorth 100 = .ok (.invokevirtual 79, 3) := by decide +kernel
theorem dX4_lackOfWorth_103 : decode cX4_lackOfWorth 103 = .ok (.i2l, 1) := by decide +kernel
theorem dX4_lackOfWorth_104 : decode cX4_lackOfWorth 104 = .ok (.goto 4, 3) := by decide +kernel
theorem dX4_lackOfWorth_107 : decode cX4_lackOfWorth 107 = .ok (.lconst 0, 1) := by decide +kernel
theorem dX4_lackOfWorth_108 : decode cX4_lackOfWorth 108 = .ok (.lsub, 1) := by decide +kernel
theorem dX4_lackOfWorth_109 : decode cX4_lackOfWorth 109 = .ok (.lstore_n 3, 1) := by decide +kernel
theorem dX4_lackOfWorth_110 : decode cX4_lackOfWorth 110 = .ok (.iinc 5 1, 3) := by decide +kernel
theorem dX4_lackOfWorth_113 : decode cX4_lackOfWorth 113 = .ok (.goto (-48), 3) := by decide +kernel
theorem dX4_lackOfWorth_116 : decode cX4_lackOfWorth 116 = .ok (.lload_n 3, 1) := by decide +kernel
theorem dX4_lackOfWorth_117 : decode cX4_lackOfWorth 117 = .ok (.lconst 0, 1) := by decide +kernel
theorem dX4_lackOfWorth_118 : decode cX4_lackOfWorth 118 = .ok (.lcmp, 1) := by decide +kernel
theorem dX4_lackOfWorth_119 : decode cX4_lackOfWorth 119 = .ok (.ifCond .ge 7, 3) := by decide +kernel
theorem dX4_lackOfWorth_122 : decode cX4_lackOfWorth 122 = .ok (.lconst 0, 1) := by decide +kernel
theorem dX4_lackOfWorth_123 : decode cX4_lackOfWorth 123 = .ok (.goto 4, 3) := by decide +kernel
theorem dX4_lackOfWorth_126 : decode cX4_lackOfWorth 126 = .ok (.lload_n 3, 1) := by decide +kernel
theorem dX4_lackOfWorth_127 : decode cX4_lackOfWorth 127 = .ok (.lreturn, 1) := by decide +kernel
theorem dX4_lackOfMoney_0 : decode cX4_lackOfMoney 0 = .ok (.lconst 0, 1) := by decide +kernel
theorem dX4_lackOfMoney_1 : decode cX4_lackOfMoney 1 = .ok (.lstore_n 2, 1) := by decide +kernel
theorem dX4_lackOfMoney_2 : decode cX4_lackOfMoney 2 = .ok (.iconst 1, 1) := by decide +kernel
theorem dX4_lackOfMoney_3 : decode cX4_lackOfMoney 3 = .ok (.istore 4, 2) := by decide +kernel
theorem dX4_lackOfMoney_5 : decode cX4_lackOfMoney 5 = .ok (.iload 4, 2) := by decide +kernel
theorem dX4_lackOfMoney_7 : decode cX4_lackOfMoney 7 = .ok (.bipush 6, 2) := by decide +kernel
theorem dX4_lackOfMoney_9 : decode cX4_lackOfMoney 9 = .ok (.if_icmp .gt 154, 3) := by decide +kernel
theorem dX4_lackOfMoney_12 : decode cX4_lackOfMoney 12 = .ok (.aload_n 0, 1) := by decide +kernel
theorem dX4_lackOfMoney_13 : decode cX4_lackOfMoney 13 = .ok (.getfield 64, 3) := by decide +kernel
theorem dX4_lackOfMoney_16 : decode cX4_lackOfMoney 16 = .ok (.ineg, 1) := by decide +kernel
theorem dX4_lackOfMoney_17 : decode cX4_lackOfMoney 17 = .ok (.i2l, 1) := by decide +kernel
theorem dX4_lackOfMoney_18 : decode cX4_lackOfMoney 18 = .ok (.lstore 5, 2) := by decide +kernel
theorem dX4_lackOfMoney_20 : decode cX4_lackOfMoney 20 = .ok (.iconst 0, 1) := by decide +kernel
theorem dX4_lackOfMoney_21 : decode cX4_lackOfMoney 21 = .ok (.istore 7, 2) := by decide +kernel
theorem dX4_lackOfMoney_23 : decode cX4_lackOfMoney 23 = .ok (.iload 7, 2) := by decide +kernel
theorem dX4_lackOfMoney_25 : decode cX4_lackOfMoney 25 = .ok (.aload_n 0, 1) := by decide +kernel
theorem dX4_lackOfMoney_26 : decode cX4_lackOfMoney 26 = .ok (.getfield 57, 3) := by decide +kernel
theorem dX4_lackOfMoney_29 : decode cX4_lackOfMoney 29 = .ok (.if_icmp .ge 53, 3) := by decide +kernel
theorem dX4_lackOfMoney_32 : decode cX4_lackOfMoney 32 = .ok (.lload 5, 2) := by decide +kernel
theorem dX4_lackOfMoney_34 : decode cX4_lackOfMoney 34 = .ok (.aload_n 0, 1) := by decide +kernel
theorem dX4_lackOfMoney_35 : decode cX4_lackOfMoney 35 = .ok (.getfield 44, 3) := by decide +kernel
theorem dX4_lackOfMoney_38 : decode cX4_lackOfMoney 38 = .ok (.iload 7, 2) := by decide +kernel
theorem dX4_lackOfMoney_40 : decode cX4_lackOfMoney 40 = .ok (.iaload, 1) := by decide +kernel
theorem dX4_lackOfMoney_41 : decode cX4_lackOfMoney 41 = .ok (.ifCond .ne 31, 3) := by decide +kernel
theorem dX4_lackOfMoney_44 : decode cX4_lackOfMoney 44 = .ok (.aload_n 0, 1) := by decide +kernel
theorem dX4_lackOfMoney_45 : decode cX4_lackOfMoney 45 = .ok (.getfield 41, 3) := by decide +kernel
theorem dX4_lackOfMoney_48 : decode cX4_lackOfMoney 48 = .ok (.iload 7, 2) := by decide +kernel
theorem dX4_lackOfMoney_50 : decode cX4_lackOfMoney 50 = .ok (.iaload, 1) := by decide +kernel
theorem dX4_lackOfMoney_51 : decode cX4_lackOfMoney 51 = .ok (.aload_n 0, 1) := by decide +kernel
theorem dX4_lackOfMoney_52 : decode cX4_lackOfMoney 52 = .ok (.getfield 67, 3) := by decide +kernel
theorem dX4_lackOfMoney_55 : decode cX4_lackOfMoney 55 = .ok (.iload 4, 2) := by decide +kernel
theorem dX4_lackOfMoney_57 : decode cX4_lackOfMoney 57 = .ok (.iadd, 1) := by decide +kernel
theorem dX4_lackOfMoney_58 : decode cX4_lackOfMoney 58 = .ok (.if_icmp .gt 14, 3) := by decide +kernel
theorem dX4_lackOfMoney_61 : decode cX4_lackOfMoney 61 = .ok (.aload_n 0, 1) := by decide +kernel
theorem dX4_lackOfMoney_62 : decode cX4_lackOfMoney 62 = .ok (.getfield 38, 3) := by decide +kernel
theorem dX4_lackOfMoney_65 : decode cX4_lackOfMoney 65 = .ok (.iload 7, 2) := by decide +kernel
theorem dX4_lackOfMoney_67 : decode cX4_lackOfMoney 67 = .ok (.iaload, 1) := by decide +kernel
theorem dX4_lackOfMoney_68 : decode cX4_lackOfMoney 68 = .ok (.i2l, 1) := by decide +kernel
theorem dX4_lackOfMoney_69 : decode cX4_lackOfMoney 69 = .ok (.goto 4, 3) := by decide +kernel
theorem dX4_lackOfMoney_72 : decode cX4_lackOfMoney 72 = .ok (.lconst 0, 1) := by decide +kernel
theorem dX4_lackOfMoney_73 : decode cX4_lackOfMoney 73 = .ok (.ladd, 1) := by decide +kernel
theorem dX4_lackOfMoney_74 : decode cX4_lackOfMoney 74 = .ok (.lstore 5, 2) := by decide +kernel
theorem dX4_lackOfMoney_76 : decode cX4_lackOfMoney 76 = .ok (.iinc 7 1, 3) := by decide +kernel
theorem dX4_lackOfMoney_79 : decode cX4_lackOfMoney 79 = .ok (.goto (-56), 3) := by decide +kernel
theorem dX4_lackOfMoney_82 : decode cX4_lackOfMoney 82 = .ok (.iconst 0, 1) := by decide +kernel
theorem dX4_lackOfMoney_83 : decode cX4_lackOfMoney 83 = .ok (.istore 7, 2) := by decide +kernel
theorem dX4_lackOfMoney_85 : decode cX4_lackOfMoney 85 = .ok (.iload 7, 2) := by decide +kernel
theorem dX4_lackOfMoney_87 : decode cX4_lackOfMoney 87 = .ok (.aload_n 0, 1) := by decide +kernel
theorem dX4_lackOfMoney_88 : decode cX4_lackOfMoney 88 = .ok (.getfield 54, 3) := by decide +kernel
theorem dX4_lackOfMoney_91 : decode cX4_lackOfMoney 91 = .ok (.if_icmp .ge 52, 3) := by decide +kernel
theorem dX4_lackOfMoney_94 : decode cX4_lackOfMoney 94 = .ok (.lload 5, 2) := by decide +kernel
theorem dX4_lackOfMoney_96 : decode cX4_lackOfMoney 96 = .ok (.iload_n 1, 1) := by decide +kernel
theorem dX4_lackOfMoney_97 : decode cX4_lackOfMoney 97 = .ok (.iload 7, 2) := by decide +kernel
theorem dX4_lackOfMoney_99 : decode cX4_lackOfMoney 99 = .ok (.ishr, 1) := by decide +kernel
theorem dX4_lackOfMoney_100 : decode cX4_lackOfMoney 100 = .ok (.iconst 1, 1) := by decide +kernel
theorem dX4_lackOfMoney_101 : decode cX4_lackOfMoney 101 = .ok (.iand, 1) := by decide +kernel
theorem dX4_lackOfMoney_102 : decode cX4_lackOfMoney 102 = .ok (.iconst 1, 1) := by decide +kernel
theorem dX4_lackOfMoney_103 : decode cX4_lackOfMoney 103 = .ok (.if_icmp .ne 30, 3) := by decide +kernel
theorem dX4_lackOfMoney_106 : decode cX4_lackOfMoney 106 = .ok (.aload_n 0, 1) := by decide +kernel
theorem dX4_lackOfMoney_107 : decode cX4_lackOfMoney 107 = .ok (.getfield 29, 3) := by decide +kernel
theorem dX4_lackOfMoney_110 : decode cX4_lackOfMoney 110 = .ok (.iload 7, 2) := by decide +kernel
theorem dX4_lackOfMoney_112 : decode cX4_lackOfMoney 112 = .ok (.iaload, 1) := by decide +kernel
theorem dX4_lackOfMoney_113 : decode cX4_lackOfMoney 113 = .ok (.aload_n 0, 1) := by decide +kernel
theorem dX4_lackOfMoney_114 : decode cX4_lackOfMoney 114 = .ok (.getfield 67, 3) := by decide +kernel
theorem dX4_lackOfMoney_117 : decode cX4_lackOfMoney 117 = .ok (.iload 4, 2) := by decide +kernel
theorem dX4_lackOfMoney_119 : decode cX4_lackOfMoney 119 = .ok (.iadd, 1) := by decide +kernel
theorem dX4_lackOfMoney_120 : decode cX4_lackOfMoney 120 = .ok (.if_icmp .gt 13, 3) := by decide +kernel
theorem dX4_lackOfMoney_123 : decode cX4_lackOfMoney 123 = .ok (.aload_n 0, 1) := by decide +kernel
theorem dX4_lackOfMoney_124 : decode cX4_lackOfMoney 124 = .ok (.iload 7, 2) := by decide +kernel
theorem dX4_lackOfMoney_126 : decode cX4_lackOfMoney 126 = .ok (.invokevirtual 73, 3) := by decide +kernel
theorem dX4_lackOfMoney_129 : decode cX4_lackOfMoney 129 = .ok (.i2l, 1) := by decide +kernel
theorem dX4_lackOfMoney_130 : decode cX4_lackOfMoney 130 = .ok (.goto 4, 3) := by decide +kernel
theorem dX4_lackOfMoney_133 : decode cX4_lackOfMoney 133 = .ok (.lconst 0, 1) := by decide +kernel
theorem dX4_lackOfMoney_134 : decode cX4_lackOfMoney 134 = .ok (.lsub, 1) := by decide +kernel
theorem dX4_lackOfMoney_135 : decode cX4_lackOfMoney 135 = .ok (.lstore 5, 2) := by decide +kernel
theorem dX4_lackOfMoney_137 : decode cX4_lackOfMoney 137 = .ok (.iinc 7 1, 3) := by decide +kernel
theorem dX4_lackOfMoney_140 : decode cX4_lackOfMoney 140 = .ok (.goto (-55), 3) := by decide +kernel
theorem dX4_lackOfMoney_143 : decode cX4_lackOfMoney 143 = .ok (.lload 5, 2) := by decide +kernel
theorem dX4_lackOfMoney_145 : decode cX4_lackOfMoney 145 = .ok (.lload_n 2, 1) := by decide +kernel
theorem dX4_lackOfMoney_146 : decode cX4_lackOfMoney 146 = .ok (.lcmp, 1) := by decide +kernel
theorem dX4_lackOfMoney_147 : decode cX4_lackOfMoney 147 = .ok (.ifCond .le 8, 3) := by decide +kernel
theorem dX4_lackOfMoney_150 : decode cX4_lackOfMoney 150 = .ok (.lload 5, 2) := by decide +kernel
theorem dX4_lackOfMoney_152 : decode cX4_lackOfMoney 152 = .ok (.goto 4, 3) := by decide +kernel
theorem dX4_lackOfMoney_155 : decode cX4_lackOfMoney 155 = .ok (.lload_n 2, 1) := by decide +kernel
theorem dX4_lackOfMoney_156 : decode cX4_lackOfMoney 156 = .ok (.lstore_n 2, 1) := by decide +kernel
theorem dX4_lackOfMoney_157 : decode cX4_lackOfMoney 157 = .ok (.iinc 4 1, 3) := by decide +kernel
theorem dX4_lackOfMoney_160 : decode cX4_lackOfMoney 160 = .ok (.goto (-155), 3) := by decide +kernel
theorem dX4_lackOfMoney_163 : decode cX4_lackOfMoney 163 = .ok (.lload_n 2, 1) := by decide +kernel
theorem dX4_lackOfMoney_164 : decode cX4_lackOfMoney 164 = .ok (.lreturn, 1) := by decide +kernel
theorem dX4_lack_0 : decode cX4_lack 0 = .ok (.iload_n 1, 1) := by decide +kernel
theorem dX4_lack_1 : decode cX4_lack 1 = .ok (.ifCond .ne 9, 3) := by decide +kernel
theorem dX4_lack_4 : decode cX4_lack 4 = .ok (.aload_n 0, 1) := by decide +kernel
theorem dX4_lack_5 : decode cX4_lack 5 = .ok (.iload_n 2, 1) := by decide +kernel
theorem dX4_lack_6 : decode cX4_lack 6 = .ok (.invokevirtual 83, 3) := by decide +kernel
theorem dX4_lack_9 : decode cX4_lack 9 = .ok (.lreturn, 1) := by decide +kernel
theorem dX4_lack_10 : decode cX4_lack 10 = .ok (.iload_n 1, 1) := by decide +kernel
theorem dX4_lack_11 : decode cX4_lack 11 = .ok (.iconst 2, 1) := by decide +kernel
theorem dX4_lack_12 : decode cX4_lack 12 = .ok (.if_icmp .ne 9, 3) := by decide +kernel
theorem dX4_lack_15 : decode cX4_lack 15 = .ok (.aload_n 0, 1) := by decide +kernel
theorem dX4_lack_16 : decode cX4_lack 16 = .ok (.iload_n 2, 1) := by decide +kernel
theorem dX4_lack_17 : decode cX4_lack 17 = .ok (.invokevirtual 87, 3) := by decide +kernel
theorem dX4_lack_20 : decode cX4_lack 20 = .ok (.lreturn, 1) := by decide +kernel
theorem dX4_lack_21 : decode cX4_lack 21 = .ok (.aload_n 0, 1) := by decide +kernel
theorem dX4_lack_22 : decode cX4_lack 22 = .ok (.iload_n 2, 1) := by decide +kernel
theorem dX4_lack_23 : decode cX4_lack 23 = .ok (.iconst 0, 1) := by decide +kernel
theorem dX4_lack_24 : decode cX4_lack 24 = .ok (.invokevirtual 90, 3) := by decide +kernel
theorem dX4_lack_27 : decode cX4_lack 27 = .ok (.lstore_n 3, 1) := by decide +kernel
theorem dX4_lack_28 : decode cX4_lack 28 = .ok (.aload_n 0, 1) := by decide +kernel
theorem dX4_lack_29 : decode cX4_lack 29 = .ok (.iload_n 2, 1) := by decide +kernel
theorem dX4_lack_30 : decode cX4_lack 30 = .ok (.aload_n 0, 1) := by decide +kernel
theorem dX4_lack_31 : decode cX4_lack 31 = .ok (.getfield 16, 3) := by decide +kernel
theorem dX4_lack_34 : decode cX4_lack 34 = .ok (.invokevirtual 90, 3) := by decide +kernel
theorem dX4_lack_37 : decode cX4_lack 37 = .ok (.lstore 5, 2) := by decide +kernel
theorem dX4_lack_39 : decode cX4_lack 39 = .ok (.lload_n 3, 1) := by decide +kernel
theorem dX4_lack_40 : decode cX4_lack 40 = .ok (.lload 5, 2) := by decide +kernel
theorem dX4_lack_42 : decode cX4_lack 42 = .ok (.lcmp, 1) := by decide +kernel
theorem dX4_lack_43 : decode cX4_lack 43 = .ok (.ifCond .le 7, 3) := by decide +kernel
theorem dX4_lack_46 : decode cX4_lack 46 = .ok (.lload_n 3, 1) := by decide +kernel
theorem dX4_lack_47 : decode cX4_lack 47 = .ok (.goto 5, 3) := by decide +kernel
theorem dX4_lack_50 : decode cX4_lack 50 = .ok (.lload 5, 2) := by decide +kernel
theorem dX4_lack_52 : decode cX4_lack 52 = .ok (.lreturn, 1) := by decide +kernel
theorem dX4_isSafe_0 : decode cX4_isSafe 0 = .ok (.aload_n 0, 1) := by decide +kernel
theorem dX4_isSafe_1 : decode cX4_isSafe 1 = .ok (.iconst 0, 1) := by decide +kernel
theorem dX4_isSafe_2 : decode cX4_isSafe 2 = .ok (.iload_n 1, 1) := by decide +kernel
theorem dX4_isSafe_3 : decode cX4_isSafe 3 = .ok (.invokevirtual 94, 3) := by decide +kernel
theorem dX4_isSafe_6 : decode cX4_isSafe 6 = .ok (.lconst 0, 1) := by decide +kernel
theorem dX4_isSafe_7 : decode cX4_isSafe 7 = .ok (.lcmp, 1) := by decide +kernel
theorem dX4_isSafe_8 : decode cX4_isSafe 8 = .ok (.ifCond .ne 29, 3) := by decide +kernel
theorem dX4_isSafe_11 : decode cX4_isSafe 11 = .ok (.aload_n 0, 1) := by decide +kernel
theorem dX4_isSafe_12 : decode cX4_isSafe 12 = .ok (.iconst 1, 1) := by decide +kernel
theorem dX4_isSafe_13 : decode cX4_isSafe 13 = .ok (.iload_n 1, 1) := by decide +kernel
theorem dX4_isSafe_14 : decode cX4_isSafe 14 = .ok (.invokevirtual 94, 3) := by decide +kernel
theorem dX4_isSafe_17 : decode cX4_isSafe 17 = .ok (.lconst 0, 1) := by decide +kernel
theorem dX4_isSafe_18 : decode cX4_isSafe 18 = .ok (.lcmp, 1) := by decide +kernel
theorem dX4_isSafe_19 : decode cX4_isSafe 19 = .ok (.ifCond .ne 18, 3) := by decide +kernel
theorem dX4_isSafe_22 : decode cX4_isSafe 22 = .ok (.aload_n 0, 1) := by decide +kernel
theorem dX4_isSafe_23 : decode cX4_isSafe 23 = .ok (.iconst 2, 1) := by decide +kernel
theorem dX4_isSafe_24 : decode cX4_isSafe 24 = .ok (.iload_n 1, 1) := by decide +kernel
theorem dX4_isSafe_25 : decode cX4_isSafe 25 = .ok (.invokevirtual 94, 3) := by decide +kernel
theorem dX4_isSafe_28 : decode cX4_isSafe 28 = .ok (.lconst 0, 1) := by decide +kernel
theorem dX4_isSafe_29 : decode cX4_isSafe 29 = .ok (.lcmp, 1) := by decide +kernel
theorem dX4_isSafe_30 : decode cX4_isSafe 30 = .ok (.ifCond .ne 7, 3) := by decide +kernel
theorem dX4_isSafe_33 : decode cX4_isSafe 33 = .ok (.iconst 1, 1) := by decide +kernel
theorem dX4_isSafe_34 : decode cX4_isSafe 34 = .ok (.goto 4, 3) := by decide +kernel
theorem dX4_isSafe_37 : decode cX4_isSafe 37 = .ok (.iconst 0, 1) := by decide +kernel
theorem dX4_isSafe_38 : decode cX4_isSafe 38 = .ok (.ireturn, 1) := by decide +kernel
theorem dX4_addLoan_0 : decode cX4_addLoan 0 = .ok (.iload_n 1, 1) := by decide +kernel
theorem dX4_addLoan_1 : decode cX4_addLoan 1 = .ok (.iconst 1, 1) := by decide +kernel
theorem dX4_addLoan_2 : decode cX4_addLoan 2 = .ok (.sipush 10000, 3) := by decide +kernel
theorem dX4_addLoan_5 : decode cX4_addLoan 5 = .ok (.invokestatic 97, 3) := by decide +kernel
theorem dX4_addLoan_8 : decode cX4_addLoan 8 = .ok (.ifCond .eq 44, 3) := by decide +kernel
theorem dX4_addLoan_11 : decode cX4_addLoan 11 = .ok (.iload_n 2, 1) := by decide +kernel
theorem dX4_addLoan_12 : decode cX4_addLoan 12 = .ok (.iconst 0, 1) := by decide +kernel
theorem dX4_addLoan_13 : decode cX4_addLoan 13 = .ok (.sipush 20000, 3) := by decide +kernel
theorem dX4_addLoan_16 : decode cX4_addLoan 16 = .ok (.invokestatic 97, 3) := by decide +kernel
theorem dX4_addLoan_19 : decode cX4_addLoan 19 = .ok (.ifCond .eq 33, 3) := by decide +kernel
theorem dX4_addLoan_22 : decode cX4_addLoan 22 = .ok (.iload_n 3, 1) := by decide +kernel
theorem dX4_addLoan_23 : decode cX4_addLoan 23 = .ok (.iconst 1, 1) := by decide +kernel
theorem dX4_addLoan_24 : decode cX4_addLoan 24 = .ok (.iconst 5, 1) := by decide +kernel
theorem dX4_addLoan_25 : decode cX4_addLoan 25 = .ok (.invokestatic 97, 3) := by decide +kernel
theorem dX4_addLoan_28 : decode cX4_addLoan 28 = .ok (.ifCond .eq 24, 3) := by decide +kernel
theorem dX4_addLoan_31 : decode cX4_addLoan 31 = .ok (.iload 4, 2) := by decide +kernel
theorem dX4_addLoan_33 : decode cX4_addLoan 33 = .ok (.aload_n 0, 1) := by decide +kernel
theorem dX4_addLoan_34 : decode cX4_addLoan 34 = .ok (.getfield 67, 3) := by decide +kernel
theorem dX4_addLoan_37 : decode cX4_addLoan 37 = .ok (.if_icmp .le 15, 3) := by decide +kernel
theorem dX4_addLoan_40 : decode cX4_addLoan 40 = .ok (.iload 4, 2) := by decide +kernel
theorem dX4_addLoan_42 : decode cX4_addLoan 42 = .ok (.sipush 600, 3) := by decide +kernel
theorem dX4_addLoan_45 : decode cX4_addLoan 45 = .ok (.if_icmp .gt 7, 3) := by decide +kernel
theorem dX4_addLoan_48 : decode cX4_addLoan 48 = .ok (.iconst 1, 1) := by decide +kernel
theorem dX4_addLoan_49 : decode cX4_addLoan 49 = .ok (.goto 4, 3) := by decide +kernel
theorem dX4_addLoan_52 : decode cX4_addLoan 52 = .ok (.iconst 0, 1) := by decide +kernel
theorem dX4_addLoan_53 : decode cX4_addLoan 53 = .ok (.istore 5, 2) := by decide +kernel
theorem dX4_addLoan_55 : decode cX4_addLoan 55 = .ok (.aload_n 0, 1) := by decide +kernel
theorem dX4_addLoan_56 : decode cX4_addLoan 56 = .ok (.iload 5, 2) := by decide +kernel
theorem dX4_addLoan_58 : decode cX4_addLoan 58 = .ok (.aload_n 0, 1) := by decide +kernel
theorem dX4_addLoan_59 : decode cX4_addLoan 59 = .ok (.getfield 54, 3) := by decide +kernel
theorem dX4_addLoan_62 : decode cX4_addLoan 62 = .ok (.bipush 12, 2) := by decide +kernel
theorem dX4_addLoan_64 : decode cX4_addLoan 64 = .ok (.if_icmp .ge 7, 3) := by decide +kernel
theorem dX4_addLoan_67 : decode cX4_addLoan 67 = .ok (.iconst 1, 1) := by decide +kernel
theorem dX4_addLoan_68 : decode cX4_addLoan 68 = .ok (.goto 4, 3) := by decide +kernel
theorem dX4_addLoan_71 : decode cX4_addLoan 71 = .ok (.iconst 0, 1) := by decide +kernel
theorem dX4_addLoan_72 : decode cX4_addLoan 72 = .ok (.iconst 1, 1) := by decide +kernel
theorem dX4_addLoan_73 : decode cX4_addLoan 73 = .ok (.invokevirtual 101, 3) := by decide +kernel
theorem dX4_addLoan_76 : decode cX4_addLoan 76 = .ok (.ifCond .ne 5, 3) := by decide +kernel
theorem dX4_addLoan_79 : decode cX4_addLoan 79 = .ok (.iconst 0, 1) := by decide +kernel
theorem dX4_addLoan_80 : decode cX4_addLoan 80 = .ok (.ireturn, 1) := by decide +kernel
theorem dX4_addLoan_81 : decode cX4_addLoan 81 = .ok (.aload_n 0, 1) := by decide +kernel
theorem dX4_addLoan_82 : decode cX4_addLoan 82 = .ok (.getfield 19, 3) := by decide +kernel
theorem dX4_addLoan_85 : decode cX4_addLoan 85 = .ok (.aload_n 0, 1) := by decide +kernel
theorem dX4_addLoan_86 : decode cX4_addLoan 86 = .ok (.getfield 54, 3) := by decide +kernel
theorem dX4_addLoan_89 : decode cX4_addLoan 89 = .ok (.iload_n 1, 1) := by decide +kernel
theorem dX4_addLoan_90 : decode cX4_addLoan 90 = .ok (.iastore, 1) := by decide +kernel
theorem dX4_addLoan_91 : decode cX4_addLoan 91 = .ok (.aload_n 0, 1) := by decide +kernel
theorem dX4_addLoan_92 : decode cX4_addLoan 92 = .ok (.getfield 23, 3) := by decide +kernel
theorem dX4_addLoan_95 : decode cX4_addLoan 95 = .ok (.aload_n 0, 1) := by decide +kernel
theorem dX4_addLoan_96 : decode cX4_addLoan 96 = .ok (.getfield 54, 3) := by decide +kernel
theorem dX4_addLoan_99 : decode cX4_addLoan 99 = .ok (.iload_n 2, 1) := by decide +kernel
theorem dX4_addLoan_100 : decode cX4_addLoan 100 = .ok (.iastore, 1) := by decide +kernel
theorem dX4_addLoan_101 : decode cX4_addLoan 101 = .ok (.aload_n 0, 1) := by decide +kernel
theorem dX4_addLoan_102 : decode cX4_addLoan 102 = .ok (.getfield 26, 3) := by decide +kernel
theorem dX4_addLoan_105 : decode cX4_addLoan 105 = .ok (.aload_n 0, 1) := by decide +kernel
theorem dX4_addLoan_106 : decode cX4_addLoan 106 = .ok (.getfield 54, 3) := by decide +kernel
theorem dX4_addLoan_109 : decode cX4_addLoan 109 = .ok (.iload_n 3, 1) := by decide +kernel
theorem dX4_addLoan_110 : decode cX4_addLoan 110 = .ok (.iastore, 1) := by decide +kernel
theorem dX4_addLoan_111 : decode cX4_addLoan 111 = .ok (.aload_n 0, 1) := by decide +kernel
theorem dX4_addLoan_112 : decode cX4_addLoan 112 = .ok (.getfield 29, 3) := by decide +kernel
theorem dX4_addLoan_115 : decode cX4_addLoan 115 = .ok (.aload_n 0, 1) := by decide +kernel
theorem dX4_addLoan_116 : decode cX4_addLoan 116 = .ok (.getfield 54, 3) := by decide +kernel
theorem dX4_addLoan_119 : decode cX4_addLoan 119 = .ok (.iload 4, 2) := by decide +kernel
theorem dX4_addLoan_121 : decode cX4_addLoan 121 = .ok (.iastore, 1) := by decide +kernel
theorem dX4_addLoan_122 : decode cX4_addLoan 122 = .ok (.aload_n 0, 1) := by decide +kernel
theorem dX4_addLoan_123 : decode cX4_addLoan 123 = .ok (.dup, 1) := by decide +kernel
theorem dX4_addLoan_124 : decode cX4_addLoan 124 = .ok (.getfield 54, 3) := by decide +kernel
theorem dX4_addLoan_127 : decode cX4_addLoan 127 = .ok (.iconst 1, 1) := by decide +kernel
theorem dX4_addLoan_128 : decode cX4_addLoan 128 = .ok (.iadd, 1) := by decide +kernel
theorem dX4_addLoan_129 : decode cX4_addLoan 129 = .ok (.putfield 54, 3) := by decide +kernel
theorem dX4_addLoan_132 : decode cX4_addLoan 132 = .ok (.aload_n 0, 1) := by decide +kernel
theorem dX4_addLoan_133 : decode cX4_addLoan 133 = .ok (.getfield 54, 3) := by decide +kernel
theorem dX4_addLoan_136 : decode cX4_addLoan 136 = .ok (.iconst 1, 1) := by decide +kernel
theorem dX4_addLoan_137 : decode cX4_addLoan 137 = .ok (.isub, 1) := by decide +kernel
theorem dX4_addLoan_138 : decode cX4_addLoan 138 = .ok (.ireturn, 1) := by decide +kernel
theorem dX4_enter_0 : decode cX4_enter 0 = .ok (.aload_n 0, 1) := by decide +kernel
theorem dX4_enter_1 : decode cX4_enter 1 = .ok (.iload_n 1, 1) := by decide +kernel
theorem dX4_enter_2 : decode cX4_enter 2 = .ok (.invokevirtual 105, 3) := by decide +kernel
theorem dX4_enter_5 : decode cX4_enter 5 = .ok (.istore_n 2, 1) := by decide +kernel
theorem dX4_enter_6 : decode cX4_enter 6 = .ok (.aload_n 0, 1) := by decide +kernel
theorem dX4_enter_7 : decode cX4_enter 7 = .ok (.iload_n 2, 1) := by decide +kernel
theorem dX4_enter_8 : decode cX4_enter 8 = .ok (.iload_n 2, 1) := by decide +kernel
theorem dX4_enter_9 : decode cX4_enter 9 = .ok (.ifCond .eq 16, 3) := by decide +kernel
theorem dX4_enter_12 : decode cX4_enter 12 = .ok (.aload_n 0, 1) := by decide +kernel
theorem dX4_enter_13 : decode cX4_enter 13 = .ok (.getfield 35, 3) := by decide +kernel
theorem dX4_enter_16 : decode cX4_enter 16 = .ok (.iload_n 1, 1) := by decide +kernel
theorem dX4_enter_17 : decode cX4_enter 17 = .ok (.iaload, 1) := by decide +kernel
theorem dX4_enter_18 : decode cX4_enter 18 = .ok (.ifCond .ne 7, 3) := by decide +kernel
theorem dX4_enter_21 : decode cX4_enter 21 = .ok (.iconst 1, 1) := by decide +kernel
theorem dX4_enter_22 : decode cX4_enter 22 = .ok (.goto 4, 3) := by decide +kernel
theorem dX4_enter_25 : decode cX4_enter 25 = .ok (.iconst 0, 1) := by decide +kernel
theorem dX4_enter_26 : decode cX4_enter 26 = .ok (.iconst 1, 1) := by decide +kernel
theorem dX4_enter_27 : decode cX4_enter 27 = .ok (.invokevirtual 101, 3) := by decide +kernel
theorem dX4_enter_30 : decode cX4_enter 30 = .ok (.ifCond .ne 5, 3) := by decide +kernel
theorem dX4_enter_33 : decode cX4_enter 33 = .ok (.iconst 0, 1) := by decide +kernel
theorem dX4_enter_34 : decode cX4_enter 34 = .ok (.ireturn, 1) := by decide +kernel
theorem dX4_enter_35 : decode cX4_enter 35 = .ok (.aload_n 0, 1) := by decide +kernel
theorem dX4_enter_36 : decode cX4_enter 36 = .ok (.getfield 35, 3) := by decide +kernel
theorem dX4_enter_39 : decode cX4_enter 39 = .ok (.iload_n 1, 1) := by decide +kernel
theorem dX4_enter_40 : decode cX4_enter 40 = .ok (.iconst 1, 1) := by decide +kernel
theorem dX4_enter_41 : decode cX4_enter 41 = .ok (.iastore, 1) := by decide +kernel
theorem dX4_enter_42 : decode cX4_enter 42 = .ok (.aload_n 0, 1) := by decide +kernel
theorem dX4_enter_43 : decode cX4_enter 43 = .ok (.iload_n 1, 1) := by decide +kernel
theorem dX4_enter_44 : decode cX4_enter 44 = .ok (.invokevirtual 73, 3) := by decide +kernel
theorem dX4_enter_47 : decode cX4_enter 47 = .ok (.ireturn, 1) := by decide +kernel
theorem dX4_leave_0 : decode cX4_leave 0 = .ok (.aload_n 0, 1) := by decide +kernel
theorem dX4_leave_1 : decode cX4_leave 1 = .ok (.iload_n 1, 1) := by decide +kernel
theorem dX4_leave_2 : decode cX4_leave 2 = .ok (.invokevirtual 105, 3) := by decide +kernel
theorem dX4_leave_5 : decode cX4_leave 5 = .ok (.istore_n 2, 1) := by decide +kernel
theorem dX4_leave_6 : decode cX4_leave 6 = .ok (.aload_n 0, 1) := by decide +kernel
theorem dX4_leave_7 : decode cX4_leave 7 = .ok (.iload_n 2, 1) := by decide +kernel
theorem dX4_leave_8 : decode cX4_leave 8 = .ok (.iload_n 2, 1) := by decide +kernel
theorem dX4_leave_9 : decode cX4_leave 9 = .ok (.ifCond .eq 17, 3) := by decide +kernel
theorem dX4_leave_12 : decode cX4_leave 12 = .ok (.aload_n 0, 1) := by decide +kernel
theorem dX4_leave_13 : decode cX4_leave 13 = .ok (.getfield 35, 3) := by decide +kernel
theorem dX4_leave_16 : decode cX4_leave 16 = .ok (.iload_n 1, 1) := by decide +kernel
theorem dX4_leave_17 : decode cX4_leave 17 = .ok (.iaload, 1) := by decide +kernel
theorem dX4_leave_18 : decode cX4_leave 18 = .ok (.iconst 1, 1) := by decide +kernel
theorem dX4_leave_19 : decode cX4_leave 19 = .ok (.if_icmp .ne 7, 3) := by decide +kernel
theorem dX4_leave_22 : decode cX4_leave 22 = .ok (.iconst 1, 1) := by decide +kernel
theorem dX4_leave_23 : decode cX4_leave 23 = .ok (.goto 4, 3) := by decide +kernel
theorem dX4_leave_26 : decode cX4_leave 26 = .ok (.iconst 0, 1) := by decide +kernel
theorem dX4_leave_27 : decode cX4_leave 27 = .ok (.iconst 1, 1) := by decide +kernel
theorem dX4_leave_28 : decode cX4_leave 28 = .ok (.invokevirtual 101, 3) := by decide +kernel
theorem dX4_leave_31 : decode cX4_leave 31 = .ok (.ifCond .ne 5, 3) := by decide +kernel
theorem dX4_leave_34 : decode cX4_leave 34 = .ok (.iconst 0, 1) := by decide +kernel
theorem dX4_leave_35 : decode cX4_leave 35 = .ok (.ireturn, 1) := by decide +kernel
theorem dX4_leave_36 : decode cX4_leave 36 = .ok (.aload_n 0, 1) := by decide +kernel
theorem dX4_leave_37 : decode cX4_leave 37 = .ok (.aload_n 0, 1) := by decide +kernel
theorem dX4_leave_38 : decode cX4_leave 38 = .ok (.invokevirtual 109, 3) := by decide +kernel
theorem dX4_leave_41 : decode cX4_leave 41 = .ok (.iconst 1, 1) := by decide +kernel
theorem dX4_leave_42 : decode cX4_leave 42 = .ok (.iload_n 1, 1) := by decide +kernel
theorem dX4_leave_43 : decode cX4_leave 43 = .ok (.ishl, 1) := by decide +kernel
theorem dX4_leave_44 : decode cX4_leave 44 = .ok (.iconst (-1), 1) := by decide +kernel
theorem dX4_leave_45 : decode cX4_leave 45 = .ok (.ixor, 1) := by decide +kernel
theorem dX4_leave_46 : decode cX4_leave 46 = .ok (.iand, 1) := by decide +kernel
theorem dX4_leave_47 : decode cX4_leave 47 = .ok (.invokevirtual 112, 3) := by decide +kernel
theorem dX4_leave_50 : decode cX4_leave 50 = .ok (.istore_n 3, 1) := by decide +kernel
theorem dX4_leave_51 : decode cX4_leave 51 = .ok (.aload_n 0, 1) := by decide +kernel
theorem dX4_leave_52 : decode cX4_leave 52 = .ok (.getfield 35, 3) := by decide +kernel
theorem dX4_leave_55 : decode cX4_leave 55 = .ok (.iload_n 1, 1) := by decide +kernel
theorem dX4_leave_56 : decode cX4_leave 56 = .ok (.iload_n 3, 1) := by decide +kernel
theorem dX4_leave_57 : decode cX4_leave 57 = .ok (.ifCond .eq 7, 3) := by decide +kernel
theorem dX4_leave_60 : decode cX4_leave 60 = .ok (.iconst 0, 1) := by decide +kernel
theorem dX4_leave_61 : decode cX4_leave 61 = .ok (.goto 4, 3) := by decide +kernel
theorem dX4_leave_64 : decode cX4_leave 64 = .ok (.iconst 1, 1) := by decide +kernel
theorem dX4_leave_65 : decode cX4_leave 65 = .ok (.iastore, 1) := by decide +kernel
theorem dX4_leave_66 : decode cX4_leave 66 = .ok (.iload_n 3, 1) := by decide +kernel
theorem dX4_leave_67 : decode cX4_leave 67 = .ok (.ireturn, 1) := by decide +kernel
theorem dX4_swap_0 : decode cX4_swap 0 = .ok (.aload_n 0, 1) := by decide +kernel
theorem dX4_swap_1 : decode cX4_swap 1 = .ok (.iload_n 1, 1) := by decide +kernel
theorem dX4_swap_2 : decode cX4_swap 2 = .ok (.invokevirtual 105, 3) := by decide +kernel
theorem dX4_swap_5 : decode cX4_swap 5 = .ok (.ifCond .eq 15, 3) := by decide +kernel
theorem dX4_swap_8 : decode cX4_swap 8 = .ok (.aload_n 0, 1) := by decide +kernel
theorem dX4_swap_9 : decode cX4_swap 9 = .ok (.iload_n 2, 1) := by decide +kernel
theorem dX4_swap_10 : decode cX4_swap 10 = .ok (.invokevirtual 105, 3) := by decide +kernel
theorem dX4_swap_13 : decode cX4_swap 13 = .ok (.ifCond .eq 7, 3) := by decide +kernel
theorem dX4_swap_16 : decode cX4_swap 16 = .ok (.iconst 1, 1) := by decide +kernel
theorem dX4_swap_17 : decode cX4_swap 17 = .ok (.goto 4, 3) := by decide +kernel
theorem dX4_swap_20 : decode cX4_swap 20 = .ok (.iconst 0, 1) := by decide +kernel
theorem dX4_swap_21 : decode cX4_swap 21 = .ok (.istore_n 3, 1) := by decide +kernel
theorem dX4_swap_22 : decode cX4_swap 22 = .ok (.aload_n 0, 1) := by decide +kernel
theorem dX4_swap_23 : decode cX4_swap 23 = .ok (.iload_n 3, 1) := by decide +kernel
theorem dX4_swap_24 : decode cX4_swap 24 = .ok (.iload_n 3, 1) := by decide +kernel
theorem dX4_swap_25 : decode cX4_swap 25 = .ok (.ifCond .eq 26, 3) := by decide +kernel
theorem dX4_swap_28 : decode cX4_swap 28 = .ok (.aload_n 0, 1) := by decide +kernel
theorem dX4_swap_29 : decode cX4_swap 29 = .ok (.getfield 35, 3) := by decide +kernel
theorem dX4_swap_32 : decode cX4_swap 32 = .ok (.iload_n 1, 1) := by decide +kernel
theorem dX4_swap_33 : decode cX4_swap 33 = .ok (.iaload, 1) := by decide +kernel
theorem dX4_swap_34 : decode cX4_swap 34 = .ok (.iconst 1, 1) := by decide +kernel
theorem dX4_swap_35 : decode cX4_swap 35 = .ok (.if_icmp .ne 16, 3) := by decide +kernel
theorem dX4_swap_38 : decode cX4_swap 38 = .ok (.aload_n 0, 1) := by decide +kernel
theorem dX4_swap_39 : decode cX4_swap 39 = .ok (.getfield 35, 3) := by decide +kernel
theorem dX4_swap_42 : decode cX4_swap 42 = .ok (.iload_n 2, 1) := by decide +kernel
theorem dX4_swap_43 : decode cX4_swap 43 = .ok (.iaload, 1) := by decide +kernel
theorem dX4_swap_44 : decode cX4_swap 44 = .ok (.ifCond .ne 7, 3) := by decide +kernel
theorem dX4_swap_47 : decode cX4_swap 47 = .ok (.iconst 1, 1) := by decide +kernel
theorem dX4_swap_48 : decode cX4_swap 48 = .ok (.goto 4, 3) := by decide +kernel
theorem dX4_swap_51 : decode cX4_swap 51 = .ok (.iconst 0, 1) := by decide +kernel
theorem dX4_swap_52 : decode cX4_swap 52 = .ok (.iconst 1, 1) := by decide +kernel
theorem dX4_swap_53 : decode cX4_swap 53 = .ok (.invokevirtual 101, 3) := by decide +kernel
theorem dX4_swap_56 : decode cX4_swap 56 = .ok (.ifCond .ne 5, 3) := by decide +kernel
theorem dX4_swap_59 : decode cX4_swap 59 = .ok (.iconst 0, 1) := by decide +kernel
theorem dX4_swap_60 : decode cX4_swap 60 = .ok (.ireturn, 1) := by decide +kernel
theorem dX4_swap_61 : decode cX4_swap 61 = .ok (.aload_n 0, 1) := by decide +kernel
theorem dX4_swap_62 : decode cX4_swap 62 = .ok (.invokevirtual 109, 3) := by decide +kernel
theorem dX4_swap_65 : decode cX4_swap 65 = .ok (.istore 4, 2) := by decide +kernel
theorem dX4_swap_67 : decode cX4_swap 67 = .ok (.iload 4, 2) := by decide +kernel
theorem dX4_swap_69 : decode cX4_swap 69 = .ok (.iconst 1, 1) := by decide +kernel
theorem dX4_swap_70 : decode cX4_swap 70 = .ok (.iload_n 1, 1) := by decide +kernel
theorem dX4_swap_71 : decode cX4_swap 71 = .ok (.ishl, 1) := by decide +kernel
theorem dX4_swap_72 : decode cX4_swap 72 = .ok (.iconst (-1), 1) := by decide +kernel
theorem dX4_swap_73 : decode cX4_swap 73 = .ok (.ixor, 1) := by decide +kernel
theorem dX4_swap_74 : decode cX4_swap 74 = .ok (.iand, 1) := by decide +kernel
theorem dX4_swap_75 : decode cX4_swap 75 = .ok (.iconst 1, 1) := by decide +kernel
theorem dX4_swap_76 : decode cX4_swap 76 = .ok (.iload_n 2, 1) := by decide +kernel
theorem dX4_swap_77 : decode cX4_swap 77 = .ok (.ishl, 1) := by decide +kernel
theorem dX4_swap_78 : decode cX4_swap 78 = .ok (.ior, 1) := by decide +kernel
theorem dX4_swap_79 : decode cX4_swap 79 = .ok (.istore 5, 2) := by decide +kernel
theorem dX4_swap_81 : decode cX4_swap 81 = .ok (.iconst 1, 1) := by decide +kernel
theorem dX4_swap_82 : decode cX4_swap 82 = .ok (.istore 6, 2) := by decide +kernel
theorem dX4_swap_84 : decode cX4_swap 84 = .ok (.iconst 0, 1) := by decide +kernel
theorem dX4_swap_85 : decode cX4_swap 85 = .ok (.istore 7, 2) := by decide +kernel
theorem dX4_swap_87 : decode cX4_swap 87 = .ok (.iload 7, 2) := by decide +kernel
theorem dX4_swap_89 : decode cX4_swap 89 = .ok (.iconst 2, 1) := by decide +kernel
theorem dX4_swap_90 : decode cX4_swap 90 = .ok (.if_icmp .gt 47, 3) := by decide +kernel
theorem dX4_swap_93 : decode cX4_swap 93 = .ok (.iload 6, 2) := by decide +kernel
theorem dX4_swap_95 : decode cX4_swap 95 = .ok (.ifCond .eq 33, 3) := by decide +kernel
theorem dX4_swap_98 : decode cX4_swap 98 = .ok (.aload_n 0, 1) := by decide +kernel
theorem dX4_swap_99 : decode cX4_swap 99 = .ok (.iload 7, 2) := by decide +kernel
theorem dX4_swap_101 : decode cX4_swap 101 = .ok (.iload 4, 2) := by decide +kernel
theorem dX4_swap_103 : decode cX4_swap 103 = .ok (.invokevirtual 94, 3) := by decide +kernel
theorem dX4_swap_106 : decode cX4_swap 106 = .ok (.lconst 0, 1) := by decide +kernel
theorem dX4_swap_107 : decode cX4_swap 107 = .ok (.lcmp, 1) := by decide +kernel
theorem dX4_swap_108 : decode cX4_swap 108 = .ok (.ifCond .gt 16, 3) := by decide +kernel
theorem dX4_swap_111 : decode cX4_swap 111 = .ok (.aload_n 0, 1) := by decide +kernel
theorem dX4_swap_112 : decode cX4_swap 112 = .ok (.iload 7, 2) := by decide +kernel
theorem dX4_swap_114 : decode cX4_swap 114 = .ok (.iload 5, 2) := by decide +kernel
theorem dX4_swap_116 : decode cX4_swap 116 = .ok (.invokevirtual 94, 3) := by decide +kernel
theorem dX4_swap_119 : decode cX4_swap 119 = .ok (.lconst 0, 1) := by decide +kernel
theorem dX4_swap_120 : decode cX4_swap 120 = .ok (.lcmp, 1) := by decide +kernel
theorem dX4_swap_121 : decode cX4_swap 121 = .ok (.ifCond .ne 7, 3) := by decide +kernel
theorem dX4_swap_124 : decode cX4_swap 124 = .ok (.iconst 1, 1) := by decide +kernel
theorem dX4_swap_125 : decode cX4_swap 125 = .ok (.goto 4, 3) := by decide +kernel
theorem dX4_swap_128 : decode cX4_swap 128 = .ok (.iconst 0, 1) := by decide +kernel
theorem dX4_swap_129 : decode cX4_swap 129 = .ok (.istore 6, 2) := by decide +kernel
theorem dX4_swap_131 : decode cX4_swap 131 = .ok (.iinc 7 1, 3) := by decide +kernel
theorem dX4_swap_134 : decode cX4_swap 134 = .ok (.goto (-47), 3) := by decide +kernel
theorem dX4_swap_137 : decode cX4_swap 137 = .ok (.aload_n 0, 1) := by decide +kernel
theorem dX4_swap_138 : decode cX4_swap 138 = .ok (.getfield 35, 3) := by decide +kernel
theorem dX4_swap_141 : decode cX4_swap 141 = .ok (.iload_n 1, 1) := by decide +kernel
theorem dX4_swap_142 : decode cX4_swap 142 = .ok (.iload 6, 2) := by decide +kernel
theorem dX4_swap_144 : decode cX4_swap 144 = .ok (.ifCond .eq 7, 3) := by decide +kernel
theorem dX4_swap_147 : decode cX4_swap 147 = .ok (.iconst 0, 1) := by decide +kernel
theorem dX4_swap_148 : decode cX4_swap 148 = .ok (.goto 4, 3) := by decide +kernel
theorem dX4_swap_151 : decode cX4_swap 151 = .ok (.iconst 1, 1) := by decide +kernel
theorem dX4_swap_152 : decode cX4_swap 152 = .ok (.iastore, 1) := by decide +kernel
theorem dX4_swap_153 : decode cX4_swap 153 = .ok (.aload_n 0, 1) := by decide +kernel
theorem dX4_swap_154 : decode cX4_swap 154 = .ok (.getfield 35, 3) := by decide +kernel
theorem dX4_swap_157 : decode cX4_swap 157 = .ok (.iload_n 2, 1) := by decide +kernel
theorem dX4_swap_158 : decode cX4_swap 158 = .ok (.iload 6, 2) := by decide +kernel
theorem dX4_swap_160 : decode cX4_swap 160 = .ok (.ifCond .eq 7, 3) := by decide +kernel
theorem dX4_swap_163 : decode cX4_swap 163 = .ok (.iconst 1, 1) := by decide +kernel
theorem dX4_swap_164 : decode cX4_swap 164 = .ok (.goto 4, 3) := by decide +kernel
theorem dX4_swap_167 : decode cX4_swap 167 = .ok (.iconst 0, 1) := by decide +kernel
theorem dX4_swap_168 : decode cX4_swap 168 = .ok (.iastore, 1) := by decide +kernel
theorem dX4_swap_169 : decode cX4_swap 169 = .ok (.iload 6, 2) := by decide +kernel
theorem dX4_swap_171 : decode cX4_swap 171 = .ok (.ireturn, 1) := by decide +kernel
theorem dX4_setArrears_0 : decode cX4_setArrears 0 = .ok (.aload_n 0, 1) := by decide +kernel
theorem dX4_setArrears_1 : decode cX4_setArrears 1 = .ok (.iload_n 1, 1) := by decide +kernel
theorem dX4_setArrears_2 : decode cX4_setArrears 2 = .ok (.invokevirtual 105, 3) := by decide +kernel
theorem dX4_setArrears_5 : decode cX4_setArrears 5 = .ok (.istore_n 3, 1) := by decide +kernel
theorem dX4_setArrears_6 : decode cX4_setArrears 6 = .ok (.aload_n 0, 1) := by decide +kernel
theorem dX4_setArrears_7 : decode cX4_setArrears 7 = .ok (.iload_n 3, 1) := by decide +kernel
theorem dX4_setArrears_8 : decode cX4_setArrears 8 = .ok (.iload_n 2, 1) := by decide +kernel
theorem dX4_setArrears_9 : decode cX4_setArrears 9 = .ok (.iconst 0, 1) := by decide +kernel
theorem dX4_setArrears_10 : decode cX4_setArrears 10 = .ok (.bipush 60, 2) := by decide +kernel
theorem dX4_setArrears_12 : decode cX4_setArrears 12 = .ok (.invokestatic 97, 3) := by decide +kernel
theorem dX4_setArrears_15 : decode cX4_setArrears 15 = .ok (.iload_n 3, 1) := by decide +kernel
theorem dX4_setArrears_16 : decode cX4_setArrears 16 = .ok (.ifCond .eq 17, 3) := by decide +kernel
theorem dX4_setArrears_19 : decode cX4_setArrears 19 = .ok (.aload_n 0, 1) := by decide +kernel
theorem dX4_setArrears_20 : decode cX4_setArrears 20 = .ok (.getfield 35, 3) := by decide +kernel
theorem dX4_setArrears_23 : decode cX4_setArrears 23 = .ok (.iload_n 1, 1) := by decide +kernel
theorem dX4_setArrears_24 : decode cX4_setArrears 24 = .ok (.iaload, 1) := by decide +kernel
theorem dX4_setArrears_25 : decode cX4_setArrears 25 = .ok (.iconst 2, 1) := by decide +kernel
theorem dX4_setArrears_26 : decode cX4_setArrears 26 = .ok (.if_icmp .eq 7, 3) := by decide +kernel
theorem dX4_setArrears_29 : decode cX4_setArrears 29 = .ok (.iconst 1, 1) := by decide +kernel
theorem dX4_setArrears_30 : decode cX4_setArrears 30 = .ok (.goto 4, 3) := by decide +kernel
theorem dX4_setArrears_33 : decode cX4_setArrears 33 = .ok (.iconst 0, 1) := by decide +kernel
theorem dX4_setArrears_34 : decode cX4_setArrears 34 = .ok (.invokevirtual 101, 3) := by decide +kernel
theorem dX4_setArrears_37 : decode cX4_setArrears 37 = .ok (.ifCond .ne 5, 3) := by decide +kernel
theorem dX4_setArrears_40 : decode cX4_setArrears 40 = .ok (.iconst 0, 1) := by decide +kernel
theorem dX4_setArrears_41 : decode cX4_setArrears 41 = .ok (.ireturn, 1) := by decide +kernel
theorem dX4_setArrears_42 : decode cX4_setArrears 42 = .ok (.aload_n 0, 1) := by decide +kernel
theorem dX4_setArrears_43 : decode cX4_setArrears 43 = .ok (.getfield 32, 3) := by decide +kernel
theorem dX4_setArrears_46 : decode cX4_setArrears 46 = .ok (.iload_n 1, 1) := by decide +kernel
theorem dX4_setArrears_47 : decode cX4_setArrears 47 = .ok (.iaload, 1) := by decide +kernel
theorem dX4_setArrears_48 : decode cX4_setArrears 48 = .ok (.istore 4, 2) := by decide +kernel
theorem dX4_setArrears_50 : decode cX4_setArrears 50 = .ok (.aload_n 0, 1) := by decide +kernel
theorem dX4_setArrears_51 : decode cX4_setArrears 51 = .ok (.getfield 32, 3) := by decide +kernel
theorem dX4_setArrears_54 : decode cX4_setArrears 54 = .ok (.iload_n 1, 1) := by decide +kernel
theorem dX4_setArrears_55 : decode cX4_setArrears 55 = .ok (.iload_n 2, 1) := by decide +kernel
theorem dX4_setArrears_56 : decode cX4_setArrears 56 = .ok (.iastore, 1) := by decide +kernel
theorem dX4_setArrears_57 : decode cX4_setArrears 57 = .ok (.iload 4, 2) := by decide +kernel
theorem dX4_setArrears_59 : decode cX4_setArrears 59 = .ok (.ireturn, 1) := by decide +kernel
theorem dX4_setWorth_0 : decode cX4_setWorth 0 = .ok (.aload_n 0, 1) := by decide +kernel
theorem dX4_setWorth_1 : decode cX4_setWorth 1 = .ok (.aload_n 0, 1) := by decide +kernel
theorem dX4_setWorth_2 : decode cX4_setWorth 2 = .ok (.iload_n 1, 1) := by decide +kernel
theorem dX4_setWorth_3 : decode cX4_setWorth 3 = .ok (.invokevirtual 105, 3) := by decide +kernel
theorem dX4_setWorth_6 : decode cX4_setWorth 6 = .ok (.iload_n 2, 1) := by decide +kernel
theorem dX4_setWorth_7 : decode cX4_setWorth 7 = .ok (.iconst 0, 1) := by decide +kernel
theorem dX4_setWorth_8 : decode cX4_setWorth 8 = .ok (.sipush 20000, 3) := by decide +kernel
theorem dX4_setWorth_11 : decode cX4_setWorth 11 = .ok (.invokestatic 97, 3) := by decide +kernel
theorem dX4_setWorth_14 : decode cX4_setWorth 14 = .ok (.iconst 1, 1) := by decide +kernel
theorem dX4_setWorth_15 : decode cX4_setWorth 15 = .ok (.invokevirtual 101, 3) := by decide +kernel
theorem dX4_setWorth_18 : decode cX4_setWorth 18 = .ok (.ifCond .ne 5, 3) := by decide +kernel
theorem dX4_setWorth_21 : decode cX4_setWorth 21 = .ok (.iconst 0, 1) := by decide +kernel
theorem dX4_setWorth_22 : decode cX4_setWorth 22 = .ok (.ireturn, 1) := by decide +kernel
theorem dX4_setWorth_23 : decode cX4_setWorth 23 = .ok (.aload_n 0, 1) := by decide +kernel
theorem dX4_setWorth_24 : decode cX4_setWorth 24 = .ok (.getfield 23, 3) := by decide +kernel
theorem dX4_setWorth_27 : decode cX4_setWorth 27 = .ok (.iload_n 1, 1) := by decide +kernel
theorem dX4_setWorth_28 : decode cX4_setWorth 28 = .ok (.iaload, 1) := by decide +kernel
theorem dX4_setWorth_29 : decode cX4_setWorth 29 = .ok (.istore_n 3, 1) := by decide +kernel
theorem dX4_setWorth_30 : decode cX4_setWorth 30 = .ok (.aload_n 0, 1) := by decide +kernel
theorem dX4_setWorth_31 : decode cX4_setWorth 31 = .ok (.getfield 23, 3) := by decide +kernel
theorem dX4_setWorth_34 : decode cX4_setWorth 34 = .ok (.iload_n 1, 1) := by decide +kernel
theorem dX4_setWorth_35 : decode cX4_setWorth 35 = .ok (.iload_n 2, 1) := by decide +kernel
theorem dX4_setWorth_36 : decode cX4_setWorth 36 = .ok (.iastore, 1) := by decide +kernel
theorem dX4_setWorth_37 : decode cX4_setWorth 37 = .ok (.iload_n 3, 1) := by decide +kernel
theorem dX4_setWorth_38 : decode cX4_setWorth 38 = .ok (.ireturn, 1) := by decide +kernel
theorem dX4_stateOf_0 : decode cX4_stateOf 0 = .ok (.aload_n 0, 1) := by decide +kernel
theorem dX4_stateOf_1 : decode cX4_stateOf 1 = .ok (.aload_n 0, 1) := by decide +kernel
theorem dX4_stateOf_2 : decode cX4_stateOf 2 = .ok (.iload_n 1, 1) := by decide +kernel
theorem dX4_stateOf_3 : decode cX4_stateOf 3 = .ok (.invokevirtual 105, 3) := by decide +kernel
theorem dX4_stateOf_6 : decode cX4_stateOf 6 = .ok (.iconst 1, 1) := by decide +kernel
theorem dX4_stateOf_7 : decode cX4_stateOf 7 = .ok (.iconst 1, 1) := by decide +kernel
theorem dX4_stateOf_8 : decode cX4_stateOf 8 = .ok (.invokevirtual 101, 3) := by decide +kernel
theorem dX4_stateOf_11 : decode cX4_stateOf 11 = .ok (.ifCond .eq 12, 3) := by decide +kernel
theorem dX4_stateOf_14 : decode cX4_stateOf 14 = .ok (.aload_n 0, 1) := by decide +kernel
theorem dX4_stateOf_15 : decode cX4_stateOf 15 = .ok (.getfield 35, 3) := by decide +kernel
theorem dX4_stateOf_18 : decode cX4_stateOf 18 = .ok (.iload_n 1, 1) := by decide +kernel
theorem dX4_stateOf_19 : decode cX4_stateOf 19 = .ok (.iaload, 1) := by decide +kernel
theorem dX4_stateOf_20 : decode cX4_stateOf 20 = .ok (.goto 4, 3) := by decide +kernel
theorem dX4_stateOf_23 : decode cX4_stateOf 23 = .ok (.iconst 0, 1) := by decide +kernel
theorem dX4_stateOf_24 : decode cX4_stateOf 24 = .ok (.ireturn, 1) := by decide +kernel
theorem dX4_counts_0 : decode cX4_counts 0 = .ok (.aload_n 0, 1) := by decide +kernel
theorem dX4_counts_1 : decode cX4_counts 1 = .ok (.aload_n 0, 1) := by decide +kernel
theorem dX4_counts_2 : decode cX4_counts 2 = .ok (.iload_n 1, 1) := by decide +kernel
theorem dX4_counts_3 : decode cX4_counts 3 = .ok (.invokevirtual 105, 3) := by decide +kernel
theorem dX4_counts_6 : decode cX4_counts 6 = .ok (.iconst 1, 1) := by decide +kernel
theorem dX4_counts_7 : decode cX4_counts 7 = .ok (.iconst 1, 1) := by decide +kernel
theorem dX4_counts_8 : decode cX4_counts 8 = .ok (.invokevirtual 101, 3) := by decide +kernel
theorem dX4_counts_11 : decode cX4_counts 11 = .ok (.ifCond .eq 11, 3) := by decide +kernel
theorem dX4_counts_14 : decode cX4_counts 14 = .ok (.aload_n 0, 1) := by decide +kernel
theorem dX4_counts_15 : decode cX4_counts 15 = .ok (.iload_n 1, 1) := by decide +kernel
theorem dX4_counts_16 : decode cX4_counts 16 = .ok (.invokevirtual 73, 3) := by decide +kernel
theorem dX4_counts_19 : decode cX4_counts 19 = .ok (.goto 4, 3) := by decide +kernel
theorem dX4_counts_22 : decode cX4_counts 22 = .ok (.iconst 0, 1) := by decide +kernel
theorem dX4_counts_23 : decode cX4_counts 23 = .ok (.ireturn, 1) := by decide +kernel
theorem dX4_addBond_0 : decode cX4_addBond 0 = .ok (.aload_n 0, 1) := by decide +kernel
theorem dX4_addBond_1 : decode cX4_addBond 1 = .ok (.iload_n 1, 1) := by decide +kernel
theorem dX4_addBond_2 : decode cX4_addBond 2 = .ok (.iconst 1, 1) := by decide +kernel
theorem dX4_addBond_3 : decode cX4_addBond 3 = .ok (.ldc 115, 2) := by decide +kernel
theorem dX4_addBond_5 : decode cX4_addBond 5 = .ok (.invokestatic 97, 3) := by decide +kernel
theorem dX4_addBond_8 : decode cX4_addBond 8 = .ok (.ifCond .eq 22, 3) := by decide +kernel
theorem dX4_addBond_11 : decode cX4_addBond 11 = .ok (.iload_n 2, 1) := by decide +kernel
theorem dX4_addBond_12 : decode cX4_addBond 12 = .ok (.aload_n 0, 1) := by decide +kernel
theorem dX4_addBond_13 : decode cX4_addBond 13 = .ok (.getfield 67, 3) := by decide +kernel
theorem dX4_addBond_16 : decode cX4_addBond 16 = .ok (.if_icmp .le 14, 3) := by decide +kernel
theorem dX4_addBond_19 : decode cX4_addBond 19 = .ok (.iload_n 2, 1) := by decide +kernel
theorem dX4_addBond_20 : decode cX4_addBond 20 = .ok (.sipush 600, 3) := by decide +kernel
theorem dX4_addBond_23 : decode cX4_addBond 23 = .ok (.if_icmp .gt 7, 3) := by decide +kernel
theorem dX4_addBond_26 : decode cX4_addBond 26 = .ok (.iconst 1, 1) := by decide +kernel
theorem dX4_addBond_27 : decode cX4_addBond 27 = .ok (.goto 4, 3) := by decide +kernel
theorem dX4_addBond_30 : decode cX4_addBond 30 = .ok (.iconst 0, 1) := by decide +kernel
theorem dX4_addBond_31 : decode cX4_addBond 31 = .ok (.aload_n 0, 1) := by decide +kernel
theorem dX4_addBond_32 : decode cX4_addBond 32 = .ok (.getfield 57, 3) := by decide +kernel
theorem dX4_addBond_35 : decode cX4_addBond 35 = .ok (.iconst 5, 1) := by decide +kernel
theorem dX4_addBond_36 : decode cX4_addBond 36 = .ok (.if_icmp .ge 7, 3) := by decide +kernel
theorem dX4_addBond_39 : decode cX4_addBond 39 = .ok (.iconst 1, 1) := by decide +kernel
theorem dX4_addBond_40 : decode cX4_addBond 40 = .ok (.goto 4, 3) := by decide +kernel
theorem dX4_addBond_43 : decode cX4_addBond 43 = .ok (.iconst 0, 1) := by decide +kernel
theorem dX4_addBond_44 : decode cX4_addBond 44 = .ok (.iconst 1, 1) := by decide +kernel
theorem dX4_addBond_45 : decode cX4_addBond 45 = .ok (.invokevirtual 101, 3) := by decide +kernel
theorem dX4_addBond_48 : decode cX4_addBond 48 = .ok (.ifCond .ne 5, 3) := by decide +kernel
theorem dX4_addBond_51 : decode cX4_addBond 51 = .ok (.iconst 0, 1) := by decide +kernel
theorem dX4_addBond_52 : decode cX4_addBond 52 = .ok (.ireturn, 1) := by decide +kernel
theorem dX4_addBond_53 : decode cX4_addBond 53 = .ok (.aload_n 0, 1) := by decide +kernel
theorem dX4_addBond_54 : decode cX4_addBond 54 = .ok (.getfield 38, 3) := by decide +kernel
theorem dX4_addBond_57 : decode cX4_addBond 57 = .ok (.aload_n 0, 1) := by decide +kernel
theorem dX4_addBond_58 : decode cX4_addBond 58 = .ok (.getfield 57, 3) := by decide +kernel
theorem dX4_addBond_61 : decode cX4_addBond 61 = .ok (.iload_n 1, 1) := by decide +kernel
theorem dX4_addBond_62 : decode cX4_addBond 62 = .ok (.iastore, 1) := by decide +kernel
theorem dX4_addBond_63 : decode cX4_addBond 63 = .ok (.aload_n 0, 1) := by decide +kernel
theorem dX4_addBond_64 : decode cX4_addBond 64 = .ok (.getfield 41, 3) := by decide +kernel
theorem dX4_addBond_67 : decode cX4_addBond 67 = .ok (.aload_n 0, 1) := by decide +kernel
theorem dX4_addBond_68 : decode cX4_addBond 68 = .ok (.getfield 57, 3) := by decide +kernel
theorem dX4_addBond_71 : decode cX4_addBond 71 = .ok (.iload_n 2, 1) := by decide +kernel
theorem dX4_addBond_72 : decode cX4_addBond 72 = .ok (.iastore, 1) := by decide +kernel
theorem dX4_addBond_73 : decode cX4_addBond 73 = .ok (.aload_n 0, 1) := by decide +kernel
theorem dX4_addBond_74 : decode cX4_addBond 74 = .ok (.dup, 1) := by decide +kernel
theorem dX4_addBond_75 : decode cX4_addBond 75 = .ok (.getfield 57, 3) := by decide +kernel
theorem dX4_addBond_78 : decode cX4_addBond 78 = .ok (.iconst 1, 1) := by decide +kernel
theorem dX4_addBond_79 : decode cX4_addBond 79 = .ok (.iadd, 1) := by decide +kernel
theorem dX4_addBond_80 : decode cX4_addBond 80 = .ok (.putfield 57, 3) := by decide +kernel
theorem dX4_addBond_83 : decode cX4_addBond 83 = .ok (.aload_n 0, 1) := by decide +kernel
theorem dX4_addBond_84 : decode cX4_addBond 84 = .ok (.dup, 1) := by decide +kernel
theorem dX4_addBond_85 : decode cX4_addBond 85 = .ok (.getfield 64, 3) := by decide +kernel
theorem dX4_addBond_88 : decode cX4_addBond 88 = .ok (.iload_n 1, 1) := by decide +kernel
theorem dX4_addBond_89 : decode cX4_addBond 89 = .ok (.iadd, 1) := by decide +kernel
theorem dX4_addBond_90 : decode cX4_addBond 90 = .ok (.putfield 64, 3) := by decide +kernel
theorem dX4_addBond_93 : decode cX4_addBond 93 = .ok (.aload_n 0, 1) := by decide +kernel
theorem dX4_addBond_94 : decode cX4_addBond 94 = .ok (.getfield 57, 3) := by decide +kernel
theorem dX4_addBond_97 : decode cX4_addBond 97 = .ok (.iconst 1, 1) := by decide +kernel
theorem dX4_addBond_98 : decode cX4_addBond 98 = .ok (.isub, 1) := by decide +kernel
theorem dX4_addBond_99 : decode cX4_addBond 99 = .ok (.ireturn, 1) := by decide +kernel
theorem dX4_takeCash_0 : decode cX4_takeCash 0 = .ok (.aload_n 0, 1) := by decide +kernel
theorem dX4_takeCash_1 : decode cX4_takeCash 1 = .ok (.iload_n 1, 1) := by decide +kernel
theorem dX4_takeCash_2 : decode cX4_takeCash 2 = .ok (.iconst 1, 1) := by decide +kernel
theorem dX4_takeCash_3 : decode cX4_takeCash 3 = .ok (.ldc 116, 2) := by decide +kernel
theorem dX4_takeCash_5 : decode cX4_takeCash 5 = .ok (.invokestatic 97, 3) := by decide +kernel
theorem dX4_takeCash_8 : decode cX4_takeCash 8 = .ok (.aload_n 0, 1) := by decide +kernel
theorem dX4_takeCash_9 : decode cX4_takeCash 9 = .ok (.getfield 64, 3) := by decide +kernel
theorem dX4_takeCash_12 : decode cX4_takeCash 12 = .ok (.iload_n 1, 1) := by decide +kernel
theorem dX4_takeCash_13 : decode cX4_takeCash 13 = .ok (.if_icmp .lt 7, 3) := by decide +kernel
theorem dX4_takeCash_16 : decode cX4_takeCash 16 = .ok (.iconst 1, 1) := by decide +kernel
theorem dX4_takeCash_17 : decode cX4_takeCash 17 = .ok (.goto 4, 3) := by decide +kernel
theorem dX4_takeCash_20 : decode cX4_takeCash 20 = .ok (.iconst 0, 1) := by decide +kernel
theorem dX4_takeCash_21 : decode cX4_takeCash 21 = .ok (.iconst 1, 1) := by decide +kernel
theorem dX4_takeCash_22 : decode cX4_takeCash 22 = .ok (.invokevirtual 101, 3) := by decide +kernel
theorem dX4_takeCash_25 : decode cX4_takeCash 25 = .ok (.ifCond .ne 5, 3) := by decide +kernel
theorem dX4_takeCash_28 : decode cX4_takeCash 28 = .ok (.iconst 0, 1) := by decide +kernel
theorem dX4_takeCash_29 : decode cX4_takeCash 29 = .ok (.ireturn, 1) := by decide +kernel
theorem dX4_takeCash_30 : decode cX4_takeCash 30 = .ok (.aload_n 0, 1) := by decide +kernel
theorem dX4_takeCash_31 : decode cX4_takeCash 31 = .ok (.dup, 1) := by decide +kernel
theorem dX4_takeCash_32 : decode cX4_takeCash 32 = .ok (.getfield 64, 3) := by decide +kernel
theorem dX4_takeCash_35 : decode cX4_takeCash 35 = .ok (.iload_n 1, 1) := by decide +kernel
theorem dX4_takeCash_36 : decode cX4_takeCash 36 = .ok (.isub, 1) := by decide +kernel
theorem dX4_takeCash_37 : decode cX4_takeCash 37 = .ok (.putfield 64, 3) := by decide +kernel
theorem dX4_takeCash_40 : decode cX4_takeCash 40 = .ok (.aload_n 0, 1) := by decide +kernel
theorem dX4_takeCash_41 : decode cX4_takeCash 41 = .ok (.getfield 64, 3) := by decide +kernel
theorem dX4_takeCash_44 : decode cX4_takeCash 44 = .ok (.ireturn, 1) := by decide +kernel
theorem dX4_setRules_0 : decode cX4_setRules 0 = .ok (.aload_n 0, 1) := by decide +kernel
theorem dX4_setRules_1 : decode cX4_setRules 1 = .ok (.iload_n 1, 1) := by decide +kernel
theorem dX4_setRules_2 : decode cX4_setRules 2 = .ok (.iconst 1, 1) := by decide +kernel
theorem dX4_setRules_3 : decode cX4_setRules 3 = .ok (.iconst 5, 1) := by decide +kernel
theorem dX4_setRules_4 : decode cX4_setRules 4 = .ok (.invokestatic 97, 3) := by decide +kernel
theorem dX4_setRules_7 : decode cX4_setRules 7 = .ok (.ifCond .eq 27, 3) := by decide +kernel
theorem dX4_setRules_10 : decode cX4_setRules 10 = .ok (.iload_n 2, 1) := by decide +kernel
theorem dX4_setRules_11 : decode cX4_setRules 11 = .ok (.iconst 0, 1) := by decide +kernel
theorem dX4_setRules_12 : decode cX4_setRules 12 = .ok (.bipush 50, 2) := by decide +kernel
theorem dX4_setRules_14 : decode cX4_setRules 14 = .ok (.invokestatic 97, 3) := by decide +kernel
theorem dX4_setRules_17 : decode cX4_setRules 17 = .ok (.ifCond .eq 17, 3) := by decide +kernel
theorem dX4_setRules_20 : decode cX4_setRules 20 = .ok (.iload_n 3, 1) := by decide +kernel
theorem dX4_setRules_21 : decode cX4_setRules 21 = .ok (.iconst 0, 1) := by decide +kernel
theorem dX4_setRules_22 : decode cX4_setRules 22 = .ok (.bipush 20, 2) := by decide +kernel
theorem dX4_setRules_24 : decode cX4_setRules 24 = .ok (.invokestatic 97, 3) := by decide +kernel
theorem dX4_setRules_27 : decode cX4_setRules 27 = .ok (.ifCond .eq 7, 3) := by decide +kernel
theorem dX4_setRules_30 : decode cX4_setRules 30 = .ok (.iconst 1, 1) := by decide +kernel
theorem dX4_setRules_31 : decode cX4_setRules 31 = .ok (.goto 4, 3) := by decide +kernel
theorem dX4_setRules_34 : decode cX4_setRules 34 = .ok (.iconst 0, 1) := by decide +kernel
theorem dX4_setRules_35 : decode cX4_setRules 35 = .ok (.iconst 1, 1) := by decide +kernel
theorem dX4_setRules_36 : decode cX4_setRules 36 = .ok (.iconst 1, 1) := by decide +kernel
theorem dX4_setRules_37 : decode cX4_setRules 37 = .ok (.invokevirtual 101, 3) := by decide +kernel
theorem dX4_setRules_40 : decode cX4_setRules 40 = .ok (.ifCond .eq 18, 3) := by decide +kernel
theorem dX4_setRules_43 : decode cX4_setRules 43 = .ok (.aload_n 0, 1) := by decide +kernel
theorem dX4_setRules_44 : decode cX4_setRules 44 = .ok (.iload_n 1, 1) := by decide +kernel
theorem dX4_setRules_45 : decode cX4_setRules 45 = .ok (.putfield 7, 3) := by decide +kernel
theorem dX4_setRules_48 : decode cX4_setRules 48 = .ok (.aload_n 0, 1) := by decide +kernel
theorem dX4_setRules_49 : decode cX4_setRules 49 = .ok (.iload_n 2, 1) := by decide +kernel
theorem dX4_setRules_50 : decode cX4_setRules 50 = .ok (.putfield 13, 3) := by decide +kernel
theorem dX4_setRules_53 : decode cX4_setRules 53 = .ok (.aload_n 0, 1) := by decide +kernel
theorem dX4_setRules_54 : decode cX4_setRules 54 = .ok (.iload_n 3, 1) := by decide +kernel
theorem dX4_setRules_55 : decode cX4_setRules 55 = .ok (.putfield 16, 3) := by decide +kernel
theorem dX4_setRules_58 : decode cX4_setRules 58 = .ok (.return_, 1) := by decide +kernel
theorem dX4_bondState_0 : decode cX4_bondState 0 = .ok (.aload_n 0, 1) := by decide +kernel
theorem dX4_bondState_1 : decode cX4_bondState 1 = .ok (.aload_n 0, 1) := by decide +kernel
theorem dX4_bondState_2 : decode cX4_bondState 2 = .ok (.iload_n 1, 1) := by decide +kernel
theorem dX4_bondState_3 : decode cX4_bondState 3 = .ok (.invokevirtual 117, 3) := by decide +kernel
theorem dX4_bondState_6 : decode cX4_bondState 6 = .ok (.iconst 1, 1) := by decide +kernel
theorem dX4_bondState_7 : decode cX4_bondState 7 = .ok (.iconst 1, 1) := by decide +kernel
theorem dX4_bondState_8 : decode cX4_bondState 8 = .ok (.invokevirtual 101, 3) := by decide +kernel
theorem dX4_bondState_11 : decode cX4_bondState 11 = .ok (.ifCond .eq 12, 3) := by decide +kernel
theorem dX4_bondState_14 : decode cX4_bondState 14 = .ok (.aload_n 0, 1) := by decide +kernel
theorem dX4_bondState_15 : decode cX4_bondState 15 = .ok (.getfield 44, 3) := by decide +kernel
theorem dX4_bondState_18 : decode cX4_bondState 18 = .ok (.iload_n 1, 1) := by decide +kernel
theorem dX4_bondState_19 : decode cX4_bondState 19 = .ok (.iaload, 1) := by decide +kernel
theorem dX4_bondState_20 : decode cX4_bondState 20 = .ok (.goto 4, 3) := by decide +kernel
theorem dX4_bondState_23 : decode cX4_bondState 23 = .ok (.iconst 0, 1) := by decide +kernel
theorem dX4_bondState_24 : decode cX4_bondState 24 = .ok (.ireturn, 1) := by decide +kernel
theorem dX4_dueOf_0 : decode cX4_dueOf 0 = .ok (.aload_n 0, 1) := by decide +kernel
theorem dX4_dueOf_1 : decode cX4_dueOf 1 = .ok (.aload_n 0, 1) := by decide +kernel
theorem dX4_dueOf_2 : decode cX4_dueOf 2 = .ok (.iload_n 1, 1) := by decide +kernel
theorem dX4_dueOf_3 : decode cX4_dueOf 3 = .ok (.invokevirtual 117, 3) := by decide +kernel
theorem dX4_dueOf_6 : decode cX4_dueOf 6 = .ok (.iconst 1, 1) := by decide +kernel
theorem dX4_dueOf_7 : decode cX4_dueOf 7 = .ok (.iconst 1, 1) := by decide +kernel
theorem dX4_dueOf_8 : decode cX4_dueOf 8 = .ok (.invokevirtual 101, 3) := by decide +kernel
theorem dX4_dueOf_11 : decode cX4_dueOf 11 = .ok (.ifCond .eq 12, 3) := by decide +kernel
theorem dX4_dueOf_14 : decode cX4_dueOf 14 = .ok (.aload_n 0, 1) := by decide +kernel
theorem dX4_dueOf_15 : decode cX4_dueOf 15 = .ok (.getfield 41, 3) := by decide +kernel
theorem dX4_dueOf_18 : decode cX4_dueOf 18 = .ok (.iload_n 1, 1) := by decide +kernel
theorem dX4_dueOf_19 : decode cX4_dueOf 19 = .ok (.iaload, 1) := by decide +kernel
theorem dX4_dueOf_20 : decode cX4_dueOf 20 = .ok (.goto 4, 3) := by decide +kernel
theorem dX4_dueOf_23 : decode cX4_dueOf 23 = .ok (.iconst 0, 1) := by decide +kernel
theorem dX4_dueOf_24 : decode cX4_dueOf 24 = .ok (.ireturn, 1) := by decide +kernel
theorem dX4_cash_0 : decode cX4_cash 0 = .ok (.aload_n 0, 1) := by decide +kernel
theorem dX4_cash_1 : decode cX4_cash 1 = .ok (.iconst 0, 1) := by decide +kernel
theorem dX4_cash_2 : decode cX4_cash 2 = .ok (.putfield 51, 3) := by decide +kernel
theorem dX4_cash_5 : decode cX4_cash 5 = .ok (.aload_n 0, 1) := by decide +kernel
theorem dX4_cash_6 : decode cX4_cash 6 = .ok (.getfield 64, 3) := by decide +kernel
theorem dX4_cash_9 : decode cX4_cash 9 = .ok (.ireturn, 1) := by decide +kernel
theorem dX4_debt_0 : decode cX4_debt 0 = .ok (.aload_n 0, 1) := by decide +kernel
theorem dX4_debt_1 : decode cX4_debt 1 = .ok (.iconst 0, 1) := by decide +kernel
theorem dX4_debt_2 : decode cX4_debt 2 = .ok (.putfield 51, 3) := by decide +kernel
theorem dX4_debt_5 : decode cX4_debt 5 = .ok (.aload_n 0, 1) := by decide +kernel
theorem dX4_debt_6 : decode cX4_debt 6 = .ok (.invokevirtual 60, 3) := by decide +kernel
theorem dX4_debt_9 : decode cX4_debt 9 = .ok (.ireturn, 1) := by decide +kernel
theorem dX4_substitutes_0 : decode cX4_substitutes 0 = .ok (.aload_n 0, 1) := by decide +kernel
theorem dX4_substitutes_1 : decode cX4_substitutes 1 = .ok (.iconst 0, 1) := by decide +kernel
theorem dX4_substitutes_2 : decode cX4_substitutes 2 = .ok (.putfield 51, 3) := by decide +kernel
theorem dX4_substitutes_5 : decode cX4_substitutes 5 = .ok (.aload_n 0, 1) := by decide +kernel
theorem dX4_substitutes_6 : decode cX4_substitutes 6 = .ok (.invokevirtual 70, 3) := by decide +kernel
theorem dX4_substitutes_9 : decode cX4_substitutes 9 = .ok (.ireturn, 1) := by decide +kernel
theorem dX4_lives_0 : decode cX4_lives 0 = .ok (.aload_n 0, 1) := by decide +kernel
theorem dX4_lives_1 : decode cX4_lives 1 = .ok (.dup, 1) := by decide +kernel
theorem dX4_lives_2 : decode cX4_lives 2 = .ok (.getfield 67, 3) := by decide +kernel
theorem dX4_lives_5 : decode cX4_lives 5 = .ok (.iconst 1, 1) := by decide +kernel
theorem dX4_lives_6 : decode cX4_lives 6 = .ok (.iadd, 1) := by decide +kernel
theorem dX4_lives_7 : decode cX4_lives 7 = .ok (.putfield 67, 3) := by decide +kernel
theorem dX4_lives_10 : decode cX4_lives 10 = .ok (.iconst 0, 1) := by decide +kernel
theorem dX4_lives_11 : decode cX4_lives 11 = .ok (.istore_n 1, 1) := by decide +kernel
theorem dX4_lives_12 : decode cX4_lives 12 = .ok (.iload_n 1, 1) := by decide +kernel
theorem dX4_lives_13 : decode cX4_lives 13 = .ok (.aload_n 0, 1) := by decide +kernel
theorem dX4_lives_14 : decode cX4_lives 14 = .ok (.getfield 54, 3) := by decide +kernel
theorem dX4_lives_17 : decode cX4_lives 17 = .ok (.if_icmp .ge 63, 3) := by decide +kernel
theorem dX4_lives_20 : decode cX4_lives 20 = .ok (.aload_n 0, 1) := by decide +kernel
theorem dX4_lives_21 : decode cX4_lives 21 = .ok (.getfield 35, 3) := by decide +kernel
theorem dX4_lives_24 : decode cX4_lives 24 = .ok (.iload_n 1, 1) := by decide +kernel
theorem dX4_lives_25 : decode cX4_lives 25 = .ok (.iaload, 1) := by decide +kernel
theorem dX4_lives_26 : decode cX4_lives 26 = .ok (.iconst 1, 1) := by decide +kernel
theorem dX4_lives_27 : decode cX4_lives 27 = .ok (.if_icmp .ne 47, 3) := by decide +kernel
theorem dX4_lives_30 : decode cX4_lives 30 = .ok (.aload_n 0, 1) := by decide +kernel
theorem dX4_lives_31 : decode cX4_lives 31 = .ok (.getfield 29, 3) := by decide +kernel
theorem dX4_lives_34 : decode cX4_lives 34 = .ok (.iload_n 1, 1) := by decide +kernel
theorem dX4_lives_35 : decode cX4_lives 35 = .ok (.iaload, 1) := by decide +kernel
theorem dX4_lives_36 : decode cX4_lives 36 = .ok (.aload_n 0, 1) := by decide +kernel
theorem dX4_lives_37 : decode cX4_lives 37 = .ok (.getfield 67, 3) := by decide +kernel
theorem dX4_lives_40 : decode cX4_lives 40 = .ok (.if_icmp .gt 34, 3) := by decide +kernel
theorem dX4_lives_43 : decode cX4_lives 43 = .ok (.aload_n 0, 1) := by decide +kernel
theorem dX4_lives_44 : decode cX4_lives 44 = .ok (.getfield 32, 3) := by decide +kernel
theorem dX4_lives_47 : decode cX4_lives 47 = .ok (.iload_n 1, 1) := by decide +kernel
theorem dX4_lives_48 : decode cX4_lives 48 = .ok (.iaload, 1) := by decide +kernel
theorem dX4_lives_49 : decode cX4_lives 49 = .ok (.ifCond .ne 25, 3) := by decide +kernel
theorem dX4_lives_52 : decode cX4_lives 52 = .ok (.aload_n 0, 1) := by decide +kernel
theorem dX4_lives_53 : decode cX4_lives 53 = .ok (.getfield 35, 3) := by decide +kernel
theorem dX4_lives_56 : decode cX4_lives 56 = .ok (.iload_n 1, 1) := by decide +kernel
theorem dX4_lives_57 : decode cX4_lives 57 = .ok (.iconst 2, 1) := by decide +kernel
theorem dX4_lives_58 : decode cX4_lives 58 = .ok (.iastore, 1) := by decide +kernel
theorem dX4_lives_59 : decode cX4_lives 59 = .ok (.aload_n 0, 1) := by decide +kernel
theorem dX4_lives_60 : decode cX4_lives 60 = .ok (.dup, 1) := by decide +kernel
theorem dX4_lives_61 : decode cX4_lives 61 = .ok (.getfield 64, 3) := by decide +kernel
theorem dX4_lives_64 : decode cX4_lives 64 = .ok (.aload_n 0, 1) := by decide +kernel
theorem dX4_lives_65 : decode cX4_lives 65 = .ok (.getfield 19, 3) := by decide +kernel
theorem dX4_lives_68 : decode cX4_lives 68 = .ok (.iload_n 1, 1) := by decide +kernel
theorem dX4_lives_69 : decode cX4_lives 69 = .ok (.iaload, 1) := by decide +kernel
theorem dX4_lives_70 : decode cX4_lives 70 = .ok (.iadd, 1) := by decide +kernel
theorem dX4_lives_71 : decode cX4_lives 71 = .ok (.putfield 64, 3) := by decide +kernel
theorem dX4_lives_74 : decode cX4_lives 74 = .ok (.iinc 1 1, 3) := by decide +kernel
theorem dX4_lives_77 : decode cX4_lives 77 = .ok (.goto (-65), 3) := by decide +kernel
theorem dX4_lives_80 : decode cX4_lives 80 = .ok (.iconst 0, 1) := by decide +kernel
theorem dX4_lives_81 : decode cX4_lives 81 = .ok (.istore_n 1, 1) := by decide +kernel
theorem dX4_lives_82 : decode cX4_lives 82 = .ok (.iload_n 1, 1) := by decide +kernel
theorem dX4_lives_83 : decode cX4_lives 83 = .ok (.aload_n 0, 1) := by decide +kernel
theorem dX4_lives_84 : decode cX4_lives 84 = .ok (.getfield 57, 3) := by decide +kernel
theorem dX4_lives_87 : decode cX4_lives 87 = .ok (.if_icmp .ge 108, 3) := by decide +kernel
theorem dX4_lives_90 : decode cX4_lives 90 = .ok (.aload_n 0, 1) := by decide +kernel
theorem dX4_lives_91 : decode cX4_lives 91 = .ok (.getfield 44, 3) := by decide +kernel
theorem dX4_lives_94 : decode cX4_lives 94 = .ok (.iload_n 1, 1) := by decide +kernel
theorem dX4_lives_95 : decode cX4_lives 95 = .ok (.iaload, 1) := by decide +kernel
theorem dX4_lives_96 : decode cX4_lives 96 = .ok (.ifCond .ne 93, 3) := by decide +kernel
theorem dX4_lives_99 : decode cX4_lives 99 = .ok (.aload_n 0, 1) := by decide +kernel
theorem dX4_lives_100 : decode cX4_lives 100 = .ok (.getfield 41, 3) := by decide +kernel
theorem dX4_lives_103 : decode cX4_lives 103 = .ok (.iload_n 1, 1) := by decide +kernel
theorem dX4_lives_104 : decode cX4_lives 104 = .ok (.iaload, 1) := by decide +kernel
theorem dX4_lives_105 : decode cX4_lives 105 = .ok (.aload_n 0, 1) := by decide +kernel
theorem dX4_lives_106 : decode cX4_lives 106 = .ok (.getfield 67, 3) := by decide +kernel
theorem dX4_lives_109 : decode cX4_lives 109 = .ok (.if_icmp .gt 80, 3) := by decide +kernel
theorem dX4_lives_112 : decode cX4_lives 112 = .ok (.aload_n 0, 1) := by decide +kernel
theorem dX4_lives_113 : decode cX4_lives 113 = .ok (.getfield 64, 3) := by decide +kernel
theorem dX4_lives_116 : decode cX4_lives 116 = .ok (.aload_n 0, 1) := by decide +kernel
theorem dX4_lives_117 : decode cX4_lives 117 = .ok (.getfield 38, 3) := by decide +kernel
theorem dX4_lives_120 : decode cX4_lives 120 = .ok (.iload_n 1, 1) := by decide +kernel
theorem dX4_lives_121 : decode cX4_lives 121 = .ok (.iaload, 1) := by decide +kernel
theorem dX4_lives_122 : decode cX4_lives 122 = .ok (.if_icmp .lt 28, 3) := by decide +kernel
theorem dX4_lives_125 : decode cX4_lives 125 = .ok (.aload_n 0, 1) := by decide +kernel
theorem dX4_lives_126 : decode cX4_lives 126 = .ok (.dup, 1) := by decide +kernel
theorem dX4_lives_127 : decode cX4_lives 127 = .ok (.getfield 64, 3) := by decide +kernel
theorem dX4_lives_130 : decode cX4_lives 130 = .ok (.aload_n 0, 1) := by decide +kernel
theorem dX4_lives_131 : decode cX4_lives 131 = .ok (.getfield 38, 3) := by decide +kernel
theorem dX4_lives_134 : decode cX4_lives 134 = .ok (.iload_n 1, 1) := by decide +kernel
theorem dX4_lives_135 : decode cX4_lives 135 = .ok (.iaload, 1) := by decide +kernel
theorem dX4_lives_136 : decode cX4_lives 136 = .ok (.isub, 1) := by decide +kernel
theorem dX4_lives_137 : decode cX4_lives 137 = .ok (.putfield 64, 3) := by decide +kernel
theorem dX4_lives_140 : decode cX4_lives 140 = .ok (.aload_n 0, 1) := by decide +kernel
theorem dX4_lives_141 : decode cX4_lives 141 = .ok (.getfield 44, 3) := by decide +kernel
theorem dX4_lives_144 : decode cX4_lives 144 = .ok (.iload_n 1, 1) := by decide +kernel
theorem dX4_lives_145 : decode cX4_lives 145 = .ok (.iconst 2, 1) := by decide +kernel
theorem dX4_lives_146 : decode cX4_lives 146 = .ok (.iastore, 1) := by decide +kernel
theorem dX4_lives_147 : decode cX4_lives 147 = .ok (.goto 42, 3) := by decide +kernel
theorem dX4_lives_150 : decode cX4_lives 150 = .ok (.aload_n 0, 1) := by decide +kernel
theorem dX4_lives_151 : decode cX4_lives 151 = .ok (.getfield 47, 3) := by decide +kernel
theorem dX4_lives_154 : decode cX4_lives 154 = .ok (.iload_n 1, 1) := by decide +kernel
theorem dX4_lives_155 : decode cX4_lives 155 = .ok (.baload, 1) := by decide +kernel
theorem dX4_lives_156 : decode cX4_lives 156 = .ok (.ifCond .ne 26, 3) := by decide +kernel
theorem dX4_lives_159 : decode cX4_lives 159 = .ok (.aload_n 0, 1) := by decide +kernel
theorem dX4_lives_160 : decode cX4_lives 160 = .ok (.getfield 47, 3) := by decide +kernel
theorem dX4_lives_163 : decode cX4_lives 163 = .ok (.iload_n 1, 1) := by decide +kernel
theorem dX4_lives_164 : decode cX4_lives 164 = .ok (.iconst 1, 1) := by decide +kernel
theorem dX4_lives_165 : decode cX4_lives 165 = .ok (.bastore, 1) := by decide +kernel
theorem dX4_lives_166 : decode cX4_lives 166 = .ok (.aload_n 0, 1) := by decide +kernel
theorem dX4_lives_167 : decode cX4_lives 167 = .ok (.getfield 41, 3) := by decide +kernel
theorem dX4_lives_170 : decode cX4_lives 170 = .ok (.iload_n 1, 1) := by decide +kernel
theorem dX4_lives_171 : decode cX4_lives 171 = .ok (.aload_n 0, 1) := by decide +kernel
theorem dX4_lives_172 : decode cX4_lives 172 = .ok (.getfield 67, 3) := by decide +kernel
theorem dX4_lives_175 : decode cX4_lives 175 = .ok (.bipush 12, 2) := by decide +kernel
theorem dX4_lives_177 : decode cX4_lives 177 = .ok (.iadd, 1) := by decide +kernel
theorem dX4_lives_178 : decode cX4_lives 178 = .ok (.iastore, 1) := by decide +kernel
theorem dX4_lives_179 : decode cX4_lives 179 = .ok (.goto 10, 3) := by decide +kernel
theorem dX4_lives_182 : decode cX4_lives 182 = .ok (.aload_n 0, 1) := by decide +kernel
theorem dX4_lives_183 : decode cX4_lives 183 = .ok (.getfield 44, 3) := by decide +kernel
theorem dX4_lives_186 : decode cX4_lives 186 = .ok (.iload_n 1, 1) := by decide +kernel
theorem dX4_lives_187 : decode cX4_lives 187 = .ok (.iconst 3, 1) := by decide +kernel
theorem dX4_lives_188 : decode cX4_lives 188 = .ok (.iastore, 1) := by decide +kernel
theorem dX4_lives_189 : decode cX4_lives 189 = .ok (.iinc 1 1, 3) := by decide +kernel
theorem dX4_lives_192 : decode cX4_lives 192 = .ok (.goto (-110), 3) := by decide +kernel
theorem dX4_lives_195 : decode cX4_lives 195 = .ok (.return_, 1) := by decide +kernel
theorem dX4_pass_0 : decode cX4_pass 0 = .ok (.aload_n 0, 1) := by decide +kernel
theorem dX4_pass_1 : decode cX4_pass 1 = .ok (.iload_n 1, 1) := by decide +kernel
theorem dX4_pass_2 : decode cX4_pass 2 = .ok (.iconst 1, 1) := by decide +kernel
theorem dX4_pass_3 : decode cX4_pass 3 = .ok (.bipush 24, 2) := by decide +kernel
theorem dX4_pass_5 : decode cX4_pass 5 = .ok (.invokestatic 97, 3) := by decide +kernel
theorem dX4_pass_8 : decode cX4_pass 8 = .ok (.iconst 1, 1) := by decide +kernel
theorem dX4_pass_9 : decode cX4_pass 9 = .ok (.iconst 1, 1) := by decide +kernel
theorem dX4_pass_10 : decode cX4_pass 10 = .ok (.invokevirtual 101, 3) := by decide +kernel
theorem dX4_pass_13 : decode cX4_pass 13 = .ok (.ifCond .ne 5, 3) := by decide +kernel
theorem dX4_pass_16 : decode cX4_pass 16 = .ok (.iconst 0, 1) := by decide +kernel
theorem dX4_pass_17 : decode cX4_pass 17 = .ok (.ireturn, 1) := by decide +kernel
theorem dX4_pass_18 : decode cX4_pass 18 = .ok (.iconst 0, 1) := by decide +kernel
theorem dX4_pass_19 : decode cX4_pass 19 = .ok (.istore_n 2, 1) := by decide +kernel
theorem dX4_pass_20 : decode cX4_pass 20 = .ok (.iload_n 2, 1) := by decide +kernel
theorem dX4_pass_21 : decode cX4_pass 21 = .ok (.iload_n 1, 1) := by decide +kernel
theorem dX4_pass_22 : decode cX4_pass 22 = .ok (.if_icmp .ge 13, 3) := by decide +kernel
theorem dX4_pass_25 : decode cX4_pass 25 = .ok (.aload_n 0, 1) := by decide +kernel
theorem dX4_pass_26 : decode cX4_pass 26 = .ok (.invokevirtual 120, 3) := by decide +kernel
theorem dX4_pass_29 : decode cX4_pass 29 = .ok (.iinc 2 1, 3) := by decide +kernel
theorem dX4_pass_32 : decode cX4_pass 32 = .ok (.goto (-12), 3) := by decide +kernel
theorem dX4_pass_35 : decode cX4_pass 35 = .ok (.aload_n 0, 1) := by decide +kernel
theorem dX4_pass_36 : decode cX4_pass 36 = .ok (.getfield 67, 3) := by decide +kernel
theorem dX4_pass_39 : decode cX4_pass 39 = .ok (.ireturn, 1) := by decide +kernel
theorem dX4_holds_0 : decode cX4_holds 0 = .ok (.aload_n 0, 1) := by decide +kernel
theorem dX4_holds_1 : decode cX4_holds 1 = .ok (.iload_n 1, 1) := by decide +kernel
theorem dX4_holds_2 : decode cX4_holds 2 = .ok (.iconst 0, 1) := by decide +kernel
theorem dX4_holds_3 : decode cX4_holds 3 = .ok (.iconst 2, 1) := by decide +kernel
theorem dX4_holds_4 : decode cX4_holds 4 = .ok (.invokestatic 97, 3) := by decide +kernel
theorem dX4_holds_7 : decode cX4_holds 7 = .ok (.iconst 1, 1) := by decide +kernel
theorem dX4_holds_8 : decode cX4_holds 8 = .ok (.iconst 1, 1) := by decide +kernel
theorem dX4_holds_9 : decode cX4_holds 9 = .ok (.invokevirtual 101, 3) := by decide +kernel
theorem dX4_holds_12 : decode cX4_holds 12 = .ok (.ifCond .eq 21, 3) := by decide +kernel
theorem dX4_holds_15 : decode cX4_holds 15 = .ok (.aload_n 0, 1) := by decide +kernel
theorem dX4_holds_16 : decode cX4_holds 16 = .ok (.iload_n 1, 1) := by decide +kernel
theorem dX4_holds_17 : decode cX4_holds 17 = .ok (.aload_n 0, 1) := by decide +kernel
theorem dX4_holds_18 : decode cX4_holds 18 = .ok (.invokevirtual 109, 3) := by decide +kernel
theorem dX4_holds_21 : decode cX4_holds 21 = .ok (.invokevirtual 94, 3) := by decide +kernel
theorem dX4_holds_24 : decode cX4_holds 24 = .ok (.lconst 0, 1) := by decide +kernel
theorem dX4_holds_25 : decode cX4_holds 25 = .ok (.lcmp, 1) := by decide +kernel
theorem dX4_holds_26 : decode cX4_holds 26 = .ok (.ifCond .ne 7, 3) := by decide +kernel
theorem dX4_holds_29 : decode cX4_holds 29 = .ok (.iconst 1, 1) := by decide +kernel
theorem dX4_holds_30 : decode cX4_holds 30 = .ok (.goto 4, 3) := by decide +kernel
theorem dX4_holds_33 : decode cX4_holds 33 = .ok (.iconst 0, 1) := by decide +kernel
theorem dX4_holds_34 : decode cX4_holds 34 = .ok (.ireturn, 1) := by decide +kernel
theorem dX4_lacking_0 : decode cX4_lacking 0 = .ok (.aload_n 0, 1) := by decide +kernel
theorem dX4_lacking_1 : decode cX4_lacking 1 = .ok (.iload_n 1, 1) := by decide +kernel
theorem dX4_lacking_2 : decode cX4_lacking 2 = .ok (.iconst 0, 1) := by decide +kernel
theorem dX4_lacking_3 : decode cX4_lacking 3 = .ok (.iconst 2, 1) := by decide +kernel
theorem dX4_lacking_4 : decode cX4_lacking 4 = .ok (.invokestatic 97, 3) := by decide +kernel
theorem dX4_lacking_7 : decode cX4_lacking 7 = .ok (.iconst 1, 1) := by decide +kernel
theorem dX4_lacking_8 : decode cX4_lacking 8 = .ok (.iconst 1, 1) := by decide +kernel
theorem dX4_lacking_9 : decode cX4_lacking 9 = .ok (.invokevirtual 101, 3) := by decide +kernel
theorem dX4_lacking_12 : decode cX4_lacking 12 = .ok (.ifCond .eq 15, 3) := by decide +kernel
theorem dX4_lacking_15 : decode cX4_lacking 15 = .ok (.aload_n 0, 1) := by decide +kernel
theorem dX4_lacking_16 : decode cX4_lacking 16 = .ok (.iload_n 1, 1) := by decide +kernel
theorem dX4_lacking_17 : decode cX4_lacking 17 = .ok (.aload_n 0, 1) := by decide +kernel
theorem dX4_lacking_18 : decode cX4_lacking 18 = .ok (.invokevirtual 109, 3) := by decide +kernel
theorem dX4_lacking_21 : decode cX4_lacking 21 = .ok (.invokevirtual 94, 3) := by decide +kernel
theorem dX4_lacking_24 : decode cX4_lacking 24 = .ok (.goto 4, 3) := by decide +kernel
theorem dX4_lacking_27 : decode cX4_lacking 27 = .ok (.lconst 0, 1) := by decide +kernel
theorem dX4_lacking_28 : decode cX4_lacking 28 = .ok (.lreturn, 1) := by decide +kernel
theorem dX4_size_0 : decode cX4_size 0 = .ok (.iconst 0, 1) := by decide +kernel
theorem dX4_size_1 : decode cX4_size 1 = .ok (.istore_n 1, 1) := by decide +kernel
theorem dX4_size_2 : decode cX4_size 2 = .ok (.iconst 0, 1) := by decide +kernel
theorem dX4_size_3 : decode cX4_size 3 = .ok (.istore_n 2, 1) := by decide +kernel
theorem dX4_size_4 : decode cX4_size 4 = .ok (.iload_n 2, 1) := by decide +kernel
theorem dX4_size_5 : decode cX4_size 5 = .ok (.bipush 12, 2) := by decide +kernel
theorem dX4_size_7 : decode cX4_size 7 = .ok (.if_icmp .ge 17, 3) := by decide +kernel
theorem dX4_size_10 : decode cX4_size 10 = .ok (.iload_n 1, 1) := by decide +kernel
theorem dX4_size_11 : decode cX4_size 11 = .ok (.iload_n 0, 1) := by decide +kernel
theorem dX4_size_12 : decode cX4_size 12 = .ok (.iload_n 2, 1) := by decide +kernel
theorem dX4_size_13 : decode cX4_size 13 = .ok (.ishr, 1) := by decide +kernel
theorem dX4_size_14 : decode cX4_size 14 = .ok (.iconst 1, 1) := by decide +kernel
theorem dX4_size_15 : decode cX4_size 15 = .ok (.iand, 1) := by decide +kernel
theorem dX4_size_16 : decode cX4_size 16 = .ok (.iadd, 1) := by decide +kernel
theorem dX4_size_17 : decode cX4_size 17 = .ok (.istore_n 1, 1) := by decide +kernel
theorem dX4_size_18 : decode cX4_size 18 = .ok (.iinc 2 1, 3) := by decide +kernel
theorem dX4_size_21 : decode cX4_size 21 = .ok (.goto (-17), 3) := by decide +kernel
theorem dX4_size_24 : decode cX4_size 24 = .ok (.iload_n 1, 1) := by decide +kernel
theorem dX4_size_25 : decode cX4_size 25 = .ok (.ireturn, 1) := by decide +kernel
theorem dX4_leastToAdd_0 : decode cX4_leastToAdd 0 = .ok (.aload_n 0, 1) := by decide +kernel
theorem dX4_leastToAdd_1 : decode cX4_leastToAdd 1 = .ok (.iconst 0, 1) := by decide +kernel
theorem dX4_leastToAdd_2 : decode cX4_leastToAdd 2 = .ok (.putfield 51, 3) := by decide +kernel
theorem dX4_leastToAdd_5 : decode cX4_leastToAdd 5 = .ok (.iconst 0, 1) := by decide +kernel
theorem dX4_leastToAdd_6 : decode cX4_leastToAdd 6 = .ok (.istore_n 1, 1) := by decide +kernel
theorem dX4_leastToAdd_7 : decode cX4_leastToAdd 7 = .ok (.iconst 0, 1) := by decide +kernel
theorem dX4_leastToAdd_8 : decode cX4_leastToAdd 8 = .ok (.istore_n 2, 1) := by decide +kernel
theorem dX4_leastToAdd_9 : decode cX4_leastToAdd 9 = .ok (.iload_n 2, 1) := by decide +kernel
theorem dX4_leastToAdd_10 : decode cX4_leastToAdd 10 = .ok (.aload_n 0, 1) := by decide +kernel
theorem dX4_leastToAdd_11 : decode cX4_leastToAdd 11 = .ok (.getfield 54, 3) := by decide +kernel
theorem dX4_leastToAdd_14 : decode cX4_leastToAdd 14 = .ok (.if_icmp .ge 28, 3) := by decide +kernel
theorem dX4_leastToAdd_17 : decode cX4_leastToAdd 17 = .ok (.iload_n 1, 1) := by decide +kernel
theorem dX4_leastToAdd_18 : decode cX4_leastToAdd 18 = .ok (.aload_n 0, 1) := by decide +kernel
theorem dX4_leastToAdd_19 : decode cX4_leastToAdd 19 = .ok (.getfield 35, 3) := by decide +kernel
theorem dX4_leastToAdd_22 : decode cX4_leastToAdd 22 = .ok (.iload_n 2, 1) := by decide +kernel
theorem dX4_leastToAdd_23 : decode cX4_leastToAdd 23 = .ok (.iaload, 1) := by decide +kernel
theorem dX4_leastToAdd_24 : decode cX4_leastToAdd 24 = .ok (.ifCond .ne 9, 3) := by decide +kernel
theorem dX4_leastToAdd_27 : decode cX4_leastToAdd 27 = .ok (.iconst 1, 1) := by decide +kernel
theorem dX4_leastToAdd_28 : decode cX4_leastToAdd 28 = .ok (.iload_n 2, 1) := by decide +kernel
theorem dX4_leastToAdd_29 : decode cX4_leastToAdd 29 = .ok (.ishl, 1) := by decide +kernel
theorem dX4_leastToAdd_30 : decode cX4_leastToAdd 30 = .ok (.goto 4, 3) := by decide +kernel
theorem dX4_leastToAdd_33 : decode cX4_leastToAdd 33 = .ok (.iconst 0, 1) := by decide +kernel
theorem dX4_leastToAdd_34 : decode cX4_leastToAdd 34 = .ok (.ior, 1) := by decide +kernel
theorem dX4_leastToAdd_35 : decode cX4_leastToAdd 35 = .ok (.istore_n 1, 1) := by decide +kernel
theorem dX4_leastToAdd_36 : decode cX4_leastToAdd 36 = .ok (.iinc 2 1, 3) := by decide +kernel
theorem dX4_leastToAdd_39 : decode cX4_leastToAdd 39 = .ok (.goto (-30), 3) := by decide +kernel
theorem dX4_leastToAdd_42 : decode cX4_leastToAdd 42 = .ok (.aload_n 0, 1) := by decide +kernel
theorem dX4_leastToAdd_43 : decode cX4_leastToAdd 43 = .ok (.invokevirtual 109, 3) := by decide +kernel
theorem dX4_leastToAdd_46 : decode cX4_leastToAdd 46 = .ok (.istore_n 2, 1) := by decide +kernel
theorem dX4_leastToAdd_47 : decode cX4_leastToAdd 47 = .ok (.iconst (-1), 1) := by decide +kernel
theorem dX4_leastToAdd_48 : decode cX4_leastToAdd 48 = .ok (.istore_n 3, 1) := by decide +kernel
theorem dX4_leastToAdd_49 : decode cX4_leastToAdd 49 = .ok (.iconst 0, 1) := by decide +kernel
theorem dX4_leastToAdd_50 : decode cX4_leastToAdd 50 = .ok (.istore 4, 2) := by decide +kernel
theorem dX4_leastToAdd_52 : decode cX4_leastToAdd 52 = .ok (.iload 4, 2) := by decide +kernel
theorem dX4_leastToAdd_54 : decode cX4_leastToAdd 54 = .ok (.iconst 1, 1) := by decide +kernel
theorem dX4_leastToAdd_55 : decode cX4_leastToAdd 55 = .ok (.aload_n 0, 1) := by decide +kernel
theorem dX4_leastToAdd_56 : decode cX4_leastToAdd 56 = .ok (.getfield 54, 3) := by decide +kernel
theorem dX4_leastToAdd_59 : decode cX4_leastToAdd 59 = .ok (.ishl, 1) := by decide +kernel
theorem dX4_leastToAdd_60 : decode cX4_leastToAdd 60 = .ok (.if_icmp .ge 48, 3) := by decide +kernel
theorem dX4_leastToAdd_63 : decode cX4_leastToAdd 63 = .ok (.iload 4, 2) := by decide +kernel
theorem dX4_leastToAdd_65 : decode cX4_leastToAdd 65 = .ok (.iload_n 1, 1) := by decide +kernel
theorem dX4_leastToAdd_66 : decode cX4_leastToAdd 66 = .ok (.iconst (-1), 1) := by decide +kernel
theorem dX4_leastToAdd_67 : decode cX4_leastToAdd 67 = .ok (.ixor, 1) := by decide +kernel
theorem dX4_leastToAdd_68 : decode cX4_leastToAdd 68 = .ok (.iand, 1) := by decide +kernel
theorem dX4_leastToAdd_69 : decode cX4_leastToAdd 69 = .ok (.ifCond .ne 33, 3) := by decide +kernel
theorem dX4_leastToAdd_72 : decode cX4_leastToAdd 72 = .ok (.iload_n 3, 1) := by decide +kernel
theorem dX4_leastToAdd_73 : decode cX4_leastToAdd 73 = .ok (.ifCond .lt 15, 3) := by decide +kernel
theorem dX4_leastToAdd_76 : decode cX4_leastToAdd 76 = .ok (.iload 4, 2) := by decide +kernel
theorem dX4_leastToAdd_78 : decode cX4_leastToAdd 78 = .ok (.invokestatic 123, 3) := by decide +kernel
theorem dX4_leastToAdd_81 : decode cX4_leastToAdd 81 = .ok (.iload_n 3, 1) := by decide +kernel
theorem dX4_leastToAdd_82 : decode cX4_leastToAdd 82 = .ok (.invokestatic 123, 3) := by decide +kernel
theorem dX4_leastToAdd_85 : decode cX4_leastToAdd 85 = .ok (.if_icmp .ge 17, 3) := by decide +kernel
theorem dX4_leastToAdd_88 : decode cX4_leastToAdd 88 = .ok (.aload_n 0, 1) := by decide +kernel
theorem dX4_leastToAdd_89 : decode cX4_leastToAdd 89 = .ok (.iload_n 2, 1) := by decide +kernel
theorem dX4_leastToAdd_90 : decode cX4_leastToAdd 90 = .ok (.iload 4, 2) := by decide +kernel
theorem dX4_leastToAdd_92 : decode cX4_leastToAdd 92 = .ok (.ior, 1) := by decide +kernel
theorem dX4_leastToAdd_93 : decode cX4_leastToAdd 93 = .ok (.invokevirtual 112, 3) := by decide +kernel
theorem dX4_leastToAdd_96 : decode cX4_leastToAdd 96 = .ok (.ifCond .eq 6, 3) := by decide +kernel
theorem dX4_leastToAdd_99 : decode cX4_leastToAdd 99 = .ok (.iload 4, 2) := by decide +kernel
theorem dX4_leastToAdd_101 : decode cX4_leastToAdd 101 = .ok (.istore_n 3, 1) := by decide +kernel
theorem dX4_leastToAdd_102 : decode cX4_leastToAdd 102 = .ok (.iinc 4 1, 3) := by decide +kernel
theorem dX4_leastToAdd_105 : decode cX4_leastToAdd 105 = .ok (.goto (-53), 3) := by decide +kernel
theorem dX4_leastToAdd_108 : decode cX4_leastToAdd 108 = .ok (.iload_n 3, 1) := by decide +kernel
theorem dX4_leastToAdd_109 : decode cX4_leastToAdd 109 = .ok (.ireturn, 1) := by decide +kernel
theorem dX4_leastToAddByAll_0 : decode cX4_leastToAddByAll 0 = .ok (.aload_n 0, 1) := by decide +kernel
theorem dX4_leastToAddByAll_1 : decode cX4_leastToAddByAll 1 = .ok (.invokevirtual 126, 3) := by decide +kernel
theorem dX4_leastToAddByAll_4 : decode cX4_leastToAddByAll 4 = .ok (.ireturn, 1) := by decide +kernel
