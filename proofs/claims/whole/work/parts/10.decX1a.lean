theorem dX1_init_0 : decode cX1_init 0 = .ok (.aload_n 0, 1) := by decide +kernel
theorem dX1_init_1 : decode cX1_init 1 = .ok (.invokespecial 3, 3) := by decide +kernel
theorem dX1_init_4 : decode cX1_init 4 = .ok (.aload_n 0, 1) := by decide +kernel
theorem dX1_init_5 : decode cX1_init 5 = .ok (.bipush 23, 2) := by decide +kernel
theorem dX1_init_7 : decode cX1_init 7 = .ok (.newarray .int, 2) := by decide +kernel
theorem dX1_init_9 : decode cX1_init 9 = .ok (.putfield 9, 3) := by decide +kernel
theorem dX1_init_12 : decode cX1_init 12 = .ok (.aload_n 0, 1) := by decide +kernel
theorem dX1_init_13 : decode cX1_init 13 = .ok (.iconst 3, 1) := by decide +kernel
theorem dX1_init_14 : decode cX1_init 14 = .ok (.bipush 19, 2) := by decide +kernel
theorem dX1_init_16 : decode cX1_init 16 = .ok (.multianewarray 15 2, 4) := by decide +kernel
theorem dX1_init_20 : decode cX1_init 20 = .ok (.putfield 17, 3) := by decide +kernel
theorem dX1_init_23 : decode cX1_init 23 = .ok (.aload_n 0, 1) := by decide +kernel
theorem dX1_init_24 : decode cX1_init 24 = .ok (.iconst 3, 1) := by decide +kernel
theorem dX1_init_25 : decode cX1_init 25 = .ok (.newarray .int, 2) := by decide +kernel
theorem dX1_init_27 : decode cX1_init 27 = .ok (.putfield 20, 3) := by decide +kernel
theorem dX1_init_30 : decode cX1_init 30 = .ok (.aload_n 0, 1) := by decide +kernel
theorem dX1_init_31 : decode cX1_init 31 = .ok (.iconst 4, 1) := by decide +kernel
theorem dX1_init_32 : decode cX1_init 32 = .ok (.newarray .long, 2) := by decide +kernel
theorem dX1_init_34 : decode cX1_init 34 = .ok (.putfield 23, 3) := by decide +kernel
theorem dX1_init_37 : decode cX1_init 37 = .ok (.return_, 1) := by decide +kernel
theorem dX1_exists_0 : decode cX1_exists 0 = .ok (.aload_n 0, 1) := by decide +kernel
theorem dX1_exists_1 : decode cX1_exists 1 = .ok (.getfield 27, 3) := by decide +kernel
theorem dX1_exists_4 : decode cX1_exists 4 = .ok (.ifCond .le 7, 3) := by decide +kernel
theorem dX1_exists_7 : decode cX1_exists 7 = .ok (.iconst 1, 1) := by decide +kernel
theorem dX1_exists_8 : decode cX1_exists 8 = .ok (.goto 4, 3) := by decide +kernel
theorem dX1_exists_11 : decode cX1_exists 11 = .ok (.iconst 0, 1) := by decide +kernel
theorem dX1_exists_12 : decode cX1_exists 12 = .ok (.ireturn, 1) := by decide +kernel
theorem dX1_knotCount_0 : decode cX1_knotCount 0 = .ok (.aload_n 0, 1) := by decide +kernel
theorem dX1_knotCount_1 : decode cX1_knotCount 1 = .ok (.getfield 31, 3) := by decide +kernel
theorem dX1_knotCount_4 : decode cX1_knotCount 4 = .ok (.aload_n 0, 1) := by decide +kernel
theorem dX1_knotCount_5 : decode cX1_knotCount 5 = .ok (.getfield 27, 3) := by decide +kernel
theorem dX1_knotCount_8 : decode cX1_knotCount 8 = .ok (.iadd, 1) := by decide +kernel
theorem dX1_knotCount_9 : decode cX1_knotCount 9 = .ok (.iconst 1, 1) := by decide +kernel
theorem dX1_knotCount_10 : decode cX1_knotCount 10 = .ok (.iadd, 1) := by decide +kernel
theorem dX1_knotCount_11 : decode cX1_knotCount 11 = .ok (.ireturn, 1) := by decide +kernel
theorem dX1_timesOf_0 : decode cX1_timesOf 0 = .ok (.iconst 0, 1) := by decide +kernel
theorem dX1_timesOf_1 : decode cX1_timesOf 1 = .ok (.istore_n 2, 1) := by decide +kernel
theorem dX1_timesOf_2 : decode cX1_timesOf 2 = .ok (.aload_n 0, 1) := by decide +kernel
theorem dX1_timesOf_3 : decode cX1_timesOf 3 = .ok (.getfield 27, 3) := by decide +kernel
theorem dX1_timesOf_6 : decode cX1_timesOf 6 = .ok (.iconst 1, 1) := by decide +kernel
theorem dX1_timesOf_7 : decode cX1_timesOf 7 = .ok (.iadd, 1) := by decide +kernel
theorem dX1_timesOf_8 : decode cX1_timesOf 8 = .ok (.istore_n 3, 1) := by decide +kernel
theorem dX1_timesOf_9 : decode cX1_timesOf 9 = .ok (.iload_n 3, 1) := by decide +kernel
theorem dX1_timesOf_10 : decode cX1_timesOf 10 = .ok (.aload_n 0, 1) := by decide +kernel
theorem dX1_timesOf_11 : decode cX1_timesOf 11 = .ok (.getfield 31, 3) := by decide +kernel
theorem dX1_timesOf_14 : decode cX1_timesOf 14 = .ok (.if_icmp .ge 22, 3) := by decide +kernel
theorem dX1_timesOf_17 : decode cX1_timesOf 17 = .ok (.aload_n 0, 1) := by decide +kernel
theorem dX1_timesOf_18 : decode cX1_timesOf 18 = .ok (.getfield 9, 3) := by decide +kernel
theorem dX1_timesOf_21 : decode cX1_timesOf 21 = .ok (.iload_n 3, 1) := by decide +kernel
theorem dX1_timesOf_22 : decode cX1_timesOf 22 = .ok (.iaload, 1) := by decide +kernel
theorem dX1_timesOf_23 : decode cX1_timesOf 23 = .ok (.iload_n 1, 1) := by decide +kernel
theorem dX1_timesOf_24 : decode cX1_timesOf 24 = .ok (.if_icmp .ne 6, 3) := by decide +kernel
theorem dX1_timesOf_27 : decode cX1_timesOf 27 = .ok (.iinc 2 1, 3) := by decide +kernel
theorem dX1_timesOf_30 : decode cX1_timesOf 30 = .ok (.iinc 3 1, 3) := by decide +kernel
theorem dX1_timesOf_33 : decode cX1_timesOf 33 = .ok (.goto (-24), 3) := by decide +kernel
theorem dX1_timesOf_36 : decode cX1_timesOf 36 = .ok (.iload_n 2, 1) := by decide +kernel
theorem dX1_timesOf_37 : decode cX1_timesOf 37 = .ok (.ireturn, 1) := by decide +kernel
theorem dX1_spanOf_0 : decode cX1_spanOf 0 = .ok (.aload_n 0, 1) := by decide +kernel
theorem dX1_spanOf_1 : decode cX1_spanOf 1 = .ok (.getfield 27, 3) := by decide +kernel
theorem dX1_spanOf_4 : decode cX1_spanOf 4 = .ok (.istore_n 2, 1) := by decide +kernel
theorem dX1_spanOf_5 : decode cX1_spanOf 5 = .ok (.aload_n 0, 1) := by decide +kernel
theorem dX1_spanOf_6 : decode cX1_spanOf 6 = .ok (.getfield 27, 3) := by decide +kernel
theorem dX1_spanOf_9 : decode cX1_spanOf 9 = .ok (.iconst 1, 1) := by decide +kernel
theorem dX1_spanOf_10 : decode cX1_spanOf 10 = .ok (.iadd, 1) := by decide +kernel
theorem dX1_spanOf_11 : decode cX1_spanOf 11 = .ok (.istore_n 3, 1) := by decide +kernel
theorem dX1_spanOf_12 : decode cX1_spanOf 12 = .ok (.iload_n 3, 1) := by decide +kernel
theorem dX1_spanOf_13 : decode cX1_spanOf 13 = .ok (.aload_n 0, 1) := by decide +kernel
theorem dX1_spanOf_14 : decode cX1_spanOf 14 = .ok (.getfield 31, 3) := by decide +kernel
theorem dX1_spanOf_17 : decode cX1_spanOf 17 = .ok (.if_icmp .ge 24, 3) := by decide +kernel
theorem dX1_spanOf_20 : decode cX1_spanOf 20 = .ok (.bipush 60, 2) := by decide +kernel
theorem dX1_spanOf_22 : decode cX1_spanOf 22 = .ok (.aload_n 0, 1) := by decide +kernel
theorem dX1_spanOf_23 : decode cX1_spanOf 23 = .ok (.getfield 9, 3) := by decide +kernel
theorem dX1_spanOf_26 : decode cX1_spanOf 26 = .ok (.iload_n 3, 1) := by decide +kernel
theorem dX1_spanOf_27 : decode cX1_spanOf 27 = .ok (.iaload, 1) := by decide +kernel
theorem dX1_spanOf_28 : decode cX1_spanOf 28 = .ok (.imul, 1) := by decide +kernel
theorem dX1_spanOf_29 : decode cX1_spanOf 29 = .ok (.iload_n 1, 1) := by decide +kernel
theorem dX1_spanOf_30 : decode cX1_spanOf 30 = .ok (.if_icmp .gt 5, 3) := by decide +kernel
theorem dX1_spanOf_33 : decode cX1_spanOf 33 = .ok (.iload_n 3, 1) := by decide +kernel
theorem dX1_spanOf_34 : decode cX1_spanOf 34 = .ok (.istore_n 2, 1) := by decide +kernel
theorem dX1_spanOf_35 : decode cX1_spanOf 35 = .ok (.iinc 3 1, 3) := by decide +kernel
theorem dX1_spanOf_38 : decode cX1_spanOf 38 = .ok (.goto (-26), 3) := by decide +kernel
theorem dX1_spanOf_41 : decode cX1_spanOf 41 = .ok (.iload_n 2, 1) := by decide +kernel
theorem dX1_spanOf_42 : decode cX1_spanOf 42 = .ok (.ireturn, 1) := by decide +kernel
theorem dX1_number_0 : decode cX1_number 0 = .ok (.iload_n 2, 1) := by decide +kernel
theorem dX1_number_1 : decode cX1_number 1 = .ok (.ifCond .lt 11, 3) := by decide +kernel
theorem dX1_number_4 : decode cX1_number 4 = .ok (.iload_n 2, 1) := by decide +kernel
theorem dX1_number_5 : decode cX1_number 5 = .ok (.aload_n 0, 1) := by decide +kernel
theorem dX1_number_6 : decode cX1_number 6 = .ok (.getfield 31, 3) := by decide +kernel
theorem dX1_number_9 : decode cX1_number 9 = .ok (.if_icmp .lt 7, 3) := by decide +kernel
theorem dX1_number_12 : decode cX1_number 12 = .ok (.lconst 0, 1) := by decide +kernel
theorem dX1_number_13 : decode cX1_number 13 = .ok (.goto 11, 3) := by decide +kernel
theorem dX1_number_16 : decode cX1_number 16 = .ok (.aload_n 0, 1) := by decide +kernel
theorem dX1_number_17 : decode cX1_number 17 = .ok (.getfield 17, 3) := by decide +kernel
theorem dX1_number_20 : decode cX1_number 20 = .ok (.iload_n 1, 1) := by decide +kernel
theorem dX1_number_21 : decode cX1_number 21 = .ok (.aaload, 1) := by decide +kernel
theorem dX1_number_22 : decode cX1_number 22 = .ok (.iload_n 2, 1) := by decide +kernel
theorem dX1_number_23 : decode cX1_number 23 = .ok (.laload, 1) := by decide +kernel
theorem dX1_number_24 : decode cX1_number 24 = .ok (.lreturn, 1) := by decide +kernel
theorem dX1_weightsArePositive_0 : decode cX1_weightsArePositive 0 = .ok (.iconst 0, 1) := by decide +kernel
theorem dX1_weightsArePositive_1 : decode cX1_weightsArePositive 1 = .ok (.istore_n 1, 1) := by decide +kernel
theorem dX1_weightsArePositive_2 : decode cX1_weightsArePositive 2 = .ok (.iload_n 1, 1) := by decide +kernel
theorem dX1_weightsArePositive_3 : decode cX1_weightsArePositive 3 = .ok (.aload_n 0, 1) := by decide +kernel
theorem dX1_weightsArePositive_4 : decode cX1_weightsArePositive 4 = .ok (.getfield 31, 3) := by decide +kernel
theorem dX1_weightsArePositive_7 : decode cX1_weightsArePositive 7 = .ok (.if_icmp .ge 24, 3) := by decide +kernel
theorem dX1_weightsArePositive_10 : decode cX1_weightsArePositive 10 = .ok (.aload_n 0, 1) := by decide +kernel
theorem dX1_weightsArePositive_11 : decode cX1_weightsArePositive 11 = .ok (.getfield 17, 3) := by decide +kernel
theorem dX1_weightsArePositive_14 : decode cX1_weightsArePositive 14 = .ok (.iconst 2, 1) := by decide +kernel
theorem dX1_weightsArePositive_15 : decode cX1_weightsArePositive 15 = .ok (.aaload, 1) := by decide +kernel
theorem dX1_weightsArePositive_16 : decode cX1_weightsArePositive 16 = .ok (.iload_n 1, 1) := by decide +kernel
theorem dX1_weightsArePositive_17 : decode cX1_weightsArePositive 17 = .ok (.laload, 1) := by decide +kernel
theorem dX1_weightsArePositive_18 : decode cX1_weightsArePositive 18 = .ok (.lconst 0, 1) := by decide +kernel
theorem dX1_weightsArePositive_19 : decode cX1_weightsArePositive 19 = .ok (.lcmp, 1) := by decide +kernel
theorem dX1_weightsArePositive_20 : decode cX1_weightsArePositive 20 = .ok (.ifCond .gt 5, 3) := by decide +kernel
theorem dX1_weightsArePositive_23 : decode cX1_weightsArePositive 23 = .ok (.iconst 0, 1) := by decide +kernel
theorem dX1_weightsArePositive_24 : decode cX1_weightsArePositive 24 = .ok (.ireturn, 1) := by decide +kernel
theorem dX1_weightsArePositive_25 : decode cX1_weightsArePositive 25 = .ok (.iinc 1 1, 3) := by decide +kernel
theorem dX1_weightsArePositive_28 : decode cX1_weightsArePositive 28 = .ok (.goto (-26), 3) := by decide +kernel
theorem dX1_weightsArePositive_31 : decode cX1_weightsArePositive 31 = .ok (.iconst 1, 1) := by decide +kernel
theorem dX1_weightsArePositive_32 : decode cX1_weightsArePositive 32 = .ok (.ireturn, 1) := by decide +kernel
theorem dX1_shareOfSame_0 : decode cX1_shareOfSame 0 = .ok (.iconst 0, 1) := by decide +kernel
theorem dX1_shareOfSame_1 : decode cX1_shareOfSame 1 = .ok (.iload_n 2, 1) := by decide +kernel
theorem dX1_shareOfSame_2 : decode cX1_shareOfSame 2 = .ok (.aload_n 0, 1) := by decide +kernel
theorem dX1_shareOfSame_3 : decode cX1_shareOfSame 3 = .ok (.getfield 9, 3) := by decide +kernel
theorem dX1_shareOfSame_6 : decode cX1_shareOfSame 6 = .ok (.iload_n 1, 1) := by decide +kernel
theorem dX1_shareOfSame_7 : decode cX1_shareOfSame 7 = .ok (.iaload, 1) := by decide +kernel
theorem dX1_shareOfSame_8 : decode cX1_shareOfSame 8 = .ok (.isub, 1) := by decide +kernel
theorem dX1_shareOfSame_9 : decode cX1_shareOfSame 9 = .ok (.invokestatic 34, 3) := by decide +kernel
theorem dX1_shareOfSame_12 : decode cX1_shareOfSame 12 = .ok (.ireturn, 1) := by decide +kernel
theorem dX1_shareOfPrevious_0 : decode cX1_shareOfPrevious 0 = .ok (.iconst 0, 1) := by decide +kernel
theorem dX1_shareOfPrevious_1 : decode cX1_shareOfPrevious 1 = .ok (.aload_n 0, 1) := by decide +kernel
theorem dX1_shareOfPrevious_2 : decode cX1_shareOfPrevious 2 = .ok (.getfield 9, 3) := by decide +kernel
theorem dX1_shareOfPrevious_5 : decode cX1_shareOfPrevious 5 = .ok (.iload_n 1, 1) := by decide +kernel
theorem dX1_shareOfPrevious_6 : decode cX1_shareOfPrevious 6 = .ok (.aload_n 0, 1) := by decide +kernel
theorem dX1_shareOfPrevious_7 : decode cX1_shareOfPrevious 7 = .ok (.getfield 27, 3) := by decide +kernel
theorem dX1_shareOfPrevious_10 : decode cX1_shareOfPrevious 10 = .ok (.iadd, 1) := by decide +kernel
theorem dX1_shareOfPrevious_11 : decode cX1_shareOfPrevious 11 = .ok (.iaload, 1) := by decide +kernel
theorem dX1_shareOfPrevious_12 : decode cX1_shareOfPrevious 12 = .ok (.iload_n 2, 1) := by decide +kernel
theorem dX1_shareOfPrevious_13 : decode cX1_shareOfPrevious 13 = .ok (.isub, 1) := by decide +kernel
theorem dX1_shareOfPrevious_14 : decode cX1_shareOfPrevious 14 = .ok (.invokestatic 34, 3) := by decide +kernel
theorem dX1_shareOfPrevious_17 : decode cX1_shareOfPrevious 17 = .ok (.ireturn, 1) := by decide +kernel
theorem dX1_blended_0 : decode cX1_blended 0 = .ok (.aload_n 0, 1) := by decide +kernel
theorem dX1_blended_1 : decode cX1_blended 1 = .ok (.iload_n 2, 1) := by decide +kernel
theorem dX1_blended_2 : decode cX1_blended 2 = .ok (.iload_n 3, 1) := by decide +kernel
theorem dX1_blended_3 : decode cX1_blended 3 = .ok (.invokevirtual 40, 3) := by decide +kernel
theorem dX1_blended_6 : decode cX1_blended 6 = .ok (.i2l, 1) := by decide +kernel
theorem dX1_blended_7 : decode cX1_blended 7 = .ok (.aload_n 0, 1) := by decide +kernel
theorem dX1_blended_8 : decode cX1_blended 8 = .ok (.iload_n 1, 1) := by decide +kernel
theorem dX1_blended_9 : decode cX1_blended 9 = .ok (.iload_n 2, 1) := by decide +kernel
theorem dX1_blended_10 : decode cX1_blended 10 = .ok (.invokevirtual 43, 3) := by decide +kernel
theorem dX1_blended_13 : decode cX1_blended 13 = .ok (.lmul, 1) := by decide +kernel
theorem dX1_blended_14 : decode cX1_blended 14 = .ok (.aload_n 0, 1) := by decide +kernel
theorem dX1_blended_15 : decode cX1_blended 15 = .ok (.iload_n 2, 1) := by decide +kernel
theorem dX1_blended_16 : decode cX1_blended 16 = .ok (.iload_n 3, 1) := by decide +kernel
theorem dX1_blended_17 : decode cX1_blended 17 = .ok (.invokevirtual 47, 3) := by decide +kernel
theorem dX1_blended_20 : decode cX1_blended 20 = .ok (.i2l, 1) := by decide +kernel
theorem dX1_blended_21 : decode cX1_blended 21 = .ok (.aload_n 0, 1) := by decide +kernel
theorem dX1_blended_22 : decode cX1_blended 22 = .ok (.iload_n 1, 1) := by decide +kernel
theorem dX1_blended_23 : decode cX1_blended 23 = .ok (.iload_n 2, 1) := by decide +kernel
theorem dX1_blended_24 : decode cX1_blended 24 = .ok (.iconst 1, 1) := by decide +kernel
theorem dX1_blended_25 : decode cX1_blended 25 = .ok (.isub, 1) := by decide +kernel
theorem dX1_blended_26 : decode cX1_blended 26 = .ok (.invokevirtual 43, 3) := by decide +kernel
theorem dX1_blended_29 : decode cX1_blended 29 = .ok (.lmul, 1) := by decide +kernel
theorem dX1_blended_30 : decode cX1_blended 30 = .ok (.ladd, 1) := by decide +kernel
theorem dX1_blended_31 : decode cX1_blended 31 = .ok (.lreturn, 1) := by decide +kernel
theorem dX1_refineInto_0 : decode cX1_refineInto 0 = .ok (.aload_n 1, 1) := by decide +kernel
theorem dX1_refineInto_1 : decode cX1_refineInto 1 = .ok (.aload_n 0, 1) := by decide +kernel
theorem dX1_refineInto_2 : decode cX1_refineInto 2 = .ok (.getfield 27, 3) := by decide +kernel
theorem dX1_refineInto_5 : decode cX1_refineInto 5 = .ok (.putfield 27, 3) := by decide +kernel
theorem dX1_refineInto_8 : decode cX1_refineInto 8 = .ok (.aload_n 1, 1) := by decide +kernel
theorem dX1_refineInto_9 : decode cX1_refineInto 9 = .ok (.aload_n 0, 1) := by decide +kernel
theorem dX1_refineInto_10 : decode cX1_refineInto 10 = .ok (.getfield 31, 3) := by decide +kernel
theorem dX1_refineInto_13 : decode cX1_refineInto 13 = .ok (.iconst 1, 1) := by decide +kernel
theorem dX1_refineInto_14 : decode cX1_refineInto 14 = .ok (.iadd, 1) := by decide +kernel
theorem dX1_refineInto_15 : decode cX1_refineInto 15 = .ok (.putfield 31, 3) := by decide +kernel
theorem dX1_refineInto_18 : decode cX1_refineInto 18 = .ok (.aload_n 0, 1) := by decide +kernel
theorem dX1_refineInto_19 : decode cX1_refineInto 19 = .ok (.bipush 60, 2) := by decide +kernel
theorem dX1_refineInto_21 : decode cX1_refineInto 21 = .ok (.iload_n 2, 1) := by decide +kernel
theorem dX1_refineInto_22 : decode cX1_refineInto 22 = .ok (.imul, 1) := by decide +kernel
theorem dX1_refineInto_23 : decode cX1_refineInto 23 = .ok (.invokevirtual 50, 3) := by decide +kernel
theorem dX1_refineInto_26 : decode cX1_refineInto 26 = .ok (.iconst 1, 1) := by decide +kernel
theorem dX1_refineInto_27 : decode cX1_refineInto 27 = .ok (.iadd, 1) := by decide +kernel
theorem dX1_refineInto_28 : decode cX1_refineInto 28 = .ok (.istore_n 3, 1) := by decide +kernel
theorem dX1_refineInto_29 : decode cX1_refineInto 29 = .ok (.aload_n 0, 1) := by decide +kernel
theorem dX1_refineInto_30 : decode cX1_refineInto 30 = .ok (.getfield 9, 3) := by decide +kernel
theorem dX1_refineInto_33 : decode cX1_refineInto 33 = .ok (.iconst 0, 1) := by decide +kernel
theorem dX1_refineInto_34 : decode cX1_refineInto 34 = .ok (.aload_n 1, 1) := by decide +kernel
theorem dX1_refineInto_35 : decode cX1_refineInto 35 = .ok (.getfield 9, 3) := by decide +kernel
theorem dX1_refineInto_38 : decode cX1_refineInto 38 = .ok (.iconst 0, 1) := by decide +kernel
theorem dX1_refineInto_39 : decode cX1_refineInto 39 = .ok (.iload_n 3, 1) := by decide +kernel
theorem dX1_refineInto_40 : decode cX1_refineInto 40 = .ok (.invokestatic 54, 3) := by decide +kernel
theorem dX1_refineInto_43 : decode cX1_refineInto 43 = .ok (.aload_n 1, 1) := by decide +kernel
theorem dX1_refineInto_44 : decode cX1_refineInto 44 = .ok (.getfield 9, 3) := by decide +kernel
theorem dX1_refineInto_47 : decode cX1_refineInto 47 = .ok (.iload_n 3, 1) := by decide +kernel
theorem dX1_refineInto_48 : decode cX1_refineInto 48 = .ok (.iload_n 2, 1) := by decide +kernel
theorem dX1_refineInto_49 : decode cX1_refineInto 49 = .ok (.iastore, 1) := by decide +kernel
theorem dX1_refineInto_50 : decode cX1_refineInto 50 = .ok (.aload_n 0, 1) := by decide +kernel
theorem dX1_refineInto_51 : decode cX1_refineInto 51 = .ok (.getfield 9, 3) := by decide +kernel
theorem dX1_refineInto_54 : decode cX1_refineInto 54 = .ok (.iload_n 3, 1) := by decide +kernel
theorem dX1_refineInto_55 : decode cX1_refineInto 55 = .ok (.aload_n 1, 1) := by decide +kernel
theorem dX1_refineInto_56 : decode cX1_refineInto 56 = .ok (.getfield 9, 3) := by decide +kernel
theorem dX1_refineInto_59 : decode cX1_refineInto 59 = .ok (.iload_n 3, 1) := by decide +kernel
theorem dX1_refineInto_60 : decode cX1_refineInto 60 = .ok (.iconst 1, 1) := by decide +kernel
theorem dX1_refineInto_61 : decode cX1_refineInto 61 = .ok (.iadd, 1) := by decide +kernel
theorem dX1_refineInto_62 : decode cX1_refineInto 62 = .ok (.aload_n 0, 1) := by decide +kernel
theorem dX1_refineInto_63 : decode cX1_refineInto 63 = .ok (.invokevirtual 60, 3) := by decide +kernel
theorem dX1_refineInto_66 : decode cX1_refineInto 66 = .ok (.iload_n 3, 1) := by decide +kernel
theorem dX1_refineInto_67 : decode cX1_refineInto 67 = .ok (.isub, 1) := by decide +kernel
theorem dX1_refineInto_68 : decode cX1_refineInto 68 = .ok (.invokestatic 54, 3) := by decide +kernel
theorem dX1_refineInto_71 : decode cX1_refineInto 71 = .ok (.iconst 0, 1) := by decide +kernel
theorem dX1_refineInto_72 : decode cX1_refineInto 72 = .ok (.istore 4, 2) := by decide +kernel
theorem dX1_refineInto_74 : decode cX1_refineInto 74 = .ok (.iload 4, 2) := by decide +kernel
theorem dX1_refineInto_76 : decode cX1_refineInto 76 = .ok (.aload_n 1, 1) := by decide +kernel
theorem dX1_refineInto_77 : decode cX1_refineInto 77 = .ok (.getfield 31, 3) := by decide +kernel
theorem dX1_refineInto_80 : decode cX1_refineInto 80 = .ok (.if_icmp .ge 66, 3) := by decide +kernel
theorem dX1_refineInto_83 : decode cX1_refineInto 83 = .ok (.aload_n 0, 1) := by decide +kernel
theorem dX1_refineInto_84 : decode cX1_refineInto 84 = .ok (.iload 4, 2) := by decide +kernel
theorem dX1_refineInto_86 : decode cX1_refineInto 86 = .ok (.iload_n 2, 1) := by decide +kernel
theorem dX1_refineInto_87 : decode cX1_refineInto 87 = .ok (.invokevirtual 40, 3) := by decide +kernel
theorem dX1_refineInto_90 : decode cX1_refineInto 90 = .ok (.aload_n 0, 1) := by decide +kernel
theorem dX1_refineInto_91 : decode cX1_refineInto 91 = .ok (.iload 4, 2) := by decide +kernel
theorem dX1_refineInto_93 : decode cX1_refineInto 93 = .ok (.iload_n 2, 1) := by decide +kernel
theorem dX1_refineInto_94 : decode cX1_refineInto 94 = .ok (.invokevirtual 47, 3) := by decide +kernel
theorem dX1_refineInto_97 : decode cX1_refineInto 97 = .ok (.iadd, 1) := by decide +kernel
theorem dX1_refineInto_98 : decode cX1_refineInto 98 = .ok (.istore 5, 2) := by decide +kernel
theorem dX1_refineInto_100 : decode cX1_refineInto 100 = .ok (.iconst 0, 1) := by decide +kernel
theorem dX1_refineInto_101 : decode cX1_refineInto 101 = .ok (.istore 6, 2) := by decide +kernel
theorem dX1_refineInto_103 : decode cX1_refineInto 103 = .ok (.iload 6, 2) := by decide +kernel
theorem dX1_refineInto_105 : decode cX1_refineInto 105 = .ok (.iconst 3, 1) := by decide +kernel
theorem dX1_refineInto_106 : decode cX1_refineInto 106 = .ok (.if_icmp .ge 34, 3) := by decide +kernel
theorem dX1_refineInto_109 : decode cX1_refineInto 109 = .ok (.aload_n 1, 1) := by decide +kernel
theorem dX1_refineInto_110 : decode cX1_refineInto 110 = .ok (.getfield 17, 3) := by decide +kernel
theorem dX1_refineInto_113 : decode cX1_refineInto 113 = .ok (.iload 6, 2) := by decide +kernel
theorem dX1_refineInto_115 : decode cX1_refineInto 115 = .ok (.aaload, 1) := by decide +kernel
theorem dX1_refineInto_116 : decode cX1_refineInto 116 = .ok (.iload 4, 2) := by decide +kernel
theorem dX1_refineInto_118 : decode cX1_refineInto 118 = .ok (.aload_n 0, 1) := by decide +kernel
theorem dX1_refineInto_119 : decode cX1_refineInto 119 = .ok (.iload 6, 2) := by decide +kernel
theorem dX1_refineInto_121 : decode cX1_refineInto 121 = .ok (.iload 4, 2) := by decide +kernel
theorem dX1_refineInto_123 : decode cX1_refineInto 123 = .ok (.iload_n 2, 1) := by decide +kernel
theorem dX1_refineInto_124 : decode cX1_refineInto 124 = .ok (.invokevirtual 64, 3) := by decide +kernel
theorem dX1_refineInto_127 : decode cX1_refineInto 127 = .ok (.iload 5, 2) := by decide +kernel
theorem dX1_refineInto_129 : decode cX1_refineInto 129 = .ok (.i2l, 1) := by decide +kernel
theorem dX1_refineInto_130 : decode cX1_refineInto 130 = .ok (.invokestatic 68, 3) := by decide +kernel
theorem dX1_refineInto_133 : decode cX1_refineInto 133 = .ok (.lastore, 1) := by decide +kernel
theorem dX1_refineInto_134 : decode cX1_refineInto 134 = .ok (.iinc 6 1, 3) := by decide +kernel
theorem dX1_refineInto_137 : decode cX1_refineInto 137 = .ok (.goto (-34), 3) := by decide +kernel
theorem dX1_refineInto_140 : decode cX1_refineInto 140 = .ok (.iinc 4 1, 3) := by decide +kernel
theorem dX1_refineInto_143 : decode cX1_refineInto 143 = .ok (.goto (-69), 3) := by decide +kernel
theorem dX1_refineInto_146 : decode cX1_refineInto 146 = .ok (.return_, 1) := by decide +kernel
theorem dX1_refinesTo_0 : decode cX1_refinesTo 0 = .ok (.iconst 0, 1) := by decide +kernel
theorem dX1_refinesTo_1 : decode cX1_refinesTo 1 = .ok (.istore_n 3, 1) := by decide +kernel
theorem dX1_refinesTo_2 : decode cX1_refinesTo 2 = .ok (.iload_n 3, 1) := by decide +kernel
theorem dX1_refinesTo_3 : decode cX1_refinesTo 3 = .ok (.aload_n 1, 1) := by decide +kernel
theorem dX1_refinesTo_4 : decode cX1_refinesTo 4 = .ok (.getfield 31, 3) := by decide +kernel
theorem dX1_refinesTo_7 : decode cX1_refinesTo 7 = .ok (.if_icmp .ge 64, 3) := by decide +kernel
theorem dX1_refinesTo_10 : decode cX1_refinesTo 10 = .ok (.aload_n 0, 1) := by decide +kernel
theorem dX1_refinesTo_11 : decode cX1_refinesTo 11 = .ok (.iload_n 3, 1) := by decide +kernel
theorem dX1_refinesTo_12 : decode cX1_refinesTo 12 = .ok (.iload_n 2, 1) := by decide +kernel
theorem dX1_refinesTo_13 : decode cX1_refinesTo 13 = .ok (.invokevirtual 40, 3) := by decide +kernel
theorem dX1_refinesTo_16 : decode cX1_refinesTo 16 = .ok (.aload_n 0, 1) := by decide +kernel
theorem dX1_refinesTo_17 : decode cX1_refinesTo 17 = .ok (.iload_n 3, 1) := by decide +kernel
theorem dX1_refinesTo_18 : decode cX1_refinesTo 18 = .ok (.iload_n 2, 1) := by decide +kernel
theorem dX1_refinesTo_19 : decode cX1_refinesTo 19 = .ok (.invokevirtual 47, 3) := by decide +kernel
theorem dX1_refinesTo_22 : decode cX1_refinesTo 22 = .ok (.iadd, 1) := by decide +kernel
theorem dX1_refinesTo_23 : decode cX1_refinesTo 23 = .ok (.istore 4, 2) := by decide +kernel
theorem dX1_refinesTo_25 : decode cX1_refinesTo 25 = .ok (.iconst 0, 1) := by decide +kernel
theorem dX1_refinesTo_26 : decode cX1_refinesTo 26 = .ok (.istore 5, 2) := by decide +kernel
theorem dX1_refinesTo_28 : decode cX1_refinesTo 28 = .ok (.iload 5, 2) := by decide +kernel
theorem dX1_refinesTo_30 : decode cX1_refinesTo 30 = .ok (.iconst 3, 1) := by decide +kernel
theorem dX1_refinesTo_31 : decode cX1_refinesTo 31 = .ok (.if_icmp .ge 34, 3) := by decide +kernel
theorem dX1_refinesTo_34 : decode cX1_refinesTo 34 = .ok (.iload 4, 2) := by decide +kernel
theorem dX1_refinesTo_36 : decode cX1_refinesTo 36 = .ok (.i2l, 1) := by decide +kernel
theorem dX1_refinesTo_37 : decode cX1_refinesTo 37 = .ok (.aload_n 1, 1) := by decide +kernel
theorem dX1_refinesTo_38 : decode cX1_refinesTo 38 = .ok (.iload 5, 2) := by decide +kernel
theorem dX1_refinesTo_40 : decode cX1_refinesTo 40 = .ok (.iload_n 3, 1) := by decide +kernel
theorem dX1_refinesTo_41 : decode cX1_refinesTo 41 = .ok (.invokevirtual 43, 3) := by decide +kernel
theorem dX1_refinesTo_44 : decode cX1_refinesTo 44 = .ok (.lmul, 1) := by decide +kernel
theorem dX1_refinesTo_45 : decode cX1_refinesTo 45 = .ok (.aload_n 0, 1) := by decide +kernel
theorem dX1_refinesTo_46 : decode cX1_refinesTo 46 = .ok (.iload 5, 2) := by decide +kernel
theorem dX1_refinesTo_48 : decode cX1_refinesTo 48 = .ok (.iload_n 3, 1) := by decide +kernel
theorem dX1_refinesTo_49 : decode cX1_refinesTo 49 = .ok (.iload_n 2, 1) := by decide +kernel
theorem dX1_refinesTo_50 : decode cX1_refinesTo 50 = .ok (.invokevirtual 64, 3) := by decide +kernel
theorem dX1_refinesTo_53 : decode cX1_refinesTo 53 = .ok (.lcmp, 1) := by decide +kernel
theorem dX1_refinesTo_54 : decode cX1_refinesTo 54 = .ok (.ifCond .eq 5, 3) := by decide +kernel
theorem dX1_refinesTo_57 : decode cX1_refinesTo 57 = .ok (.iconst 0, 1) := by decide +kernel
theorem dX1_refinesTo_58 : decode cX1_refinesTo 58 = .ok (.ireturn, 1) := by decide +kernel
theorem dX1_refinesTo_59 : decode cX1_refinesTo 59 = .ok (.iinc 5 1, 3) := by decide +kernel
theorem dX1_refinesTo_62 : decode cX1_refinesTo 62 = .ok (.goto (-34), 3) := by decide +kernel
theorem dX1_refinesTo_65 : decode cX1_refinesTo 65 = .ok (.iinc 3 1, 3) := by decide +kernel
theorem dX1_refinesTo_68 : decode cX1_refinesTo 68 = .ok (.goto (-66), 3) := by decide +kernel
theorem dX1_refinesTo_71 : decode cX1_refinesTo 71 = .ok (.iconst 1, 1) := by decide +kernel
theorem dX1_refinesTo_72 : decode cX1_refinesTo 72 = .ok (.ireturn, 1) := by decide +kernel
theorem dX1_coarsenInto_0 : decode cX1_coarsenInto 0 = .ok (.aload_n 1, 1) := by decide +kernel
theorem dX1_coarsenInto_1 : decode cX1_coarsenInto 1 = .ok (.aload_n 0, 1) := by decide +kernel
theorem dX1_coarsenInto_2 : decode cX1_coarsenInto 2 = .ok (.getfield 27, 3) := by decide +kernel
theorem dX1_coarsenInto_5 : decode cX1_coarsenInto 5 = .ok (.putfield 27, 3) := by decide +kernel
theorem dX1_coarsenInto_8 : decode cX1_coarsenInto 8 = .ok (.aload_n 1, 1) := by decide +kernel
theorem dX1_coarsenInto_9 : decode cX1_coarsenInto 9 = .ok (.aload_n 0, 1) := by decide +kernel
theorem dX1_coarsenInto_10 : decode cX1_coarsenInto 10 = .ok (.getfield 31, 3) := by decide +kernel
theorem dX1_coarsenInto_13 : decode cX1_coarsenInto 13 = .ok (.iconst 1, 1) := by decide +kernel
theorem dX1_coarsenInto_14 : decode cX1_coarsenInto 14 = .ok (.isub, 1) := by decide +kernel
theorem dX1_coarsenInto_15 : decode cX1_coarsenInto 15 = .ok (.putfield 31, 3) := by decide +kernel
theorem dX1_coarsenInto_18 : decode cX1_coarsenInto 18 = .ok (.aload_n 0, 1) := by decide +kernel
theorem dX1_coarsenInto_19 : decode cX1_coarsenInto 19 = .ok (.bipush 60, 2) := by decide +kernel
theorem dX1_coarsenInto_21 : decode cX1_coarsenInto 21 = .ok (.iload_n 2, 1) := by decide +kernel
theorem dX1_coarsenInto_22 : decode cX1_coarsenInto 22 = .ok (.imul, 1) := by decide +kernel
theorem dX1_coarsenInto_23 : decode cX1_coarsenInto 23 = .ok (.invokevirtual 50, 3) := by decide +kernel
theorem dX1_coarsenInto_26 : decode cX1_coarsenInto 26 = .ok (.istore_n 3, 1) := by decide +kernel
theorem dX1_coarsenInto_27 : decode cX1_coarsenInto 27 = .ok (.aload_n 0, 1) := by decide +kernel
theorem dX1_coarsenInto_28 : decode cX1_coarsenInto 28 = .ok (.getfield 9, 3) := by decide +kernel
theorem dX1_coarsenInto_31 : decode cX1_coarsenInto 31 = .ok (.iconst 0, 1) := by decide +kernel
theorem dX1_coarsenInto_32 : decode cX1_coarsenInto 32 = .ok (.aload_n 1, 1) := by decide +kernel
theorem dX1_coarsenInto_33 : decode cX1_coarsenInto 33 = .ok (.getfield 9, 3) := by decide +kernel
theorem dX1_coarsenInto_36 : decode cX1_coarsenInto 36 = .ok (.iconst 0, 1) := by decide +kernel
theorem dX1_coarsenInto_37 : decode cX1_coarsenInto 37 = .ok (.iload_n 3, 1) := by decide +kernel
theorem dX1_coarsenInto_38 : decode cX1_coarsenInto 38 = .ok (.invokestatic 54, 3) := by decide +kernel
theorem dX1_coarsenInto_41 : decode cX1_coarsenInto 41 = .ok (.aload_n 0, 1) := by decide +kernel
theorem dX1_coarsenInto_42 : decode cX1_coarsenInto 42 = .ok (.getfield 9, 3) := by decide +kernel
theorem dX1_coarsenInto_45 : decode cX1_coarsenInto 45 = .ok (.iload_n 3, 1) := by decide +kernel
theorem dX1_coarsenInto_46 : decode cX1_coarsenInto 46 = .ok (.iconst 1, 1) := by decide +kernel
theorem dX1_coarsenInto_47 : decode cX1_coarsenInto 47 = .ok (.iadd, 1) := by decide +kernel
theorem dX1_coarsenInto_48 : decode cX1_coarsenInto 48 = .ok (.aload_n 1, 1) := by decide +kernel
theorem dX1_coarsenInto_49 : decode cX1_coarsenInto 49 = .ok (.getfield 9, 3) := by decide +kernel
theorem dX1_coarsenInto_52 : decode cX1_coarsenInto 52 = .ok (.iload_n 3, 1) := by decide +kernel
theorem dX1_coarsenInto_53 : decode cX1_coarsenInto 53 = .ok (.aload_n 0, 1) := by decide +kernel
theorem dX1_coarsenInto_54 : decode cX1_coarsenInto 54 = .ok (.invokevirtual 60, 3) := by decide +kernel
theorem dX1_coarsenInto_57 : decode cX1_coarsenInto 57 = .ok (.iload_n 3, 1) := by decide +kernel
theorem dX1_coarsenInto_58 : decode cX1_coarsenInto 58 = .ok (.isub, 1) := by decide +kernel
theorem dX1_coarsenInto_59 : decode cX1_coarsenInto 59 = .ok (.iconst 1, 1) := by decide +kernel
theorem dX1_coarsenInto_60 : decode cX1_coarsenInto 60 = .ok (.isub, 1) := by decide +kernel
theorem dX1_coarsenInto_61 : decode cX1_coarsenInto 61 = .ok (.invokestatic 54, 3) := by decide +kernel
theorem dX1_coarsenInto_64 : decode cX1_coarsenInto 64 = .ok (.iconst 0, 1) := by decide +kernel
theorem dX1_coarsenInto_65 : decode cX1_coarsenInto 65 = .ok (.istore 4, 2) := by decide +kernel
theorem dX1_coarsenInto_67 : decode cX1_coarsenInto 67 = .ok (.iload 4, 2) := by decide +kernel
theorem dX1_coarsenInto_69 : decode cX1_coarsenInto 69 = .ok (.aload_n 1, 1) := by decide +kernel
theorem dX1_coarsenInto_70 : decode cX1_coarsenInto 70 = .ok (.getfield 31, 3) := by decide +kernel
theorem dX1_coarsenInto_73 : decode cX1_coarsenInto 73 = .ok (.if_icmp .ge 44, 3) := by decide +kernel
theorem dX1_coarsenInto_76 : decode cX1_coarsenInto 76 = .ok (.iconst 0, 1) := by decide +kernel
theorem dX1_coarsenInto_77 : decode cX1_coarsenInto 77 = .ok (.istore 5, 2) := by decide +kernel
theorem dX1_coarsenInto_79 : decode cX1_coarsenInto 79 = .ok (.iload 5, 2) := by decide +kernel
theorem dX1_coarsenInto_81 : decode cX1_coarsenInto 81 = .ok (.iconst 3, 1) := by decide +kernel
theorem dX1_coarsenInto_82 : decode cX1_coarsenInto 82 = .ok (.if_icmp .ge 29, 3) := by decide +kernel
theorem dX1_coarsenInto_85 : decode cX1_coarsenInto 85 = .ok (.aload_n 1, 1) := by decide +kernel
theorem dX1_coarsenInto_86 : decode cX1_coarsenInto 86 = .ok (.getfield 17, 3) := by decide +kernel
theorem dX1_coarsenInto_89 : decode cX1_coarsenInto 89 = .ok (.iload 5, 2) := by decide +kernel
theorem dX1_coarsenInto_91 : decode cX1_coarsenInto 91 = .ok (.aaload, 1) := by decide +kernel
theorem dX1_coarsenInto_92 : decode cX1_coarsenInto 92 = .ok (.iload 4, 2) := by decide +kernel
theorem dX1_coarsenInto_94 : decode cX1_coarsenInto 94 = .ok (.aload_n 1, 1) := by decide +kernel
theorem dX1_coarsenInto_95 : decode cX1_coarsenInto 95 = .ok (.aload_n 0, 1) := by decide +kernel
theorem dX1_coarsenInto_96 : decode cX1_coarsenInto 96 = .ok (.iload 5, 2) := by decide +kernel
theorem dX1_coarsenInto_98 : decode cX1_coarsenInto 98 = .ok (.iload 4, 2) := by decide +kernel
theorem dX1_coarsenInto_100 : decode cX1_coarsenInto 100 = .ok (.iload_n 2, 1) := by decide +kernel
theorem dX1_coarsenInto_101 : decode cX1_coarsenInto 101 = .ok (.invokevirtual 72, 3) := by decide +kernel
theorem dX1_coarsenInto_104 : decode cX1_coarsenInto 104 = .ok (.lastore, 1) := by decide +kernel
theorem dX1_coarsenInto_105 : decode cX1_coarsenInto 105 = .ok (.iinc 5 1, 3) := by decide +kernel
theorem dX1_coarsenInto_108 : decode cX1_coarsenInto 108 = .ok (.goto (-29), 3) := by decide +kernel
theorem dX1_coarsenInto_111 : decode cX1_coarsenInto 111 = .ok (.iinc 4 1, 3) := by decide +kernel
theorem dX1_coarsenInto_114 : decode cX1_coarsenInto 114 = .ok (.goto (-47), 3) := by decide +kernel
theorem dX1_coarsenInto_117 : decode cX1_coarsenInto 117 = .ok (.return_, 1) := by decide +kernel
theorem dX1_unblended_0 : decode cX1_unblended 0 = .ok (.aload_n 0, 1) := by decide +kernel
theorem dX1_unblended_1 : decode cX1_unblended 1 = .ok (.iload_n 3, 1) := by decide +kernel
theorem dX1_unblended_2 : decode cX1_unblended 2 = .ok (.iload 4, 2) := by decide +kernel
theorem dX1_unblended_4 : decode cX1_unblended 4 = .ok (.invokevirtual 40, 3) := by decide +kernel
theorem dX1_unblended_7 : decode cX1_unblended 7 = .ok (.istore 5, 2) := by decide +kernel
theorem dX1_unblended_9 : decode cX1_unblended 9 = .ok (.iload 5, 2) := by decide +kernel
theorem dX1_unblended_11 : decode cX1_unblended 11 = .ok (.ifCond .ne 12, 3) := by decide +kernel
theorem dX1_unblended_14 : decode cX1_unblended 14 = .ok (.aload_n 1, 1) := by decide +kernel
theorem dX1_unblended_15 : decode cX1_unblended 15 = .ok (.iload_n 2, 1) := by decide +kernel
theorem dX1_unblended_16 : decode cX1_unblended 16 = .ok (.iload_n 3, 1) := by decide +kernel
theorem dX1_unblended_17 : decode cX1_unblended 17 = .ok (.iconst 1, 1) := by decide +kernel
theorem dX1_unblended_18 : decode cX1_unblended 18 = .ok (.iadd, 1) := by decide +kernel
theorem dX1_unblended_19 : decode cX1_unblended 19 = .ok (.invokevirtual 43, 3) := by decide +kernel
theorem dX1_unblended_22 : decode cX1_unblended 22 = .ok (.lreturn, 1) := by decide +kernel
theorem dX1_unblended_23 : decode cX1_unblended 23 = .ok (.aload_n 0, 1) := by decide +kernel
theorem dX1_unblended_24 : decode cX1_unblended 24 = .ok (.iload_n 3, 1) := by decide +kernel
theorem dX1_unblended_25 : decode cX1_unblended 25 = .ok (.iload 4, 2) := by decide +kernel
theorem dX1_unblended_27 : decode cX1_unblended 27 = .ok (.invokevirtual 47, 3) := by decide +kernel
theorem dX1_unblended_30 : decode cX1_unblended 30 = .ok (.istore 6, 2) := by decide +kernel
theorem dX1_unblended_32 : decode cX1_unblended 32 = .ok (.iload 5, 2) := by decide +kernel
theorem dX1_unblended_34 : decode cX1_unblended 34 = .ok (.iload 6, 2) := by decide +kernel
theorem dX1_unblended_36 : decode cX1_unblended 36 = .ok (.iadd, 1) := by decide +kernel
theorem dX1_unblended_37 : decode cX1_unblended 37 = .ok (.i2l, 1) := by decide +kernel
theorem dX1_unblended_38 : decode cX1_unblended 38 = .ok (.aload_n 1, 1) := by decide +kernel
theorem dX1_unblended_39 : decode cX1_unblended 39 = .ok (.iload_n 2, 1) := by decide +kernel
theorem dX1_unblended_40 : decode cX1_unblended 40 = .ok (.iload_n 3, 1) := by decide +kernel
theorem dX1_unblended_41 : decode cX1_unblended 41 = .ok (.invokevirtual 43, 3) := by decide +kernel
theorem dX1_unblended_44 : decode cX1_unblended 44 = .ok (.lmul, 1) := by decide +kernel
theorem dX1_unblended_45 : decode cX1_unblended 45 = .ok (.iload 6, 2) := by decide +kernel
theorem dX1_unblended_47 : decode cX1_unblended 47 = .ok (.i2l, 1) := by decide +kernel
theorem dX1_unblended_48 : decode cX1_unblended 48 = .ok (.aload_n 0, 1) := by decide +kernel
theorem dX1_unblended_49 : decode cX1_unblended 49 = .ok (.iload_n 2, 1) := by decide +kernel
theorem dX1_unblended_50 : decode cX1_unblended 50 = .ok (.iload_n 3, 1) := by decide +kernel
theorem dX1_unblended_51 : decode cX1_unblended 51 = .ok (.iconst 1, 1) := by decide +kernel
theorem dX1_unblended_52 : decode cX1_unblended 52 = .ok (.isub, 1) := by decide +kernel
theorem dX1_unblended_53 : decode cX1_unblended 53 = .ok (.invokevirtual 43, 3) := by decide +kernel
theorem dX1_unblended_56 : decode cX1_unblended 56 = .ok (.lmul, 1) := by decide +kernel
theorem dX1_unblended_57 : decode cX1_unblended 57 = .ok (.lsub, 1) := by decide +kernel
theorem dX1_unblended_58 : decode cX1_unblended 58 = .ok (.iload 5, 2) := by decide +kernel
theorem dX1_unblended_60 : decode cX1_unblended 60 = .ok (.i2l, 1) := by decide +kernel
theorem dX1_unblended_61 : decode cX1_unblended 61 = .ok (.invokestatic 68, 3) := by decide +kernel
theorem dX1_unblended_64 : decode cX1_unblended 64 = .ok (.lreturn, 1) := by decide +kernel
theorem dX1_raiseInto_0 : decode cX1_raiseInto 0 = .ok (.iconst 0, 1) := by decide +kernel
theorem dX1_raiseInto_1 : decode cX1_raiseInto 1 = .ok (.istore_n 2, 1) := by decide +kernel
theorem dX1_raiseInto_2 : decode cX1_raiseInto 2 = .ok (.iconst 0, 1) := by decide +kernel
theorem dX1_raiseInto_3 : decode cX1_raiseInto 3 = .ok (.istore_n 3, 1) := by decide +kernel
theorem dX1_raiseInto_4 : decode cX1_raiseInto 4 = .ok (.iload_n 3, 1) := by decide +kernel
theorem dX1_raiseInto_5 : decode cX1_raiseInto 5 = .ok (.aload_n 0, 1) := by decide +kernel
theorem dX1_raiseInto_6 : decode cX1_raiseInto 6 = .ok (.invokevirtual 60, 3) := by decide +kernel
theorem dX1_raiseInto_9 : decode cX1_raiseInto 9 = .ok (.if_icmp .ge 66, 3) := by decide +kernel
theorem dX1_raiseInto_12 : decode cX1_raiseInto 12 = .ok (.aload_n 1, 1) := by decide +kernel
theorem dX1_raiseInto_13 : decode cX1_raiseInto 13 = .ok (.getfield 9, 3) := by decide +kernel
theorem dX1_raiseInto_16 : decode cX1_raiseInto 16 = .ok (.iload_n 2, 1) := by decide +kernel
theorem dX1_raiseInto_17 : decode cX1_raiseInto 17 = .ok (.iinc 2 1, 3) := by decide +kernel
theorem dX1_raiseInto_20 : decode cX1_raiseInto 20 = .ok (.aload_n 0, 1) := by decide +kernel
theorem dX1_raiseInto_21 : decode cX1_raiseInto 21 = .ok (.getfield 9, 3) := by decide +kernel
theorem dX1_raiseInto_24 : decode cX1_raiseInto 24 = .ok (.iload_n 3, 1) := by decide +kernel
theorem dX1_raiseInto_25 : decode cX1_raiseInto 25 = .ok (.iaload, 1) := by decide +kernel
theorem dX1_raiseInto_26 : decode cX1_raiseInto 26 = .ok (.iastore, 1) := by decide +kernel
theorem dX1_raiseInto_27 : decode cX1_raiseInto 27 = .ok (.iload_n 3, 1) := by decide +kernel
theorem dX1_raiseInto_28 : decode cX1_raiseInto 28 = .ok (.iconst 1, 1) := by decide +kernel
theorem dX1_raiseInto_29 : decode cX1_raiseInto 29 = .ok (.iadd, 1) := by decide +kernel
theorem dX1_raiseInto_30 : decode cX1_raiseInto 30 = .ok (.aload_n 0, 1) := by decide +kernel
theorem dX1_raiseInto_31 : decode cX1_raiseInto 31 = .ok (.invokevirtual 60, 3) := by decide +kernel
theorem dX1_raiseInto_34 : decode cX1_raiseInto 34 = .ok (.if_icmp .eq 20, 3) := by decide +kernel
theorem dX1_raiseInto_37 : decode cX1_raiseInto 37 = .ok (.aload_n 0, 1) := by decide +kernel
theorem dX1_raiseInto_38 : decode cX1_raiseInto 38 = .ok (.getfield 9, 3) := by decide +kernel
theorem dX1_raiseInto_41 : decode cX1_raiseInto 41 = .ok (.iload_n 3, 1) := by decide +kernel
theorem dX1_raiseInto_42 : decode cX1_raiseInto 42 = .ok (.iaload, 1) := by decide +kernel
theorem dX1_raiseInto_43 : decode cX1_raiseInto 43 = .ok (.aload_n 0, 1) := by decide +kernel
theorem dX1_raiseInto_44 : decode cX1_raiseInto 44 = .ok (.getfield 9, 3) := by decide +kernel
theorem dX1_raiseInto_47 : decode cX1_raiseInto 47 = .ok (.iload_n 3, 1) := by decide +kernel
theorem dX1_raiseInto_48 : decode cX1_raiseInto 48 = .ok (.iconst 1, 1) := by decide +kernel
theorem dX1_raiseInto_49 : decode cX1_raiseInto 49 = .ok (.iadd, 1) := by decide +kernel
theorem dX1_raiseInto_50 : decode cX1_raiseInto 50 = .ok (.iaload, 1) := by decide +kernel
theorem dX1_raiseInto_51 : decode cX1_raiseInto 51 = .ok (.if_icmp .ge 18, 3) := by decide +kernel
theorem dX1_raiseInto_54 : decode cX1_raiseInto 54 = .ok (.aload_n 1, 1) := by decide +kernel
theorem dX1_raiseInto_55 : decode cX1_raiseInto 55 = .ok (.getfield 9, 3) := by decide +kernel
theorem dX1_raiseInto_58 : decode cX1_raiseInto 58 = .ok (.iload_n 2, 1) := by decide +kernel
theorem dX1_raiseInto_59 : decode cX1_raiseInto 59 = .ok (.iinc 2 1, 3) := by decide +kernel
theorem dX1_raiseInto_62 : decode cX1_raiseInto 62 = .ok (.aload_n 0, 1) := by decide +kernel
theorem dX1_raiseInto_63 : decode cX1_raiseInto 63 = .ok (.getfield 9, 3) := by decide +kernel
theorem dX1_raiseInto_66 : decode cX1_raiseInto 66 = .ok (.iload_n 3, 1) := by decide +kernel
theorem dX1_raiseInto_67 : decode cX1_raiseInto 67 = .ok (.iaload, 1) := by decide +kernel
theorem dX1_raiseInto_68 : decode cX1_raiseInto 68 = .ok (.iastore, 1) := by decide +kernel
theorem dX1_raiseInto_69 : decode cX1_raiseInto 69 = .ok (.iinc 3 1, 3) := by decide +kernel
theorem dX1_raiseInto_72 : decode cX1_raiseInto 72 = .ok (.goto (-68), 3) := by decide +kernel
theorem dX1_raiseInto_75 : decode cX1_raiseInto 75 = .ok (.aload_n 1, 1) := by decide +kernel
theorem dX1_raiseInto_76 : decode cX1_raiseInto 76 = .ok (.aload_n 0, 1) := by decide +kernel
theorem dX1_raiseInto_77 : decode cX1_raiseInto 77 = .ok (.getfield 27, 3) := by decide +kernel
theorem dX1_raiseInto_80 : decode cX1_raiseInto 80 = .ok (.iconst 1, 1) := by decide +kernel
theorem dX1_raiseInto_81 : decode cX1_raiseInto 81 = .ok (.iadd, 1) := by decide +kernel
theorem dX1_raiseInto_82 : decode cX1_raiseInto 82 = .ok (.putfield 27, 3) := by decide +kernel
theorem dX1_raiseInto_85 : decode cX1_raiseInto 85 = .ok (.aload_n 1, 1) := by decide +kernel
theorem dX1_raiseInto_86 : decode cX1_raiseInto 86 = .ok (.iload_n 2, 1) := by decide +kernel
theorem dX1_raiseInto_87 : decode cX1_raiseInto 87 = .ok (.aload_n 1, 1) := by decide +kernel
theorem dX1_raiseInto_88 : decode cX1_raiseInto 88 = .ok (.getfield 27, 3) := by decide +kernel
theorem dX1_raiseInto_91 : decode cX1_raiseInto 91 = .ok (.isub, 1) := by decide +kernel
theorem dX1_raiseInto_92 : decode cX1_raiseInto 92 = .ok (.iconst 1, 1) := by decide +kernel
theorem dX1_raiseInto_93 : decode cX1_raiseInto 93 = .ok (.isub, 1) := by decide +kernel
theorem dX1_raiseInto_94 : decode cX1_raiseInto 94 = .ok (.putfield 31, 3) := by decide +kernel
theorem dX1_raiseInto_97 : decode cX1_raiseInto 97 = .ok (.iconst 0, 1) := by decide +kernel
theorem dX1_raiseInto_98 : decode cX1_raiseInto 98 = .ok (.istore_n 3, 1) := by decide +kernel
theorem dX1_raiseInto_99 : decode cX1_raiseInto 99 = .ok (.iload_n 3, 1) := by decide +kernel
theorem dX1_raiseInto_100 : decode cX1_raiseInto 100 = .ok (.aload_n 1, 1) := by decide +kernel
theorem dX1_raiseInto_101 : decode cX1_raiseInto 101 = .ok (.getfield 31, 3) := by decide +kernel
theorem dX1_raiseInto_104 : decode cX1_raiseInto 104 = .ok (.if_icmp .ge 41, 3) := by decide +kernel
theorem dX1_raiseInto_107 : decode cX1_raiseInto 107 = .ok (.iconst 0, 1) := by decide +kernel
theorem dX1_raiseInto_108 : decode cX1_raiseInto 108 = .ok (.istore 4, 2) := by decide +kernel
theorem dX1_raiseInto_110 : decode cX1_raiseInto 110 = .ok (.iload 4, 2) := by decide +kernel
theorem dX1_raiseInto_112 : decode cX1_raiseInto 112 = .ok (.iconst 3, 1) := by decide +kernel
theorem dX1_raiseInto_113 : decode cX1_raiseInto 113 = .ok (.if_icmp .ge 26, 3) := by decide +kernel
theorem dX1_raiseInto_116 : decode cX1_raiseInto 116 = .ok (.aload_n 1, 1) := by decide +kernel
theorem dX1_raiseInto_117 : decode cX1_raiseInto 117 = .ok (.getfield 17, 3) := by decide +kernel
theorem dX1_raiseInto_120 : decode cX1_raiseInto 120 = .ok (.iload 4, 2) := by decide +kernel
theorem dX1_raiseInto_122 : decode cX1_raiseInto 122 = .ok (.aaload, 1) := by decide +kernel
theorem dX1_raiseInto_123 : decode cX1_raiseInto 123 = .ok (.iload_n 3, 1) := by decide +kernel
theorem dX1_raiseInto_124 : decode cX1_raiseInto 124 = .ok (.aload_n 0, 1) := by decide +kernel
theorem dX1_raiseInto_125 : decode cX1_raiseInto 125 = .ok (.aload_n 1, 1) := by decide +kernel
theorem dX1_raiseInto_126 : decode cX1_raiseInto 126 = .ok (.iload 4, 2) := by decide +kernel
theorem dX1_raiseInto_128 : decode cX1_raiseInto 128 = .ok (.iload_n 3, 1) := by decide +kernel
theorem dX1_raiseInto_129 : decode cX1_raiseInto 129 = .ok (.invokevirtual 76, 3) := by decide +kernel
theorem dX1_raiseInto_132 : decode cX1_raiseInto 132 = .ok (.lastore, 1) := by decide +kernel
theorem dX1_raiseInto_133 : decode cX1_raiseInto 133 = .ok (.iinc 4 1, 3) := by decide +kernel
theorem dX1_raiseInto_136 : decode cX1_raiseInto 136 = .ok (.goto (-26), 3) := by decide +kernel
theorem dX1_raiseInto_139 : decode cX1_raiseInto 139 = .ok (.iinc 3 1, 3) := by decide +kernel
theorem dX1_raiseInto_142 : decode cX1_raiseInto 142 = .ok (.goto (-43), 3) := by decide +kernel
theorem dX1_raiseInto_145 : decode cX1_raiseInto 145 = .ok (.return_, 1) := by decide +kernel
theorem dX1_raised_0 : decode cX1_raised 0 = .ok (.aload_n 0, 1) := by decide +kernel
theorem dX1_raised_1 : decode cX1_raised 1 = .ok (.bipush 60, 2) := by decide +kernel
theorem dX1_raised_3 : decode cX1_raised 3 = .ok (.aload_n 1, 1) := by decide +kernel
theorem dX1_raised_4 : decode cX1_raised 4 = .ok (.getfield 9, 3) := by decide +kernel
theorem dX1_raised_7 : decode cX1_raised 7 = .ok (.iload_n 3, 1) := by decide +kernel
theorem dX1_raised_8 : decode cX1_raised 8 = .ok (.iaload, 1) := by decide +kernel
theorem dX1_raised_9 : decode cX1_raised 9 = .ok (.imul, 1) := by decide +kernel
theorem dX1_raised_10 : decode cX1_raised 10 = .ok (.invokevirtual 50, 3) := by decide +kernel
theorem dX1_raised_13 : decode cX1_raised 13 = .ok (.istore 4, 2) := by decide +kernel
theorem dX1_raised_15 : decode cX1_raised 15 = .ok (.lconst 0, 1) := by decide +kernel
theorem dX1_raised_16 : decode cX1_raised 16 = .ok (.lstore 5, 2) := by decide +kernel
theorem dX1_raised_18 : decode cX1_raised 18 = .ok (.iconst 1, 1) := by decide +kernel
theorem dX1_raised_19 : decode cX1_raised 19 = .ok (.istore 7, 2) := by decide +kernel
theorem dX1_raised_21 : decode cX1_raised 21 = .ok (.iload 7, 2) := by decide +kernel
theorem dX1_raised_23 : decode cX1_raised 23 = .ok (.aload_n 1, 1) := by decide +kernel
theorem dX1_raised_24 : decode cX1_raised 24 = .ok (.getfield 27, 3) := by decide +kernel
theorem dX1_raised_27 : decode cX1_raised 27 = .ok (.if_icmp .gt 71, 3) := by decide +kernel
theorem dX1_raised_30 : decode cX1_raised 30 = .ok (.iconst 0, 1) := by decide +kernel
theorem dX1_raised_31 : decode cX1_raised 31 = .ok (.istore 8, 2) := by decide +kernel
theorem dX1_raised_33 : decode cX1_raised 33 = .ok (.iconst 1, 1) := by decide +kernel
theorem dX1_raised_34 : decode cX1_raised 34 = .ok (.istore 9, 2) := by decide +kernel
theorem dX1_raised_36 : decode cX1_raised 36 = .ok (.iload 9, 2) := by decide +kernel
theorem dX1_raised_38 : decode cX1_raised 38 = .ok (.aload_n 1, 1) := by decide +kernel
theorem dX1_raised_39 : decode cX1_raised 39 = .ok (.getfield 27, 3) := by decide +kernel
theorem dX1_raised_42 : decode cX1_raised 42 = .ok (.if_icmp .gt 38, 3) := by decide +kernel
theorem dX1_raised_45 : decode cX1_raised 45 = .ok (.iload 9, 2) := by decide +kernel
theorem dX1_raised_47 : decode cX1_raised 47 = .ok (.iload 7, 2) := by decide +kernel
theorem dX1_raised_49 : decode cX1_raised 49 = .ok (.if_icmp .eq 25, 3) := by decide +kernel
theorem dX1_raised_52 : decode cX1_raised 52 = .ok (.aload_n 0, 1) := by decide +kernel
theorem dX1_raised_53 : decode cX1_raised 53 = .ok (.getfield 20, 3) := by decide +kernel
theorem dX1_raised_56 : decode cX1_raised 56 = .ok (.iload 8, 2) := by decide +kernel
theorem dX1_raised_58 : decode cX1_raised 58 = .ok (.iinc 8 1, 3) := by decide +kernel
theorem dX1_raised_61 : decode cX1_raised 61 = .ok (.bipush 60, 2) := by decide +kernel
theorem dX1_raised_63 : decode cX1_raised 63 = .ok (.aload_n 1, 1) := by decide +kernel
theorem dX1_raised_64 : decode cX1_raised 64 = .ok (.getfield 9, 3) := by decide +kernel
theorem dX1_raised_67 : decode cX1_raised 67 = .ok (.iload_n 3, 1) := by decide +kernel
theorem dX1_raised_68 : decode cX1_raised 68 = .ok (.iload 9, 2) := by decide +kernel
theorem dX1_raised_70 : decode cX1_raised 70 = .ok (.iadd, 1) := by decide +kernel
theorem dX1_raised_71 : decode cX1_raised 71 = .ok (.iaload, 1) := by decide +kernel
theorem dX1_raised_72 : decode cX1_raised 72 = .ok (.imul, 1) := by decide +kernel
theorem dX1_raised_73 : decode cX1_raised 73 = .ok (.iastore, 1) := by decide +kernel
theorem dX1_raised_74 : decode cX1_raised 74 = .ok (.iinc 9 1, 3) := by decide +kernel
theorem dX1_raised_77 : decode cX1_raised 77 = .ok (.goto (-41), 3) := by decide +kernel
theorem dX1_raised_80 : decode cX1_raised 80 = .ok (.lload 5, 2) := by decide +kernel
theorem dX1_raised_82 : decode cX1_raised 82 = .ok (.aload_n 0, 1) := by decide +kernel
theorem dX1_raised_83 : decode cX1_raised 83 = .ok (.iload_n 2, 1) := by decide +kernel
theorem dX1_raised_84 : decode cX1_raised 84 = .ok (.iload 4, 2) := by decide +kernel
theorem dX1_raised_86 : decode cX1_raised 86 = .ok (.invokevirtual 80, 3) := by decide +kernel
theorem dX1_raised_89 : decode cX1_raised 89 = .ok (.ladd, 1) := by decide +kernel
theorem dX1_raised_90 : decode cX1_raised 90 = .ok (.lstore 5, 2) := by decide +kernel
theorem dX1_raised_92 : decode cX1_raised 92 = .ok (.iinc 7 1, 3) := by decide +kernel
theorem dX1_raised_95 : decode cX1_raised 95 = .ok (.goto (-74), 3) := by decide +kernel
theorem dX1_raised_98 : decode cX1_raised 98 = .ok (.aload_n 1, 1) := by decide +kernel
theorem dX1_raised_99 : decode cX1_raised 99 = .ok (.getfield 27, 3) := by decide +kernel
theorem dX1_raised_102 : decode cX1_raised 102 = .ok (.i2l, 1) := by decide +kernel
theorem dX1_raised_103 : decode cX1_raised 103 = .ok (.lstore 7, 2) := by decide +kernel
theorem dX1_raised_105 : decode cX1_raised 105 = .ok (.iconst 0, 1) := by decide +kernel
theorem dX1_raised_106 : decode cX1_raised 106 = .ok (.istore 9, 2) := by decide +kernel
theorem dX1_raised_108 : decode cX1_raised 108 = .ok (.iload 9, 2) := by decide +kernel
theorem dX1_raised_110 : decode cX1_raised 110 = .ok (.aload_n 0, 1) := by decide +kernel
theorem dX1_raised_111 : decode cX1_raised 111 = .ok (.getfield 27, 3) := by decide +kernel
theorem dX1_raised_114 : decode cX1_raised 114 = .ok (.if_icmp .ge 17, 3) := by decide +kernel
theorem dX1_raised_117 : decode cX1_raised 117 = .ok (.lload 7, 2) := by decide +kernel
theorem dX1_raised_119 : decode cX1_raised 119 = .ok (.ldc2_w 83, 3) := by decide +kernel
theorem dX1_raised_122 : decode cX1_raised 122 = .ok (.lmul, 1) := by decide +kernel
theorem dX1_raised_123 : decode cX1_raised 123 = .ok (.lstore 7, 2) := by decide +kernel
theorem dX1_raised_125 : decode cX1_raised 125 = .ok (.iinc 9 1, 3) := by decide +kernel
theorem dX1_raised_128 : decode cX1_raised 128 = .ok (.goto (-20), 3) := by decide +kernel
theorem dX1_raised_131 : decode cX1_raised 131 = .ok (.lload 5, 2) := by decide +kernel
theorem dX1_raised_133 : decode cX1_raised 133 = .ok (.lload 7, 2) := by decide +kernel
theorem dX1_raised_135 : decode cX1_raised 135 = .ok (.invokestatic 68, 3) := by decide +kernel
theorem dX1_raised_138 : decode cX1_raised 138 = .ok (.lreturn, 1) := by decide +kernel
theorem dX1_turnInto_0 : decode cX1_turnInto 0 = .ok (.aload_n 1, 1) := by decide +kernel
theorem dX1_turnInto_1 : decode cX1_turnInto 1 = .ok (.aload_n 0, 1) := by decide +kernel
theorem dX1_turnInto_2 : decode cX1_turnInto 2 = .ok (.getfield 27, 3) := by decide +kernel
theorem dX1_turnInto_5 : decode cX1_turnInto 5 = .ok (.putfield 27, 3) := by decide +kernel
theorem dX1_turnInto_8 : decode cX1_turnInto 8 = .ok (.aload_n 1, 1) := by decide +kernel
theorem dX1_turnInto_9 : decode cX1_turnInto 9 = .ok (.aload_n 0, 1) := by decide +kernel
theorem dX1_turnInto_10 : decode cX1_turnInto 10 = .ok (.getfield 31, 3) := by decide +kernel
theorem dX1_turnInto_13 : decode cX1_turnInto 13 = .ok (.putfield 31, 3) := by decide +kernel
theorem dX1_turnInto_16 : decode cX1_turnInto 16 = .ok (.iconst 0, 1) := by decide +kernel
theorem dX1_turnInto_17 : decode cX1_turnInto 17 = .ok (.istore_n 2, 1) := by decide +kernel
theorem dX1_turnInto_18 : decode cX1_turnInto 18 = .ok (.iload_n 2, 1) := by decide +kernel
theorem dX1_turnInto_19 : decode cX1_turnInto 19 = .ok (.aload_n 0, 1) := by decide +kernel
theorem dX1_turnInto_20 : decode cX1_turnInto 20 = .ok (.invokevirtual 60, 3) := by decide +kernel
theorem dX1_turnInto_23 : decode cX1_turnInto 23 = .ok (.if_icmp .ge 31, 3) := by decide +kernel
theorem dX1_turnInto_26 : decode cX1_turnInto 26 = .ok (.aload_n 1, 1) := by decide +kernel
theorem dX1_turnInto_27 : decode cX1_turnInto 27 = .ok (.getfield 9, 3) := by decide +kernel
theorem dX1_turnInto_30 : decode cX1_turnInto 30 = .ok (.iload_n 2, 1) := by decide +kernel
theorem dX1_turnInto_31 : decode cX1_turnInto 31 = .ok (.bipush 6, 2) := by decide +kernel
theorem dX1_turnInto_33 : decode cX1_turnInto 33 = .ok (.aload_n 0, 1) := by decide +kernel
theorem dX1_turnInto_34 : decode cX1_turnInto 34 = .ok (.getfield 9, 3) := by decide +kernel
theorem dX1_turnInto_37 : decode cX1_turnInto 37 = .ok (.aload_n 0, 1) := by decide +kernel
theorem dX1_turnInto_38 : decode cX1_turnInto 38 = .ok (.invokevirtual 60, 3) := by decide +kernel
theorem dX1_turnInto_41 : decode cX1_turnInto 41 = .ok (.iconst 1, 1) := by decide +kernel
theorem dX1_turnInto_42 : decode cX1_turnInto 42 = .ok (.isub, 1) := by decide +kernel
theorem dX1_turnInto_43 : decode cX1_turnInto 43 = .ok (.iload_n 2, 1) := by decide +kernel
theorem dX1_turnInto_44 : decode cX1_turnInto 44 = .ok (.isub, 1) := by decide +kernel
theorem dX1_turnInto_45 : decode cX1_turnInto 45 = .ok (.iaload, 1) := by decide +kernel
theorem dX1_turnInto_46 : decode cX1_turnInto 46 = .ok (.isub, 1) := by decide +kernel
theorem dX1_turnInto_47 : decode cX1_turnInto 47 = .ok (.iastore, 1) := by decide +kernel
theorem dX1_turnInto_48 : decode cX1_turnInto 48 = .ok (.iinc 2 1, 3) := by decide +kernel
theorem dX1_turnInto_51 : decode cX1_turnInto 51 = .ok (.goto (-33), 3) := by decide +kernel
theorem dX1_turnInto_54 : decode cX1_turnInto 54 = .ok (.iconst 0, 1) := by decide +kernel
theorem dX1_turnInto_55 : decode cX1_turnInto 55 = .ok (.istore_n 2, 1) := by decide +kernel
theorem dX1_turnInto_56 : decode cX1_turnInto 56 = .ok (.iload_n 2, 1) := by decide +kernel
theorem dX1_turnInto_57 : decode cX1_turnInto 57 = .ok (.iconst 3, 1) := by decide +kernel
theorem dX1_turnInto_58 : decode cX1_turnInto 58 = .ok (.if_icmp .ge 48, 3) := by decide +kernel
theorem dX1_turnInto_61 : decode cX1_turnInto 61 = .ok (.iconst 0, 1) := by decide +kernel
theorem dX1_turnInto_62 : decode cX1_turnInto 62 = .ok (.istore_n 3, 1) := by decide +kernel
theorem dX1_turnInto_63 : decode cX1_turnInto 63 = .ok (.iload_n 3, 1) := by decide +kernel
theorem dX1_turnInto_64 : decode cX1_turnInto 64 = .ok (.aload_n 0, 1) := by decide +kernel
theorem dX1_turnInto_65 : decode cX1_turnInto 65 = .ok (.getfield 31, 3) := by decide +kernel
theorem dX1_turnInto_68 : decode cX1_turnInto 68 = .ok (.if_icmp .ge 32, 3) := by decide +kernel
