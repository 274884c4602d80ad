theorem dX2_init_0 : decode cX2_init 0 = .ok (.aload_n 0, 1) := by decide +kernel
theorem dX2_init_1 : decode cX2_init 1 = .ok (.invokespecial 3, 3) := by decide +kernel
theorem dX2_init_4 : decode cX2_init 4 = .ok (.aload_n 0, 1) := by decide +kernel
theorem dX2_init_5 : decode cX2_init 5 = .ok (.bipush 19, 2) := by decide +kernel
theorem dX2_init_7 : decode cX2_init 7 = .ok (.newarray .int, 2) := by decide +kernel
theorem dX2_init_9 : decode cX2_init 9 = .ok (.putfield 9, 3) := by decide +kernel
theorem dX2_init_12 : decode cX2_init 12 = .ok (.aload_n 0, 1) := by decide +kernel
theorem dX2_init_13 : decode cX2_init 13 = .ok (.bipush 19, 2) := by decide +kernel
theorem dX2_init_15 : decode cX2_init 15 = .ok (.newarray .int, 2) := by decide +kernel
theorem dX2_init_17 : decode cX2_init 17 = .ok (.putfield 15, 3) := by decide +kernel
theorem dX2_init_20 : decode cX2_init 20 = .ok (.aload_n 0, 1) := by decide +kernel
theorem dX2_init_21 : decode cX2_init 21 = .ok (.bipush 19, 2) := by decide +kernel
theorem dX2_init_23 : decode cX2_init 23 = .ok (.newarray .int, 2) := by decide +kernel
theorem dX2_init_25 : decode cX2_init 25 = .ok (.putfield 18, 3) := by decide +kernel
theorem dX2_init_28 : decode cX2_init 28 = .ok (.aload_n 0, 1) := by decide +kernel
theorem dX2_init_29 : decode cX2_init 29 = .ok (.bipush 15, 2) := by decide +kernel
theorem dX2_init_31 : decode cX2_init 31 = .ok (.newarray .int, 2) := by decide +kernel
theorem dX2_init_33 : decode cX2_init 33 = .ok (.putfield 21, 3) := by decide +kernel
theorem dX2_init_36 : decode cX2_init 36 = .ok (.return_, 1) := by decide +kernel
theorem dX2_open_0 : decode cX2_open 0 = .ok (.aload_n 0, 1) := by decide +kernel
theorem dX2_open_1 : decode cX2_open 1 = .ok (.iload_n 1, 1) := by decide +kernel
theorem dX2_open_2 : decode cX2_open 2 = .ok (.putfield 24, 3) := by decide +kernel
theorem dX2_open_5 : decode cX2_open 5 = .ok (.aload_n 0, 1) := by decide +kernel
theorem dX2_open_6 : decode cX2_open 6 = .ok (.iconst 0, 1) := by decide +kernel
theorem dX2_open_7 : decode cX2_open 7 = .ok (.putfield 28, 3) := by decide +kernel
theorem dX2_open_10 : decode cX2_open 10 = .ok (.aload_n 0, 1) := by decide +kernel
theorem dX2_open_11 : decode cX2_open 11 = .ok (.iconst 0, 1) := by decide +kernel
theorem dX2_open_12 : decode cX2_open 12 = .ok (.putfield 31, 3) := by decide +kernel
theorem dX2_open_15 : decode cX2_open 15 = .ok (.return_, 1) := by decide +kernel
theorem dX2_close_0 : decode cX2_close 0 = .ok (.aload_n 0, 1) := by decide +kernel
theorem dX2_close_1 : decode cX2_close 1 = .ok (.iconst 0, 1) := by decide +kernel
theorem dX2_close_2 : decode cX2_close 2 = .ok (.putfield 24, 3) := by decide +kernel
theorem dX2_close_5 : decode cX2_close 5 = .ok (.return_, 1) := by decide +kernel
theorem dX2_addPoint_0 : decode cX2_addPoint 0 = .ok (.aload_n 0, 1) := by decide +kernel
theorem dX2_addPoint_1 : decode cX2_addPoint 1 = .ok (.getfield 24, 3) := by decide +kernel
theorem dX2_addPoint_4 : decode cX2_addPoint 4 = .ok (.ifCond .eq 26, 3) := by decide +kernel
theorem dX2_addPoint_7 : decode cX2_addPoint 7 = .ok (.aload_n 0, 1) := by decide +kernel
theorem dX2_addPoint_8 : decode cX2_addPoint 8 = .ok (.getfield 28, 3) := by decide +kernel
theorem dX2_addPoint_11 : decode cX2_addPoint 11 = .ok (.bipush 19, 2) := by decide +kernel
theorem dX2_addPoint_13 : decode cX2_addPoint 13 = .ok (.if_icmp .ge 17, 3) := by decide +kernel
theorem dX2_addPoint_16 : decode cX2_addPoint 16 = .ok (.iload_n 1, 1) := by decide +kernel
theorem dX2_addPoint_17 : decode cX2_addPoint 17 = .ok (.invokestatic 34, 3) := by decide +kernel
theorem dX2_addPoint_20 : decode cX2_addPoint 20 = .ok (.ifCond .eq 10, 3) := by decide +kernel
theorem dX2_addPoint_23 : decode cX2_addPoint 23 = .ok (.iload_n 2, 1) := by decide +kernel
theorem dX2_addPoint_24 : decode cX2_addPoint 24 = .ok (.invokestatic 34, 3) := by decide +kernel
theorem dX2_addPoint_27 : decode cX2_addPoint 27 = .ok (.ifCond .ne 5, 3) := by decide +kernel
theorem dX2_addPoint_30 : decode cX2_addPoint 30 = .ok (.iconst 0, 1) := by decide +kernel
theorem dX2_addPoint_31 : decode cX2_addPoint 31 = .ok (.ireturn, 1) := by decide +kernel
theorem dX2_addPoint_32 : decode cX2_addPoint 32 = .ok (.iload_n 3, 1) := by decide +kernel
theorem dX2_addPoint_33 : decode cX2_addPoint 33 = .ok (.iconst 1, 1) := by decide +kernel
theorem dX2_addPoint_34 : decode cX2_addPoint 34 = .ok (.if_icmp .lt 9, 3) := by decide +kernel
theorem dX2_addPoint_37 : decode cX2_addPoint 37 = .ok (.iload_n 3, 1) := by decide +kernel
theorem dX2_addPoint_38 : decode cX2_addPoint 38 = .ok (.bipush 16, 2) := by decide +kernel
theorem dX2_addPoint_40 : decode cX2_addPoint 40 = .ok (.if_icmp .le 5, 3) := by decide +kernel
theorem dX2_addPoint_43 : decode cX2_addPoint 43 = .ok (.iconst 0, 1) := by decide +kernel
theorem dX2_addPoint_44 : decode cX2_addPoint 44 = .ok (.ireturn, 1) := by decide +kernel
theorem dX2_addPoint_45 : decode cX2_addPoint 45 = .ok (.aload_n 0, 1) := by decide +kernel
theorem dX2_addPoint_46 : decode cX2_addPoint 46 = .ok (.getfield 9, 3) := by decide +kernel
theorem dX2_addPoint_49 : decode cX2_addPoint 49 = .ok (.aload_n 0, 1) := by decide +kernel
theorem dX2_addPoint_50 : decode cX2_addPoint 50 = .ok (.getfield 28, 3) := by decide +kernel
theorem dX2_addPoint_53 : decode cX2_addPoint 53 = .ok (.iload_n 1, 1) := by decide +kernel
theorem dX2_addPoint_54 : decode cX2_addPoint 54 = .ok (.iastore, 1) := by decide +kernel
theorem dX2_addPoint_55 : decode cX2_addPoint 55 = .ok (.aload_n 0, 1) := by decide +kernel
theorem dX2_addPoint_56 : decode cX2_addPoint 56 = .ok (.getfield 15, 3) := by decide +kernel
theorem dX2_addPoint_59 : decode cX2_addPoint 59 = .ok (.aload_n 0, 1) := by decide +kernel
theorem dX2_addPoint_60 : decode cX2_addPoint 60 = .ok (.getfield 28, 3) := by decide +kernel
theorem dX2_addPoint_63 : decode cX2_addPoint 63 = .ok (.iload_n 2, 1) := by decide +kernel
theorem dX2_addPoint_64 : decode cX2_addPoint 64 = .ok (.iastore, 1) := by decide +kernel
theorem dX2_addPoint_65 : decode cX2_addPoint 65 = .ok (.aload_n 0, 1) := by decide +kernel
theorem dX2_addPoint_66 : decode cX2_addPoint 66 = .ok (.getfield 18, 3) := by decide +kernel
theorem dX2_addPoint_69 : decode cX2_addPoint 69 = .ok (.aload_n 0, 1) := by decide +kernel
theorem dX2_addPoint_70 : decode cX2_addPoint 70 = .ok (.getfield 28, 3) := by decide +kernel
theorem dX2_addPoint_73 : decode cX2_addPoint 73 = .ok (.iload_n 3, 1) := by decide +kernel
theorem dX2_addPoint_74 : decode cX2_addPoint 74 = .ok (.iastore, 1) := by decide +kernel
theorem dX2_addPoint_75 : decode cX2_addPoint 75 = .ok (.aload_n 0, 1) := by decide +kernel
theorem dX2_addPoint_76 : decode cX2_addPoint 76 = .ok (.dup, 1) := by decide +kernel
theorem dX2_addPoint_77 : decode cX2_addPoint 77 = .ok (.getfield 28, 3) := by decide +kernel
theorem dX2_addPoint_80 : decode cX2_addPoint 80 = .ok (.iconst 1, 1) := by decide +kernel
theorem dX2_addPoint_81 : decode cX2_addPoint 81 = .ok (.iadd, 1) := by decide +kernel
theorem dX2_addPoint_82 : decode cX2_addPoint 82 = .ok (.putfield 28, 3) := by decide +kernel
theorem dX2_addPoint_85 : decode cX2_addPoint 85 = .ok (.iconst 1, 1) := by decide +kernel
theorem dX2_addPoint_86 : decode cX2_addPoint 86 = .ok (.ireturn, 1) := by decide +kernel
theorem dX2_addKnot_0 : decode cX2_addKnot 0 = .ok (.aload_n 0, 1) := by decide +kernel
theorem dX2_addKnot_1 : decode cX2_addKnot 1 = .ok (.getfield 24, 3) := by decide +kernel
theorem dX2_addKnot_4 : decode cX2_addKnot 4 = .ok (.ifCond .eq 19, 3) := by decide +kernel
theorem dX2_addKnot_7 : decode cX2_addKnot 7 = .ok (.iload_n 1, 1) := by decide +kernel
theorem dX2_addKnot_8 : decode cX2_addKnot 8 = .ok (.invokestatic 38, 3) := by decide +kernel
theorem dX2_addKnot_11 : decode cX2_addKnot 11 = .ok (.ifCond .eq 12, 3) := by decide +kernel
theorem dX2_addKnot_14 : decode cX2_addKnot 14 = .ok (.aload_n 0, 1) := by decide +kernel
theorem dX2_addKnot_15 : decode cX2_addKnot 15 = .ok (.getfield 31, 3) := by decide +kernel
theorem dX2_addKnot_18 : decode cX2_addKnot 18 = .ok (.bipush 15, 2) := by decide +kernel
theorem dX2_addKnot_20 : decode cX2_addKnot 20 = .ok (.if_icmp .lt 5, 3) := by decide +kernel
theorem dX2_addKnot_23 : decode cX2_addKnot 23 = .ok (.iconst 0, 1) := by decide +kernel
theorem dX2_addKnot_24 : decode cX2_addKnot 24 = .ok (.ireturn, 1) := by decide +kernel
theorem dX2_addKnot_25 : decode cX2_addKnot 25 = .ok (.aload_n 0, 1) := by decide +kernel
theorem dX2_addKnot_26 : decode cX2_addKnot 26 = .ok (.getfield 31, 3) := by decide +kernel
theorem dX2_addKnot_29 : decode cX2_addKnot 29 = .ok (.ifCond .le 20, 3) := by decide +kernel
theorem dX2_addKnot_32 : decode cX2_addKnot 32 = .ok (.iload_n 1, 1) := by decide +kernel
theorem dX2_addKnot_33 : decode cX2_addKnot 33 = .ok (.aload_n 0, 1) := by decide +kernel
theorem dX2_addKnot_34 : decode cX2_addKnot 34 = .ok (.getfield 21, 3) := by decide +kernel
theorem dX2_addKnot_37 : decode cX2_addKnot 37 = .ok (.aload_n 0, 1) := by decide +kernel
theorem dX2_addKnot_38 : decode cX2_addKnot 38 = .ok (.getfield 31, 3) := by decide +kernel
theorem dX2_addKnot_41 : decode cX2_addKnot 41 = .ok (.iconst 1, 1) := by decide +kernel
theorem dX2_addKnot_42 : decode cX2_addKnot 42 = .ok (.isub, 1) := by decide +kernel
theorem dX2_addKnot_43 : decode cX2_addKnot 43 = .ok (.iaload, 1) := by decide +kernel
theorem dX2_addKnot_44 : decode cX2_addKnot 44 = .ok (.if_icmp .ge 5, 3) := by decide +kernel
theorem dX2_addKnot_47 : decode cX2_addKnot 47 = .ok (.iconst 0, 1) := by decide +kernel
theorem dX2_addKnot_48 : decode cX2_addKnot 48 = .ok (.ireturn, 1) := by decide +kernel
theorem dX2_addKnot_49 : decode cX2_addKnot 49 = .ok (.aload_n 0, 1) := by decide +kernel
theorem dX2_addKnot_50 : decode cX2_addKnot 50 = .ok (.getfield 31, 3) := by decide +kernel
theorem dX2_addKnot_53 : decode cX2_addKnot 53 = .ok (.aload_n 0, 1) := by decide +kernel
theorem dX2_addKnot_54 : decode cX2_addKnot 54 = .ok (.getfield 24, 3) := by decide +kernel
theorem dX2_addKnot_57 : decode cX2_addKnot 57 = .ok (.if_icmp .lt 23, 3) := by decide +kernel
theorem dX2_addKnot_60 : decode cX2_addKnot 60 = .ok (.aload_n 0, 1) := by decide +kernel
theorem dX2_addKnot_61 : decode cX2_addKnot 61 = .ok (.getfield 21, 3) := by decide +kernel
theorem dX2_addKnot_64 : decode cX2_addKnot 64 = .ok (.aload_n 0, 1) := by decide +kernel
theorem dX2_addKnot_65 : decode cX2_addKnot 65 = .ok (.getfield 31, 3) := by decide +kernel
theorem dX2_addKnot_68 : decode cX2_addKnot 68 = .ok (.aload_n 0, 1) := by decide +kernel
theorem dX2_addKnot_69 : decode cX2_addKnot 69 = .ok (.getfield 24, 3) := by decide +kernel
theorem dX2_addKnot_72 : decode cX2_addKnot 72 = .ok (.isub, 1) := by decide +kernel
theorem dX2_addKnot_73 : decode cX2_addKnot 73 = .ok (.iaload, 1) := by decide +kernel
theorem dX2_addKnot_74 : decode cX2_addKnot 74 = .ok (.iload_n 1, 1) := by decide +kernel
theorem dX2_addKnot_75 : decode cX2_addKnot 75 = .ok (.if_icmp .ne 5, 3) := by decide +kernel
theorem dX2_addKnot_78 : decode cX2_addKnot 78 = .ok (.iconst 0, 1) := by decide +kernel
theorem dX2_addKnot_79 : decode cX2_addKnot 79 = .ok (.ireturn, 1) := by decide +kernel
theorem dX2_addKnot_80 : decode cX2_addKnot 80 = .ok (.aload_n 0, 1) := by decide +kernel
theorem dX2_addKnot_81 : decode cX2_addKnot 81 = .ok (.getfield 21, 3) := by decide +kernel
theorem dX2_addKnot_84 : decode cX2_addKnot 84 = .ok (.aload_n 0, 1) := by decide +kernel
theorem dX2_addKnot_85 : decode cX2_addKnot 85 = .ok (.getfield 31, 3) := by decide +kernel
theorem dX2_addKnot_88 : decode cX2_addKnot 88 = .ok (.iload_n 1, 1) := by decide +kernel
theorem dX2_addKnot_89 : decode cX2_addKnot 89 = .ok (.iastore, 1) := by decide +kernel
theorem dX2_addKnot_90 : decode cX2_addKnot 90 = .ok (.aload_n 0, 1) := by decide +kernel
theorem dX2_addKnot_91 : decode cX2_addKnot 91 = .ok (.dup, 1) := by decide +kernel
theorem dX2_addKnot_92 : decode cX2_addKnot 92 = .ok (.getfield 31, 3) := by decide +kernel
theorem dX2_addKnot_95 : decode cX2_addKnot 95 = .ok (.iconst 1, 1) := by decide +kernel
theorem dX2_addKnot_96 : decode cX2_addKnot 96 = .ok (.iadd, 1) := by decide +kernel
theorem dX2_addKnot_97 : decode cX2_addKnot 97 = .ok (.putfield 31, 3) := by decide +kernel
theorem dX2_addKnot_100 : decode cX2_addKnot 100 = .ok (.iconst 1, 1) := by decide +kernel
theorem dX2_addKnot_101 : decode cX2_addKnot 101 = .ok (.ireturn, 1) := by decide +kernel
theorem dX2_fault_0 : decode cX2_fault 0 = .ok (.aload_n 0, 1) := by decide +kernel
theorem dX2_fault_1 : decode cX2_fault 1 = .ok (.getfield 24, 3) := by decide +kernel
theorem dX2_fault_4 : decode cX2_fault 4 = .ok (.ifCond .ne 5, 3) := by decide +kernel
theorem dX2_fault_7 : decode cX2_fault 7 = .ok (.iconst 1, 1) := by decide +kernel
theorem dX2_fault_8 : decode cX2_fault 8 = .ok (.ireturn, 1) := by decide +kernel
theorem dX2_fault_9 : decode cX2_fault 9 = .ok (.aload_n 0, 1) := by decide +kernel
theorem dX2_fault_10 : decode cX2_fault 10 = .ok (.getfield 28, 3) := by decide +kernel
theorem dX2_fault_13 : decode cX2_fault 13 = .ok (.aload_n 0, 1) := by decide +kernel
theorem dX2_fault_14 : decode cX2_fault 14 = .ok (.getfield 24, 3) := by decide +kernel
theorem dX2_fault_17 : decode cX2_fault 17 = .ok (.iconst 1, 1) := by decide +kernel
theorem dX2_fault_18 : decode cX2_fault 18 = .ok (.iadd, 1) := by decide +kernel
theorem dX2_fault_19 : decode cX2_fault 19 = .ok (.if_icmp .ge 5, 3) := by decide +kernel
theorem dX2_fault_22 : decode cX2_fault 22 = .ok (.iconst 2, 1) := by decide +kernel
theorem dX2_fault_23 : decode cX2_fault 23 = .ok (.ireturn, 1) := by decide +kernel
theorem dX2_fault_24 : decode cX2_fault 24 = .ok (.aload_n 0, 1) := by decide +kernel
theorem dX2_fault_25 : decode cX2_fault 25 = .ok (.getfield 31, 3) := by decide +kernel
theorem dX2_fault_28 : decode cX2_fault 28 = .ok (.aload_n 0, 1) := by decide +kernel
theorem dX2_fault_29 : decode cX2_fault 29 = .ok (.getfield 28, 3) := by decide +kernel
theorem dX2_fault_32 : decode cX2_fault 32 = .ok (.aload_n 0, 1) := by decide +kernel
theorem dX2_fault_33 : decode cX2_fault 33 = .ok (.getfield 24, 3) := by decide +kernel
theorem dX2_fault_36 : decode cX2_fault 36 = .ok (.isub, 1) := by decide +kernel
theorem dX2_fault_37 : decode cX2_fault 37 = .ok (.iconst 1, 1) := by decide +kernel
theorem dX2_fault_38 : decode cX2_fault 38 = .ok (.isub, 1) := by decide +kernel
theorem dX2_fault_39 : decode cX2_fault 39 = .ok (.if_icmp .ne 7, 3) := by decide +kernel
theorem dX2_fault_42 : decode cX2_fault 42 = .ok (.iconst 0, 1) := by decide +kernel
theorem dX2_fault_43 : decode cX2_fault 43 = .ok (.goto 4, 3) := by decide +kernel
theorem dX2_fault_46 : decode cX2_fault 46 = .ok (.iconst 3, 1) := by decide +kernel
theorem dX2_fault_47 : decode cX2_fault 47 = .ok (.ireturn, 1) := by decide +kernel
theorem dX2_copyTo_0 : decode cX2_copyTo 0 = .ok (.aload_n 1, 1) := by decide +kernel
theorem dX2_copyTo_1 : decode cX2_copyTo 1 = .ok (.aload_n 0, 1) := by decide +kernel
theorem dX2_copyTo_2 : decode cX2_copyTo 2 = .ok (.getfield 24, 3) := by decide +kernel
theorem dX2_copyTo_5 : decode cX2_copyTo 5 = .ok (.putfield 41, 3) := by decide +kernel
theorem dX2_copyTo_8 : decode cX2_copyTo 8 = .ok (.aload_n 1, 1) := by decide +kernel
theorem dX2_copyTo_9 : decode cX2_copyTo 9 = .ok (.aload_n 0, 1) := by decide +kernel
theorem dX2_copyTo_10 : decode cX2_copyTo 10 = .ok (.getfield 28, 3) := by decide +kernel
theorem dX2_copyTo_13 : decode cX2_copyTo 13 = .ok (.putfield 44, 3) := by decide +kernel
theorem dX2_copyTo_16 : decode cX2_copyTo 16 = .ok (.iconst 0, 1) := by decide +kernel
theorem dX2_copyTo_17 : decode cX2_copyTo 17 = .ok (.istore_n 2, 1) := by decide +kernel
theorem dX2_copyTo_18 : decode cX2_copyTo 18 = .ok (.iload_n 2, 1) := by decide +kernel
theorem dX2_copyTo_19 : decode cX2_copyTo 19 = .ok (.aload_n 0, 1) := by decide +kernel
theorem dX2_copyTo_20 : decode cX2_copyTo 20 = .ok (.getfield 24, 3) := by decide +kernel
theorem dX2_copyTo_23 : decode cX2_copyTo 23 = .ok (.if_icmp .gt 29, 3) := by decide +kernel
theorem dX2_copyTo_26 : decode cX2_copyTo 26 = .ok (.aload_n 1, 1) := by decide +kernel
theorem dX2_copyTo_27 : decode cX2_copyTo 27 = .ok (.getfield 45, 3) := by decide +kernel
theorem dX2_copyTo_30 : decode cX2_copyTo 30 = .ok (.iload_n 2, 1) := by decide +kernel
theorem dX2_copyTo_31 : decode cX2_copyTo 31 = .ok (.iconst 0, 1) := by decide +kernel
theorem dX2_copyTo_32 : decode cX2_copyTo 32 = .ok (.iastore, 1) := by decide +kernel
theorem dX2_copyTo_33 : decode cX2_copyTo 33 = .ok (.aload_n 1, 1) := by decide +kernel
theorem dX2_copyTo_34 : decode cX2_copyTo 34 = .ok (.getfield 45, 3) := by decide +kernel
theorem dX2_copyTo_37 : decode cX2_copyTo 37 = .ok (.aload_n 0, 1) := by decide +kernel
theorem dX2_copyTo_38 : decode cX2_copyTo 38 = .ok (.getfield 28, 3) := by decide +kernel
theorem dX2_copyTo_41 : decode cX2_copyTo 41 = .ok (.iload_n 2, 1) := by decide +kernel
theorem dX2_copyTo_42 : decode cX2_copyTo 42 = .ok (.iadd, 1) := by decide +kernel
theorem dX2_copyTo_43 : decode cX2_copyTo 43 = .ok (.bipush 6, 2) := by decide +kernel
theorem dX2_copyTo_45 : decode cX2_copyTo 45 = .ok (.iastore, 1) := by decide +kernel
theorem dX2_copyTo_46 : decode cX2_copyTo 46 = .ok (.iinc 2 1, 3) := by decide +kernel
theorem dX2_copyTo_49 : decode cX2_copyTo 49 = .ok (.goto (-31), 3) := by decide +kernel
theorem dX2_copyTo_52 : decode cX2_copyTo 52 = .ok (.iconst 0, 1) := by decide +kernel
theorem dX2_copyTo_53 : decode cX2_copyTo 53 = .ok (.istore_n 2, 1) := by decide +kernel
theorem dX2_copyTo_54 : decode cX2_copyTo 54 = .ok (.iload_n 2, 1) := by decide +kernel
theorem dX2_copyTo_55 : decode cX2_copyTo 55 = .ok (.aload_n 0, 1) := by decide +kernel
theorem dX2_copyTo_56 : decode cX2_copyTo 56 = .ok (.getfield 31, 3) := by decide +kernel
theorem dX2_copyTo_59 : decode cX2_copyTo 59 = .ok (.if_icmp .ge 28, 3) := by decide +kernel
theorem dX2_copyTo_62 : decode cX2_copyTo 62 = .ok (.aload_n 1, 1) := by decide +kernel
theorem dX2_copyTo_63 : decode cX2_copyTo 63 = .ok (.getfield 45, 3) := by decide +kernel
theorem dX2_copyTo_66 : decode cX2_copyTo 66 = .ok (.aload_n 0, 1) := by decide +kernel
theorem dX2_copyTo_67 : decode cX2_copyTo 67 = .ok (.getfield 24, 3) := by decide +kernel
theorem dX2_copyTo_70 : decode cX2_copyTo 70 = .ok (.iconst 1, 1) := by decide +kernel
theorem dX2_copyTo_71 : decode cX2_copyTo 71 = .ok (.iadd, 1) := by decide +kernel
theorem dX2_copyTo_72 : decode cX2_copyTo 72 = .ok (.iload_n 2, 1) := by decide +kernel
theorem dX2_copyTo_73 : decode cX2_copyTo 73 = .ok (.iadd, 1) := by decide +kernel
theorem dX2_copyTo_74 : decode cX2_copyTo 74 = .ok (.aload_n 0, 1) := by decide +kernel
theorem dX2_copyTo_75 : decode cX2_copyTo 75 = .ok (.getfield 21, 3) := by decide +kernel
theorem dX2_copyTo_78 : decode cX2_copyTo 78 = .ok (.iload_n 2, 1) := by decide +kernel
theorem dX2_copyTo_79 : decode cX2_copyTo 79 = .ok (.iaload, 1) := by decide +kernel
theorem dX2_copyTo_80 : decode cX2_copyTo 80 = .ok (.iastore, 1) := by decide +kernel
theorem dX2_copyTo_81 : decode cX2_copyTo 81 = .ok (.iinc 2 1, 3) := by decide +kernel
theorem dX2_copyTo_84 : decode cX2_copyTo 84 = .ok (.goto (-30), 3) := by decide +kernel
theorem dX2_copyTo_87 : decode cX2_copyTo 87 = .ok (.iconst 0, 1) := by decide +kernel
theorem dX2_copyTo_88 : decode cX2_copyTo 88 = .ok (.istore_n 2, 1) := by decide +kernel
theorem dX2_copyTo_89 : decode cX2_copyTo 89 = .ok (.iload_n 2, 1) := by decide +kernel
theorem dX2_copyTo_90 : decode cX2_copyTo 90 = .ok (.aload_n 0, 1) := by decide +kernel
theorem dX2_copyTo_91 : decode cX2_copyTo 91 = .ok (.getfield 28, 3) := by decide +kernel
theorem dX2_copyTo_94 : decode cX2_copyTo 94 = .ok (.if_icmp .ge 64, 3) := by decide +kernel
theorem dX2_copyTo_97 : decode cX2_copyTo 97 = .ok (.ldc2_w 48, 3) := by decide +kernel
theorem dX2_copyTo_100 : decode cX2_copyTo 100 = .ok (.aload_n 0, 1) := by decide +kernel
theorem dX2_copyTo_101 : decode cX2_copyTo 101 = .ok (.getfield 18, 3) := by decide +kernel
theorem dX2_copyTo_104 : decode cX2_copyTo 104 = .ok (.iload_n 2, 1) := by decide +kernel
theorem dX2_copyTo_105 : decode cX2_copyTo 105 = .ok (.iaload, 1) := by decide +kernel
theorem dX2_copyTo_106 : decode cX2_copyTo 106 = .ok (.i2l, 1) := by decide +kernel
theorem dX2_copyTo_107 : decode cX2_copyTo 107 = .ok (.lmul, 1) := by decide +kernel
theorem dX2_copyTo_108 : decode cX2_copyTo 108 = .ok (.lstore_n 3, 1) := by decide +kernel
theorem dX2_copyTo_109 : decode cX2_copyTo 109 = .ok (.aload_n 1, 1) := by decide +kernel
theorem dX2_copyTo_110 : decode cX2_copyTo 110 = .ok (.getfield 50, 3) := by decide +kernel
theorem dX2_copyTo_113 : decode cX2_copyTo 113 = .ok (.iconst 0, 1) := by decide +kernel
theorem dX2_copyTo_114 : decode cX2_copyTo 114 = .ok (.aaload, 1) := by decide +kernel
theorem dX2_copyTo_115 : decode cX2_copyTo 115 = .ok (.iload_n 2, 1) := by decide +kernel
theorem dX2_copyTo_116 : decode cX2_copyTo 116 = .ok (.aload_n 0, 1) := by decide +kernel
theorem dX2_copyTo_117 : decode cX2_copyTo 117 = .ok (.getfield 9, 3) := by decide +kernel
theorem dX2_copyTo_120 : decode cX2_copyTo 120 = .ok (.iload_n 2, 1) := by decide +kernel
theorem dX2_copyTo_121 : decode cX2_copyTo 121 = .ok (.iaload, 1) := by decide +kernel
theorem dX2_copyTo_122 : decode cX2_copyTo 122 = .ok (.i2l, 1) := by decide +kernel
theorem dX2_copyTo_123 : decode cX2_copyTo 123 = .ok (.lload_n 3, 1) := by decide +kernel
theorem dX2_copyTo_124 : decode cX2_copyTo 124 = .ok (.lmul, 1) := by decide +kernel
theorem dX2_copyTo_125 : decode cX2_copyTo 125 = .ok (.lastore, 1) := by decide +kernel
theorem dX2_copyTo_126 : decode cX2_copyTo 126 = .ok (.aload_n 1, 1) := by decide +kernel
theorem dX2_copyTo_127 : decode cX2_copyTo 127 = .ok (.getfield 50, 3) := by decide +kernel
theorem dX2_copyTo_130 : decode cX2_copyTo 130 = .ok (.iconst 1, 1) := by decide +kernel
theorem dX2_copyTo_131 : decode cX2_copyTo 131 = .ok (.aaload, 1) := by decide +kernel
theorem dX2_copyTo_132 : decode cX2_copyTo 132 = .ok (.iload_n 2, 1) := by decide +kernel
theorem dX2_copyTo_133 : decode cX2_copyTo 133 = .ok (.aload_n 0, 1) := by decide +kernel
theorem dX2_copyTo_134 : decode cX2_copyTo 134 = .ok (.getfield 15, 3) := by decide +kernel
theorem dX2_copyTo_137 : decode cX2_copyTo 137 = .ok (.iload_n 2, 1) := by decide +kernel
theorem dX2_copyTo_138 : decode cX2_copyTo 138 = .ok (.iaload, 1) := by decide +kernel
theorem dX2_copyTo_139 : decode cX2_copyTo 139 = .ok (.i2l, 1) := by decide +kernel
theorem dX2_copyTo_140 : decode cX2_copyTo 140 = .ok (.lload_n 3, 1) := by decide +kernel
theorem dX2_copyTo_141 : decode cX2_copyTo 141 = .ok (.lmul, 1) := by decide +kernel
theorem dX2_copyTo_142 : decode cX2_copyTo 142 = .ok (.lastore, 1) := by decide +kernel
theorem dX2_copyTo_143 : decode cX2_copyTo 143 = .ok (.aload_n 1, 1) := by decide +kernel
theorem dX2_copyTo_144 : decode cX2_copyTo 144 = .ok (.getfield 50, 3) := by decide +kernel
theorem dX2_copyTo_147 : decode cX2_copyTo 147 = .ok (.iconst 2, 1) := by decide +kernel
theorem dX2_copyTo_148 : decode cX2_copyTo 148 = .ok (.aaload, 1) := by decide +kernel
theorem dX2_copyTo_149 : decode cX2_copyTo 149 = .ok (.iload_n 2, 1) := by decide +kernel
theorem dX2_copyTo_150 : decode cX2_copyTo 150 = .ok (.lload_n 3, 1) := by decide +kernel
theorem dX2_copyTo_151 : decode cX2_copyTo 151 = .ok (.lastore, 1) := by decide +kernel
theorem dX2_copyTo_152 : decode cX2_copyTo 152 = .ok (.iinc 2 1, 3) := by decide +kernel
theorem dX2_copyTo_155 : decode cX2_copyTo 155 = .ok (.goto (-66), 3) := by decide +kernel
theorem dX2_copyTo_158 : decode cX2_copyTo 158 = .ok (.return_, 1) := by decide +kernel
theorem dX2_isCoordinate_0 : decode cX2_isCoordinate 0 = .ok (.iload_n 0, 1) := by decide +kernel
theorem dX2_isCoordinate_1 : decode cX2_isCoordinate 1 = .ok (.sipush (-1000), 3) := by decide +kernel
theorem dX2_isCoordinate_4 : decode cX2_isCoordinate 4 = .ok (.if_icmp .lt 14, 3) := by decide +kernel
theorem dX2_isCoordinate_7 : decode cX2_isCoordinate 7 = .ok (.iload_n 0, 1) := by decide +kernel
theorem dX2_isCoordinate_8 : decode cX2_isCoordinate 8 = .ok (.sipush 1000, 3) := by decide +kernel
theorem dX2_isCoordinate_11 : decode cX2_isCoordinate 11 = .ok (.if_icmp .gt 7, 3) := by decide +kernel
theorem dX2_isCoordinate_14 : decode cX2_isCoordinate 14 = .ok (.iconst 1, 1) := by decide +kernel
theorem dX2_isCoordinate_15 : decode cX2_isCoordinate 15 = .ok (.goto 4, 3) := by decide +kernel
theorem dX2_isCoordinate_18 : decode cX2_isCoordinate 18 = .ok (.iconst 0, 1) := by decide +kernel
theorem dX2_isCoordinate_19 : decode cX2_isCoordinate 19 = .ok (.ireturn, 1) := by decide +kernel
theorem dX3_init_0 : decode cX3_init 0 = .ok (.aload_n 0, 1) := by decide +kernel
theorem dX3_init_1 : decode cX3_init 1 = .ok (.invokespecial 3, 3) := by decide +kernel
theorem dX3_init_4 : decode cX3_init 4 = .ok (.aload_n 0, 1) := by decide +kernel
theorem dX3_init_5 : decode cX3_init 5 = .ok (.new 9, 3) := by decide +kernel
theorem dX3_init_8 : decode cX3_init 8 = .ok (.dup, 1) := by decide +kernel
theorem dX3_init_9 : decode cX3_init 9 = .ok (.invokespecial 11, 3) := by decide +kernel
theorem dX3_init_12 : decode cX3_init 12 = .ok (.putfield 12, 3) := by decide +kernel
theorem dX3_init_15 : decode cX3_init 15 = .ok (.aload_n 0, 1) := by decide +kernel
theorem dX3_init_16 : decode cX3_init 16 = .ok (.new 16, 3) := by decide +kernel
theorem dX3_init_19 : decode cX3_init 19 = .ok (.dup, 1) := by decide +kernel
theorem dX3_init_20 : decode cX3_init 20 = .ok (.invokespecial 18, 3) := by decide +kernel
theorem dX3_init_23 : decode cX3_init 23 = .ok (.putfield 19, 3) := by decide +kernel
theorem dX3_init_26 : decode cX3_init 26 = .ok (.aload_n 0, 1) := by decide +kernel
theorem dX3_init_27 : decode cX3_init 27 = .ok (.new 23, 3) := by decide +kernel
theorem dX3_init_30 : decode cX3_init 30 = .ok (.dup, 1) := by decide +kernel
theorem dX3_init_31 : decode cX3_init 31 = .ok (.invokespecial 25, 3) := by decide +kernel
theorem dX3_init_34 : decode cX3_init 34 = .ok (.putfield 26, 3) := by decide +kernel
theorem dX3_init_37 : decode cX3_init 37 = .ok (.aload_n 0, 1) := by decide +kernel
theorem dX3_init_38 : decode cX3_init 38 = .ok (.new 23, 3) := by decide +kernel
theorem dX3_init_41 : decode cX3_init 41 = .ok (.dup, 1) := by decide +kernel
theorem dX3_init_42 : decode cX3_init 42 = .ok (.invokespecial 25, 3) := by decide +kernel
theorem dX3_init_45 : decode cX3_init 45 = .ok (.putfield 30, 3) := by decide +kernel
theorem dX3_init_48 : decode cX3_init 48 = .ok (.return_, 1) := by decide +kernel
theorem dX3_begin_0 : decode cX3_begin 0 = .ok (.iload_n 1, 1) := by decide +kernel
theorem dX3_begin_1 : decode cX3_begin 1 = .ok (.iconst 1, 1) := by decide +kernel
theorem dX3_begin_2 : decode cX3_begin 2 = .ok (.if_icmp .lt 8, 3) := by decide +kernel
theorem dX3_begin_5 : decode cX3_begin 5 = .ok (.iload_n 1, 1) := by decide +kernel
theorem dX3_begin_6 : decode cX3_begin 6 = .ok (.iconst 3, 1) := by decide +kernel
theorem dX3_begin_7 : decode cX3_begin 7 = .ok (.if_icmp .le 5, 3) := by decide +kernel
theorem dX3_begin_10 : decode cX3_begin 10 = .ok (.iconst 0, 1) := by decide +kernel
theorem dX3_begin_11 : decode cX3_begin 11 = .ok (.ireturn, 1) := by decide +kernel
theorem dX3_begin_12 : decode cX3_begin 12 = .ok (.aload_n 0, 1) := by decide +kernel
theorem dX3_begin_13 : decode cX3_begin 13 = .ok (.getfield 12, 3) := by decide +kernel
theorem dX3_begin_16 : decode cX3_begin 16 = .ok (.iload_n 1, 1) := by decide +kernel
theorem dX3_begin_17 : decode cX3_begin 17 = .ok (.invokevirtual 33, 3) := by decide +kernel
theorem dX3_begin_20 : decode cX3_begin 20 = .ok (.iconst 1, 1) := by decide +kernel
theorem dX3_begin_21 : decode cX3_begin 21 = .ok (.ireturn, 1) := by decide +kernel
theorem dX3_point_0 : decode cX3_point 0 = .ok (.aload_n 0, 1) := by decide +kernel
theorem dX3_point_1 : decode cX3_point 1 = .ok (.getfield 12, 3) := by decide +kernel
theorem dX3_point_4 : decode cX3_point 4 = .ok (.iload_n 1, 1) := by decide +kernel
theorem dX3_point_5 : decode cX3_point 5 = .ok (.iload_n 2, 1) := by decide +kernel
theorem dX3_point_6 : decode cX3_point 6 = .ok (.iload_n 3, 1) := by decide +kernel
theorem dX3_point_7 : decode cX3_point 7 = .ok (.invokevirtual 37, 3) := by decide +kernel
theorem dX3_point_10 : decode cX3_point 10 = .ok (.ireturn, 1) := by decide +kernel
theorem dX3_knot_0 : decode cX3_knot 0 = .ok (.aload_n 0, 1) := by decide +kernel
theorem dX3_knot_1 : decode cX3_knot 1 = .ok (.getfield 12, 3) := by decide +kernel
theorem dX3_knot_4 : decode cX3_knot 4 = .ok (.iload_n 1, 1) := by decide +kernel
theorem dX3_knot_5 : decode cX3_knot 5 = .ok (.invokevirtual 41, 3) := by decide +kernel
theorem dX3_knot_8 : decode cX3_knot 8 = .ok (.ireturn, 1) := by decide +kernel
theorem dX3_finish_0 : decode cX3_finish 0 = .ok (.aload_n 0, 1) := by decide +kernel
theorem dX3_finish_1 : decode cX3_finish 1 = .ok (.getfield 12, 3) := by decide +kernel
theorem dX3_finish_4 : decode cX3_finish 4 = .ok (.invokevirtual 45, 3) := by decide +kernel
theorem dX3_finish_7 : decode cX3_finish 7 = .ok (.istore_n 1, 1) := by decide +kernel
theorem dX3_finish_8 : decode cX3_finish 8 = .ok (.iload_n 1, 1) := by decide +kernel
theorem dX3_finish_9 : decode cX3_finish 9 = .ok (.ifCond .ne 28, 3) := by decide +kernel
theorem dX3_finish_12 : decode cX3_finish 12 = .ok (.aload_n 0, 1) := by decide +kernel
theorem dX3_finish_13 : decode cX3_finish 13 = .ok (.getfield 12, 3) := by decide +kernel
theorem dX3_finish_16 : decode cX3_finish 16 = .ok (.aload_n 0, 1) := by decide +kernel
theorem dX3_finish_17 : decode cX3_finish 17 = .ok (.getfield 26, 3) := by decide +kernel
theorem dX3_finish_20 : decode cX3_finish 20 = .ok (.invokevirtual 49, 3) := by decide +kernel
theorem dX3_finish_23 : decode cX3_finish 23 = .ok (.aload_n 0, 1) := by decide +kernel
theorem dX3_finish_24 : decode cX3_finish 24 = .ok (.getfield 12, 3) := by decide +kernel
theorem dX3_finish_27 : decode cX3_finish 27 = .ok (.invokevirtual 53, 3) := by decide +kernel
theorem dX3_finish_30 : decode cX3_finish 30 = .ok (.aload_n 0, 1) := by decide +kernel
theorem dX3_finish_31 : decode cX3_finish 31 = .ok (.getfield 19, 3) := by decide +kernel
theorem dX3_finish_34 : decode cX3_finish 34 = .ok (.invokevirtual 56, 3) := by decide +kernel
theorem dX3_finish_37 : decode cX3_finish 37 = .ok (.iload_n 1, 1) := by decide +kernel
theorem dX3_finish_38 : decode cX3_finish 38 = .ok (.ireturn, 1) := by decide +kernel
theorem dX3_insert_0 : decode cX3_insert 0 = .ok (.aload_n 0, 1) := by decide +kernel
theorem dX3_insert_1 : decode cX3_insert 1 = .ok (.getfield 26, 3) := by decide +kernel
theorem dX3_insert_4 : decode cX3_insert 4 = .ok (.iload_n 1, 1) := by decide +kernel
theorem dX3_insert_5 : decode cX3_insert 5 = .ok (.invokevirtual 59, 3) := by decide +kernel
theorem dX3_insert_8 : decode cX3_insert 8 = .ok (.istore_n 2, 1) := by decide +kernel
theorem dX3_insert_9 : decode cX3_insert 9 = .ok (.aload_n 0, 1) := by decide +kernel
theorem dX3_insert_10 : decode cX3_insert 10 = .ok (.getfield 26, 3) := by decide +kernel
theorem dX3_insert_13 : decode cX3_insert 13 = .ok (.invokevirtual 63, 3) := by decide +kernel
theorem dX3_insert_16 : decode cX3_insert 16 = .ok (.ifCond .eq 21, 3) := by decide +kernel
theorem dX3_insert_19 : decode cX3_insert 19 = .ok (.iload_n 1, 1) := by decide +kernel
theorem dX3_insert_20 : decode cX3_insert 20 = .ok (.invokestatic 67, 3) := by decide +kernel
theorem dX3_insert_23 : decode cX3_insert 23 = .ok (.ifCond .eq 14, 3) := by decide +kernel
theorem dX3_insert_26 : decode cX3_insert 26 = .ok (.iload_n 2, 1) := by decide +kernel
theorem dX3_insert_27 : decode cX3_insert 27 = .ok (.aload_n 0, 1) := by decide +kernel
theorem dX3_insert_28 : decode cX3_insert 28 = .ok (.getfield 26, 3) := by decide +kernel
theorem dX3_insert_31 : decode cX3_insert 31 = .ok (.getfield 70, 3) := by decide +kernel
theorem dX3_insert_34 : decode cX3_insert 34 = .ok (.if_icmp .lt 5, 3) := by decide +kernel
theorem dX3_insert_37 : decode cX3_insert 37 = .ok (.iconst (-1), 1) := by decide +kernel
theorem dX3_insert_38 : decode cX3_insert 38 = .ok (.ireturn, 1) := by decide +kernel
theorem dX3_insert_39 : decode cX3_insert 39 = .ok (.aload_n 0, 1) := by decide +kernel
theorem dX3_insert_40 : decode cX3_insert 40 = .ok (.iload_n 1, 1) := by decide +kernel
theorem dX3_insert_41 : decode cX3_insert 41 = .ok (.invokevirtual 74, 3) := by decide +kernel
theorem dX3_insert_44 : decode cX3_insert 44 = .ok (.iload_n 2, 1) := by decide +kernel
theorem dX3_insert_45 : decode cX3_insert 45 = .ok (.iconst 1, 1) := by decide +kernel
theorem dX3_insert_46 : decode cX3_insert 46 = .ok (.iadd, 1) := by decide +kernel
theorem dX3_insert_47 : decode cX3_insert 47 = .ok (.ireturn, 1) := by decide +kernel
theorem dX3_remove_0 : decode cX3_remove 0 = .ok (.aload_n 0, 1) := by decide +kernel
theorem dX3_remove_1 : decode cX3_remove 1 = .ok (.getfield 26, 3) := by decide +kernel
theorem dX3_remove_4 : decode cX3_remove 4 = .ok (.iload_n 1, 1) := by decide +kernel
theorem dX3_remove_5 : decode cX3_remove 5 = .ok (.invokevirtual 59, 3) := by decide +kernel
theorem dX3_remove_8 : decode cX3_remove 8 = .ok (.ifCond .le 15, 3) := by decide +kernel
theorem dX3_remove_11 : decode cX3_remove 11 = .ok (.aload_n 0, 1) := by decide +kernel
theorem dX3_remove_12 : decode cX3_remove 12 = .ok (.iload_n 1, 1) := by decide +kernel
theorem dX3_remove_13 : decode cX3_remove 13 = .ok (.invokevirtual 77, 3) := by decide +kernel
theorem dX3_remove_16 : decode cX3_remove 16 = .ok (.ifCond .eq 7, 3) := by decide +kernel
theorem dX3_remove_19 : decode cX3_remove 19 = .ok (.iconst 1, 1) := by decide +kernel
theorem dX3_remove_20 : decode cX3_remove 20 = .ok (.goto 4, 3) := by decide +kernel
theorem dX3_remove_23 : decode cX3_remove 23 = .ok (.iconst 0, 1) := by decide +kernel
theorem dX3_remove_24 : decode cX3_remove 24 = .ok (.ireturn, 1) := by decide +kernel
theorem dX3_decompose_0 : decode cX3_decompose 0 = .ok (.aload_n 0, 1) := by decide +kernel
theorem dX3_decompose_1 : decode cX3_decompose 1 = .ok (.getfield 26, 3) := by decide +kernel
theorem dX3_decompose_4 : decode cX3_decompose 4 = .ok (.invokevirtual 63, 3) := by decide +kernel
theorem dX3_decompose_7 : decode cX3_decompose 7 = .ok (.ifCond .ne 5, 3) := by decide +kernel
theorem dX3_decompose_10 : decode cX3_decompose 10 = .ok (.iconst (-1), 1) := by decide +kernel
theorem dX3_decompose_11 : decode cX3_decompose 11 = .ok (.ireturn, 1) := by decide +kernel
theorem dX3_decompose_12 : decode cX3_decompose 12 = .ok (.iconst 0, 1) := by decide +kernel
theorem dX3_decompose_13 : decode cX3_decompose 13 = .ok (.istore_n 1, 1) := by decide +kernel
theorem dX3_decompose_14 : decode cX3_decompose 14 = .ok (.iconst 1, 1) := by decide +kernel
theorem dX3_decompose_15 : decode cX3_decompose 15 = .ok (.istore_n 2, 1) := by decide +kernel
theorem dX3_decompose_16 : decode cX3_decompose 16 = .ok (.iload_n 2, 1) := by decide +kernel
theorem dX3_decompose_17 : decode cX3_decompose 17 = .ok (.bipush 6, 2) := by decide +kernel
theorem dX3_decompose_19 : decode cX3_decompose 19 = .ok (.if_icmp .ge 47, 3) := by decide +kernel
theorem dX3_decompose_22 : decode cX3_decompose 22 = .ok (.aload_n 0, 1) := by decide +kernel
theorem dX3_decompose_23 : decode cX3_decompose 23 = .ok (.getfield 26, 3) := by decide +kernel
theorem dX3_decompose_26 : decode cX3_decompose 26 = .ok (.iload_n 2, 1) := by decide +kernel
theorem dX3_decompose_27 : decode cX3_decompose 27 = .ok (.invokevirtual 59, 3) := by decide +kernel
theorem dX3_decompose_30 : decode cX3_decompose 30 = .ok (.istore_n 3, 1) := by decide +kernel
theorem dX3_decompose_31 : decode cX3_decompose 31 = .ok (.iload_n 3, 1) := by decide +kernel
theorem dX3_decompose_32 : decode cX3_decompose 32 = .ok (.ifCond .le 28, 3) := by decide +kernel
theorem dX3_decompose_35 : decode cX3_decompose 35 = .ok (.iload_n 3, 1) := by decide +kernel
theorem dX3_decompose_36 : decode cX3_decompose 36 = .ok (.aload_n 0, 1) := by decide +kernel
theorem dX3_decompose_37 : decode cX3_decompose 37 = .ok (.getfield 26, 3) := by decide +kernel
theorem dX3_decompose_40 : decode cX3_decompose 40 = .ok (.getfield 70, 3) := by decide +kernel
theorem dX3_decompose_43 : decode cX3_decompose 43 = .ok (.if_icmp .ge 17, 3) := by decide +kernel
theorem dX3_decompose_46 : decode cX3_decompose 46 = .ok (.aload_n 0, 1) := by decide +kernel
theorem dX3_decompose_47 : decode cX3_decompose 47 = .ok (.iload_n 2, 1) := by decide +kernel
theorem dX3_decompose_48 : decode cX3_decompose 48 = .ok (.invokevirtual 74, 3) := by decide +kernel
theorem dX3_decompose_51 : decode cX3_decompose 51 = .ok (.iinc 1 1, 3) := by decide +kernel
theorem dX3_decompose_54 : decode cX3_decompose 54 = .ok (.iinc 3 1, 3) := by decide +kernel
theorem dX3_decompose_57 : decode cX3_decompose 57 = .ok (.goto (-26), 3) := by decide +kernel
theorem dX3_decompose_60 : decode cX3_decompose 60 = .ok (.iinc 2 1, 3) := by decide +kernel
theorem dX3_decompose_63 : decode cX3_decompose 63 = .ok (.goto (-47), 3) := by decide +kernel
theorem dX3_decompose_66 : decode cX3_decompose 66 = .ok (.iload_n 1, 1) := by decide +kernel
theorem dX3_decompose_67 : decode cX3_decompose 67 = .ok (.ireturn, 1) := by decide +kernel
theorem dX3_thin_0 : decode cX3_thin 0 = .ok (.aload_n 0, 1) := by decide +kernel
theorem dX3_thin_1 : decode cX3_thin 1 = .ok (.getfield 26, 3) := by decide +kernel
theorem dX3_thin_4 : decode cX3_thin 4 = .ok (.invokevirtual 63, 3) := by decide +kernel
theorem dX3_thin_7 : decode cX3_thin 7 = .ok (.ifCond .ne 5, 3) := by decide +kernel
theorem dX3_thin_10 : decode cX3_thin 10 = .ok (.iconst (-1), 1) := by decide +kernel
theorem dX3_thin_11 : decode cX3_thin 11 = .ok (.ireturn, 1) := by decide +kernel
theorem dX3_thin_12 : decode cX3_thin 12 = .ok (.iconst 0, 1) := by decide +kernel
theorem dX3_thin_13 : decode cX3_thin 13 = .ok (.istore_n 1, 1) := by decide +kernel
theorem dX3_thin_14 : decode cX3_thin 14 = .ok (.iconst 5, 1) := by decide +kernel
theorem dX3_thin_15 : decode cX3_thin 15 = .ok (.istore_n 2, 1) := by decide +kernel
theorem dX3_thin_16 : decode cX3_thin 16 = .ok (.iload_n 2, 1) := by decide +kernel
theorem dX3_thin_17 : decode cX3_thin 17 = .ok (.ifCond .le 39, 3) := by decide +kernel
theorem dX3_thin_20 : decode cX3_thin 20 = .ok (.aload_n 0, 1) := by decide +kernel
theorem dX3_thin_21 : decode cX3_thin 21 = .ok (.getfield 26, 3) := by decide +kernel
theorem dX3_thin_24 : decode cX3_thin 24 = .ok (.iload_n 2, 1) := by decide +kernel
theorem dX3_thin_25 : decode cX3_thin 25 = .ok (.invokevirtual 59, 3) := by decide +kernel
theorem dX3_thin_28 : decode cX3_thin 28 = .ok (.istore_n 3, 1) := by decide +kernel
theorem dX3_thin_29 : decode cX3_thin 29 = .ok (.iload_n 3, 1) := by decide +kernel
theorem dX3_thin_30 : decode cX3_thin 30 = .ok (.ifCond .le 20, 3) := by decide +kernel
theorem dX3_thin_33 : decode cX3_thin 33 = .ok (.aload_n 0, 1) := by decide +kernel
theorem dX3_thin_34 : decode cX3_thin 34 = .ok (.iload_n 2, 1) := by decide +kernel
theorem dX3_thin_35 : decode cX3_thin 35 = .ok (.invokevirtual 77, 3) := by decide +kernel
theorem dX3_thin_38 : decode cX3_thin 38 = .ok (.ifCond .eq 12, 3) := by decide +kernel
theorem dX3_thin_41 : decode cX3_thin 41 = .ok (.iinc 1 1, 3) := by decide +kernel
theorem dX3_thin_44 : decode cX3_thin 44 = .ok (.iinc 3 (-1), 3) := by decide +kernel
theorem dX3_thin_47 : decode cX3_thin 47 = .ok (.goto (-18), 3) := by decide +kernel
theorem dX3_thin_50 : decode cX3_thin 50 = .ok (.iinc 2 (-1), 3) := by decide +kernel
theorem dX3_thin_53 : decode cX3_thin 53 = .ok (.goto (-37), 3) := by decide +kernel
theorem dX3_thin_56 : decode cX3_thin 56 = .ok (.iload_n 1, 1) := by decide +kernel
theorem dX3_thin_57 : decode cX3_thin 57 = .ok (.ireturn, 1) := by decide +kernel
theorem dX3_elevate_0 : decode cX3_elevate 0 = .ok (.aload_n 0, 1) := by decide +kernel
theorem dX3_elevate_1 : decode cX3_elevate 1 = .ok (.getfield 26, 3) := by decide +kernel
theorem dX3_elevate_4 : decode cX3_elevate 4 = .ok (.invokevirtual 63, 3) := by decide +kernel
theorem dX3_elevate_7 : decode cX3_elevate 7 = .ok (.ifCond .eq 14, 3) := by decide +kernel
theorem dX3_elevate_10 : decode cX3_elevate 10 = .ok (.aload_n 0, 1) := by decide +kernel
theorem dX3_elevate_11 : decode cX3_elevate 11 = .ok (.getfield 26, 3) := by decide +kernel
theorem dX3_elevate_14 : decode cX3_elevate 14 = .ok (.getfield 70, 3) := by decide +kernel
theorem dX3_elevate_17 : decode cX3_elevate 17 = .ok (.iconst 3, 1) := by decide +kernel
theorem dX3_elevate_18 : decode cX3_elevate 18 = .ok (.if_icmp .lt 5, 3) := by decide +kernel
theorem dX3_elevate_21 : decode cX3_elevate 21 = .ok (.iconst 0, 1) := by decide +kernel
theorem dX3_elevate_22 : decode cX3_elevate 22 = .ok (.ireturn, 1) := by decide +kernel
theorem dX3_elevate_23 : decode cX3_elevate 23 = .ok (.aload_n 0, 1) := by decide +kernel
theorem dX3_elevate_24 : decode cX3_elevate 24 = .ok (.getfield 26, 3) := by decide +kernel
theorem dX3_elevate_27 : decode cX3_elevate 27 = .ok (.aload_n 0, 1) := by decide +kernel
theorem dX3_elevate_28 : decode cX3_elevate 28 = .ok (.getfield 30, 3) := by decide +kernel
theorem dX3_elevate_31 : decode cX3_elevate 31 = .ok (.invokevirtual 80, 3) := by decide +kernel
theorem dX3_elevate_34 : decode cX3_elevate 34 = .ok (.aload_n 0, 1) := by decide +kernel
theorem dX3_elevate_35 : decode cX3_elevate 35 = .ok (.invokevirtual 83, 3) := by decide +kernel
theorem dX3_elevate_38 : decode cX3_elevate 38 = .ok (.iconst 1, 1) := by decide +kernel
theorem dX3_elevate_39 : decode cX3_elevate 39 = .ok (.ireturn, 1) := by decide +kernel
theorem dX3_reverse_0 : decode cX3_reverse 0 = .ok (.aload_n 0, 1) := by decide +kernel
theorem dX3_reverse_1 : decode cX3_reverse 1 = .ok (.getfield 26, 3) := by decide +kernel
theorem dX3_reverse_4 : decode cX3_reverse 4 = .ok (.invokevirtual 63, 3) := by decide +kernel
theorem dX3_reverse_7 : decode cX3_reverse 7 = .ok (.ifCond .ne 5, 3) := by decide +kernel
theorem dX3_reverse_10 : decode cX3_reverse 10 = .ok (.iconst 0, 1) := by decide +kernel
theorem dX3_reverse_11 : decode cX3_reverse 11 = .ok (.ireturn, 1) := by decide +kernel
theorem dX3_reverse_12 : decode cX3_reverse 12 = .ok (.aload_n 0, 1) := by decide +kernel
theorem dX3_reverse_13 : decode cX3_reverse 13 = .ok (.getfield 26, 3) := by decide +kernel
theorem dX3_reverse_16 : decode cX3_reverse 16 = .ok (.aload_n 0, 1) := by decide +kernel
theorem dX3_reverse_17 : decode cX3_reverse 17 = .ok (.getfield 30, 3) := by decide +kernel
theorem dX3_reverse_20 : decode cX3_reverse 20 = .ok (.invokevirtual 86, 3) := by decide +kernel
theorem dX3_reverse_23 : decode cX3_reverse 23 = .ok (.aload_n 0, 1) := by decide +kernel
theorem dX3_reverse_24 : decode cX3_reverse 24 = .ok (.invokevirtual 83, 3) := by decide +kernel
theorem dX3_reverse_27 : decode cX3_reverse 27 = .ok (.iconst 1, 1) := by decide +kernel
theorem dX3_reverse_28 : decode cX3_reverse 28 = .ok (.ireturn, 1) := by decide +kernel
theorem dX3_degree_0 : decode cX3_degree 0 = .ok (.aload_n 0, 1) := by decide +kernel
theorem dX3_degree_1 : decode cX3_degree 1 = .ok (.getfield 26, 3) := by decide +kernel
theorem dX3_degree_4 : decode cX3_degree 4 = .ok (.getfield 70, 3) := by decide +kernel
theorem dX3_degree_7 : decode cX3_degree 7 = .ok (.ireturn, 1) := by decide +kernel
theorem dX3_points_0 : decode cX3_points 0 = .ok (.aload_n 0, 1) := by decide +kernel
theorem dX3_points_1 : decode cX3_points 1 = .ok (.getfield 26, 3) := by decide +kernel
theorem dX3_points_4 : decode cX3_points 4 = .ok (.getfield 89, 3) := by decide +kernel
theorem dX3_points_7 : decode cX3_points 7 = .ok (.ireturn, 1) := by decide +kernel
theorem dX3_knotAt_0 : decode cX3_knotAt 0 = .ok (.aload_n 0, 1) := by decide +kernel
theorem dX3_knotAt_1 : decode cX3_knotAt 1 = .ok (.getfield 26, 3) := by decide +kernel
theorem dX3_knotAt_4 : decode cX3_knotAt 4 = .ok (.invokevirtual 63, 3) := by decide +kernel
theorem dX3_knotAt_7 : decode cX3_knotAt 7 = .ok (.ifCond .eq 18, 3) := by decide +kernel
theorem dX3_knotAt_10 : decode cX3_knotAt 10 = .ok (.iload_n 1, 1) := by decide +kernel
theorem dX3_knotAt_11 : decode cX3_knotAt 11 = .ok (.ifCond .lt 14, 3) := by decide +kernel
theorem dX3_knotAt_14 : decode cX3_knotAt 14 = .ok (.iload_n 1, 1) := by decide +kernel
theorem dX3_knotAt_15 : decode cX3_knotAt 15 = .ok (.aload_n 0, 1) := by decide +kernel
theorem dX3_knotAt_16 : decode cX3_knotAt 16 = .ok (.getfield 26, 3) := by decide +kernel
theorem dX3_knotAt_19 : decode cX3_knotAt 19 = .ok (.invokevirtual 92, 3) := by decide +kernel
theorem dX3_knotAt_22 : decode cX3_knotAt 22 = .ok (.if_icmp .lt 5, 3) := by decide +kernel
theorem dX3_knotAt_25 : decode cX3_knotAt 25 = .ok (.iconst (-1), 1) := by decide +kernel
theorem dX3_knotAt_26 : decode cX3_knotAt 26 = .ok (.ireturn, 1) := by decide +kernel
theorem dX3_knotAt_27 : decode cX3_knotAt 27 = .ok (.aload_n 0, 1) := by decide +kernel
theorem dX3_knotAt_28 : decode cX3_knotAt 28 = .ok (.getfield 26, 3) := by decide +kernel
theorem dX3_knotAt_31 : decode cX3_knotAt 31 = .ok (.getfield 95, 3) := by decide +kernel
theorem dX3_knotAt_34 : decode cX3_knotAt 34 = .ok (.iload_n 1, 1) := by decide +kernel
theorem dX3_knotAt_35 : decode cX3_knotAt 35 = .ok (.iaload, 1) := by decide +kernel
theorem dX3_knotAt_36 : decode cX3_knotAt 36 = .ok (.ireturn, 1) := by decide +kernel
theorem dX3_control_0 : decode cX3_control 0 = .ok (.iload_n 2, 1) := by decide +kernel
theorem dX3_control_1 : decode cX3_control 1 = .ok (.ifCond .lt 8, 3) := by decide +kernel
theorem dX3_control_4 : decode cX3_control 4 = .ok (.iload_n 2, 1) := by decide +kernel
theorem dX3_control_5 : decode cX3_control 5 = .ok (.iconst 3, 1) := by decide +kernel
theorem dX3_control_6 : decode cX3_control 6 = .ok (.if_icmp .lt 5, 3) := by decide +kernel
theorem dX3_control_9 : decode cX3_control 9 = .ok (.lconst 0, 1) := by decide +kernel
theorem dX3_control_10 : decode cX3_control 10 = .ok (.lreturn, 1) := by decide +kernel
theorem dX3_control_11 : decode cX3_control 11 = .ok (.aload_n 0, 1) := by decide +kernel
theorem dX3_control_12 : decode cX3_control 12 = .ok (.getfield 26, 3) := by decide +kernel
theorem dX3_control_15 : decode cX3_control 15 = .ok (.iload_n 2, 1) := by decide +kernel
theorem dX3_control_16 : decode cX3_control 16 = .ok (.iload_n 1, 1) := by decide +kernel
theorem dX3_control_17 : decode cX3_control 17 = .ok (.invokevirtual 99, 3) := by decide +kernel
theorem dX3_control_20 : decode cX3_control 20 = .ok (.lreturn, 1) := by decide +kernel
theorem dX3_span_0 : decode cX3_span 0 = .ok (.aload_n 0, 1) := by decide +kernel
theorem dX3_span_1 : decode cX3_span 1 = .ok (.getfield 26, 3) := by decide +kernel
theorem dX3_span_4 : decode cX3_span 4 = .ok (.invokevirtual 63, 3) := by decide +kernel
theorem dX3_span_7 : decode cX3_span 7 = .ok (.ifCond .eq 10, 3) := by decide +kernel
theorem dX3_span_10 : decode cX3_span 10 = .ok (.iload_n 1, 1) := by decide +kernel
theorem dX3_span_11 : decode cX3_span 11 = .ok (.invokestatic 103, 3) := by decide +kernel
theorem dX3_span_14 : decode cX3_span 14 = .ok (.ifCond .ne 5, 3) := by decide +kernel
theorem dX3_span_17 : decode cX3_span 17 = .ok (.iconst (-1), 1) := by decide +kernel
theorem dX3_span_18 : decode cX3_span 18 = .ok (.ireturn, 1) := by decide +kernel
theorem dX3_span_19 : decode cX3_span 19 = .ok (.aload_n 0, 1) := by decide +kernel
theorem dX3_span_20 : decode cX3_span 20 = .ok (.getfield 26, 3) := by decide +kernel
theorem dX3_span_23 : decode cX3_span 23 = .ok (.iload_n 1, 1) := by decide +kernel
theorem dX3_span_24 : decode cX3_span 24 = .ok (.invokevirtual 106, 3) := by decide +kernel
theorem dX3_span_27 : decode cX3_span 27 = .ok (.ireturn, 1) := by decide +kernel
theorem dX3_basis_0 : decode cX3_basis 0 = .ok (.aload_n 0, 1) := by decide +kernel
theorem dX3_basis_1 : decode cX3_basis 1 = .ok (.getfield 26, 3) := by decide +kernel
theorem dX3_basis_4 : decode cX3_basis 4 = .ok (.invokevirtual 63, 3) := by decide +kernel
theorem dX3_basis_7 : decode cX3_basis 7 = .ok (.ifCond .eq 25, 3) := by decide +kernel
theorem dX3_basis_10 : decode cX3_basis 10 = .ok (.iload_n 2, 1) := by decide +kernel
theorem dX3_basis_11 : decode cX3_basis 11 = .ok (.invokestatic 103, 3) := by decide +kernel
theorem dX3_basis_14 : decode cX3_basis 14 = .ok (.ifCond .eq 18, 3) := by decide +kernel
theorem dX3_basis_17 : decode cX3_basis 17 = .ok (.iload_n 1, 1) := by decide +kernel
theorem dX3_basis_18 : decode cX3_basis 18 = .ok (.ifCond .lt 14, 3) := by decide +kernel
theorem dX3_basis_21 : decode cX3_basis 21 = .ok (.iload_n 1, 1) := by decide +kernel
theorem dX3_basis_22 : decode cX3_basis 22 = .ok (.aload_n 0, 1) := by decide +kernel
theorem dX3_basis_23 : decode cX3_basis 23 = .ok (.getfield 26, 3) := by decide +kernel
theorem dX3_basis_26 : decode cX3_basis 26 = .ok (.getfield 89, 3) := by decide +kernel
theorem dX3_basis_29 : decode cX3_basis 29 = .ok (.if_icmp .lt 7, 3) := by decide +kernel
theorem dX3_basis_32 : decode cX3_basis 32 = .ok (.ldc2_w 109, 3) := by decide +kernel
theorem dX3_basis_35 : decode cX3_basis 35 = .ok (.lreturn, 1) := by decide +kernel
theorem dX3_basis_36 : decode cX3_basis 36 = .ok (.aload_n 0, 1) := by decide +kernel
theorem dX3_basis_37 : decode cX3_basis 37 = .ok (.getfield 26, 3) := by decide +kernel
theorem dX3_basis_40 : decode cX3_basis 40 = .ok (.iload_n 1, 1) := by decide +kernel
theorem dX3_basis_41 : decode cX3_basis 41 = .ok (.iload_n 2, 1) := by decide +kernel
theorem dX3_basis_42 : decode cX3_basis 42 = .ok (.invokevirtual 111, 3) := by decide +kernel
theorem dX3_basis_45 : decode cX3_basis 45 = .ok (.lreturn, 1) := by decide +kernel
theorem dX3_locate_0 : decode cX3_locate 0 = .ok (.aload_n 0, 1) := by decide +kernel
theorem dX3_locate_1 : decode cX3_locate 1 = .ok (.getfield 26, 3) := by decide +kernel
theorem dX3_locate_4 : decode cX3_locate 4 = .ok (.invokevirtual 63, 3) := by decide +kernel
theorem dX3_locate_7 : decode cX3_locate 7 = .ok (.ifCond .eq 19, 3) := by decide +kernel
theorem dX3_locate_10 : decode cX3_locate 10 = .ok (.iload_n 1, 1) := by decide +kernel
theorem dX3_locate_11 : decode cX3_locate 11 = .ok (.invokestatic 103, 3) := by decide +kernel
theorem dX3_locate_14 : decode cX3_locate 14 = .ok (.ifCond .eq 12, 3) := by decide +kernel
theorem dX3_locate_17 : decode cX3_locate 17 = .ok (.iload_n 2, 1) := by decide +kernel
theorem dX3_locate_18 : decode cX3_locate 18 = .ok (.ifCond .eq 11, 3) := by decide +kernel
theorem dX3_locate_21 : decode cX3_locate 21 = .ok (.iload_n 2, 1) := by decide +kernel
theorem dX3_locate_22 : decode cX3_locate 22 = .ok (.iconst 1, 1) := by decide +kernel
theorem dX3_locate_23 : decode cX3_locate 23 = .ok (.if_icmp .eq 6, 3) := by decide +kernel
theorem dX3_locate_26 : decode cX3_locate 26 = .ok (.ldc 114, 2) := by decide +kernel
theorem dX3_locate_28 : decode cX3_locate 28 = .ok (.ireturn, 1) := by decide +kernel
theorem dX3_locate_29 : decode cX3_locate 29 = .ok (.aload_n 0, 1) := by decide +kernel
theorem dX3_locate_30 : decode cX3_locate 30 = .ok (.getfield 26, 3) := by decide +kernel
theorem dX3_locate_33 : decode cX3_locate 33 = .ok (.iload_n 1, 1) := by decide +kernel
theorem dX3_locate_34 : decode cX3_locate 34 = .ok (.invokevirtual 115, 3) := by decide +kernel
theorem dX3_locate_37 : decode cX3_locate 37 = .ok (.iload_n 2, 1) := by decide +kernel
theorem dX3_locate_38 : decode cX3_locate 38 = .ok (.ifCond .ne 13, 3) := by decide +kernel
theorem dX3_locate_41 : decode cX3_locate 41 = .ok (.aload_n 0, 1) := by decide +kernel
theorem dX3_locate_42 : decode cX3_locate 42 = .ok (.getfield 26, 3) := by decide +kernel
theorem dX3_locate_45 : decode cX3_locate 45 = .ok (.getfield 118, 3) := by decide +kernel
theorem dX3_locate_48 : decode cX3_locate 48 = .ok (.goto 10, 3) := by decide +kernel
theorem dX3_locate_51 : decode cX3_locate 51 = .ok (.aload_n 0, 1) := by decide +kernel
theorem dX3_locate_52 : decode cX3_locate 52 = .ok (.getfield 26, 3) := by decide +kernel
theorem dX3_locate_55 : decode cX3_locate 55 = .ok (.getfield 121, 3) := by decide +kernel
theorem dX3_locate_58 : decode cX3_locate 58 = .ok (.ireturn, 1) := by decide +kernel
theorem dX3_tessellate_0 : decode cX3_tessellate 0 = .ok (.aload_n 0, 1) := by decide +kernel
theorem dX3_tessellate_1 : decode cX3_tessellate 1 = .ok (.getfield 26, 3) := by decide +kernel
theorem dX3_tessellate_4 : decode cX3_tessellate 4 = .ok (.invokevirtual 63, 3) := by decide +kernel
theorem dX3_tessellate_7 : decode cX3_tessellate 7 = .ok (.ifCond .eq 16, 3) := by decide +kernel
theorem dX3_tessellate_10 : decode cX3_tessellate 10 = .ok (.iload_n 1, 1) := by decide +kernel
theorem dX3_tessellate_11 : decode cX3_tessellate 11 = .ok (.ifCond .eq 8, 3) := by decide +kernel
theorem dX3_tessellate_14 : decode cX3_tessellate 14 = .ok (.iload_n 1, 1) := by decide +kernel
theorem dX3_tessellate_15 : decode cX3_tessellate 15 = .ok (.iconst 1, 1) := by decide +kernel
theorem dX3_tessellate_16 : decode cX3_tessellate 16 = .ok (.if_icmp .ne 7, 3) := by decide +kernel
theorem dX3_tessellate_19 : decode cX3_tessellate 19 = .ok (.iload_n 2, 1) := by decide +kernel
theorem dX3_tessellate_20 : decode cX3_tessellate 20 = .ok (.ifCond .ge 5, 3) := by decide +kernel
theorem dX3_tessellate_23 : decode cX3_tessellate 23 = .ok (.iconst (-1), 1) := by decide +kernel
