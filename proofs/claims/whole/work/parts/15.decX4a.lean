theorem dX4_init_0 : decode cX4_init 0 = .ok (.aload_n 0, 1) := by decide +kernel
theorem dX4_init_1 : decode cX4_init 1 = .ok (.invokespecial 1, 3) := by decide +kernel
theorem dX4_init_4 : decode cX4_init 4 = .ok (.aload_n 0, 1) := by decide +kernel
theorem dX4_init_5 : decode cX4_init 5 = .ok (.bipush 19, 2) := by decide +kernel
theorem dX4_init_7 : decode cX4_init 7 = .ok (.newarray .int, 2) := by decide +kernel
theorem dX4_init_9 : decode cX4_init 9 = .ok (.putfield 7, 3) := by decide +kernel
theorem dX4_init_12 : decode cX4_init 12 = .ok (.aload_n 0, 1) := by decide +kernel
theorem dX4_init_13 : decode cX4_init 13 = .ok (.bipush 19, 2) := by decide +kernel
theorem dX4_init_15 : decode cX4_init 15 = .ok (.newarray .int, 2) := by decide +kernel
theorem dX4_init_17 : decode cX4_init 17 = .ok (.putfield 13, 3) := by decide +kernel
theorem dX4_init_20 : decode cX4_init 20 = .ok (.aload_n 0, 1) := by decide +kernel
theorem dX4_init_21 : decode cX4_init 21 = .ok (.bipush 19, 2) := by decide +kernel
theorem dX4_init_23 : decode cX4_init 23 = .ok (.newarray .int, 2) := by decide +kernel
theorem dX4_init_25 : decode cX4_init 25 = .ok (.putfield 16, 3) := by decide +kernel
theorem dX4_init_28 : decode cX4_init 28 = .ok (.aload_n 0, 1) := by decide +kernel
theorem dX4_init_29 : decode cX4_init 29 = .ok (.bipush 15, 2) := by decide +kernel
theorem dX4_init_31 : decode cX4_init 31 = .ok (.newarray .int, 2) := by decide +kernel
theorem dX4_init_33 : decode cX4_init 33 = .ok (.putfield 19, 3) := by decide +kernel
theorem dX4_init_36 : decode cX4_init 36 = .ok (.aload_n 0, 1) := by decide +kernel
theorem dX4_init_37 : decode cX4_init 37 = .ok (.bipush 7, 2) := by decide +kernel
theorem dX4_init_39 : decode cX4_init 39 = .ok (.newarray .int, 2) := by decide +kernel
theorem dX4_init_41 : decode cX4_init 41 = .ok (.putfield 22, 3) := by decide +kernel
theorem dX4_init_44 : decode cX4_init 44 = .ok (.aload_n 0, 1) := by decide +kernel
theorem dX4_init_45 : decode cX4_init 45 = .ok (.bipush 72, 2) := by decide +kernel
theorem dX4_init_47 : decode cX4_init 47 = .ok (.newarray .long, 2) := by decide +kernel
theorem dX4_init_49 : decode cX4_init 49 = .ok (.putfield 25, 3) := by decide +kernel
theorem dX4_init_52 : decode cX4_init 52 = .ok (.aload_n 0, 1) := by decide +kernel
theorem dX4_init_53 : decode cX4_init 53 = .ok (.bipush 24, 2) := by decide +kernel
theorem dX4_init_55 : decode cX4_init 55 = .ok (.newarray .int, 2) := by decide +kernel
theorem dX4_init_57 : decode cX4_init 57 = .ok (.putfield 29, 3) := by decide +kernel
theorem dX4_init_60 : decode cX4_init 60 = .ok (.aload_n 0, 1) := by decide +kernel
theorem dX4_init_61 : decode cX4_init 61 = .ok (.sipush 400, 3) := by decide +kernel
theorem dX4_init_64 : decode cX4_init 64 = .ok (.newarray .int, 2) := by decide +kernel
theorem dX4_init_66 : decode cX4_init 66 = .ok (.putfield 32, 3) := by decide +kernel
theorem dX4_init_69 : decode cX4_init 69 = .ok (.aload_n 0, 1) := by decide +kernel
theorem dX4_init_70 : decode cX4_init 70 = .ok (.bipush 80, 2) := by decide +kernel
theorem dX4_init_72 : decode cX4_init 72 = .ok (.newarray .long, 2) := by decide +kernel
theorem dX4_init_74 : decode cX4_init 74 = .ok (.putfield 35, 3) := by decide +kernel
theorem dX4_init_77 : decode cX4_init 77 = .ok (.aload_n 0, 1) := by decide +kernel
theorem dX4_init_78 : decode cX4_init 78 = .ok (.bipush 24, 2) := by decide +kernel
theorem dX4_init_80 : decode cX4_init 80 = .ok (.newarray .long, 2) := by decide +kernel
theorem dX4_init_82 : decode cX4_init 82 = .ok (.putfield 38, 3) := by decide +kernel
theorem dX4_init_85 : decode cX4_init 85 = .ok (.aload_n 0, 1) := by decide +kernel
theorem dX4_init_86 : decode cX4_init 86 = .ok (.bipush 8, 2) := by decide +kernel
theorem dX4_init_88 : decode cX4_init 88 = .ok (.newarray .int, 2) := by decide +kernel
theorem dX4_init_90 : decode cX4_init 90 = .ok (.putfield 41, 3) := by decide +kernel
theorem dX4_init_93 : decode cX4_init 93 = .ok (.aload_n 0, 1) := by decide +kernel
theorem dX4_init_94 : decode cX4_init 94 = .ok (.bipush 8, 2) := by decide +kernel
theorem dX4_init_96 : decode cX4_init 96 = .ok (.newarray .int, 2) := by decide +kernel
theorem dX4_init_98 : decode cX4_init 98 = .ok (.putfield 44, 3) := by decide +kernel
theorem dX4_init_101 : decode cX4_init 101 = .ok (.return_, 1) := by decide +kernel
theorem dX4_begin_0 : decode cX4_begin 0 = .ok (.iload_n 1, 1) := by decide +kernel
theorem dX4_begin_1 : decode cX4_begin 1 = .ok (.iconst 1, 1) := by decide +kernel
theorem dX4_begin_2 : decode cX4_begin 2 = .ok (.if_icmp .lt 8, 3) := by decide +kernel
theorem dX4_begin_5 : decode cX4_begin 5 = .ok (.iload_n 1, 1) := by decide +kernel
theorem dX4_begin_6 : decode cX4_begin 6 = .ok (.iconst 3, 1) := by decide +kernel
theorem dX4_begin_7 : decode cX4_begin 7 = .ok (.if_icmp .le 5, 3) := by decide +kernel
theorem dX4_begin_10 : decode cX4_begin 10 = .ok (.iconst 0, 1) := by decide +kernel
theorem dX4_begin_11 : decode cX4_begin 11 = .ok (.ireturn, 1) := by decide +kernel
theorem dX4_begin_12 : decode cX4_begin 12 = .ok (.aload_n 0, 1) := by decide +kernel
theorem dX4_begin_13 : decode cX4_begin 13 = .ok (.iload_n 1, 1) := by decide +kernel
theorem dX4_begin_14 : decode cX4_begin 14 = .ok (.putfield 47, 3) := by decide +kernel
theorem dX4_begin_17 : decode cX4_begin 17 = .ok (.aload_n 0, 1) := by decide +kernel
theorem dX4_begin_18 : decode cX4_begin 18 = .ok (.iconst 0, 1) := by decide +kernel
theorem dX4_begin_19 : decode cX4_begin 19 = .ok (.putfield 51, 3) := by decide +kernel
theorem dX4_begin_22 : decode cX4_begin 22 = .ok (.aload_n 0, 1) := by decide +kernel
theorem dX4_begin_23 : decode cX4_begin 23 = .ok (.iconst 0, 1) := by decide +kernel
theorem dX4_begin_24 : decode cX4_begin 24 = .ok (.putfield 54, 3) := by decide +kernel
theorem dX4_begin_27 : decode cX4_begin 27 = .ok (.iconst 1, 1) := by decide +kernel
theorem dX4_begin_28 : decode cX4_begin 28 = .ok (.ireturn, 1) := by decide +kernel
theorem dX4_point_0 : decode cX4_point 0 = .ok (.aload_n 0, 1) := by decide +kernel
theorem dX4_point_1 : decode cX4_point 1 = .ok (.getfield 47, 3) := by decide +kernel
theorem dX4_point_4 : decode cX4_point 4 = .ok (.ifCond .eq 51, 3) := by decide +kernel
theorem dX4_point_7 : decode cX4_point 7 = .ok (.aload_n 0, 1) := by decide +kernel
theorem dX4_point_8 : decode cX4_point 8 = .ok (.getfield 51, 3) := by decide +kernel
theorem dX4_point_11 : decode cX4_point 11 = .ok (.bipush 19, 2) := by decide +kernel
theorem dX4_point_13 : decode cX4_point 13 = .ok (.if_icmp .eq 42, 3) := by decide +kernel
theorem dX4_point_16 : decode cX4_point 16 = .ok (.iload_n 1, 1) := by decide +kernel
theorem dX4_point_17 : decode cX4_point 17 = .ok (.sipush (-1000), 3) := by decide +kernel
theorem dX4_point_20 : decode cX4_point 20 = .ok (.if_icmp .lt 35, 3) := by decide +kernel
theorem dX4_point_23 : decode cX4_point 23 = .ok (.iload_n 1, 1) := by decide +kernel
theorem dX4_point_24 : decode cX4_point 24 = .ok (.sipush 1000, 3) := by decide +kernel
theorem dX4_point_27 : decode cX4_point 27 = .ok (.if_icmp .gt 28, 3) := by decide +kernel
theorem dX4_point_30 : decode cX4_point 30 = .ok (.iload_n 2, 1) := by decide +kernel
theorem dX4_point_31 : decode cX4_point 31 = .ok (.sipush (-1000), 3) := by decide +kernel
theorem dX4_point_34 : decode cX4_point 34 = .ok (.if_icmp .lt 21, 3) := by decide +kernel
theorem dX4_point_37 : decode cX4_point 37 = .ok (.iload_n 2, 1) := by decide +kernel
theorem dX4_point_38 : decode cX4_point 38 = .ok (.sipush 1000, 3) := by decide +kernel
theorem dX4_point_41 : decode cX4_point 41 = .ok (.if_icmp .gt 14, 3) := by decide +kernel
theorem dX4_point_44 : decode cX4_point 44 = .ok (.iload_n 3, 1) := by decide +kernel
theorem dX4_point_45 : decode cX4_point 45 = .ok (.iconst 1, 1) := by decide +kernel
theorem dX4_point_46 : decode cX4_point 46 = .ok (.if_icmp .lt 9, 3) := by decide +kernel
theorem dX4_point_49 : decode cX4_point 49 = .ok (.iload_n 3, 1) := by decide +kernel
theorem dX4_point_50 : decode cX4_point 50 = .ok (.bipush 16, 2) := by decide +kernel
theorem dX4_point_52 : decode cX4_point 52 = .ok (.if_icmp .le 5, 3) := by decide +kernel
theorem dX4_point_55 : decode cX4_point 55 = .ok (.iconst 0, 1) := by decide +kernel
theorem dX4_point_56 : decode cX4_point 56 = .ok (.ireturn, 1) := by decide +kernel
theorem dX4_point_57 : decode cX4_point 57 = .ok (.aload_n 0, 1) := by decide +kernel
theorem dX4_point_58 : decode cX4_point 58 = .ok (.getfield 7, 3) := by decide +kernel
theorem dX4_point_61 : decode cX4_point 61 = .ok (.aload_n 0, 1) := by decide +kernel
theorem dX4_point_62 : decode cX4_point 62 = .ok (.getfield 51, 3) := by decide +kernel
theorem dX4_point_65 : decode cX4_point 65 = .ok (.iload_n 1, 1) := by decide +kernel
theorem dX4_point_66 : decode cX4_point 66 = .ok (.iastore, 1) := by decide +kernel
theorem dX4_point_67 : decode cX4_point 67 = .ok (.aload_n 0, 1) := by decide +kernel
theorem dX4_point_68 : decode cX4_point 68 = .ok (.getfield 13, 3) := by decide +kernel
theorem dX4_point_71 : decode cX4_point 71 = .ok (.aload_n 0, 1) := by decide +kernel
theorem dX4_point_72 : decode cX4_point 72 = .ok (.getfield 51, 3) := by decide +kernel
theorem dX4_point_75 : decode cX4_point 75 = .ok (.iload_n 2, 1) := by decide +kernel
theorem dX4_point_76 : decode cX4_point 76 = .ok (.iastore, 1) := by decide +kernel
theorem dX4_point_77 : decode cX4_point 77 = .ok (.aload_n 0, 1) := by decide +kernel
theorem dX4_point_78 : decode cX4_point 78 = .ok (.getfield 16, 3) := by decide +kernel
theorem dX4_point_81 : decode cX4_point 81 = .ok (.aload_n 0, 1) := by decide +kernel
theorem dX4_point_82 : decode cX4_point 82 = .ok (.getfield 51, 3) := by decide +kernel
theorem dX4_point_85 : decode cX4_point 85 = .ok (.iload_n 3, 1) := by decide +kernel
theorem dX4_point_86 : decode cX4_point 86 = .ok (.iastore, 1) := by decide +kernel
theorem dX4_point_87 : decode cX4_point 87 = .ok (.aload_n 0, 1) := by decide +kernel
theorem dX4_point_88 : decode cX4_point 88 = .ok (.dup, 1) := by decide +kernel
theorem dX4_point_89 : decode cX4_point 89 = .ok (.getfield 51, 3) := by decide +kernel
theorem dX4_point_92 : decode cX4_point 92 = .ok (.iconst 1, 1) := by decide +kernel
theorem dX4_point_93 : decode cX4_point 93 = .ok (.iadd, 1) := by decide +kernel
theorem dX4_point_94 : decode cX4_point 94 = .ok (.putfield 51, 3) := by decide +kernel
theorem dX4_point_97 : decode cX4_point 97 = .ok (.iconst 1, 1) := by decide +kernel
theorem dX4_point_98 : decode cX4_point 98 = .ok (.ireturn, 1) := by decide +kernel
theorem dX4_knot_0 : decode cX4_knot 0 = .ok (.aload_n 0, 1) := by decide +kernel
theorem dX4_knot_1 : decode cX4_knot 1 = .ok (.getfield 47, 3) := by decide +kernel
theorem dX4_knot_4 : decode cX4_knot 4 = .ok (.ifCond .eq 13, 3) := by decide +kernel
theorem dX4_knot_7 : decode cX4_knot 7 = .ok (.iload_n 1, 1) := by decide +kernel
theorem dX4_knot_8 : decode cX4_knot 8 = .ok (.iconst 1, 1) := by decide +kernel
theorem dX4_knot_9 : decode cX4_knot 9 = .ok (.if_icmp .lt 8, 3) := by decide +kernel
theorem dX4_knot_12 : decode cX4_knot 12 = .ok (.iload_n 1, 1) := by decide +kernel
theorem dX4_knot_13 : decode cX4_knot 13 = .ok (.iconst 5, 1) := by decide +kernel
theorem dX4_knot_14 : decode cX4_knot 14 = .ok (.if_icmp .le 5, 3) := by decide +kernel
theorem dX4_knot_17 : decode cX4_knot 17 = .ok (.iconst 0, 1) := by decide +kernel
theorem dX4_knot_18 : decode cX4_knot 18 = .ok (.ireturn, 1) := by decide +kernel
theorem dX4_knot_19 : decode cX4_knot 19 = .ok (.iconst 0, 1) := by decide +kernel
theorem dX4_knot_20 : decode cX4_knot 20 = .ok (.istore_n 2, 1) := by decide +kernel
theorem dX4_knot_21 : decode cX4_knot 21 = .ok (.iconst 0, 1) := by decide +kernel
theorem dX4_knot_22 : decode cX4_knot 22 = .ok (.istore_n 3, 1) := by decide +kernel
theorem dX4_knot_23 : decode cX4_knot 23 = .ok (.iload_n 3, 1) := by decide +kernel
theorem dX4_knot_24 : decode cX4_knot 24 = .ok (.aload_n 0, 1) := by decide +kernel
theorem dX4_knot_25 : decode cX4_knot 25 = .ok (.getfield 54, 3) := by decide +kernel
theorem dX4_knot_28 : decode cX4_knot 28 = .ok (.if_icmp .ge 39, 3) := by decide +kernel
theorem dX4_knot_31 : decode cX4_knot 31 = .ok (.aload_n 0, 1) := by decide +kernel
theorem dX4_knot_32 : decode cX4_knot 32 = .ok (.getfield 19, 3) := by decide +kernel
theorem dX4_knot_35 : decode cX4_knot 35 = .ok (.iload_n 3, 1) := by decide +kernel
theorem dX4_knot_36 : decode cX4_knot 36 = .ok (.iaload, 1) := by decide +kernel
theorem dX4_knot_37 : decode cX4_knot 37 = .ok (.iload_n 1, 1) := by decide +kernel
theorem dX4_knot_38 : decode cX4_knot 38 = .ok (.if_icmp .le 5, 3) := by decide +kernel
theorem dX4_knot_41 : decode cX4_knot 41 = .ok (.iconst 0, 1) := by decide +kernel
theorem dX4_knot_42 : decode cX4_knot 42 = .ok (.ireturn, 1) := by decide +kernel
theorem dX4_knot_43 : decode cX4_knot 43 = .ok (.aload_n 0, 1) := by decide +kernel
theorem dX4_knot_44 : decode cX4_knot 44 = .ok (.getfield 19, 3) := by decide +kernel
theorem dX4_knot_47 : decode cX4_knot 47 = .ok (.iload_n 3, 1) := by decide +kernel
theorem dX4_knot_48 : decode cX4_knot 48 = .ok (.iaload, 1) := by decide +kernel
theorem dX4_knot_49 : decode cX4_knot 49 = .ok (.iload_n 1, 1) := by decide +kernel
theorem dX4_knot_50 : decode cX4_knot 50 = .ok (.if_icmp .ne 9, 3) := by decide +kernel
theorem dX4_knot_53 : decode cX4_knot 53 = .ok (.iload_n 2, 1) := by decide +kernel
theorem dX4_knot_54 : decode cX4_knot 54 = .ok (.iconst 1, 1) := by decide +kernel
theorem dX4_knot_55 : decode cX4_knot 55 = .ok (.iadd, 1) := by decide +kernel
theorem dX4_knot_56 : decode cX4_knot 56 = .ok (.goto 4, 3) := by decide +kernel
theorem dX4_knot_59 : decode cX4_knot 59 = .ok (.iload_n 2, 1) := by decide +kernel
theorem dX4_knot_60 : decode cX4_knot 60 = .ok (.istore_n 2, 1) := by decide +kernel
theorem dX4_knot_61 : decode cX4_knot 61 = .ok (.iinc 3 1, 3) := by decide +kernel
theorem dX4_knot_64 : decode cX4_knot 64 = .ok (.goto (-41), 3) := by decide +kernel
theorem dX4_knot_67 : decode cX4_knot 67 = .ok (.iload_n 2, 1) := by decide +kernel
theorem dX4_knot_68 : decode cX4_knot 68 = .ok (.aload_n 0, 1) := by decide +kernel
theorem dX4_knot_69 : decode cX4_knot 69 = .ok (.getfield 47, 3) := by decide +kernel
theorem dX4_knot_72 : decode cX4_knot 72 = .ok (.if_icmp .lt 5, 3) := by decide +kernel
theorem dX4_knot_75 : decode cX4_knot 75 = .ok (.iconst 0, 1) := by decide +kernel
theorem dX4_knot_76 : decode cX4_knot 76 = .ok (.ireturn, 1) := by decide +kernel
theorem dX4_knot_77 : decode cX4_knot 77 = .ok (.aload_n 0, 1) := by decide +kernel
theorem dX4_knot_78 : decode cX4_knot 78 = .ok (.getfield 19, 3) := by decide +kernel
theorem dX4_knot_81 : decode cX4_knot 81 = .ok (.aload_n 0, 1) := by decide +kernel
theorem dX4_knot_82 : decode cX4_knot 82 = .ok (.getfield 54, 3) := by decide +kernel
theorem dX4_knot_85 : decode cX4_knot 85 = .ok (.iload_n 1, 1) := by decide +kernel
theorem dX4_knot_86 : decode cX4_knot 86 = .ok (.iastore, 1) := by decide +kernel
theorem dX4_knot_87 : decode cX4_knot 87 = .ok (.aload_n 0, 1) := by decide +kernel
theorem dX4_knot_88 : decode cX4_knot 88 = .ok (.dup, 1) := by decide +kernel
theorem dX4_knot_89 : decode cX4_knot 89 = .ok (.getfield 54, 3) := by decide +kernel
theorem dX4_knot_92 : decode cX4_knot 92 = .ok (.iconst 1, 1) := by decide +kernel
theorem dX4_knot_93 : decode cX4_knot 93 = .ok (.iadd, 1) := by decide +kernel
theorem dX4_knot_94 : decode cX4_knot 94 = .ok (.putfield 54, 3) := by decide +kernel
theorem dX4_knot_97 : decode cX4_knot 97 = .ok (.iconst 1, 1) := by decide +kernel
theorem dX4_knot_98 : decode cX4_knot 98 = .ok (.ireturn, 1) := by decide +kernel
theorem dX4_finish_0 : decode cX4_finish 0 = .ok (.aload_n 0, 1) := by decide +kernel
theorem dX4_finish_1 : decode cX4_finish 1 = .ok (.getfield 47, 3) := by decide +kernel
theorem dX4_finish_4 : decode cX4_finish 4 = .ok (.ifCond .ne 5, 3) := by decide +kernel
theorem dX4_finish_7 : decode cX4_finish 7 = .ok (.iconst 1, 1) := by decide +kernel
theorem dX4_finish_8 : decode cX4_finish 8 = .ok (.ireturn, 1) := by decide +kernel
theorem dX4_finish_9 : decode cX4_finish 9 = .ok (.aload_n 0, 1) := by decide +kernel
theorem dX4_finish_10 : decode cX4_finish 10 = .ok (.getfield 51, 3) := by decide +kernel
theorem dX4_finish_13 : decode cX4_finish 13 = .ok (.aload_n 0, 1) := by decide +kernel
theorem dX4_finish_14 : decode cX4_finish 14 = .ok (.getfield 47, 3) := by decide +kernel
theorem dX4_finish_17 : decode cX4_finish 17 = .ok (.iconst 1, 1) := by decide +kernel
theorem dX4_finish_18 : decode cX4_finish 18 = .ok (.iadd, 1) := by decide +kernel
theorem dX4_finish_19 : decode cX4_finish 19 = .ok (.if_icmp .ge 5, 3) := by decide +kernel
theorem dX4_finish_22 : decode cX4_finish 22 = .ok (.iconst 2, 1) := by decide +kernel
theorem dX4_finish_23 : decode cX4_finish 23 = .ok (.ireturn, 1) := by decide +kernel
theorem dX4_finish_24 : decode cX4_finish 24 = .ok (.aload_n 0, 1) := by decide +kernel
theorem dX4_finish_25 : decode cX4_finish 25 = .ok (.getfield 54, 3) := by decide +kernel
theorem dX4_finish_28 : decode cX4_finish 28 = .ok (.aload_n 0, 1) := by decide +kernel
theorem dX4_finish_29 : decode cX4_finish 29 = .ok (.getfield 51, 3) := by decide +kernel
theorem dX4_finish_32 : decode cX4_finish 32 = .ok (.aload_n 0, 1) := by decide +kernel
theorem dX4_finish_33 : decode cX4_finish 33 = .ok (.getfield 47, 3) := by decide +kernel
theorem dX4_finish_36 : decode cX4_finish 36 = .ok (.isub, 1) := by decide +kernel
theorem dX4_finish_37 : decode cX4_finish 37 = .ok (.iconst 1, 1) := by decide +kernel
theorem dX4_finish_38 : decode cX4_finish 38 = .ok (.isub, 1) := by decide +kernel
theorem dX4_finish_39 : decode cX4_finish 39 = .ok (.if_icmp .eq 5, 3) := by decide +kernel
theorem dX4_finish_42 : decode cX4_finish 42 = .ok (.iconst 3, 1) := by decide +kernel
theorem dX4_finish_43 : decode cX4_finish 43 = .ok (.ireturn, 1) := by decide +kernel
theorem dX4_finish_44 : decode cX4_finish 44 = .ok (.aload_n 0, 1) := by decide +kernel
theorem dX4_finish_45 : decode cX4_finish 45 = .ok (.aload_n 0, 1) := by decide +kernel
theorem dX4_finish_46 : decode cX4_finish 46 = .ok (.getfield 47, 3) := by decide +kernel
theorem dX4_finish_49 : decode cX4_finish 49 = .ok (.putfield 57, 3) := by decide +kernel
theorem dX4_finish_52 : decode cX4_finish 52 = .ok (.iconst 0, 1) := by decide +kernel
theorem dX4_finish_53 : decode cX4_finish 53 = .ok (.istore_n 1, 1) := by decide +kernel
theorem dX4_finish_54 : decode cX4_finish 54 = .ok (.iload_n 1, 1) := by decide +kernel
theorem dX4_finish_55 : decode cX4_finish 55 = .ok (.bipush 7, 2) := by decide +kernel
theorem dX4_finish_57 : decode cX4_finish 57 = .ok (.if_icmp .ge 16, 3) := by decide +kernel
theorem dX4_finish_60 : decode cX4_finish 60 = .ok (.aload_n 0, 1) := by decide +kernel
theorem dX4_finish_61 : decode cX4_finish 61 = .ok (.getfield 22, 3) := by decide +kernel
theorem dX4_finish_64 : decode cX4_finish 64 = .ok (.iload_n 1, 1) := by decide +kernel
theorem dX4_finish_65 : decode cX4_finish 65 = .ok (.iconst 0, 1) := by decide +kernel
theorem dX4_finish_66 : decode cX4_finish 66 = .ok (.iastore, 1) := by decide +kernel
theorem dX4_finish_67 : decode cX4_finish 67 = .ok (.iinc 1 1, 3) := by decide +kernel
theorem dX4_finish_70 : decode cX4_finish 70 = .ok (.goto (-16), 3) := by decide +kernel
theorem dX4_finish_73 : decode cX4_finish 73 = .ok (.iconst 0, 1) := by decide +kernel
theorem dX4_finish_74 : decode cX4_finish 74 = .ok (.istore_n 1, 1) := by decide +kernel
theorem dX4_finish_75 : decode cX4_finish 75 = .ok (.iload_n 1, 1) := by decide +kernel
theorem dX4_finish_76 : decode cX4_finish 76 = .ok (.aload_n 0, 1) := by decide +kernel
theorem dX4_finish_77 : decode cX4_finish 77 = .ok (.getfield 54, 3) := by decide +kernel
theorem dX4_finish_80 : decode cX4_finish 80 = .ok (.if_icmp .ge 24, 3) := by decide +kernel
theorem dX4_finish_83 : decode cX4_finish 83 = .ok (.aload_n 0, 1) := by decide +kernel
theorem dX4_finish_84 : decode cX4_finish 84 = .ok (.getfield 22, 3) := by decide +kernel
theorem dX4_finish_87 : decode cX4_finish 87 = .ok (.aload_n 0, 1) := by decide +kernel
theorem dX4_finish_88 : decode cX4_finish 88 = .ok (.getfield 19, 3) := by decide +kernel
theorem dX4_finish_91 : decode cX4_finish 91 = .ok (.iload_n 1, 1) := by decide +kernel
theorem dX4_finish_92 : decode cX4_finish 92 = .ok (.iaload, 1) := by decide +kernel
theorem dX4_finish_93 : decode cX4_finish 93 = .ok (.dup2, 1) := by decide +kernel
theorem dX4_finish_94 : decode cX4_finish 94 = .ok (.iaload, 1) := by decide +kernel
theorem dX4_finish_95 : decode cX4_finish 95 = .ok (.iconst 1, 1) := by decide +kernel
theorem dX4_finish_96 : decode cX4_finish 96 = .ok (.iadd, 1) := by decide +kernel
theorem dX4_finish_97 : decode cX4_finish 97 = .ok (.iastore, 1) := by decide +kernel
theorem dX4_finish_98 : decode cX4_finish 98 = .ok (.iinc 1 1, 3) := by decide +kernel
theorem dX4_finish_101 : decode cX4_finish 101 = .ok (.goto (-26), 3) := by decide +kernel
theorem dX4_finish_104 : decode cX4_finish 104 = .ok (.aload_n 0, 1) := by decide +kernel
theorem dX4_finish_105 : decode cX4_finish 105 = .ok (.invokevirtual 60, 3) := by decide +kernel
theorem dX4_finish_108 : decode cX4_finish 108 = .ok (.iconst 0, 1) := by decide +kernel
theorem dX4_finish_109 : decode cX4_finish 109 = .ok (.istore_n 1, 1) := by decide +kernel
theorem dX4_finish_110 : decode cX4_finish 110 = .ok (.iload_n 1, 1) := by decide +kernel
theorem dX4_finish_111 : decode cX4_finish 111 = .ok (.bipush 6, 2) := by decide +kernel
theorem dX4_finish_113 : decode cX4_finish 113 = .ok (.if_icmp .ge 14, 3) := by decide +kernel
theorem dX4_finish_116 : decode cX4_finish 116 = .ok (.aload_n 0, 1) := by decide +kernel
theorem dX4_finish_117 : decode cX4_finish 117 = .ok (.iload_n 1, 1) := by decide +kernel
theorem dX4_finish_118 : decode cX4_finish 118 = .ok (.invokevirtual 63, 3) := by decide +kernel
theorem dX4_finish_121 : decode cX4_finish 121 = .ok (.iinc 1 1, 3) := by decide +kernel
theorem dX4_finish_124 : decode cX4_finish 124 = .ok (.goto (-14), 3) := by decide +kernel
theorem dX4_finish_127 : decode cX4_finish 127 = .ok (.aload_n 0, 1) := by decide +kernel
theorem dX4_finish_128 : decode cX4_finish 128 = .ok (.iconst 0, 1) := by decide +kernel
theorem dX4_finish_129 : decode cX4_finish 129 = .ok (.putfield 47, 3) := by decide +kernel
theorem dX4_finish_132 : decode cX4_finish 132 = .ok (.aload_n 0, 1) := by decide +kernel
theorem dX4_finish_133 : decode cX4_finish 133 = .ok (.iconst 0, 1) := by decide +kernel
theorem dX4_finish_134 : decode cX4_finish 134 = .ok (.putfield 67, 3) := by decide +kernel
theorem dX4_finish_137 : decode cX4_finish 137 = .ok (.iconst 0, 1) := by decide +kernel
theorem dX4_finish_138 : decode cX4_finish 138 = .ok (.ireturn, 1) := by decide +kernel
theorem dX4_layKnots_0 : decode cX4_layKnots 0 = .ok (.iconst 0, 1) := by decide +kernel
theorem dX4_layKnots_1 : decode cX4_layKnots 1 = .ok (.istore_n 1, 1) := by decide +kernel
theorem dX4_layKnots_2 : decode cX4_layKnots 2 = .ok (.iconst 0, 1) := by decide +kernel
theorem dX4_layKnots_3 : decode cX4_layKnots 3 = .ok (.istore_n 2, 1) := by decide +kernel
theorem dX4_layKnots_4 : decode cX4_layKnots 4 = .ok (.iload_n 2, 1) := by decide +kernel
theorem dX4_layKnots_5 : decode cX4_layKnots 5 = .ok (.bipush 6, 2) := by decide +kernel
theorem dX4_layKnots_7 : decode cX4_layKnots 7 = .ok (.if_icmp .gt 60, 3) := by decide +kernel
theorem dX4_layKnots_10 : decode cX4_layKnots 10 = .ok (.iload_n 2, 1) := by decide +kernel
theorem dX4_layKnots_11 : decode cX4_layKnots 11 = .ok (.ifCond .eq 9, 3) := by decide +kernel
theorem dX4_layKnots_14 : decode cX4_layKnots 14 = .ok (.iload_n 2, 1) := by decide +kernel
theorem dX4_layKnots_15 : decode cX4_layKnots 15 = .ok (.bipush 6, 2) := by decide +kernel
theorem dX4_layKnots_17 : decode cX4_layKnots 17 = .ok (.if_icmp .ne 12, 3) := by decide +kernel
theorem dX4_layKnots_20 : decode cX4_layKnots 20 = .ok (.aload_n 0, 1) := by decide +kernel
theorem dX4_layKnots_21 : decode cX4_layKnots 21 = .ok (.getfield 57, 3) := by decide +kernel
theorem dX4_layKnots_24 : decode cX4_layKnots 24 = .ok (.iconst 1, 1) := by decide +kernel
theorem dX4_layKnots_25 : decode cX4_layKnots 25 = .ok (.iadd, 1) := by decide +kernel
theorem dX4_layKnots_26 : decode cX4_layKnots 26 = .ok (.goto 9, 3) := by decide +kernel
theorem dX4_layKnots_29 : decode cX4_layKnots 29 = .ok (.aload_n 0, 1) := by decide +kernel
theorem dX4_layKnots_30 : decode cX4_layKnots 30 = .ok (.getfield 22, 3) := by decide +kernel
theorem dX4_layKnots_33 : decode cX4_layKnots 33 = .ok (.iload_n 2, 1) := by decide +kernel
theorem dX4_layKnots_34 : decode cX4_layKnots 34 = .ok (.iaload, 1) := by decide +kernel
theorem dX4_layKnots_35 : decode cX4_layKnots 35 = .ok (.istore_n 3, 1) := by decide +kernel
theorem dX4_layKnots_36 : decode cX4_layKnots 36 = .ok (.iconst 0, 1) := by decide +kernel
theorem dX4_layKnots_37 : decode cX4_layKnots 37 = .ok (.istore 4, 2) := by decide +kernel
theorem dX4_layKnots_39 : decode cX4_layKnots 39 = .ok (.iload 4, 2) := by decide +kernel
theorem dX4_layKnots_41 : decode cX4_layKnots 41 = .ok (.iload_n 3, 1) := by decide +kernel
theorem dX4_layKnots_42 : decode cX4_layKnots 42 = .ok (.if_icmp .ge 19, 3) := by decide +kernel
theorem dX4_layKnots_45 : decode cX4_layKnots 45 = .ok (.aload_n 0, 1) := by decide +kernel
theorem dX4_layKnots_46 : decode cX4_layKnots 46 = .ok (.getfield 29, 3) := by decide +kernel
theorem dX4_layKnots_49 : decode cX4_layKnots 49 = .ok (.iload_n 1, 1) := by decide +kernel
theorem dX4_layKnots_50 : decode cX4_layKnots 50 = .ok (.iload_n 2, 1) := by decide +kernel
theorem dX4_layKnots_51 : decode cX4_layKnots 51 = .ok (.iastore, 1) := by decide +kernel
theorem dX4_layKnots_52 : decode cX4_layKnots 52 = .ok (.iinc 1 1, 3) := by decide +kernel
theorem dX4_layKnots_55 : decode cX4_layKnots 55 = .ok (.iinc 4 1, 3) := by decide +kernel
theorem dX4_layKnots_58 : decode cX4_layKnots 58 = .ok (.goto (-19), 3) := by decide +kernel
theorem dX4_layKnots_61 : decode cX4_layKnots 61 = .ok (.iinc 2 1, 3) := by decide +kernel
theorem dX4_layKnots_64 : decode cX4_layKnots 64 = .ok (.goto (-60), 3) := by decide +kernel
theorem dX4_layKnots_67 : decode cX4_layKnots 67 = .ok (.aload_n 0, 1) := by decide +kernel
theorem dX4_layKnots_68 : decode cX4_layKnots 68 = .ok (.iload_n 1, 1) := by decide +kernel
theorem dX4_layKnots_69 : decode cX4_layKnots 69 = .ok (.aload_n 0, 1) := by decide +kernel
theorem dX4_layKnots_70 : decode cX4_layKnots 70 = .ok (.getfield 57, 3) := by decide +kernel
theorem dX4_layKnots_73 : decode cX4_layKnots 73 = .ok (.isub, 1) := by decide +kernel
theorem dX4_layKnots_74 : decode cX4_layKnots 74 = .ok (.iconst 1, 1) := by decide +kernel
theorem dX4_layKnots_75 : decode cX4_layKnots 75 = .ok (.isub, 1) := by decide +kernel
theorem dX4_layKnots_76 : decode cX4_layKnots 76 = .ok (.putfield 70, 3) := by decide +kernel
theorem dX4_layKnots_79 : decode cX4_layKnots 79 = .ok (.return_, 1) := by decide +kernel
theorem dX4_spanOf_0 : decode cX4_spanOf 0 = .ok (.aload_n 0, 1) := by decide +kernel
theorem dX4_spanOf_1 : decode cX4_spanOf 1 = .ok (.getfield 57, 3) := by decide +kernel
theorem dX4_spanOf_4 : decode cX4_spanOf 4 = .ok (.istore_n 2, 1) := by decide +kernel
theorem dX4_spanOf_5 : decode cX4_spanOf 5 = .ok (.aload_n 0, 1) := by decide +kernel
theorem dX4_spanOf_6 : decode cX4_spanOf 6 = .ok (.getfield 57, 3) := by decide +kernel
theorem dX4_spanOf_9 : decode cX4_spanOf 9 = .ok (.istore_n 3, 1) := by decide +kernel
theorem dX4_spanOf_10 : decode cX4_spanOf 10 = .ok (.iload_n 3, 1) := by decide +kernel
theorem dX4_spanOf_11 : decode cX4_spanOf 11 = .ok (.aload_n 0, 1) := by decide +kernel
theorem dX4_spanOf_12 : decode cX4_spanOf 12 = .ok (.getfield 70, 3) := by decide +kernel
theorem dX4_spanOf_15 : decode cX4_spanOf 15 = .ok (.if_icmp .ge 28, 3) := by decide +kernel
theorem dX4_spanOf_18 : decode cX4_spanOf 18 = .ok (.bipush 60, 2) := by decide +kernel
theorem dX4_spanOf_20 : decode cX4_spanOf 20 = .ok (.aload_n 0, 1) := by decide +kernel
theorem dX4_spanOf_21 : decode cX4_spanOf 21 = .ok (.getfield 29, 3) := by decide +kernel
theorem dX4_spanOf_24 : decode cX4_spanOf 24 = .ok (.iload_n 3, 1) := by decide +kernel
theorem dX4_spanOf_25 : decode cX4_spanOf 25 = .ok (.iaload, 1) := by decide +kernel
theorem dX4_spanOf_26 : decode cX4_spanOf 26 = .ok (.imul, 1) := by decide +kernel
theorem dX4_spanOf_27 : decode cX4_spanOf 27 = .ok (.iload_n 1, 1) := by decide +kernel
theorem dX4_spanOf_28 : decode cX4_spanOf 28 = .ok (.if_icmp .gt 7, 3) := by decide +kernel
theorem dX4_spanOf_31 : decode cX4_spanOf 31 = .ok (.iload_n 3, 1) := by decide +kernel
theorem dX4_spanOf_32 : decode cX4_spanOf 32 = .ok (.goto 4, 3) := by decide +kernel
theorem dX4_spanOf_35 : decode cX4_spanOf 35 = .ok (.iload_n 2, 1) := by decide +kernel
theorem dX4_spanOf_36 : decode cX4_spanOf 36 = .ok (.istore_n 2, 1) := by decide +kernel
theorem dX4_spanOf_37 : decode cX4_spanOf 37 = .ok (.iinc 3 1, 3) := by decide +kernel
theorem dX4_spanOf_40 : decode cX4_spanOf 40 = .ok (.goto (-30), 3) := by decide +kernel
theorem dX4_spanOf_43 : decode cX4_spanOf 43 = .ok (.iload_n 2, 1) := by decide +kernel
theorem dX4_spanOf_44 : decode cX4_spanOf 44 = .ok (.ireturn, 1) := by decide +kernel
theorem dX4_drafted_0 : decode cX4_drafted 0 = .ok (.aload_n 0, 1) := by decide +kernel
theorem dX4_drafted_1 : decode cX4_drafted 1 = .ok (.getfield 16, 3) := by decide +kernel
theorem dX4_drafted_4 : decode cX4_drafted 4 = .ok (.iload_n 1, 1) := by decide +kernel
theorem dX4_drafted_5 : decode cX4_drafted 5 = .ok (.iaload, 1) := by decide +kernel
theorem dX4_drafted_6 : decode cX4_drafted 6 = .ok (.i2l, 1) := by decide +kernel
theorem dX4_drafted_7 : decode cX4_drafted 7 = .ok (.lstore_n 3, 1) := by decide +kernel
theorem dX4_drafted_8 : decode cX4_drafted 8 = .ok (.iload_n 2, 1) := by decide +kernel
theorem dX4_drafted_9 : decode cX4_drafted 9 = .ok (.ifCond .ne 15, 3) := by decide +kernel
theorem dX4_drafted_12 : decode cX4_drafted 12 = .ok (.aload_n 0, 1) := by decide +kernel
theorem dX4_drafted_13 : decode cX4_drafted 13 = .ok (.getfield 7, 3) := by decide +kernel
theorem dX4_drafted_16 : decode cX4_drafted 16 = .ok (.iload_n 1, 1) := by decide +kernel
theorem dX4_drafted_17 : decode cX4_drafted 17 = .ok (.iaload, 1) := by decide +kernel
theorem dX4_drafted_18 : decode cX4_drafted 18 = .ok (.i2l, 1) := by decide +kernel
theorem dX4_drafted_19 : decode cX4_drafted 19 = .ok (.lload_n 3, 1) := by decide +kernel
theorem dX4_drafted_20 : decode cX4_drafted 20 = .ok (.lmul, 1) := by decide +kernel
theorem dX4_drafted_21 : decode cX4_drafted 21 = .ok (.goto 21, 3) := by decide +kernel
theorem dX4_drafted_24 : decode cX4_drafted 24 = .ok (.iload_n 2, 1) := by decide +kernel
theorem dX4_drafted_25 : decode cX4_drafted 25 = .ok (.iconst 1, 1) := by decide +kernel
theorem dX4_drafted_26 : decode cX4_drafted 26 = .ok (.if_icmp .ne 15, 3) := by decide +kernel
theorem dX4_drafted_29 : decode cX4_drafted 29 = .ok (.aload_n 0, 1) := by decide +kernel
theorem dX4_drafted_30 : decode cX4_drafted 30 = .ok (.getfield 13, 3) := by decide +kernel
theorem dX4_drafted_33 : decode cX4_drafted 33 = .ok (.iload_n 1, 1) := by decide +kernel
theorem dX4_drafted_34 : decode cX4_drafted 34 = .ok (.iaload, 1) := by decide +kernel
theorem dX4_drafted_35 : decode cX4_drafted 35 = .ok (.i2l, 1) := by decide +kernel
theorem dX4_drafted_36 : decode cX4_drafted 36 = .ok (.lload_n 3, 1) := by decide +kernel
theorem dX4_drafted_37 : decode cX4_drafted 37 = .ok (.lmul, 1) := by decide +kernel
theorem dX4_drafted_38 : decode cX4_drafted 38 = .ok (.goto 4, 3) := by decide +kernel
theorem dX4_drafted_41 : decode cX4_drafted 41 = .ok (.lload_n 3, 1) := by decide +kernel
theorem dX4_drafted_42 : decode cX4_drafted 42 = .ok (.lreturn, 1) := by decide +kernel
theorem dX4_makePiece_0 : decode cX4_makePiece 0 = .ok (.aload_n 0, 1) := by decide +kernel
theorem dX4_makePiece_1 : decode cX4_makePiece 1 = .ok (.bipush 60, 2) := by decide +kernel
theorem dX4_makePiece_3 : decode cX4_makePiece 3 = .ok (.iload_n 1, 1) := by decide +kernel
theorem dX4_makePiece_4 : decode cX4_makePiece 4 = .ok (.imul, 1) := by decide +kernel
theorem dX4_makePiece_5 : decode cX4_makePiece 5 = .ok (.invokevirtual 73, 3) := by decide +kernel
theorem dX4_makePiece_8 : decode cX4_makePiece 8 = .ok (.istore_n 2, 1) := by decide +kernel
theorem dX4_makePiece_9 : decode cX4_makePiece 9 = .ok (.iconst 0, 1) := by decide +kernel
theorem dX4_makePiece_10 : decode cX4_makePiece 10 = .ok (.istore_n 3, 1) := by decide +kernel
theorem dX4_makePiece_11 : decode cX4_makePiece 11 = .ok (.iload_n 3, 1) := by decide +kernel
theorem dX4_makePiece_12 : decode cX4_makePiece 12 = .ok (.bipush 80, 2) := by decide +kernel
theorem dX4_makePiece_14 : decode cX4_makePiece 14 = .ok (.if_icmp .ge 16, 3) := by decide +kernel
theorem dX4_makePiece_17 : decode cX4_makePiece 17 = .ok (.aload_n 0, 1) := by decide +kernel
theorem dX4_makePiece_18 : decode cX4_makePiece 18 = .ok (.getfield 35, 3) := by decide +kernel
theorem dX4_makePiece_21 : decode cX4_makePiece 21 = .ok (.iload_n 3, 1) := by decide +kernel
theorem dX4_makePiece_22 : decode cX4_makePiece 22 = .ok (.lconst 0, 1) := by decide +kernel
theorem dX4_makePiece_23 : decode cX4_makePiece 23 = .ok (.lastore, 1) := by decide +kernel
theorem dX4_makePiece_24 : decode cX4_makePiece 24 = .ok (.iinc 3 1, 3) := by decide +kernel
theorem dX4_makePiece_27 : decode cX4_makePiece 27 = .ok (.goto (-16), 3) := by decide +kernel
theorem dX4_makePiece_30 : decode cX4_makePiece 30 = .ok (.aload_n 0, 1) := by decide +kernel
theorem dX4_makePiece_31 : decode cX4_makePiece 31 = .ok (.getfield 35, 3) := by decide +kernel
theorem dX4_makePiece_34 : decode cX4_makePiece 34 = .ok (.iconst 4, 1) := by decide +kernel
theorem dX4_makePiece_35 : decode cX4_makePiece 35 = .ok (.iload_n 2, 1) := by decide +kernel
theorem dX4_makePiece_36 : decode cX4_makePiece 36 = .ok (.imul, 1) := by decide +kernel
theorem dX4_makePiece_37 : decode cX4_makePiece 37 = .ok (.lconst 1, 1) := by decide +kernel
theorem dX4_makePiece_38 : decode cX4_makePiece 38 = .ok (.lastore, 1) := by decide +kernel
theorem dX4_makePiece_39 : decode cX4_makePiece 39 = .ok (.iconst 1, 1) := by decide +kernel
theorem dX4_makePiece_40 : decode cX4_makePiece 40 = .ok (.istore_n 3, 1) := by decide +kernel
theorem dX4_makePiece_41 : decode cX4_makePiece 41 = .ok (.iload_n 3, 1) := by decide +kernel
theorem dX4_makePiece_42 : decode cX4_makePiece 42 = .ok (.aload_n 0, 1) := by decide +kernel
theorem dX4_makePiece_43 : decode cX4_makePiece 43 = .ok (.getfield 57, 3) := by decide +kernel
theorem dX4_makePiece_46 : decode cX4_makePiece 46 = .ok (.if_icmp .gt 34, 3) := by decide +kernel
theorem dX4_makePiece_49 : decode cX4_makePiece 49 = .ok (.iload_n 2, 1) := by decide +kernel
theorem dX4_makePiece_50 : decode cX4_makePiece 50 = .ok (.iload_n 3, 1) := by decide +kernel
theorem dX4_makePiece_51 : decode cX4_makePiece 51 = .ok (.isub, 1) := by decide +kernel
theorem dX4_makePiece_52 : decode cX4_makePiece 52 = .ok (.istore 4, 2) := by decide +kernel
theorem dX4_makePiece_54 : decode cX4_makePiece 54 = .ok (.iload 4, 2) := by decide +kernel
theorem dX4_makePiece_56 : decode cX4_makePiece 56 = .ok (.iload_n 2, 1) := by decide +kernel
theorem dX4_makePiece_57 : decode cX4_makePiece 57 = .ok (.if_icmp .gt 17, 3) := by decide +kernel
theorem dX4_makePiece_60 : decode cX4_makePiece 60 = .ok (.aload_n 0, 1) := by decide +kernel
theorem dX4_makePiece_61 : decode cX4_makePiece 61 = .ok (.iload 4, 2) := by decide +kernel
theorem dX4_makePiece_63 : decode cX4_makePiece 63 = .ok (.iload_n 3, 1) := by decide +kernel
theorem dX4_makePiece_64 : decode cX4_makePiece 64 = .ok (.iload_n 1, 1) := by decide +kernel
theorem dX4_makePiece_65 : decode cX4_makePiece 65 = .ok (.invokevirtual 77, 3) := by decide +kernel
theorem dX4_makePiece_68 : decode cX4_makePiece 68 = .ok (.iinc 4 1, 3) := by decide +kernel
theorem dX4_makePiece_71 : decode cX4_makePiece 71 = .ok (.goto (-17), 3) := by decide +kernel
theorem dX4_makePiece_74 : decode cX4_makePiece 74 = .ok (.iinc 3 1, 3) := by decide +kernel
theorem dX4_makePiece_77 : decode cX4_makePiece 77 = .ok (.goto (-36), 3) := by decide +kernel
theorem dX4_makePiece_80 : decode cX4_makePiece 80 = .ok (.aload_n 0, 1) := by decide +kernel
theorem dX4_makePiece_81 : decode cX4_makePiece 81 = .ok (.getfield 57, 3) := by decide +kernel
theorem dX4_makePiece_84 : decode cX4_makePiece 84 = .ok (.iconst 1, 1) := by decide +kernel
theorem dX4_makePiece_85 : decode cX4_makePiece 85 = .ok (.if_icmp .ne 9, 3) := by decide +kernel
theorem dX4_makePiece_88 : decode cX4_makePiece 88 = .ok (.ldc2_w 81, 3) := by decide +kernel
theorem dX4_makePiece_91 : decode cX4_makePiece 91 = .ok (.goto 18, 3) := by decide +kernel
theorem dX4_makePiece_94 : decode cX4_makePiece 94 = .ok (.aload_n 0, 1) := by decide +kernel
theorem dX4_makePiece_95 : decode cX4_makePiece 95 = .ok (.getfield 57, 3) := by decide +kernel
theorem dX4_makePiece_98 : decode cX4_makePiece 98 = .ok (.iconst 2, 1) := by decide +kernel
theorem dX4_makePiece_99 : decode cX4_makePiece 99 = .ok (.if_icmp .ne 9, 3) := by decide +kernel
theorem dX4_makePiece_102 : decode cX4_makePiece 102 = .ok (.ldc2_w 83, 3) := by decide +kernel
theorem dX4_makePiece_105 : decode cX4_makePiece 105 = .ok (.goto 4, 3) := by decide +kernel
theorem dX4_makePiece_108 : decode cX4_makePiece 108 = .ok (.lconst 1, 1) := by decide +kernel
theorem dX4_makePiece_109 : decode cX4_makePiece 109 = .ok (.lstore_n 3, 1) := by decide +kernel
theorem dX4_makePiece_110 : decode cX4_makePiece 110 = .ok (.iconst 0, 1) := by decide +kernel
theorem dX4_makePiece_111 : decode cX4_makePiece 111 = .ok (.istore 5, 2) := by decide +kernel
theorem dX4_makePiece_113 : decode cX4_makePiece 113 = .ok (.iload 5, 2) := by decide +kernel
theorem dX4_makePiece_115 : decode cX4_makePiece 115 = .ok (.iconst 3, 1) := by decide +kernel
theorem dX4_makePiece_116 : decode cX4_makePiece 116 = .ok (.if_icmp .ge 94, 3) := by decide +kernel
theorem dX4_makePiece_119 : decode cX4_makePiece 119 = .ok (.iconst 0, 1) := by decide +kernel
theorem dX4_makePiece_120 : decode cX4_makePiece 120 = .ok (.istore 6, 2) := by decide +kernel
theorem dX4_makePiece_122 : decode cX4_makePiece 122 = .ok (.iload 6, 2) := by decide +kernel
theorem dX4_makePiece_124 : decode cX4_makePiece 124 = .ok (.iconst 4, 1) := by decide +kernel
theorem dX4_makePiece_125 : decode cX4_makePiece 125 = .ok (.if_icmp .ge 79, 3) := by decide +kernel
theorem dX4_makePiece_128 : decode cX4_makePiece 128 = .ok (.lconst 0, 1) := by decide +kernel
theorem dX4_makePiece_129 : decode cX4_makePiece 129 = .ok (.lstore 7, 2) := by decide +kernel
theorem dX4_makePiece_131 : decode cX4_makePiece 131 = .ok (.iload_n 2, 1) := by decide +kernel
theorem dX4_makePiece_132 : decode cX4_makePiece 132 = .ok (.aload_n 0, 1) := by decide +kernel
theorem dX4_makePiece_133 : decode cX4_makePiece 133 = .ok (.getfield 57, 3) := by decide +kernel
theorem dX4_makePiece_136 : decode cX4_makePiece 136 = .ok (.isub, 1) := by decide +kernel
theorem dX4_makePiece_137 : decode cX4_makePiece 137 = .ok (.istore 9, 2) := by decide +kernel
theorem dX4_makePiece_139 : decode cX4_makePiece 139 = .ok (.iload 9, 2) := by decide +kernel
theorem dX4_makePiece_141 : decode cX4_makePiece 141 = .ok (.iload_n 2, 1) := by decide +kernel
theorem dX4_makePiece_142 : decode cX4_makePiece 142 = .ok (.if_icmp .gt 35, 3) := by decide +kernel
theorem dX4_makePiece_145 : decode cX4_makePiece 145 = .ok (.lload 7, 2) := by decide +kernel
theorem dX4_makePiece_147 : decode cX4_makePiece 147 = .ok (.aload_n 0, 1) := by decide +kernel
theorem dX4_makePiece_148 : decode cX4_makePiece 148 = .ok (.iload 9, 2) := by decide +kernel
theorem dX4_makePiece_150 : decode cX4_makePiece 150 = .ok (.iload 5, 2) := by decide +kernel
theorem dX4_makePiece_152 : decode cX4_makePiece 152 = .ok (.invokevirtual 85, 3) := by decide +kernel
theorem dX4_makePiece_155 : decode cX4_makePiece 155 = .ok (.aload_n 0, 1) := by decide +kernel
theorem dX4_makePiece_156 : decode cX4_makePiece 156 = .ok (.getfield 35, 3) := by decide +kernel
theorem dX4_makePiece_159 : decode cX4_makePiece 159 = .ok (.iconst 4, 1) := by decide +kernel
theorem dX4_makePiece_160 : decode cX4_makePiece 160 = .ok (.iload 9, 2) := by decide +kernel
theorem dX4_makePiece_162 : decode cX4_makePiece 162 = .ok (.imul, 1) := by decide +kernel
theorem dX4_makePiece_163 : decode cX4_makePiece 163 = .ok (.iload 6, 2) := by decide +kernel
theorem dX4_makePiece_165 : decode cX4_makePiece 165 = .ok (.iadd, 1) := by decide +kernel
theorem dX4_makePiece_166 : decode cX4_makePiece 166 = .ok (.laload, 1) := by decide +kernel
theorem dX4_makePiece_167 : decode cX4_makePiece 167 = .ok (.lmul, 1) := by decide +kernel
theorem dX4_makePiece_168 : decode cX4_makePiece 168 = .ok (.ladd, 1) := by decide +kernel
theorem dX4_makePiece_169 : decode cX4_makePiece 169 = .ok (.lstore 7, 2) := by decide +kernel
theorem dX4_makePiece_171 : decode cX4_makePiece 171 = .ok (.iinc 9 1, 3) := by decide +kernel
theorem dX4_makePiece_174 : decode cX4_makePiece 174 = .ok (.goto (-35), 3) := by decide +kernel
theorem dX4_makePiece_177 : decode cX4_makePiece 177 = .ok (.aload_n 0, 1) := by decide +kernel
theorem dX4_makePiece_178 : decode cX4_makePiece 178 = .ok (.getfield 25, 3) := by decide +kernel
theorem dX4_makePiece_181 : decode cX4_makePiece 181 = .ok (.bipush 24, 2) := by decide +kernel
theorem dX4_makePiece_183 : decode cX4_makePiece 183 = .ok (.iload 5, 2) := by decide +kernel
theorem dX4_makePiece_185 : decode cX4_makePiece 185 = .ok (.imul, 1) := by decide +kernel
theorem dX4_makePiece_186 : decode cX4_makePiece 186 = .ok (.iconst 4, 1) := by decide +kernel
theorem dX4_makePiece_187 : decode cX4_makePiece 187 = .ok (.iload_n 1, 1) := by decide +kernel
theorem dX4_makePiece_188 : decode cX4_makePiece 188 = .ok (.imul, 1) := by decide +kernel
theorem dX4_makePiece_189 : decode cX4_makePiece 189 = .ok (.iadd, 1) := by decide +kernel
theorem dX4_makePiece_190 : decode cX4_makePiece 190 = .ok (.iload 6, 2) := by decide +kernel
theorem dX4_makePiece_192 : decode cX4_makePiece 192 = .ok (.iadd, 1) := by decide +kernel
theorem dX4_makePiece_193 : decode cX4_makePiece 193 = .ok (.lload 7, 2) := by decide +kernel
theorem dX4_makePiece_195 : decode cX4_makePiece 195 = .ok (.lload_n 3, 1) := by decide +kernel
theorem dX4_makePiece_196 : decode cX4_makePiece 196 = .ok (.lmul, 1) := by decide +kernel
theorem dX4_makePiece_197 : decode cX4_makePiece 197 = .ok (.lastore, 1) := by decide +kernel
theorem dX4_makePiece_198 : decode cX4_makePiece 198 = .ok (.iinc 6 1, 3) := by decide +kernel
theorem dX4_makePiece_201 : decode cX4_makePiece 201 = .ok (.goto (-79), 3) := by decide +kernel
theorem dX4_makePiece_204 : decode cX4_makePiece 204 = .ok (.iinc 5 1, 3) := by decide +kernel
theorem dX4_makePiece_207 : decode cX4_makePiece 207 = .ok (.goto (-94), 3) := by decide +kernel
theorem dX4_makePiece_210 : decode cX4_makePiece 210 = .ok (.return_, 1) := by decide +kernel
theorem dX4_mix_0 : decode cX4_mix 0 = .ok (.aload_n 0, 1) := by decide +kernel
theorem dX4_mix_1 : decode cX4_mix 1 = .ok (.getfield 29, 3) := by decide +kernel
theorem dX4_mix_4 : decode cX4_mix 4 = .ok (.iload_n 1, 1) := by decide +kernel
theorem dX4_mix_5 : decode cX4_mix 5 = .ok (.iload_n 2, 1) := by decide +kernel
theorem dX4_mix_6 : decode cX4_mix 6 = .ok (.iadd, 1) := by decide +kernel
theorem dX4_mix_7 : decode cX4_mix 7 = .ok (.iaload, 1) := by decide +kernel
theorem dX4_mix_8 : decode cX4_mix 8 = .ok (.aload_n 0, 1) := by decide +kernel
theorem dX4_mix_9 : decode cX4_mix 9 = .ok (.getfield 29, 3) := by decide +kernel
theorem dX4_mix_12 : decode cX4_mix 12 = .ok (.iload_n 1, 1) := by decide +kernel
theorem dX4_mix_13 : decode cX4_mix 13 = .ok (.iaload, 1) := by decide +kernel
theorem dX4_mix_14 : decode cX4_mix 14 = .ok (.isub, 1) := by decide +kernel
theorem dX4_mix_15 : decode cX4_mix 15 = .ok (.istore 4, 2) := by decide +kernel
theorem dX4_mix_17 : decode cX4_mix 17 = .ok (.aload_n 0, 1) := by decide +kernel
theorem dX4_mix_18 : decode cX4_mix 18 = .ok (.getfield 29, 3) := by decide +kernel
theorem dX4_mix_21 : decode cX4_mix 21 = .ok (.iload_n 1, 1) := by decide +kernel
theorem dX4_mix_22 : decode cX4_mix 22 = .ok (.iload_n 2, 1) := by decide +kernel
theorem dX4_mix_23 : decode cX4_mix 23 = .ok (.iadd, 1) := by decide +kernel
theorem dX4_mix_24 : decode cX4_mix 24 = .ok (.iconst 1, 1) := by decide +kernel
theorem dX4_mix_25 : decode cX4_mix 25 = .ok (.iadd, 1) := by decide +kernel
theorem dX4_mix_26 : decode cX4_mix 26 = .ok (.iaload, 1) := by decide +kernel
theorem dX4_mix_27 : decode cX4_mix 27 = .ok (.aload_n 0, 1) := by decide +kernel
theorem dX4_mix_28 : decode cX4_mix 28 = .ok (.getfield 29, 3) := by decide +kernel
theorem dX4_mix_31 : decode cX4_mix 31 = .ok (.iload_n 1, 1) := by decide +kernel
theorem dX4_mix_32 : decode cX4_mix 32 = .ok (.iconst 1, 1) := by decide +kernel
theorem dX4_mix_33 : decode cX4_mix 33 = .ok (.iadd, 1) := by decide +kernel
theorem dX4_mix_34 : decode cX4_mix 34 = .ok (.iaload, 1) := by decide +kernel
theorem dX4_mix_35 : decode cX4_mix 35 = .ok (.isub, 1) := by decide +kernel
theorem dX4_mix_36 : decode cX4_mix 36 = .ok (.istore 5, 2) := by decide +kernel
theorem dX4_mix_38 : decode cX4_mix 38 = .ok (.iload 4, 2) := by decide +kernel
theorem dX4_mix_40 : decode cX4_mix 40 = .ok (.ifCond .ne 7, 3) := by decide +kernel
theorem dX4_mix_43 : decode cX4_mix 43 = .ok (.lconst 0, 1) := by decide +kernel
theorem dX4_mix_44 : decode cX4_mix 44 = .ok (.goto 9, 3) := by decide +kernel
theorem dX4_mix_47 : decode cX4_mix 47 = .ok (.bipush 60, 2) := by decide +kernel
theorem dX4_mix_49 : decode cX4_mix 49 = .ok (.iload 4, 2) := by decide +kernel
theorem dX4_mix_51 : decode cX4_mix 51 = .ok (.idiv, 1) := by decide +kernel
theorem dX4_mix_52 : decode cX4_mix 52 = .ok (.i2l, 1) := by decide +kernel
theorem dX4_mix_53 : decode cX4_mix 53 = .ok (.lstore 6, 2) := by decide +kernel
theorem dX4_mix_55 : decode cX4_mix 55 = .ok (.iload 5, 2) := by decide +kernel
theorem dX4_mix_57 : decode cX4_mix 57 = .ok (.ifCond .ne 7, 3) := by decide +kernel
theorem dX4_mix_60 : decode cX4_mix 60 = .ok (.lconst 0, 1) := by decide +kernel
theorem dX4_mix_61 : decode cX4_mix 61 = .ok (.goto 9, 3) := by decide +kernel
theorem dX4_mix_64 : decode cX4_mix 64 = .ok (.bipush 60, 2) := by decide +kernel
theorem dX4_mix_66 : decode cX4_mix 66 = .ok (.iload 5, 2) := by decide +kernel
theorem dX4_mix_68 : decode cX4_mix 68 = .ok (.idiv, 1) := by decide +kernel
theorem dX4_mix_69 : decode cX4_mix 69 = .ok (.i2l, 1) := by decide +kernel
theorem dX4_mix_70 : decode cX4_mix 70 = .ok (.lstore 8, 2) := by decide +kernel
theorem dX4_mix_72 : decode cX4_mix 72 = .ok (.iload_n 3, 1) := by decide +kernel
theorem dX4_mix_73 : decode cX4_mix 73 = .ok (.aload_n 0, 1) := by decide +kernel
theorem dX4_mix_74 : decode cX4_mix 74 = .ok (.getfield 29, 3) := by decide +kernel
theorem dX4_mix_77 : decode cX4_mix 77 = .ok (.iload_n 1, 1) := by decide +kernel
theorem dX4_mix_78 : decode cX4_mix 78 = .ok (.iaload, 1) := by decide +kernel
theorem dX4_mix_79 : decode cX4_mix 79 = .ok (.isub, 1) := by decide +kernel
theorem dX4_mix_80 : decode cX4_mix 80 = .ok (.i2l, 1) := by decide +kernel
theorem dX4_mix_81 : decode cX4_mix 81 = .ok (.lstore 10, 2) := by decide +kernel
theorem dX4_mix_83 : decode cX4_mix 83 = .ok (.aload_n 0, 1) := by decide +kernel
theorem dX4_mix_84 : decode cX4_mix 84 = .ok (.getfield 29, 3) := by decide +kernel
theorem dX4_mix_87 : decode cX4_mix 87 = .ok (.iload_n 1, 1) := by decide +kernel
theorem dX4_mix_88 : decode cX4_mix 88 = .ok (.iload_n 2, 1) := by decide +kernel
theorem dX4_mix_89 : decode cX4_mix 89 = .ok (.iadd, 1) := by decide +kernel
theorem dX4_mix_90 : decode cX4_mix 90 = .ok (.iconst 1, 1) := by decide +kernel
theorem dX4_mix_91 : decode cX4_mix 91 = .ok (.iadd, 1) := by decide +kernel
theorem dX4_mix_92 : decode cX4_mix 92 = .ok (.iaload, 1) := by decide +kernel
theorem dX4_mix_93 : decode cX4_mix 93 = .ok (.iload_n 3, 1) := by decide +kernel
theorem dX4_mix_94 : decode cX4_mix 94 = .ok (.isub, 1) := by decide +kernel
theorem dX4_mix_95 : decode cX4_mix 95 = .ok (.i2l, 1) := by decide +kernel
theorem dX4_mix_96 : decode cX4_mix 96 = .ok (.lstore 12, 2) := by decide +kernel
theorem dX4_mix_98 : decode cX4_mix 98 = .ok (.iconst 3, 1) := by decide +kernel
theorem dX4_mix_99 : decode cX4_mix 99 = .ok (.istore 14, 2) := by decide +kernel
theorem dX4_mix_101 : decode cX4_mix 101 = .ok (.iload 14, 2) := by decide +kernel
theorem dX4_mix_103 : decode cX4_mix 103 = .ok (.ifCond .lt 121, 3) := by decide +kernel
theorem dX4_mix_106 : decode cX4_mix 106 = .ok (.iload 14, 2) := by decide +kernel
theorem dX4_mix_108 : decode cX4_mix 108 = .ok (.ifCond .ne 7, 3) := by decide +kernel
theorem dX4_mix_111 : decode cX4_mix 111 = .ok (.lconst 0, 1) := by decide +kernel
theorem dX4_mix_112 : decode cX4_mix 112 = .ok (.goto 16, 3) := by decide +kernel
theorem dX4_mix_115 : decode cX4_mix 115 = .ok (.aload_n 0, 1) := by decide +kernel
theorem dX4_mix_116 : decode cX4_mix 116 = .ok (.getfield 35, 3) := by decide +kernel
theorem dX4_mix_119 : decode cX4_mix 119 = .ok (.iconst 4, 1) := by decide +kernel
theorem dX4_mix_120 : decode cX4_mix 120 = .ok (.iload_n 1, 1) := by decide +kernel
theorem dX4_mix_121 : decode cX4_mix 121 = .ok (.imul, 1) := by decide +kernel
theorem dX4_mix_122 : decode cX4_mix 122 = .ok (.iload 14, 2) := by decide +kernel
theorem dX4_mix_124 : decode cX4_mix 124 = .ok (.iadd, 1) := by decide +kernel
theorem dX4_mix_125 : decode cX4_mix 125 = .ok (.iconst 1, 1) := by decide +kernel
theorem dX4_mix_126 : decode cX4_mix 126 = .ok (.isub, 1) := by decide +kernel
theorem dX4_mix_127 : decode cX4_mix 127 = .ok (.laload, 1) := by decide +kernel
theorem dX4_mix_128 : decode cX4_mix 128 = .ok (.lstore 15, 2) := by decide +kernel
theorem dX4_mix_130 : decode cX4_mix 130 = .ok (.iload 14, 2) := by decide +kernel
theorem dX4_mix_132 : decode cX4_mix 132 = .ok (.ifCond .ne 7, 3) := by decide +kernel
theorem dX4_mix_135 : decode cX4_mix 135 = .ok (.lconst 0, 1) := by decide +kernel
theorem dX4_mix_136 : decode cX4_mix 136 = .ok (.goto 18, 3) := by decide +kernel
theorem dX4_mix_139 : decode cX4_mix 139 = .ok (.aload_n 0, 1) := by decide +kernel
theorem dX4_mix_140 : decode cX4_mix 140 = .ok (.getfield 35, 3) := by decide +kernel
theorem dX4_mix_143 : decode cX4_mix 143 = .ok (.iconst 4, 1) := by decide +kernel
theorem dX4_mix_144 : decode cX4_mix 144 = .ok (.iload_n 1, 1) := by decide +kernel
theorem dX4_mix_145 : decode cX4_mix 145 = .ok (.imul, 1) := by decide +kernel
theorem dX4_mix_146 : decode cX4_mix 146 = .ok (.iconst 4, 1) := by decide +kernel
theorem dX4_mix_147 : decode cX4_mix 147 = .ok (.iadd, 1) := by decide +kernel
theorem dX4_mix_148 : decode cX4_mix 148 = .ok (.iload 14, 2) := by decide +kernel
theorem dX4_mix_150 : decode cX4_mix 150 = .ok (.iadd, 1) := by decide +kernel
theorem dX4_mix_151 : decode cX4_mix 151 = .ok (.iconst 1, 1) := by decide +kernel
theorem dX4_mix_152 : decode cX4_mix 152 = .ok (.isub, 1) := by decide +kernel
theorem dX4_mix_153 : decode cX4_mix 153 = .ok (.laload, 1) := by decide +kernel
theorem dX4_mix_154 : decode cX4_mix 154 = .ok (.lstore 17, 2) := by decide +kernel
theorem dX4_mix_156 : decode cX4_mix 156 = .ok (.lload 10, 2) := by decide +kernel
theorem dX4_mix_158 : decode cX4_mix 158 = .ok (.aload_n 0, 1) := by decide +kernel
theorem dX4_mix_159 : decode cX4_mix 159 = .ok (.getfield 35, 3) := by decide +kernel
theorem dX4_mix_162 : decode cX4_mix 162 = .ok (.iconst 4, 1) := by decide +kernel
theorem dX4_mix_163 : decode cX4_mix 163 = .ok (.iload_n 1, 1) := by decide +kernel
theorem dX4_mix_164 : decode cX4_mix 164 = .ok (.imul, 1) := by decide +kernel
theorem dX4_mix_165 : decode cX4_mix 165 = .ok (.iload 14, 2) := by decide +kernel
theorem dX4_mix_167 : decode cX4_mix 167 = .ok (.iadd, 1) := by decide +kernel
theorem dX4_mix_168 : decode cX4_mix 168 = .ok (.laload, 1) := by decide +kernel
theorem dX4_mix_169 : decode cX4_mix 169 = .ok (.lmul, 1) := by decide +kernel
theorem dX4_mix_170 : decode cX4_mix 170 = .ok (.lload 15, 2) := by decide +kernel
theorem dX4_mix_172 : decode cX4_mix 172 = .ok (.ladd, 1) := by decide +kernel
theorem dX4_mix_173 : decode cX4_mix 173 = .ok (.lstore 19, 2) := by decide +kernel
