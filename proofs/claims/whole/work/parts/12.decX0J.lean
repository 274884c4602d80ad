theorem dX0_init_0 : decode cX0_init 0 = .ok (.aload_n 0, 1) := by decide +kernel
theorem dX0_init_1 : decode cX0_init 1 = .ok (.invokespecial 3, 3) := by decide +kernel
theorem dX0_init_4 : decode cX0_init 4 = .ok (.aload_n 0, 1) := by decide +kernel
theorem dX0_init_5 : decode cX0_init 5 = .ok (.sipush 361, 3) := by decide +kernel
theorem dX0_init_8 : decode cX0_init 8 = .ok (.newarray .int, 2) := by decide +kernel
theorem dX0_init_10 : decode cX0_init 10 = .ok (.putfield 9, 3) := by decide +kernel
theorem dX0_init_13 : decode cX0_init 13 = .ok (.aload_n 0, 1) := by decide +kernel
theorem dX0_init_14 : decode cX0_init 14 = .ok (.sipush 361, 3) := by decide +kernel
theorem dX0_init_17 : decode cX0_init 17 = .ok (.newarray .int, 2) := by decide +kernel
theorem dX0_init_19 : decode cX0_init 19 = .ok (.putfield 15, 3) := by decide +kernel
theorem dX0_init_22 : decode cX0_init 22 = .ok (.aload_n 0, 1) := by decide +kernel
theorem dX0_init_23 : decode cX0_init 23 = .ok (.sipush 361, 3) := by decide +kernel
theorem dX0_init_26 : decode cX0_init 26 = .ok (.newarray .int, 2) := by decide +kernel
theorem dX0_init_28 : decode cX0_init 28 = .ok (.putfield 18, 3) := by decide +kernel
theorem dX0_init_31 : decode cX0_init 31 = .ok (.return_, 1) := by decide +kernel
theorem dX0_forget_0 : decode cX0_forget 0 = .ok (.aload_n 0, 1) := by decide +kernel
theorem dX0_forget_1 : decode cX0_forget 1 = .ok (.iconst 0, 1) := by decide +kernel
theorem dX0_forget_2 : decode cX0_forget 2 = .ok (.putfield 21, 3) := by decide +kernel
theorem dX0_forget_5 : decode cX0_forget 5 = .ok (.return_, 1) := by decide +kernel
theorem dX0_cutAll_0 : decode cX0_cutAll 0 = .ok (.aload_n 0, 1) := by decide +kernel
theorem dX0_cutAll_1 : decode cX0_cutAll 1 = .ok (.iload_n 2, 1) := by decide +kernel
theorem dX0_cutAll_2 : decode cX0_cutAll 2 = .ok (.putfield 25, 3) := by decide +kernel
theorem dX0_cutAll_5 : decode cX0_cutAll 5 = .ok (.aload_n 0, 1) := by decide +kernel
theorem dX0_cutAll_6 : decode cX0_cutAll 6 = .ok (.iload_n 3, 1) := by decide +kernel
theorem dX0_cutAll_7 : decode cX0_cutAll 7 = .ok (.putfield 28, 3) := by decide +kernel
theorem dX0_cutAll_10 : decode cX0_cutAll 10 = .ok (.aload_n 0, 1) := by decide +kernel
theorem dX0_cutAll_11 : decode cX0_cutAll 11 = .ok (.iconst 0, 1) := by decide +kernel
theorem dX0_cutAll_12 : decode cX0_cutAll 12 = .ok (.putfield 21, 3) := by decide +kernel
theorem dX0_cutAll_15 : decode cX0_cutAll 15 = .ok (.aload_n 0, 1) := by decide +kernel
theorem dX0_cutAll_16 : decode cX0_cutAll 16 = .ok (.iconst 0, 1) := by decide +kernel
theorem dX0_cutAll_17 : decode cX0_cutAll 17 = .ok (.invokevirtual 31, 3) := by decide +kernel
theorem dX0_cutAll_20 : decode cX0_cutAll 20 = .ok (.aload_n 0, 1) := by decide +kernel
theorem dX0_cutAll_21 : decode cX0_cutAll 21 = .ok (.aload_n 1, 1) := by decide +kernel
theorem dX0_cutAll_22 : decode cX0_cutAll 22 = .ok (.iconst 0, 1) := by decide +kernel
theorem dX0_cutAll_23 : decode cX0_cutAll 23 = .ok (.invokevirtual 35, 3) := by decide +kernel
theorem dX0_cutAll_26 : decode cX0_cutAll 26 = .ok (.aload_n 1, 1) := by decide +kernel
theorem dX0_cutAll_27 : decode cX0_cutAll 27 = .ok (.getfield 39, 3) := by decide +kernel
theorem dX0_cutAll_30 : decode cX0_cutAll 30 = .ok (.istore 5, 2) := by decide +kernel
theorem dX0_cutAll_32 : decode cX0_cutAll 32 = .ok (.iload 5, 2) := by decide +kernel
theorem dX0_cutAll_34 : decode cX0_cutAll 34 = .ok (.aload_n 1, 1) := by decide +kernel
theorem dX0_cutAll_35 : decode cX0_cutAll 35 = .ok (.getfield 44, 3) := by decide +kernel
theorem dX0_cutAll_38 : decode cX0_cutAll 38 = .ok (.if_icmp .ge 60, 3) := by decide +kernel
theorem dX0_cutAll_41 : decode cX0_cutAll 41 = .ok (.bipush 60, 2) := by decide +kernel
theorem dX0_cutAll_43 : decode cX0_cutAll 43 = .ok (.aload_n 1, 1) := by decide +kernel
theorem dX0_cutAll_44 : decode cX0_cutAll 44 = .ok (.getfield 47, 3) := by decide +kernel
theorem dX0_cutAll_47 : decode cX0_cutAll 47 = .ok (.iload 5, 2) := by decide +kernel
theorem dX0_cutAll_49 : decode cX0_cutAll 49 = .ok (.iaload, 1) := by decide +kernel
theorem dX0_cutAll_50 : decode cX0_cutAll 50 = .ok (.imul, 1) := by decide +kernel
theorem dX0_cutAll_51 : decode cX0_cutAll 51 = .ok (.istore 6, 2) := by decide +kernel
theorem dX0_cutAll_53 : decode cX0_cutAll 53 = .ok (.bipush 60, 2) := by decide +kernel
theorem dX0_cutAll_55 : decode cX0_cutAll 55 = .ok (.aload_n 1, 1) := by decide +kernel
theorem dX0_cutAll_56 : decode cX0_cutAll 56 = .ok (.getfield 47, 3) := by decide +kernel
theorem dX0_cutAll_59 : decode cX0_cutAll 59 = .ok (.iload 5, 2) := by decide +kernel
theorem dX0_cutAll_61 : decode cX0_cutAll 61 = .ok (.iconst 1, 1) := by decide +kernel
theorem dX0_cutAll_62 : decode cX0_cutAll 62 = .ok (.iadd, 1) := by decide +kernel
theorem dX0_cutAll_63 : decode cX0_cutAll 63 = .ok (.iaload, 1) := by decide +kernel
theorem dX0_cutAll_64 : decode cX0_cutAll 64 = .ok (.imul, 1) := by decide +kernel
theorem dX0_cutAll_65 : decode cX0_cutAll 65 = .ok (.istore 7, 2) := by decide +kernel
theorem dX0_cutAll_67 : decode cX0_cutAll 67 = .ok (.iload 6, 2) := by decide +kernel
theorem dX0_cutAll_69 : decode cX0_cutAll 69 = .ok (.iload 7, 2) := by decide +kernel
theorem dX0_cutAll_71 : decode cX0_cutAll 71 = .ok (.if_icmp .ge 21, 3) := by decide +kernel
theorem dX0_cutAll_74 : decode cX0_cutAll 74 = .ok (.aload_n 0, 1) := by decide +kernel
theorem dX0_cutAll_75 : decode cX0_cutAll 75 = .ok (.aload_n 1, 1) := by decide +kernel
theorem dX0_cutAll_76 : decode cX0_cutAll 76 = .ok (.iload 7, 2) := by decide +kernel
theorem dX0_cutAll_78 : decode cX0_cutAll 78 = .ok (.invokevirtual 35, 3) := by decide +kernel
theorem dX0_cutAll_81 : decode cX0_cutAll 81 = .ok (.aload_n 0, 1) := by decide +kernel
theorem dX0_cutAll_82 : decode cX0_cutAll 82 = .ok (.aload_n 1, 1) := by decide +kernel
theorem dX0_cutAll_83 : decode cX0_cutAll 83 = .ok (.iload 6, 2) := by decide +kernel
theorem dX0_cutAll_85 : decode cX0_cutAll 85 = .ok (.iload 7, 2) := by decide +kernel
theorem dX0_cutAll_87 : decode cX0_cutAll 87 = .ok (.iload 4, 2) := by decide +kernel
theorem dX0_cutAll_89 : decode cX0_cutAll 89 = .ok (.invokevirtual 50, 3) := by decide +kernel
theorem dX0_cutAll_92 : decode cX0_cutAll 92 = .ok (.iinc 5 1, 3) := by decide +kernel
theorem dX0_cutAll_95 : decode cX0_cutAll 95 = .ok (.goto (-63), 3) := by decide +kernel
theorem dX0_cutAll_98 : decode cX0_cutAll 98 = .ok (.aload_n 0, 1) := by decide +kernel
theorem dX0_cutAll_99 : decode cX0_cutAll 99 = .ok (.getfield 21, 3) := by decide +kernel
theorem dX0_cutAll_102 : decode cX0_cutAll 102 = .ok (.iconst 1, 1) := by decide +kernel
theorem dX0_cutAll_103 : decode cX0_cutAll 103 = .ok (.isub, 1) := by decide +kernel
theorem dX0_cutAll_104 : decode cX0_cutAll 104 = .ok (.ireturn, 1) := by decide +kernel
theorem dX0_cut_0 : decode cX0_cut 0 = .ok (.iload 4, 2) := by decide +kernel
theorem dX0_cut_2 : decode cX0_cut 2 = .ok (.ifCond .le 10, 3) := by decide +kernel
theorem dX0_cut_5 : decode cX0_cut 5 = .ok (.iload_n 3, 1) := by decide +kernel
theorem dX0_cut_6 : decode cX0_cut 6 = .ok (.iload_n 2, 1) := by decide +kernel
theorem dX0_cut_7 : decode cX0_cut 7 = .ok (.isub, 1) := by decide +kernel
theorem dX0_cut_8 : decode cX0_cut 8 = .ok (.iconst 2, 1) := by decide +kernel
theorem dX0_cut_9 : decode cX0_cut 9 = .ok (.if_icmp .ge 9, 3) := by decide +kernel
theorem dX0_cut_12 : decode cX0_cut 12 = .ok (.aload_n 0, 1) := by decide +kernel
theorem dX0_cut_13 : decode cX0_cut 13 = .ok (.iload_n 3, 1) := by decide +kernel
theorem dX0_cut_14 : decode cX0_cut 14 = .ok (.invokevirtual 31, 3) := by decide +kernel
theorem dX0_cut_17 : decode cX0_cut 17 = .ok (.return_, 1) := by decide +kernel
theorem dX0_cut_18 : decode cX0_cut 18 = .ok (.iload_n 2, 1) := by decide +kernel
theorem dX0_cut_19 : decode cX0_cut 19 = .ok (.iload_n 3, 1) := by decide +kernel
theorem dX0_cut_20 : decode cX0_cut 20 = .ok (.iadd, 1) := by decide +kernel
theorem dX0_cut_21 : decode cX0_cut 21 = .ok (.iconst 2, 1) := by decide +kernel
theorem dX0_cut_22 : decode cX0_cut 22 = .ok (.idiv, 1) := by decide +kernel
theorem dX0_cut_23 : decode cX0_cut 23 = .ok (.istore 5, 2) := by decide +kernel
theorem dX0_cut_25 : decode cX0_cut 25 = .ok (.aload_n 0, 1) := by decide +kernel
theorem dX0_cut_26 : decode cX0_cut 26 = .ok (.aload_n 1, 1) := by decide +kernel
theorem dX0_cut_27 : decode cX0_cut 27 = .ok (.iload 5, 2) := by decide +kernel
theorem dX0_cut_29 : decode cX0_cut 29 = .ok (.invokevirtual 35, 3) := by decide +kernel
theorem dX0_cut_32 : decode cX0_cut 32 = .ok (.aload_n 0, 1) := by decide +kernel
theorem dX0_cut_33 : decode cX0_cut 33 = .ok (.aload_n 0, 1) := by decide +kernel
theorem dX0_cut_34 : decode cX0_cut 34 = .ok (.getfield 15, 3) := by decide +kernel
theorem dX0_cut_37 : decode cX0_cut 37 = .ok (.iload_n 2, 1) := by decide +kernel
theorem dX0_cut_38 : decode cX0_cut 38 = .ok (.iaload, 1) := by decide +kernel
theorem dX0_cut_39 : decode cX0_cut 39 = .ok (.aload_n 0, 1) := by decide +kernel
theorem dX0_cut_40 : decode cX0_cut 40 = .ok (.getfield 15, 3) := by decide +kernel
theorem dX0_cut_43 : decode cX0_cut 43 = .ok (.iload 5, 2) := by decide +kernel
theorem dX0_cut_45 : decode cX0_cut 45 = .ok (.iaload, 1) := by decide +kernel
theorem dX0_cut_46 : decode cX0_cut 46 = .ok (.aload_n 0, 1) := by decide +kernel
theorem dX0_cut_47 : decode cX0_cut 47 = .ok (.getfield 15, 3) := by decide +kernel
theorem dX0_cut_50 : decode cX0_cut 50 = .ok (.iload_n 3, 1) := by decide +kernel
theorem dX0_cut_51 : decode cX0_cut 51 = .ok (.iaload, 1) := by decide +kernel
theorem dX0_cut_52 : decode cX0_cut 52 = .ok (.invokevirtual 54, 3) := by decide +kernel
theorem dX0_cut_55 : decode cX0_cut 55 = .ok (.ifCond .eq 35, 3) := by decide +kernel
theorem dX0_cut_58 : decode cX0_cut 58 = .ok (.aload_n 0, 1) := by decide +kernel
theorem dX0_cut_59 : decode cX0_cut 59 = .ok (.aload_n 0, 1) := by decide +kernel
theorem dX0_cut_60 : decode cX0_cut 60 = .ok (.getfield 18, 3) := by decide +kernel
theorem dX0_cut_63 : decode cX0_cut 63 = .ok (.iload_n 2, 1) := by decide +kernel
theorem dX0_cut_64 : decode cX0_cut 64 = .ok (.iaload, 1) := by decide +kernel
theorem dX0_cut_65 : decode cX0_cut 65 = .ok (.aload_n 0, 1) := by decide +kernel
theorem dX0_cut_66 : decode cX0_cut 66 = .ok (.getfield 18, 3) := by decide +kernel
theorem dX0_cut_69 : decode cX0_cut 69 = .ok (.iload 5, 2) := by decide +kernel
theorem dX0_cut_71 : decode cX0_cut 71 = .ok (.iaload, 1) := by decide +kernel
theorem dX0_cut_72 : decode cX0_cut 72 = .ok (.aload_n 0, 1) := by decide +kernel
theorem dX0_cut_73 : decode cX0_cut 73 = .ok (.getfield 18, 3) := by decide +kernel
theorem dX0_cut_76 : decode cX0_cut 76 = .ok (.iload_n 3, 1) := by decide +kernel
theorem dX0_cut_77 : decode cX0_cut 77 = .ok (.iaload, 1) := by decide +kernel
theorem dX0_cut_78 : decode cX0_cut 78 = .ok (.invokevirtual 54, 3) := by decide +kernel
theorem dX0_cut_81 : decode cX0_cut 81 = .ok (.ifCond .eq 9, 3) := by decide +kernel
theorem dX0_cut_84 : decode cX0_cut 84 = .ok (.aload_n 0, 1) := by decide +kernel
theorem dX0_cut_85 : decode cX0_cut 85 = .ok (.iload_n 3, 1) := by decide +kernel
theorem dX0_cut_86 : decode cX0_cut 86 = .ok (.invokevirtual 31, 3) := by decide +kernel
theorem dX0_cut_89 : decode cX0_cut 89 = .ok (.return_, 1) := by decide +kernel
theorem dX0_cut_90 : decode cX0_cut 90 = .ok (.aload_n 0, 1) := by decide +kernel
theorem dX0_cut_91 : decode cX0_cut 91 = .ok (.aload_n 1, 1) := by decide +kernel
theorem dX0_cut_92 : decode cX0_cut 92 = .ok (.iload_n 2, 1) := by decide +kernel
theorem dX0_cut_93 : decode cX0_cut 93 = .ok (.iload 5, 2) := by decide +kernel
theorem dX0_cut_95 : decode cX0_cut 95 = .ok (.iload 4, 2) := by decide +kernel
theorem dX0_cut_97 : decode cX0_cut 97 = .ok (.iconst 1, 1) := by decide +kernel
theorem dX0_cut_98 : decode cX0_cut 98 = .ok (.isub, 1) := by decide +kernel
theorem dX0_cut_99 : decode cX0_cut 99 = .ok (.invokevirtual 50, 3) := by decide +kernel
theorem dX0_cut_102 : decode cX0_cut 102 = .ok (.aload_n 0, 1) := by decide +kernel
theorem dX0_cut_103 : decode cX0_cut 103 = .ok (.aload_n 1, 1) := by decide +kernel
theorem dX0_cut_104 : decode cX0_cut 104 = .ok (.iload 5, 2) := by decide +kernel
theorem dX0_cut_106 : decode cX0_cut 106 = .ok (.iload_n 3, 1) := by decide +kernel
theorem dX0_cut_107 : decode cX0_cut 107 = .ok (.iload 4, 2) := by decide +kernel
theorem dX0_cut_109 : decode cX0_cut 109 = .ok (.iconst 1, 1) := by decide +kernel
theorem dX0_cut_110 : decode cX0_cut 110 = .ok (.isub, 1) := by decide +kernel
theorem dX0_cut_111 : decode cX0_cut 111 = .ok (.invokevirtual 50, 3) := by decide +kernel
theorem dX0_cut_114 : decode cX0_cut 114 = .ok (.return_, 1) := by decide +kernel
theorem dX0_isStraight_0 : decode cX0_isStraight 0 = .ok (.aload_n 0, 1) := by decide +kernel
theorem dX0_isStraight_1 : decode cX0_isStraight 1 = .ok (.getfield 25, 3) := by decide +kernel
theorem dX0_isStraight_4 : decode cX0_isStraight 4 = .ok (.ifCond .ne 13, 3) := by decide +kernel
theorem dX0_isStraight_7 : decode cX0_isStraight 7 = .ok (.iload_n 1, 1) := by decide +kernel
theorem dX0_isStraight_8 : decode cX0_isStraight 8 = .ok (.iload_n 3, 1) := by decide +kernel
theorem dX0_isStraight_9 : decode cX0_isStraight 9 = .ok (.iadd, 1) := by decide +kernel
theorem dX0_isStraight_10 : decode cX0_isStraight 10 = .ok (.iconst 2, 1) := by decide +kernel
theorem dX0_isStraight_11 : decode cX0_isStraight 11 = .ok (.iload_n 2, 1) := by decide +kernel
theorem dX0_isStraight_12 : decode cX0_isStraight 12 = .ok (.imul, 1) := by decide +kernel
theorem dX0_isStraight_13 : decode cX0_isStraight 13 = .ok (.isub, 1) := by decide +kernel
theorem dX0_isStraight_14 : decode cX0_isStraight 14 = .ok (.goto 6, 3) := by decide +kernel
theorem dX0_isStraight_17 : decode cX0_isStraight 17 = .ok (.iload_n 1, 1) := by decide +kernel
theorem dX0_isStraight_18 : decode cX0_isStraight 18 = .ok (.iload_n 3, 1) := by decide +kernel
theorem dX0_isStraight_19 : decode cX0_isStraight 19 = .ok (.isub, 1) := by decide +kernel
theorem dX0_isStraight_20 : decode cX0_isStraight 20 = .ok (.istore 4, 2) := by decide +kernel
theorem dX0_isStraight_22 : decode cX0_isStraight 22 = .ok (.iload 4, 2) := by decide +kernel
theorem dX0_isStraight_24 : decode cX0_isStraight 24 = .ok (.invokestatic 58, 3) := by decide +kernel
theorem dX0_isStraight_27 : decode cX0_isStraight 27 = .ok (.aload_n 0, 1) := by decide +kernel
theorem dX0_isStraight_28 : decode cX0_isStraight 28 = .ok (.getfield 28, 3) := by decide +kernel
theorem dX0_isStraight_31 : decode cX0_isStraight 31 = .ok (.if_icmp .gt 7, 3) := by decide +kernel
theorem dX0_isStraight_34 : decode cX0_isStraight 34 = .ok (.iconst 1, 1) := by decide +kernel
theorem dX0_isStraight_35 : decode cX0_isStraight 35 = .ok (.goto 4, 3) := by decide +kernel
theorem dX0_isStraight_38 : decode cX0_isStraight 38 = .ok (.iconst 0, 1) := by decide +kernel
theorem dX0_isStraight_39 : decode cX0_isStraight 39 = .ok (.ireturn, 1) := by decide +kernel
theorem dX0_look_0 : decode cX0_look 0 = .ok (.aload_n 1, 1) := by decide +kernel
theorem dX0_look_1 : decode cX0_look 1 = .ok (.iload_n 2, 1) := by decide +kernel
theorem dX0_look_2 : decode cX0_look 2 = .ok (.invokevirtual 64, 3) := by decide +kernel
theorem dX0_look_5 : decode cX0_look 5 = .ok (.aload_n 0, 1) := by decide +kernel
theorem dX0_look_6 : decode cX0_look 6 = .ok (.getfield 15, 3) := by decide +kernel
theorem dX0_look_9 : decode cX0_look 9 = .ok (.iload_n 2, 1) := by decide +kernel
theorem dX0_look_10 : decode cX0_look 10 = .ok (.aload_n 1, 1) := by decide +kernel
theorem dX0_look_11 : decode cX0_look 11 = .ok (.getfield 67, 3) := by decide +kernel
theorem dX0_look_14 : decode cX0_look 14 = .ok (.iastore, 1) := by decide +kernel
theorem dX0_look_15 : decode cX0_look 15 = .ok (.aload_n 0, 1) := by decide +kernel
theorem dX0_look_16 : decode cX0_look 16 = .ok (.getfield 18, 3) := by decide +kernel
theorem dX0_look_19 : decode cX0_look 19 = .ok (.iload_n 2, 1) := by decide +kernel
theorem dX0_look_20 : decode cX0_look 20 = .ok (.aload_n 1, 1) := by decide +kernel
theorem dX0_look_21 : decode cX0_look 21 = .ok (.getfield 69, 3) := by decide +kernel
theorem dX0_look_24 : decode cX0_look 24 = .ok (.iastore, 1) := by decide +kernel
theorem dX0_look_25 : decode cX0_look 25 = .ok (.return_, 1) := by decide +kernel
theorem dX0_addVertex_0 : decode cX0_addVertex 0 = .ok (.aload_n 0, 1) := by decide +kernel
theorem dX0_addVertex_1 : decode cX0_addVertex 1 = .ok (.getfield 21, 3) := by decide +kernel
theorem dX0_addVertex_4 : decode cX0_addVertex 4 = .ok (.aload_n 0, 1) := by decide +kernel
theorem dX0_addVertex_5 : decode cX0_addVertex 5 = .ok (.getfield 9, 3) := by decide +kernel
theorem dX0_addVertex_8 : decode cX0_addVertex 8 = .ok (.arraylength, 1) := by decide +kernel
theorem dX0_addVertex_9 : decode cX0_addVertex 9 = .ok (.if_icmp .ge 23, 3) := by decide +kernel
theorem dX0_addVertex_12 : decode cX0_addVertex 12 = .ok (.aload_n 0, 1) := by decide +kernel
theorem dX0_addVertex_13 : decode cX0_addVertex 13 = .ok (.getfield 9, 3) := by decide +kernel
theorem dX0_addVertex_16 : decode cX0_addVertex 16 = .ok (.aload_n 0, 1) := by decide +kernel
theorem dX0_addVertex_17 : decode cX0_addVertex 17 = .ok (.getfield 21, 3) := by decide +kernel
theorem dX0_addVertex_20 : decode cX0_addVertex 20 = .ok (.iload_n 1, 1) := by decide +kernel
theorem dX0_addVertex_21 : decode cX0_addVertex 21 = .ok (.iastore, 1) := by decide +kernel
theorem dX0_addVertex_22 : decode cX0_addVertex 22 = .ok (.aload_n 0, 1) := by decide +kernel
theorem dX0_addVertex_23 : decode cX0_addVertex 23 = .ok (.dup, 1) := by decide +kernel
theorem dX0_addVertex_24 : decode cX0_addVertex 24 = .ok (.getfield 21, 3) := by decide +kernel
theorem dX0_addVertex_27 : decode cX0_addVertex 27 = .ok (.iconst 1, 1) := by decide +kernel
theorem dX0_addVertex_28 : decode cX0_addVertex 28 = .ok (.iadd, 1) := by decide +kernel
theorem dX0_addVertex_29 : decode cX0_addVertex 29 = .ok (.putfield 21, 3) := by decide +kernel
theorem dX0_addVertex_32 : decode cX0_addVertex 32 = .ok (.return_, 1) := by decide +kernel
theorem dJ_floorDiv_0 : decode cJ_floorDiv 0 = .ok (.lload_n 0, 1) := by decide +kernel
theorem dJ_floorDiv_1 : decode cJ_floorDiv 1 = .ok (.lload_n 2, 1) := by decide +kernel
theorem dJ_floorDiv_2 : decode cJ_floorDiv 2 = .ok (.ldiv, 1) := by decide +kernel
theorem dJ_floorDiv_3 : decode cJ_floorDiv 3 = .ok (.lstore 4, 2) := by decide +kernel
theorem dJ_floorDiv_5 : decode cJ_floorDiv 5 = .ok (.lload_n 0, 1) := by decide +kernel
theorem dJ_floorDiv_6 : decode cJ_floorDiv 6 = .ok (.lload_n 2, 1) := by decide +kernel
theorem dJ_floorDiv_7 : decode cJ_floorDiv 7 = .ok (.lxor, 1) := by decide +kernel
theorem dJ_floorDiv_8 : decode cJ_floorDiv 8 = .ok (.lconst 0, 1) := by decide +kernel
theorem dJ_floorDiv_9 : decode cJ_floorDiv 9 = .ok (.lcmp, 1) := by decide +kernel
theorem dJ_floorDiv_10 : decode cJ_floorDiv 10 = .ok (.ifCond .ge 17, 3) := by decide +kernel
theorem dJ_floorDiv_13 : decode cJ_floorDiv 13 = .ok (.lload 4, 2) := by decide +kernel
theorem dJ_floorDiv_15 : decode cJ_floorDiv 15 = .ok (.lload_n 2, 1) := by decide +kernel
theorem dJ_floorDiv_16 : decode cJ_floorDiv 16 = .ok (.lmul, 1) := by decide +kernel
theorem dJ_floorDiv_17 : decode cJ_floorDiv 17 = .ok (.lload_n 0, 1) := by decide +kernel
theorem dJ_floorDiv_18 : decode cJ_floorDiv 18 = .ok (.lcmp, 1) := by decide +kernel
theorem dJ_floorDiv_19 : decode cJ_floorDiv 19 = .ok (.ifCond .eq 8, 3) := by decide +kernel
theorem dJ_floorDiv_22 : decode cJ_floorDiv 22 = .ok (.lload 4, 2) := by decide +kernel
theorem dJ_floorDiv_24 : decode cJ_floorDiv 24 = .ok (.lconst 1, 1) := by decide +kernel
theorem dJ_floorDiv_25 : decode cJ_floorDiv 25 = .ok (.lsub, 1) := by decide +kernel
theorem dJ_floorDiv_26 : decode cJ_floorDiv 26 = .ok (.lreturn, 1) := by decide +kernel
theorem dJ_floorDiv_27 : decode cJ_floorDiv 27 = .ok (.lload 4, 2) := by decide +kernel
theorem dJ_floorDiv_29 : decode cJ_floorDiv 29 = .ok (.lreturn, 1) := by decide +kernel
