theorem dX1_turnInto_71 : decode cX1_turnInto 71 = .ok (.aload_n 1, 1) := by decide +kernel
theorem dX1_turnInto_72 : decode cX1_turnInto 72 = .ok (.getfield 17, 3) := by decide +kernel
theorem dX1_turnInto_75 : decode cX1_turnInto 75 = .ok (.iload_n 2, 1) := by decide +kernel
theorem dX1_turnInto_76 : decode cX1_turnInto 76 = .ok (.aaload, 1) := by decide +kernel
theorem dX1_turnInto_77 : decode cX1_turnInto 77 = .ok (.iload_n 3, 1) := by decide +kernel
theorem dX1_turnInto_78 : decode cX1_turnInto 78 = .ok (.aload_n 0, 1) := by decide +kernel
theorem dX1_turnInto_79 : decode cX1_turnInto 79 = .ok (.getfield 17, 3) := by decide +kernel
theorem dX1_turnInto_82 : decode cX1_turnInto 82 = .ok (.iload_n 2, 1) := by decide +kernel
theorem dX1_turnInto_83 : decode cX1_turnInto 83 = .ok (.aaload, 1) := by decide +kernel
theorem dX1_turnInto_84 : decode cX1_turnInto 84 = .ok (.aload_n 0, 1) := by decide +kernel
theorem dX1_turnInto_85 : decode cX1_turnInto 85 = .ok (.getfield 31, 3) := by decide +kernel
theorem dX1_turnInto_88 : decode cX1_turnInto 88 = .ok (.iconst 1, 1) := by decide +kernel
theorem dX1_turnInto_89 : decode cX1_turnInto 89 = .ok (.isub, 1) := by decide +kernel
theorem dX1_turnInto_90 : decode cX1_turnInto 90 = .ok (.iload_n 3, 1) := by decide +kernel
theorem dX1_turnInto_91 : decode cX1_turnInto 91 = .ok (.isub, 1) := by decide +kernel
theorem dX1_turnInto_92 : decode cX1_turnInto 92 = .ok (.laload, 1) := by decide +kernel
theorem dX1_turnInto_93 : decode cX1_turnInto 93 = .ok (.lastore, 1) := by decide +kernel
theorem dX1_turnInto_94 : decode cX1_turnInto 94 = .ok (.iinc 3 1, 3) := by decide +kernel
theorem dX1_turnInto_97 : decode cX1_turnInto 97 = .ok (.goto (-34), 3) := by decide +kernel
theorem dX1_turnInto_100 : decode cX1_turnInto 100 = .ok (.iinc 2 1, 3) := by decide +kernel
theorem dX1_turnInto_103 : decode cX1_turnInto 103 = .ok (.goto (-47), 3) := by decide +kernel
theorem dX1_turnInto_106 : decode cX1_turnInto 106 = .ok (.return_, 1) := by decide +kernel
theorem dX1_basisOf_0 : decode cX1_basisOf 0 = .ok (.aload_n 0, 1) := by decide +kernel
theorem dX1_basisOf_1 : decode cX1_basisOf 1 = .ok (.iload_n 2, 1) := by decide +kernel
theorem dX1_basisOf_2 : decode cX1_basisOf 2 = .ok (.invokevirtual 50, 3) := by decide +kernel
theorem dX1_basisOf_5 : decode cX1_basisOf 5 = .ok (.istore_n 3, 1) := by decide +kernel
theorem dX1_basisOf_6 : decode cX1_basisOf 6 = .ok (.iconst 0, 1) := by decide +kernel
theorem dX1_basisOf_7 : decode cX1_basisOf 7 = .ok (.istore 4, 2) := by decide +kernel
theorem dX1_basisOf_9 : decode cX1_basisOf 9 = .ok (.iload 4, 2) := by decide +kernel
theorem dX1_basisOf_11 : decode cX1_basisOf 11 = .ok (.aload_n 0, 1) := by decide +kernel
theorem dX1_basisOf_12 : decode cX1_basisOf 12 = .ok (.getfield 27, 3) := by decide +kernel
theorem dX1_basisOf_15 : decode cX1_basisOf 15 = .ok (.if_icmp .gt 29, 3) := by decide +kernel
theorem dX1_basisOf_18 : decode cX1_basisOf 18 = .ok (.aload_n 0, 1) := by decide +kernel
theorem dX1_basisOf_19 : decode cX1_basisOf 19 = .ok (.getfield 23, 3) := by decide +kernel
theorem dX1_basisOf_22 : decode cX1_basisOf 22 = .ok (.iload 4, 2) := by decide +kernel
theorem dX1_basisOf_24 : decode cX1_basisOf 24 = .ok (.iload_n 1, 1) := by decide +kernel
theorem dX1_basisOf_25 : decode cX1_basisOf 25 = .ok (.iload 4, 2) := by decide +kernel
theorem dX1_basisOf_27 : decode cX1_basisOf 27 = .ok (.iadd, 1) := by decide +kernel
theorem dX1_basisOf_28 : decode cX1_basisOf 28 = .ok (.iload_n 3, 1) := by decide +kernel
theorem dX1_basisOf_29 : decode cX1_basisOf 29 = .ok (.if_icmp .ne 7, 3) := by decide +kernel
theorem dX1_basisOf_32 : decode cX1_basisOf 32 = .ok (.lconst 1, 1) := by decide +kernel
theorem dX1_basisOf_33 : decode cX1_basisOf 33 = .ok (.goto 4, 3) := by decide +kernel
theorem dX1_basisOf_36 : decode cX1_basisOf 36 = .ok (.lconst 0, 1) := by decide +kernel
theorem dX1_basisOf_37 : decode cX1_basisOf 37 = .ok (.lastore, 1) := by decide +kernel
theorem dX1_basisOf_38 : decode cX1_basisOf 38 = .ok (.iinc 4 1, 3) := by decide +kernel
theorem dX1_basisOf_41 : decode cX1_basisOf 41 = .ok (.goto (-32), 3) := by decide +kernel
theorem dX1_basisOf_44 : decode cX1_basisOf 44 = .ok (.iconst 1, 1) := by decide +kernel
theorem dX1_basisOf_45 : decode cX1_basisOf 45 = .ok (.istore 4, 2) := by decide +kernel
theorem dX1_basisOf_47 : decode cX1_basisOf 47 = .ok (.iload 4, 2) := by decide +kernel
theorem dX1_basisOf_49 : decode cX1_basisOf 49 = .ok (.aload_n 0, 1) := by decide +kernel
theorem dX1_basisOf_50 : decode cX1_basisOf 50 = .ok (.getfield 27, 3) := by decide +kernel
theorem dX1_basisOf_53 : decode cX1_basisOf 53 = .ok (.if_icmp .gt 136, 3) := by decide +kernel
theorem dX1_basisOf_56 : decode cX1_basisOf 56 = .ok (.iconst 0, 1) := by decide +kernel
theorem dX1_basisOf_57 : decode cX1_basisOf 57 = .ok (.istore 5, 2) := by decide +kernel
theorem dX1_basisOf_59 : decode cX1_basisOf 59 = .ok (.iload 5, 2) := by decide +kernel
theorem dX1_basisOf_61 : decode cX1_basisOf 61 = .ok (.aload_n 0, 1) := by decide +kernel
theorem dX1_basisOf_62 : decode cX1_basisOf 62 = .ok (.getfield 27, 3) := by decide +kernel
theorem dX1_basisOf_65 : decode cX1_basisOf 65 = .ok (.iload 4, 2) := by decide +kernel
theorem dX1_basisOf_67 : decode cX1_basisOf 67 = .ok (.isub, 1) := by decide +kernel
theorem dX1_basisOf_68 : decode cX1_basisOf 68 = .ok (.if_icmp .gt 115, 3) := by decide +kernel
theorem dX1_basisOf_71 : decode cX1_basisOf 71 = .ok (.iload_n 1, 1) := by decide +kernel
theorem dX1_basisOf_72 : decode cX1_basisOf 72 = .ok (.iload 5, 2) := by decide +kernel
theorem dX1_basisOf_74 : decode cX1_basisOf 74 = .ok (.iadd, 1) := by decide +kernel
theorem dX1_basisOf_75 : decode cX1_basisOf 75 = .ok (.istore 6, 2) := by decide +kernel
theorem dX1_basisOf_77 : decode cX1_basisOf 77 = .ok (.iload 6, 2) := by decide +kernel
theorem dX1_basisOf_79 : decode cX1_basisOf 79 = .ok (.iload 4, 2) := by decide +kernel
theorem dX1_basisOf_81 : decode cX1_basisOf 81 = .ok (.iadd, 1) := by decide +kernel
theorem dX1_basisOf_82 : decode cX1_basisOf 82 = .ok (.iconst 1, 1) := by decide +kernel
theorem dX1_basisOf_83 : decode cX1_basisOf 83 = .ok (.iadd, 1) := by decide +kernel
theorem dX1_basisOf_84 : decode cX1_basisOf 84 = .ok (.istore 7, 2) := by decide +kernel
theorem dX1_basisOf_86 : decode cX1_basisOf 86 = .ok (.aload_n 0, 1) := by decide +kernel
theorem dX1_basisOf_87 : decode cX1_basisOf 87 = .ok (.getfield 23, 3) := by decide +kernel
theorem dX1_basisOf_90 : decode cX1_basisOf 90 = .ok (.iload 5, 2) := by decide +kernel
theorem dX1_basisOf_92 : decode cX1_basisOf 92 = .ok (.iload_n 2, 1) := by decide +kernel
theorem dX1_basisOf_93 : decode cX1_basisOf 93 = .ok (.bipush 60, 2) := by decide +kernel
theorem dX1_basisOf_95 : decode cX1_basisOf 95 = .ok (.aload_n 0, 1) := by decide +kernel
theorem dX1_basisOf_96 : decode cX1_basisOf 96 = .ok (.getfield 9, 3) := by decide +kernel
theorem dX1_basisOf_99 : decode cX1_basisOf 99 = .ok (.iload 6, 2) := by decide +kernel
theorem dX1_basisOf_101 : decode cX1_basisOf 101 = .ok (.iaload, 1) := by decide +kernel
theorem dX1_basisOf_102 : decode cX1_basisOf 102 = .ok (.imul, 1) := by decide +kernel
theorem dX1_basisOf_103 : decode cX1_basisOf 103 = .ok (.isub, 1) := by decide +kernel
theorem dX1_basisOf_104 : decode cX1_basisOf 104 = .ok (.aload_n 0, 1) := by decide +kernel
theorem dX1_basisOf_105 : decode cX1_basisOf 105 = .ok (.getfield 9, 3) := by decide +kernel
theorem dX1_basisOf_108 : decode cX1_basisOf 108 = .ok (.iload 6, 2) := by decide +kernel
theorem dX1_basisOf_110 : decode cX1_basisOf 110 = .ok (.iload 4, 2) := by decide +kernel
theorem dX1_basisOf_112 : decode cX1_basisOf 112 = .ok (.iadd, 1) := by decide +kernel
theorem dX1_basisOf_113 : decode cX1_basisOf 113 = .ok (.iaload, 1) := by decide +kernel
theorem dX1_basisOf_114 : decode cX1_basisOf 114 = .ok (.aload_n 0, 1) := by decide +kernel
theorem dX1_basisOf_115 : decode cX1_basisOf 115 = .ok (.getfield 9, 3) := by decide +kernel
theorem dX1_basisOf_118 : decode cX1_basisOf 118 = .ok (.iload 6, 2) := by decide +kernel
theorem dX1_basisOf_120 : decode cX1_basisOf 120 = .ok (.iaload, 1) := by decide +kernel
theorem dX1_basisOf_121 : decode cX1_basisOf 121 = .ok (.isub, 1) := by decide +kernel
theorem dX1_basisOf_122 : decode cX1_basisOf 122 = .ok (.invokestatic 85, 3) := by decide +kernel
theorem dX1_basisOf_125 : decode cX1_basisOf 125 = .ok (.aload_n 0, 1) := by decide +kernel
theorem dX1_basisOf_126 : decode cX1_basisOf 126 = .ok (.getfield 23, 3) := by decide +kernel
theorem dX1_basisOf_129 : decode cX1_basisOf 129 = .ok (.iload 5, 2) := by decide +kernel
theorem dX1_basisOf_131 : decode cX1_basisOf 131 = .ok (.laload, 1) := by decide +kernel
theorem dX1_basisOf_132 : decode cX1_basisOf 132 = .ok (.lmul, 1) := by decide +kernel
theorem dX1_basisOf_133 : decode cX1_basisOf 133 = .ok (.bipush 60, 2) := by decide +kernel
theorem dX1_basisOf_135 : decode cX1_basisOf 135 = .ok (.aload_n 0, 1) := by decide +kernel
theorem dX1_basisOf_136 : decode cX1_basisOf 136 = .ok (.getfield 9, 3) := by decide +kernel
theorem dX1_basisOf_139 : decode cX1_basisOf 139 = .ok (.iload 7, 2) := by decide +kernel
theorem dX1_basisOf_141 : decode cX1_basisOf 141 = .ok (.iaload, 1) := by decide +kernel
theorem dX1_basisOf_142 : decode cX1_basisOf 142 = .ok (.imul, 1) := by decide +kernel
theorem dX1_basisOf_143 : decode cX1_basisOf 143 = .ok (.iload_n 2, 1) := by decide +kernel
theorem dX1_basisOf_144 : decode cX1_basisOf 144 = .ok (.isub, 1) := by decide +kernel
theorem dX1_basisOf_145 : decode cX1_basisOf 145 = .ok (.aload_n 0, 1) := by decide +kernel
theorem dX1_basisOf_146 : decode cX1_basisOf 146 = .ok (.getfield 9, 3) := by decide +kernel
theorem dX1_basisOf_149 : decode cX1_basisOf 149 = .ok (.iload 7, 2) := by decide +kernel
theorem dX1_basisOf_151 : decode cX1_basisOf 151 = .ok (.iaload, 1) := by decide +kernel
theorem dX1_basisOf_152 : decode cX1_basisOf 152 = .ok (.aload_n 0, 1) := by decide +kernel
theorem dX1_basisOf_153 : decode cX1_basisOf 153 = .ok (.getfield 9, 3) := by decide +kernel
theorem dX1_basisOf_156 : decode cX1_basisOf 156 = .ok (.iload 6, 2) := by decide +kernel
theorem dX1_basisOf_158 : decode cX1_basisOf 158 = .ok (.iconst 1, 1) := by decide +kernel
theorem dX1_basisOf_159 : decode cX1_basisOf 159 = .ok (.iadd, 1) := by decide +kernel
theorem dX1_basisOf_160 : decode cX1_basisOf 160 = .ok (.iaload, 1) := by decide +kernel
theorem dX1_basisOf_161 : decode cX1_basisOf 161 = .ok (.isub, 1) := by decide +kernel
theorem dX1_basisOf_162 : decode cX1_basisOf 162 = .ok (.invokestatic 85, 3) := by decide +kernel
theorem dX1_basisOf_165 : decode cX1_basisOf 165 = .ok (.aload_n 0, 1) := by decide +kernel
theorem dX1_basisOf_166 : decode cX1_basisOf 166 = .ok (.getfield 23, 3) := by decide +kernel
theorem dX1_basisOf_169 : decode cX1_basisOf 169 = .ok (.iload 5, 2) := by decide +kernel
theorem dX1_basisOf_171 : decode cX1_basisOf 171 = .ok (.iconst 1, 1) := by decide +kernel
theorem dX1_basisOf_172 : decode cX1_basisOf 172 = .ok (.iadd, 1) := by decide +kernel
theorem dX1_basisOf_173 : decode cX1_basisOf 173 = .ok (.laload, 1) := by decide +kernel
theorem dX1_basisOf_174 : decode cX1_basisOf 174 = .ok (.lmul, 1) := by decide +kernel
theorem dX1_basisOf_175 : decode cX1_basisOf 175 = .ok (.ladd, 1) := by decide +kernel
theorem dX1_basisOf_176 : decode cX1_basisOf 176 = .ok (.lastore, 1) := by decide +kernel
theorem dX1_basisOf_177 : decode cX1_basisOf 177 = .ok (.iinc 5 1, 3) := by decide +kernel
theorem dX1_basisOf_180 : decode cX1_basisOf 180 = .ok (.goto (-121), 3) := by decide +kernel
theorem dX1_basisOf_183 : decode cX1_basisOf 183 = .ok (.iinc 4 1, 3) := by decide +kernel
theorem dX1_basisOf_186 : decode cX1_basisOf 186 = .ok (.goto (-139), 3) := by decide +kernel
theorem dX1_basisOf_189 : decode cX1_basisOf 189 = .ok (.aload_n 0, 1) := by decide +kernel
theorem dX1_basisOf_190 : decode cX1_basisOf 190 = .ok (.getfield 23, 3) := by decide +kernel
theorem dX1_basisOf_193 : decode cX1_basisOf 193 = .ok (.iconst 0, 1) := by decide +kernel
theorem dX1_basisOf_194 : decode cX1_basisOf 194 = .ok (.laload, 1) := by decide +kernel
theorem dX1_basisOf_195 : decode cX1_basisOf 195 = .ok (.lstore 4, 2) := by decide +kernel
theorem dX1_basisOf_197 : decode cX1_basisOf 197 = .ok (.aload_n 0, 1) := by decide +kernel
theorem dX1_basisOf_198 : decode cX1_basisOf 198 = .ok (.getfield 27, 3) := by decide +kernel
theorem dX1_basisOf_201 : decode cX1_basisOf 201 = .ok (.istore 6, 2) := by decide +kernel
theorem dX1_basisOf_203 : decode cX1_basisOf 203 = .ok (.iload 6, 2) := by decide +kernel
theorem dX1_basisOf_205 : decode cX1_basisOf 205 = .ok (.iconst 3, 1) := by decide +kernel
theorem dX1_basisOf_206 : decode cX1_basisOf 206 = .ok (.if_icmp .ge 17, 3) := by decide +kernel
theorem dX1_basisOf_209 : decode cX1_basisOf 209 = .ok (.lload 4, 2) := by decide +kernel
theorem dX1_basisOf_211 : decode cX1_basisOf 211 = .ok (.ldc2_w 83, 3) := by decide +kernel
theorem dX1_basisOf_214 : decode cX1_basisOf 214 = .ok (.lmul, 1) := by decide +kernel
theorem dX1_basisOf_215 : decode cX1_basisOf 215 = .ok (.lstore 4, 2) := by decide +kernel
theorem dX1_basisOf_217 : decode cX1_basisOf 217 = .ok (.iinc 6 1, 3) := by decide +kernel
theorem dX1_basisOf_220 : decode cX1_basisOf 220 = .ok (.goto (-17), 3) := by decide +kernel
theorem dX1_basisOf_223 : decode cX1_basisOf 223 = .ok (.lload 4, 2) := by decide +kernel
theorem dX1_basisOf_225 : decode cX1_basisOf 225 = .ok (.lreturn, 1) := by decide +kernel
theorem dX1_factor_0 : decode cX1_factor 0 = .ok (.iload_n 1, 1) := by decide +kernel
theorem dX1_factor_1 : decode cX1_factor 1 = .ok (.ifCond .ne 7, 3) := by decide +kernel
theorem dX1_factor_4 : decode cX1_factor 4 = .ok (.lconst 0, 1) := by decide +kernel
theorem dX1_factor_5 : decode cX1_factor 5 = .ok (.goto 11, 3) := by decide +kernel
theorem dX1_factor_8 : decode cX1_factor 8 = .ok (.iload_n 0, 1) := by decide +kernel
theorem dX1_factor_9 : decode cX1_factor 9 = .ok (.i2l, 1) := by decide +kernel
theorem dX1_factor_10 : decode cX1_factor 10 = .ok (.bipush 60, 2) := by decide +kernel
theorem dX1_factor_12 : decode cX1_factor 12 = .ok (.iload_n 1, 1) := by decide +kernel
theorem dX1_factor_13 : decode cX1_factor 13 = .ok (.idiv, 1) := by decide +kernel
theorem dX1_factor_14 : decode cX1_factor 14 = .ok (.i2l, 1) := by decide +kernel
theorem dX1_factor_15 : decode cX1_factor 15 = .ok (.lmul, 1) := by decide +kernel
theorem dX1_factor_16 : decode cX1_factor 16 = .ok (.lreturn, 1) := by decide +kernel
theorem dX1_goTo_0 : decode cX1_goTo 0 = .ok (.aload_n 0, 1) := by decide +kernel
theorem dX1_goTo_1 : decode cX1_goTo 1 = .ok (.iload_n 1, 1) := by decide +kernel
theorem dX1_goTo_2 : decode cX1_goTo 2 = .ok (.invokevirtual 50, 3) := by decide +kernel
theorem dX1_goTo_5 : decode cX1_goTo 5 = .ok (.istore_n 2, 1) := by decide +kernel
theorem dX1_goTo_6 : decode cX1_goTo 6 = .ok (.iconst 0, 1) := by decide +kernel
theorem dX1_goTo_7 : decode cX1_goTo 7 = .ok (.istore_n 3, 1) := by decide +kernel
theorem dX1_goTo_8 : decode cX1_goTo 8 = .ok (.iload_n 3, 1) := by decide +kernel
theorem dX1_goTo_9 : decode cX1_goTo 9 = .ok (.aload_n 0, 1) := by decide +kernel
theorem dX1_goTo_10 : decode cX1_goTo 10 = .ok (.getfield 27, 3) := by decide +kernel
theorem dX1_goTo_13 : decode cX1_goTo 13 = .ok (.if_icmp .ge 16, 3) := by decide +kernel
theorem dX1_goTo_16 : decode cX1_goTo 16 = .ok (.aload_n 0, 1) := by decide +kernel
theorem dX1_goTo_17 : decode cX1_goTo 17 = .ok (.getfield 20, 3) := by decide +kernel
theorem dX1_goTo_20 : decode cX1_goTo 20 = .ok (.iload_n 3, 1) := by decide +kernel
theorem dX1_goTo_21 : decode cX1_goTo 21 = .ok (.iload_n 1, 1) := by decide +kernel
theorem dX1_goTo_22 : decode cX1_goTo 22 = .ok (.iastore, 1) := by decide +kernel
theorem dX1_goTo_23 : decode cX1_goTo 23 = .ok (.iinc 3 1, 3) := by decide +kernel
theorem dX1_goTo_26 : decode cX1_goTo 26 = .ok (.goto (-18), 3) := by decide +kernel
theorem dX1_goTo_29 : decode cX1_goTo 29 = .ok (.aload_n 0, 1) := by decide +kernel
theorem dX1_goTo_30 : decode cX1_goTo 30 = .ok (.iconst 2, 1) := by decide +kernel
theorem dX1_goTo_31 : decode cX1_goTo 31 = .ok (.iload_n 2, 1) := by decide +kernel
theorem dX1_goTo_32 : decode cX1_goTo 32 = .ok (.invokevirtual 80, 3) := by decide +kernel
theorem dX1_goTo_35 : decode cX1_goTo 35 = .ok (.lstore_n 3, 1) := by decide +kernel
theorem dX1_goTo_36 : decode cX1_goTo 36 = .ok (.aload_n 0, 1) := by decide +kernel
theorem dX1_goTo_37 : decode cX1_goTo 37 = .ok (.aload_n 0, 1) := by decide +kernel
theorem dX1_goTo_38 : decode cX1_goTo 38 = .ok (.iconst 0, 1) := by decide +kernel
theorem dX1_goTo_39 : decode cX1_goTo 39 = .ok (.iload_n 2, 1) := by decide +kernel
theorem dX1_goTo_40 : decode cX1_goTo 40 = .ok (.invokevirtual 80, 3) := by decide +kernel
theorem dX1_goTo_43 : decode cX1_goTo 43 = .ok (.lload_n 3, 1) := by decide +kernel
theorem dX1_goTo_44 : decode cX1_goTo 44 = .ok (.invokestatic 88, 3) := by decide +kernel
theorem dX1_goTo_47 : decode cX1_goTo 47 = .ok (.putfield 92, 3) := by decide +kernel
theorem dX1_goTo_50 : decode cX1_goTo 50 = .ok (.aload_n 0, 1) := by decide +kernel
theorem dX1_goTo_51 : decode cX1_goTo 51 = .ok (.aload_n 0, 1) := by decide +kernel
theorem dX1_goTo_52 : decode cX1_goTo 52 = .ok (.iconst 1, 1) := by decide +kernel
theorem dX1_goTo_53 : decode cX1_goTo 53 = .ok (.iload_n 2, 1) := by decide +kernel
theorem dX1_goTo_54 : decode cX1_goTo 54 = .ok (.invokevirtual 80, 3) := by decide +kernel
theorem dX1_goTo_57 : decode cX1_goTo 57 = .ok (.lload_n 3, 1) := by decide +kernel
theorem dX1_goTo_58 : decode cX1_goTo 58 = .ok (.invokestatic 88, 3) := by decide +kernel
theorem dX1_goTo_61 : decode cX1_goTo 61 = .ok (.putfield 95, 3) := by decide +kernel
theorem dX1_goTo_64 : decode cX1_goTo 64 = .ok (.return_, 1) := by decide +kernel
theorem dX1_thousandths_0 : decode cX1_thousandths 0 = .ok (.lload_n 2, 1) := by decide +kernel
theorem dX1_thousandths_1 : decode cX1_thousandths 1 = .ok (.lconst 0, 1) := by decide +kernel
theorem dX1_thousandths_2 : decode cX1_thousandths 2 = .ok (.lcmp, 1) := by decide +kernel
theorem dX1_thousandths_3 : decode cX1_thousandths 3 = .ok (.ifCond .ne 7, 3) := by decide +kernel
theorem dX1_thousandths_6 : decode cX1_thousandths 6 = .ok (.iconst 0, 1) := by decide +kernel
theorem dX1_thousandths_7 : decode cX1_thousandths 7 = .ok (.goto 13, 3) := by decide +kernel
theorem dX1_thousandths_10 : decode cX1_thousandths 10 = .ok (.ldc2_w 98, 3) := by decide +kernel
theorem dX1_thousandths_13 : decode cX1_thousandths 13 = .ok (.lload_n 0, 1) := by decide +kernel
theorem dX1_thousandths_14 : decode cX1_thousandths 14 = .ok (.lmul, 1) := by decide +kernel
theorem dX1_thousandths_15 : decode cX1_thousandths 15 = .ok (.lload_n 2, 1) := by decide +kernel
theorem dX1_thousandths_16 : decode cX1_thousandths 16 = .ok (.invokestatic 100, 3) := by decide +kernel
theorem dX1_thousandths_19 : decode cX1_thousandths 19 = .ok (.l2i, 1) := by decide +kernel
theorem dX1_thousandths_20 : decode cX1_thousandths 20 = .ok (.ireturn, 1) := by decide +kernel
theorem dX1_blossom_0 : decode cX1_blossom 0 = .ok (.iconst 0, 1) := by decide +kernel
theorem dX1_blossom_1 : decode cX1_blossom 1 = .ok (.istore_n 3, 1) := by decide +kernel
theorem dX1_blossom_2 : decode cX1_blossom 2 = .ok (.iload_n 3, 1) := by decide +kernel
theorem dX1_blossom_3 : decode cX1_blossom 3 = .ok (.aload_n 0, 1) := by decide +kernel
theorem dX1_blossom_4 : decode cX1_blossom 4 = .ok (.getfield 27, 3) := by decide +kernel
theorem dX1_blossom_7 : decode cX1_blossom 7 = .ok (.if_icmp .gt 28, 3) := by decide +kernel
theorem dX1_blossom_10 : decode cX1_blossom 10 = .ok (.aload_n 0, 1) := by decide +kernel
theorem dX1_blossom_11 : decode cX1_blossom 11 = .ok (.getfield 23, 3) := by decide +kernel
theorem dX1_blossom_14 : decode cX1_blossom 14 = .ok (.iload_n 3, 1) := by decide +kernel
theorem dX1_blossom_15 : decode cX1_blossom 15 = .ok (.aload_n 0, 1) := by decide +kernel
theorem dX1_blossom_16 : decode cX1_blossom 16 = .ok (.iload_n 1, 1) := by decide +kernel
theorem dX1_blossom_17 : decode cX1_blossom 17 = .ok (.iload_n 2, 1) := by decide +kernel
theorem dX1_blossom_18 : decode cX1_blossom 18 = .ok (.aload_n 0, 1) := by decide +kernel
theorem dX1_blossom_19 : decode cX1_blossom 19 = .ok (.getfield 27, 3) := by decide +kernel
theorem dX1_blossom_22 : decode cX1_blossom 22 = .ok (.isub, 1) := by decide +kernel
theorem dX1_blossom_23 : decode cX1_blossom 23 = .ok (.iload_n 3, 1) := by decide +kernel
theorem dX1_blossom_24 : decode cX1_blossom 24 = .ok (.iadd, 1) := by decide +kernel
theorem dX1_blossom_25 : decode cX1_blossom 25 = .ok (.invokevirtual 43, 3) := by decide +kernel
theorem dX1_blossom_28 : decode cX1_blossom 28 = .ok (.lastore, 1) := by decide +kernel
theorem dX1_blossom_29 : decode cX1_blossom 29 = .ok (.iinc 3 1, 3) := by decide +kernel
theorem dX1_blossom_32 : decode cX1_blossom 32 = .ok (.goto (-30), 3) := by decide +kernel
theorem dX1_blossom_35 : decode cX1_blossom 35 = .ok (.iconst 1, 1) := by decide +kernel
theorem dX1_blossom_36 : decode cX1_blossom 36 = .ok (.istore_n 3, 1) := by decide +kernel
theorem dX1_blossom_37 : decode cX1_blossom 37 = .ok (.iload_n 3, 1) := by decide +kernel
theorem dX1_blossom_38 : decode cX1_blossom 38 = .ok (.aload_n 0, 1) := by decide +kernel
theorem dX1_blossom_39 : decode cX1_blossom 39 = .ok (.getfield 27, 3) := by decide +kernel
theorem dX1_blossom_42 : decode cX1_blossom 42 = .ok (.if_icmp .gt 121, 3) := by decide +kernel
theorem dX1_blossom_45 : decode cX1_blossom 45 = .ok (.aload_n 0, 1) := by decide +kernel
theorem dX1_blossom_46 : decode cX1_blossom 46 = .ok (.getfield 20, 3) := by decide +kernel
theorem dX1_blossom_49 : decode cX1_blossom 49 = .ok (.iload_n 3, 1) := by decide +kernel
theorem dX1_blossom_50 : decode cX1_blossom 50 = .ok (.iconst 1, 1) := by decide +kernel
theorem dX1_blossom_51 : decode cX1_blossom 51 = .ok (.isub, 1) := by decide +kernel
theorem dX1_blossom_52 : decode cX1_blossom 52 = .ok (.iaload, 1) := by decide +kernel
theorem dX1_blossom_53 : decode cX1_blossom 53 = .ok (.istore 4, 2) := by decide +kernel
theorem dX1_blossom_55 : decode cX1_blossom 55 = .ok (.aload_n 0, 1) := by decide +kernel
theorem dX1_blossom_56 : decode cX1_blossom 56 = .ok (.getfield 27, 3) := by decide +kernel
theorem dX1_blossom_59 : decode cX1_blossom 59 = .ok (.istore 5, 2) := by decide +kernel
theorem dX1_blossom_61 : decode cX1_blossom 61 = .ok (.iload 5, 2) := by decide +kernel
theorem dX1_blossom_63 : decode cX1_blossom 63 = .ok (.iload_n 3, 1) := by decide +kernel
theorem dX1_blossom_64 : decode cX1_blossom 64 = .ok (.if_icmp .lt 93, 3) := by decide +kernel
theorem dX1_blossom_67 : decode cX1_blossom 67 = .ok (.aload_n 0, 1) := by decide +kernel
theorem dX1_blossom_68 : decode cX1_blossom 68 = .ok (.getfield 9, 3) := by decide +kernel
theorem dX1_blossom_71 : decode cX1_blossom 71 = .ok (.iload_n 2, 1) := by decide +kernel
theorem dX1_blossom_72 : decode cX1_blossom 72 = .ok (.aload_n 0, 1) := by decide +kernel
theorem dX1_blossom_73 : decode cX1_blossom 73 = .ok (.getfield 27, 3) := by decide +kernel
theorem dX1_blossom_76 : decode cX1_blossom 76 = .ok (.isub, 1) := by decide +kernel
theorem dX1_blossom_77 : decode cX1_blossom 77 = .ok (.iload 5, 2) := by decide +kernel
theorem dX1_blossom_79 : decode cX1_blossom 79 = .ok (.iadd, 1) := by decide +kernel
theorem dX1_blossom_80 : decode cX1_blossom 80 = .ok (.iaload, 1) := by decide +kernel
theorem dX1_blossom_81 : decode cX1_blossom 81 = .ok (.istore 6, 2) := by decide +kernel
theorem dX1_blossom_83 : decode cX1_blossom 83 = .ok (.aload_n 0, 1) := by decide +kernel
theorem dX1_blossom_84 : decode cX1_blossom 84 = .ok (.getfield 9, 3) := by decide +kernel
theorem dX1_blossom_87 : decode cX1_blossom 87 = .ok (.iload_n 2, 1) := by decide +kernel
theorem dX1_blossom_88 : decode cX1_blossom 88 = .ok (.iload 5, 2) := by decide +kernel
theorem dX1_blossom_90 : decode cX1_blossom 90 = .ok (.iadd, 1) := by decide +kernel
theorem dX1_blossom_91 : decode cX1_blossom 91 = .ok (.iconst 1, 1) := by decide +kernel
theorem dX1_blossom_92 : decode cX1_blossom 92 = .ok (.iadd, 1) := by decide +kernel
theorem dX1_blossom_93 : decode cX1_blossom 93 = .ok (.iload_n 3, 1) := by decide +kernel
theorem dX1_blossom_94 : decode cX1_blossom 94 = .ok (.isub, 1) := by decide +kernel
theorem dX1_blossom_95 : decode cX1_blossom 95 = .ok (.iaload, 1) := by decide +kernel
theorem dX1_blossom_96 : decode cX1_blossom 96 = .ok (.istore 7, 2) := by decide +kernel
theorem dX1_blossom_98 : decode cX1_blossom 98 = .ok (.aload_n 0, 1) := by decide +kernel
theorem dX1_blossom_99 : decode cX1_blossom 99 = .ok (.getfield 23, 3) := by decide +kernel
theorem dX1_blossom_102 : decode cX1_blossom 102 = .ok (.iload 5, 2) := by decide +kernel
theorem dX1_blossom_104 : decode cX1_blossom 104 = .ok (.iload 4, 2) := by decide +kernel
theorem dX1_blossom_106 : decode cX1_blossom 106 = .ok (.bipush 60, 2) := by decide +kernel
theorem dX1_blossom_108 : decode cX1_blossom 108 = .ok (.iload 6, 2) := by decide +kernel
theorem dX1_blossom_110 : decode cX1_blossom 110 = .ok (.imul, 1) := by decide +kernel
theorem dX1_blossom_111 : decode cX1_blossom 111 = .ok (.isub, 1) := by decide +kernel
theorem dX1_blossom_112 : decode cX1_blossom 112 = .ok (.i2l, 1) := by decide +kernel
theorem dX1_blossom_113 : decode cX1_blossom 113 = .ok (.aload_n 0, 1) := by decide +kernel
theorem dX1_blossom_114 : decode cX1_blossom 114 = .ok (.getfield 23, 3) := by decide +kernel
theorem dX1_blossom_117 : decode cX1_blossom 117 = .ok (.iload 5, 2) := by decide +kernel
theorem dX1_blossom_119 : decode cX1_blossom 119 = .ok (.laload, 1) := by decide +kernel
theorem dX1_blossom_120 : decode cX1_blossom 120 = .ok (.lmul, 1) := by decide +kernel
theorem dX1_blossom_121 : decode cX1_blossom 121 = .ok (.bipush 60, 2) := by decide +kernel
theorem dX1_blossom_123 : decode cX1_blossom 123 = .ok (.iload 7, 2) := by decide +kernel
theorem dX1_blossom_125 : decode cX1_blossom 125 = .ok (.imul, 1) := by decide +kernel
theorem dX1_blossom_126 : decode cX1_blossom 126 = .ok (.iload 4, 2) := by decide +kernel
theorem dX1_blossom_128 : decode cX1_blossom 128 = .ok (.isub, 1) := by decide +kernel
theorem dX1_blossom_129 : decode cX1_blossom 129 = .ok (.i2l, 1) := by decide +kernel
theorem dX1_blossom_130 : decode cX1_blossom 130 = .ok (.aload_n 0, 1) := by decide +kernel
theorem dX1_blossom_131 : decode cX1_blossom 131 = .ok (.getfield 23, 3) := by decide +kernel
theorem dX1_blossom_134 : decode cX1_blossom 134 = .ok (.iload 5, 2) := by decide +kernel
theorem dX1_blossom_136 : decode cX1_blossom 136 = .ok (.iconst 1, 1) := by decide +kernel
theorem dX1_blossom_137 : decode cX1_blossom 137 = .ok (.isub, 1) := by decide +kernel
theorem dX1_blossom_138 : decode cX1_blossom 138 = .ok (.laload, 1) := by decide +kernel
theorem dX1_blossom_139 : decode cX1_blossom 139 = .ok (.lmul, 1) := by decide +kernel
theorem dX1_blossom_140 : decode cX1_blossom 140 = .ok (.ladd, 1) := by decide +kernel
theorem dX1_blossom_141 : decode cX1_blossom 141 = .ok (.iload 7, 2) := by decide +kernel
theorem dX1_blossom_143 : decode cX1_blossom 143 = .ok (.iload 6, 2) := by decide +kernel
theorem dX1_blossom_145 : decode cX1_blossom 145 = .ok (.isub, 1) := by decide +kernel
theorem dX1_blossom_146 : decode cX1_blossom 146 = .ok (.i2l, 1) := by decide +kernel
theorem dX1_blossom_147 : decode cX1_blossom 147 = .ok (.invokestatic 68, 3) := by decide +kernel
theorem dX1_blossom_150 : decode cX1_blossom 150 = .ok (.lastore, 1) := by decide +kernel
theorem dX1_blossom_151 : decode cX1_blossom 151 = .ok (.iinc 5 (-1), 3) := by decide +kernel
theorem dX1_blossom_154 : decode cX1_blossom 154 = .ok (.goto (-93), 3) := by decide +kernel
theorem dX1_blossom_157 : decode cX1_blossom 157 = .ok (.iinc 3 1, 3) := by decide +kernel
theorem dX1_blossom_160 : decode cX1_blossom 160 = .ok (.goto (-123), 3) := by decide +kernel
theorem dX1_blossom_163 : decode cX1_blossom 163 = .ok (.aload_n 0, 1) := by decide +kernel
theorem dX1_blossom_164 : decode cX1_blossom 164 = .ok (.getfield 23, 3) := by decide +kernel
theorem dX1_blossom_167 : decode cX1_blossom 167 = .ok (.aload_n 0, 1) := by decide +kernel
theorem dX1_blossom_168 : decode cX1_blossom 168 = .ok (.getfield 27, 3) := by decide +kernel
theorem dX1_blossom_171 : decode cX1_blossom 171 = .ok (.laload, 1) := by decide +kernel
theorem dX1_blossom_172 : decode cX1_blossom 172 = .ok (.lreturn, 1) := by decide +kernel
theorem dX1_quotient_0 : decode cX1_quotient 0 = .ok (.lload_n 2, 1) := by decide +kernel
theorem dX1_quotient_1 : decode cX1_quotient 1 = .ok (.lconst 0, 1) := by decide +kernel
theorem dX1_quotient_2 : decode cX1_quotient 2 = .ok (.lcmp, 1) := by decide +kernel
theorem dX1_quotient_3 : decode cX1_quotient 3 = .ok (.ifCond .ne 7, 3) := by decide +kernel
theorem dX1_quotient_6 : decode cX1_quotient 6 = .ok (.lconst 0, 1) := by decide +kernel
theorem dX1_quotient_7 : decode cX1_quotient 7 = .ok (.goto 6, 3) := by decide +kernel
theorem dX1_quotient_10 : decode cX1_quotient 10 = .ok (.lload_n 0, 1) := by decide +kernel
theorem dX1_quotient_11 : decode cX1_quotient 11 = .ok (.lload_n 2, 1) := by decide +kernel
theorem dX1_quotient_12 : decode cX1_quotient 12 = .ok (.ldiv, 1) := by decide +kernel
theorem dX1_quotient_13 : decode cX1_quotient 13 = .ok (.lreturn, 1) := by decide +kernel
