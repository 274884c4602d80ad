theorem dX4_mix_175 : decode cX4_mix 175 = .ok (.lload 12, 2) := by decide +kernel
theorem dX4_mix_177 : decode cX4_mix 177 = .ok (.aload_n 0, 1) := by decide +kernel
theorem dX4_mix_178 : decode cX4_mix 178 = .ok (.getfield 35, 3) := by decide +kernel
theorem dX4_mix_181 : decode cX4_mix 181 = .ok (.iconst 4, 1) := by decide +kernel
theorem dX4_mix_182 : decode cX4_mix 182 = .ok (.iload_n 1, 1) := by decide +kernel
theorem dX4_mix_183 : decode cX4_mix 183 = .ok (.imul, 1) := by decide +kernel
theorem dX4_mix_184 : decode cX4_mix 184 = .ok (.iconst 4, 1) := by decide +kernel
theorem dX4_mix_185 : decode cX4_mix 185 = .ok (.iadd, 1) := by decide +kernel
theorem dX4_mix_186 : decode cX4_mix 186 = .ok (.iload 14, 2) := by decide +kernel
theorem dX4_mix_188 : decode cX4_mix 188 = .ok (.iadd, 1) := by decide +kernel
theorem dX4_mix_189 : decode cX4_mix 189 = .ok (.laload, 1) := by decide +kernel
theorem dX4_mix_190 : decode cX4_mix 190 = .ok (.lmul, 1) := by decide +kernel
theorem dX4_mix_191 : decode cX4_mix 191 = .ok (.lload 17, 2) := by decide +kernel
theorem dX4_mix_193 : decode cX4_mix 193 = .ok (.lsub, 1) := by decide +kernel
theorem dX4_mix_194 : decode cX4_mix 194 = .ok (.lstore 21, 2) := by decide +kernel
theorem dX4_mix_196 : decode cX4_mix 196 = .ok (.aload_n 0, 1) := by decide +kernel
theorem dX4_mix_197 : decode cX4_mix 197 = .ok (.getfield 35, 3) := by decide +kernel
theorem dX4_mix_200 : decode cX4_mix 200 = .ok (.iconst 4, 1) := by decide +kernel
theorem dX4_mix_201 : decode cX4_mix 201 = .ok (.iload_n 1, 1) := by decide +kernel
theorem dX4_mix_202 : decode cX4_mix 202 = .ok (.imul, 1) := by decide +kernel
theorem dX4_mix_203 : decode cX4_mix 203 = .ok (.iload 14, 2) := by decide +kernel
theorem dX4_mix_205 : decode cX4_mix 205 = .ok (.iadd, 1) := by decide +kernel
theorem dX4_mix_206 : decode cX4_mix 206 = .ok (.lload 6, 2) := by decide +kernel
theorem dX4_mix_208 : decode cX4_mix 208 = .ok (.lload 19, 2) := by decide +kernel
theorem dX4_mix_210 : decode cX4_mix 210 = .ok (.lmul, 1) := by decide +kernel
theorem dX4_mix_211 : decode cX4_mix 211 = .ok (.lload 8, 2) := by decide +kernel
theorem dX4_mix_213 : decode cX4_mix 213 = .ok (.lload 21, 2) := by decide +kernel
theorem dX4_mix_215 : decode cX4_mix 215 = .ok (.lmul, 1) := by decide +kernel
theorem dX4_mix_216 : decode cX4_mix 216 = .ok (.ladd, 1) := by decide +kernel
theorem dX4_mix_217 : decode cX4_mix 217 = .ok (.lastore, 1) := by decide +kernel
theorem dX4_mix_218 : decode cX4_mix 218 = .ok (.iinc 14 (-1), 3) := by decide +kernel
theorem dX4_mix_221 : decode cX4_mix 221 = .ok (.goto (-120), 3) := by decide +kernel
theorem dX4_mix_224 : decode cX4_mix 224 = .ok (.return_, 1) := by decide +kernel
theorem dX4_controlOf_0 : decode cX4_controlOf 0 = .ok (.aload_n 0, 1) := by decide +kernel
theorem dX4_controlOf_1 : decode cX4_controlOf 1 = .ok (.getfield 29, 3) := by decide +kernel
theorem dX4_controlOf_4 : decode cX4_controlOf 4 = .ok (.iload_n 1, 1) := by decide +kernel
theorem dX4_controlOf_5 : decode cX4_controlOf 5 = .ok (.iaload, 1) := by decide +kernel
theorem dX4_controlOf_6 : decode cX4_controlOf 6 = .ok (.istore_n 3, 1) := by decide +kernel
theorem dX4_controlOf_7 : decode cX4_controlOf 7 = .ok (.lconst 0, 1) := by decide +kernel
theorem dX4_controlOf_8 : decode cX4_controlOf 8 = .ok (.lstore 4, 2) := by decide +kernel
theorem dX4_controlOf_10 : decode cX4_controlOf 10 = .ok (.lconst 0, 1) := by decide +kernel
theorem dX4_controlOf_11 : decode cX4_controlOf 11 = .ok (.lstore 6, 2) := by decide +kernel
theorem dX4_controlOf_13 : decode cX4_controlOf 13 = .ok (.lconst 0, 1) := by decide +kernel
theorem dX4_controlOf_14 : decode cX4_controlOf 14 = .ok (.lstore 8, 2) := by decide +kernel
theorem dX4_controlOf_16 : decode cX4_controlOf 16 = .ok (.iconst 1, 1) := by decide +kernel
theorem dX4_controlOf_17 : decode cX4_controlOf 17 = .ok (.istore 10, 2) := by decide +kernel
theorem dX4_controlOf_19 : decode cX4_controlOf 19 = .ok (.iload 10, 2) := by decide +kernel
theorem dX4_controlOf_21 : decode cX4_controlOf 21 = .ok (.aload_n 0, 1) := by decide +kernel
theorem dX4_controlOf_22 : decode cX4_controlOf 22 = .ok (.getfield 57, 3) := by decide +kernel
theorem dX4_controlOf_25 : decode cX4_controlOf 25 = .ok (.if_icmp .gt 50, 3) := by decide +kernel
theorem dX4_controlOf_28 : decode cX4_controlOf 28 = .ok (.aload_n 0, 1) := by decide +kernel
theorem dX4_controlOf_29 : decode cX4_controlOf 29 = .ok (.getfield 29, 3) := by decide +kernel
theorem dX4_controlOf_32 : decode cX4_controlOf 32 = .ok (.iload_n 1, 1) := by decide +kernel
theorem dX4_controlOf_33 : decode cX4_controlOf 33 = .ok (.iload 10, 2) := by decide +kernel
theorem dX4_controlOf_35 : decode cX4_controlOf 35 = .ok (.iadd, 1) := by decide +kernel
theorem dX4_controlOf_36 : decode cX4_controlOf 36 = .ok (.iaload, 1) := by decide +kernel
theorem dX4_controlOf_37 : decode cX4_controlOf 37 = .ok (.iload_n 3, 1) := by decide +kernel
theorem dX4_controlOf_38 : decode cX4_controlOf 38 = .ok (.isub, 1) := by decide +kernel
theorem dX4_controlOf_39 : decode cX4_controlOf 39 = .ok (.i2l, 1) := by decide +kernel
theorem dX4_controlOf_40 : decode cX4_controlOf 40 = .ok (.lstore 11, 2) := by decide +kernel
theorem dX4_controlOf_42 : decode cX4_controlOf 42 = .ok (.lload 8, 2) := by decide +kernel
theorem dX4_controlOf_44 : decode cX4_controlOf 44 = .ok (.lload 6, 2) := by decide +kernel
theorem dX4_controlOf_46 : decode cX4_controlOf 46 = .ok (.lload 11, 2) := by decide +kernel
theorem dX4_controlOf_48 : decode cX4_controlOf 48 = .ok (.lmul, 1) := by decide +kernel
theorem dX4_controlOf_49 : decode cX4_controlOf 49 = .ok (.ladd, 1) := by decide +kernel
theorem dX4_controlOf_50 : decode cX4_controlOf 50 = .ok (.lstore 8, 2) := by decide +kernel
theorem dX4_controlOf_52 : decode cX4_controlOf 52 = .ok (.lload 6, 2) := by decide +kernel
theorem dX4_controlOf_54 : decode cX4_controlOf 54 = .ok (.lload 4, 2) := by decide +kernel
theorem dX4_controlOf_56 : decode cX4_controlOf 56 = .ok (.lload 11, 2) := by decide +kernel
theorem dX4_controlOf_58 : decode cX4_controlOf 58 = .ok (.lmul, 1) := by decide +kernel
theorem dX4_controlOf_59 : decode cX4_controlOf 59 = .ok (.ladd, 1) := by decide +kernel
theorem dX4_controlOf_60 : decode cX4_controlOf 60 = .ok (.lstore 6, 2) := by decide +kernel
theorem dX4_controlOf_62 : decode cX4_controlOf 62 = .ok (.lload 4, 2) := by decide +kernel
theorem dX4_controlOf_64 : decode cX4_controlOf 64 = .ok (.lload 11, 2) := by decide +kernel
theorem dX4_controlOf_66 : decode cX4_controlOf 66 = .ok (.ladd, 1) := by decide +kernel
theorem dX4_controlOf_67 : decode cX4_controlOf 67 = .ok (.lstore 4, 2) := by decide +kernel
theorem dX4_controlOf_69 : decode cX4_controlOf 69 = .ok (.iinc 10 1, 3) := by decide +kernel
theorem dX4_controlOf_72 : decode cX4_controlOf 72 = .ok (.goto (-53), 3) := by decide +kernel
theorem dX4_controlOf_75 : decode cX4_controlOf 75 = .ok (.bipush 24, 2) := by decide +kernel
theorem dX4_controlOf_77 : decode cX4_controlOf 77 = .ok (.iload_n 2, 1) := by decide +kernel
theorem dX4_controlOf_78 : decode cX4_controlOf 78 = .ok (.imul, 1) := by decide +kernel
theorem dX4_controlOf_79 : decode cX4_controlOf 79 = .ok (.iconst 4, 1) := by decide +kernel
theorem dX4_controlOf_80 : decode cX4_controlOf 80 = .ok (.iload_n 3, 1) := by decide +kernel
theorem dX4_controlOf_81 : decode cX4_controlOf 81 = .ok (.imul, 1) := by decide +kernel
theorem dX4_controlOf_82 : decode cX4_controlOf 82 = .ok (.iadd, 1) := by decide +kernel
theorem dX4_controlOf_83 : decode cX4_controlOf 83 = .ok (.istore 10, 2) := by decide +kernel
theorem dX4_controlOf_85 : decode cX4_controlOf 85 = .ok (.aload_n 0, 1) := by decide +kernel
theorem dX4_controlOf_86 : decode cX4_controlOf 86 = .ok (.getfield 25, 3) := by decide +kernel
theorem dX4_controlOf_89 : decode cX4_controlOf 89 = .ok (.iload 10, 2) := by decide +kernel
theorem dX4_controlOf_91 : decode cX4_controlOf 91 = .ok (.laload, 1) := by decide +kernel
theorem dX4_controlOf_92 : decode cX4_controlOf 92 = .ok (.lstore 11, 2) := by decide +kernel
theorem dX4_controlOf_94 : decode cX4_controlOf 94 = .ok (.aload_n 0, 1) := by decide +kernel
theorem dX4_controlOf_95 : decode cX4_controlOf 95 = .ok (.getfield 25, 3) := by decide +kernel
theorem dX4_controlOf_98 : decode cX4_controlOf 98 = .ok (.iload 10, 2) := by decide +kernel
theorem dX4_controlOf_100 : decode cX4_controlOf 100 = .ok (.iconst 1, 1) := by decide +kernel
theorem dX4_controlOf_101 : decode cX4_controlOf 101 = .ok (.iadd, 1) := by decide +kernel
theorem dX4_controlOf_102 : decode cX4_controlOf 102 = .ok (.laload, 1) := by decide +kernel
theorem dX4_controlOf_103 : decode cX4_controlOf 103 = .ok (.lstore 13, 2) := by decide +kernel
theorem dX4_controlOf_105 : decode cX4_controlOf 105 = .ok (.aload_n 0, 1) := by decide +kernel
theorem dX4_controlOf_106 : decode cX4_controlOf 106 = .ok (.getfield 25, 3) := by decide +kernel
theorem dX4_controlOf_109 : decode cX4_controlOf 109 = .ok (.iload 10, 2) := by decide +kernel
theorem dX4_controlOf_111 : decode cX4_controlOf 111 = .ok (.iconst 2, 1) := by decide +kernel
theorem dX4_controlOf_112 : decode cX4_controlOf 112 = .ok (.iadd, 1) := by decide +kernel
theorem dX4_controlOf_113 : decode cX4_controlOf 113 = .ok (.laload, 1) := by decide +kernel
theorem dX4_controlOf_114 : decode cX4_controlOf 114 = .ok (.lstore 15, 2) := by decide +kernel
theorem dX4_controlOf_116 : decode cX4_controlOf 116 = .ok (.aload_n 0, 1) := by decide +kernel
theorem dX4_controlOf_117 : decode cX4_controlOf 117 = .ok (.getfield 25, 3) := by decide +kernel
theorem dX4_controlOf_120 : decode cX4_controlOf 120 = .ok (.iload 10, 2) := by decide +kernel
theorem dX4_controlOf_122 : decode cX4_controlOf 122 = .ok (.iconst 3, 1) := by decide +kernel
theorem dX4_controlOf_123 : decode cX4_controlOf 123 = .ok (.iadd, 1) := by decide +kernel
theorem dX4_controlOf_124 : decode cX4_controlOf 124 = .ok (.laload, 1) := by decide +kernel
theorem dX4_controlOf_125 : decode cX4_controlOf 125 = .ok (.lstore 17, 2) := by decide +kernel
theorem dX4_controlOf_127 : decode cX4_controlOf 127 = .ok (.aload_n 0, 1) := by decide +kernel
theorem dX4_controlOf_128 : decode cX4_controlOf 128 = .ok (.getfield 57, 3) := by decide +kernel
theorem dX4_controlOf_131 : decode cX4_controlOf 131 = .ok (.iconst 1, 1) := by decide +kernel
theorem dX4_controlOf_132 : decode cX4_controlOf 132 = .ok (.if_icmp .ne 12, 3) := by decide +kernel
theorem dX4_controlOf_135 : decode cX4_controlOf 135 = .ok (.lload 11, 2) := by decide +kernel
theorem dX4_controlOf_137 : decode cX4_controlOf 137 = .ok (.lload 13, 2) := by decide +kernel
theorem dX4_controlOf_139 : decode cX4_controlOf 139 = .ok (.lload 4, 2) := by decide +kernel
theorem dX4_controlOf_141 : decode cX4_controlOf 141 = .ok (.lmul, 1) := by decide +kernel
theorem dX4_controlOf_142 : decode cX4_controlOf 142 = .ok (.ladd, 1) := by decide +kernel
theorem dX4_controlOf_143 : decode cX4_controlOf 143 = .ok (.lreturn, 1) := by decide +kernel
theorem dX4_controlOf_144 : decode cX4_controlOf 144 = .ok (.aload_n 0, 1) := by decide +kernel
theorem dX4_controlOf_145 : decode cX4_controlOf 145 = .ok (.getfield 57, 3) := by decide +kernel
theorem dX4_controlOf_148 : decode cX4_controlOf 148 = .ok (.iconst 2, 1) := by decide +kernel
theorem dX4_controlOf_149 : decode cX4_controlOf 149 = .ok (.if_icmp .ne 30, 3) := by decide +kernel
theorem dX4_controlOf_152 : decode cX4_controlOf 152 = .ok (.ldc2_w 89, 3) := by decide +kernel
theorem dX4_controlOf_155 : decode cX4_controlOf 155 = .ok (.lload 11, 2) := by decide +kernel
theorem dX4_controlOf_157 : decode cX4_controlOf 157 = .ok (.lmul, 1) := by decide +kernel
theorem dX4_controlOf_158 : decode cX4_controlOf 158 = .ok (.lload 13, 2) := by decide +kernel
theorem dX4_controlOf_160 : decode cX4_controlOf 160 = .ok (.lload 4, 2) := by decide +kernel
theorem dX4_controlOf_162 : decode cX4_controlOf 162 = .ok (.lmul, 1) := by decide +kernel
theorem dX4_controlOf_163 : decode cX4_controlOf 163 = .ok (.ladd, 1) := by decide +kernel
theorem dX4_controlOf_164 : decode cX4_controlOf 164 = .ok (.ldc2_w 89, 3) := by decide +kernel
theorem dX4_controlOf_167 : decode cX4_controlOf 167 = .ok (.lload 15, 2) := by decide +kernel
theorem dX4_controlOf_169 : decode cX4_controlOf 169 = .ok (.lmul, 1) := by decide +kernel
theorem dX4_controlOf_170 : decode cX4_controlOf 170 = .ok (.lload 6, 2) := by decide +kernel
theorem dX4_controlOf_172 : decode cX4_controlOf 172 = .ok (.lmul, 1) := by decide +kernel
theorem dX4_controlOf_173 : decode cX4_controlOf 173 = .ok (.ladd, 1) := by decide +kernel
theorem dX4_controlOf_174 : decode cX4_controlOf 174 = .ok (.ldc2_w 89, 3) := by decide +kernel
theorem dX4_controlOf_177 : decode cX4_controlOf 177 = .ok (.ldiv, 1) := by decide +kernel
theorem dX4_controlOf_178 : decode cX4_controlOf 178 = .ok (.lreturn, 1) := by decide +kernel
theorem dX4_controlOf_179 : decode cX4_controlOf 179 = .ok (.ldc2_w 91, 3) := by decide +kernel
theorem dX4_controlOf_182 : decode cX4_controlOf 182 = .ok (.lload 11, 2) := by decide +kernel
theorem dX4_controlOf_184 : decode cX4_controlOf 184 = .ok (.lmul, 1) := by decide +kernel
theorem dX4_controlOf_185 : decode cX4_controlOf 185 = .ok (.lload 13, 2) := by decide +kernel
theorem dX4_controlOf_187 : decode cX4_controlOf 187 = .ok (.lload 4, 2) := by decide +kernel
theorem dX4_controlOf_189 : decode cX4_controlOf 189 = .ok (.lmul, 1) := by decide +kernel
theorem dX4_controlOf_190 : decode cX4_controlOf 190 = .ok (.ladd, 1) := by decide +kernel
theorem dX4_controlOf_191 : decode cX4_controlOf 191 = .ok (.lload 15, 2) := by decide +kernel
theorem dX4_controlOf_193 : decode cX4_controlOf 193 = .ok (.lload 6, 2) := by decide +kernel
theorem dX4_controlOf_195 : decode cX4_controlOf 195 = .ok (.lmul, 1) := by decide +kernel
theorem dX4_controlOf_196 : decode cX4_controlOf 196 = .ok (.ladd, 1) := by decide +kernel
theorem dX4_controlOf_197 : decode cX4_controlOf 197 = .ok (.ldc2_w 91, 3) := by decide +kernel
theorem dX4_controlOf_200 : decode cX4_controlOf 200 = .ok (.lload 17, 2) := by decide +kernel
theorem dX4_controlOf_202 : decode cX4_controlOf 202 = .ok (.lmul, 1) := by decide +kernel
theorem dX4_controlOf_203 : decode cX4_controlOf 203 = .ok (.lload 8, 2) := by decide +kernel
theorem dX4_controlOf_205 : decode cX4_controlOf 205 = .ok (.lmul, 1) := by decide +kernel
theorem dX4_controlOf_206 : decode cX4_controlOf 206 = .ok (.ladd, 1) := by decide +kernel
theorem dX4_controlOf_207 : decode cX4_controlOf 207 = .ok (.ldc2_w 91, 3) := by decide +kernel
theorem dX4_controlOf_210 : decode cX4_controlOf 210 = .ok (.ldiv, 1) := by decide +kernel
theorem dX4_controlOf_211 : decode cX4_controlOf 211 = .ok (.lreturn, 1) := by decide +kernel
theorem dX4_choose_0 : decode cX4_choose 0 = .ok (.iload_n 1, 1) := by decide +kernel
theorem dX4_choose_1 : decode cX4_choose 1 = .ok (.ifCond .eq 8, 3) := by decide +kernel
theorem dX4_choose_4 : decode cX4_choose 4 = .ok (.iload_n 1, 1) := by decide +kernel
theorem dX4_choose_5 : decode cX4_choose 5 = .ok (.iload_n 0, 1) := by decide +kernel
theorem dX4_choose_6 : decode cX4_choose 6 = .ok (.if_icmp .ne 7, 3) := by decide +kernel
theorem dX4_choose_9 : decode cX4_choose 9 = .ok (.lconst 1, 1) := by decide +kernel
theorem dX4_choose_10 : decode cX4_choose 10 = .ok (.goto 5, 3) := by decide +kernel
theorem dX4_choose_13 : decode cX4_choose 13 = .ok (.iload_n 0, 1) := by decide +kernel
theorem dX4_choose_14 : decode cX4_choose 14 = .ok (.i2l, 1) := by decide +kernel
theorem dX4_choose_15 : decode cX4_choose 15 = .ok (.lreturn, 1) := by decide +kernel
theorem dX4_smooth_0 : decode cX4_smooth 0 = .ok (.iconst 0, 1) := by decide +kernel
theorem dX4_smooth_1 : decode cX4_smooth 1 = .ok (.istore_n 3, 1) := by decide +kernel
theorem dX4_smooth_2 : decode cX4_smooth 2 = .ok (.iload_n 3, 1) := by decide +kernel
theorem dX4_smooth_3 : decode cX4_smooth 3 = .ok (.iconst 3, 1) := by decide +kernel
theorem dX4_smooth_4 : decode cX4_smooth 4 = .ok (.if_icmp .ge 104, 3) := by decide +kernel
theorem dX4_smooth_7 : decode cX4_smooth 7 = .ok (.bipush 24, 2) := by decide +kernel
theorem dX4_smooth_9 : decode cX4_smooth 9 = .ok (.iload_n 3, 1) := by decide +kernel
theorem dX4_smooth_10 : decode cX4_smooth 10 = .ok (.imul, 1) := by decide +kernel
theorem dX4_smooth_11 : decode cX4_smooth 11 = .ok (.iconst 4, 1) := by decide +kernel
theorem dX4_smooth_12 : decode cX4_smooth 12 = .ok (.iload_n 1, 1) := by decide +kernel
theorem dX4_smooth_13 : decode cX4_smooth 13 = .ok (.iconst 1, 1) := by decide +kernel
theorem dX4_smooth_14 : decode cX4_smooth 14 = .ok (.isub, 1) := by decide +kernel
theorem dX4_smooth_15 : decode cX4_smooth 15 = .ok (.imul, 1) := by decide +kernel
theorem dX4_smooth_16 : decode cX4_smooth 16 = .ok (.iadd, 1) := by decide +kernel
theorem dX4_smooth_17 : decode cX4_smooth 17 = .ok (.istore 4, 2) := by decide +kernel
theorem dX4_smooth_19 : decode cX4_smooth 19 = .ok (.iconst 0, 1) := by decide +kernel
theorem dX4_smooth_20 : decode cX4_smooth 20 = .ok (.istore 5, 2) := by decide +kernel
theorem dX4_smooth_22 : decode cX4_smooth 22 = .ok (.iload 5, 2) := by decide +kernel
theorem dX4_smooth_24 : decode cX4_smooth 24 = .ok (.iload_n 2, 1) := by decide +kernel
theorem dX4_smooth_25 : decode cX4_smooth 25 = .ok (.if_icmp .ge 77, 3) := by decide +kernel
theorem dX4_smooth_28 : decode cX4_smooth 28 = .ok (.iload 5, 2) := by decide +kernel
theorem dX4_smooth_30 : decode cX4_smooth 30 = .ok (.iconst 4, 1) := by decide +kernel
theorem dX4_smooth_31 : decode cX4_smooth 31 = .ok (.if_icmp .ge 71, 3) := by decide +kernel
theorem dX4_smooth_34 : decode cX4_smooth 34 = .ok (.lconst 0, 1) := by decide +kernel
theorem dX4_smooth_35 : decode cX4_smooth 35 = .ok (.lstore 6, 2) := by decide +kernel
theorem dX4_smooth_37 : decode cX4_smooth 37 = .ok (.iload 5, 2) := by decide +kernel
theorem dX4_smooth_39 : decode cX4_smooth 39 = .ok (.istore 8, 2) := by decide +kernel
theorem dX4_smooth_41 : decode cX4_smooth 41 = .ok (.iload 8, 2) := by decide +kernel
theorem dX4_smooth_43 : decode cX4_smooth 43 = .ok (.iconst 4, 1) := by decide +kernel
theorem dX4_smooth_44 : decode cX4_smooth 44 = .ok (.if_icmp .ge 32, 3) := by decide +kernel
theorem dX4_smooth_47 : decode cX4_smooth 47 = .ok (.lload 6, 2) := by decide +kernel
theorem dX4_smooth_49 : decode cX4_smooth 49 = .ok (.iload 8, 2) := by decide +kernel
theorem dX4_smooth_51 : decode cX4_smooth 51 = .ok (.iload 5, 2) := by decide +kernel
theorem dX4_smooth_53 : decode cX4_smooth 53 = .ok (.invokestatic 93, 3) := by decide +kernel
theorem dX4_smooth_56 : decode cX4_smooth 56 = .ok (.aload_n 0, 1) := by decide +kernel
theorem dX4_smooth_57 : decode cX4_smooth 57 = .ok (.getfield 25, 3) := by decide +kernel
theorem dX4_smooth_60 : decode cX4_smooth 60 = .ok (.iload 4, 2) := by decide +kernel
theorem dX4_smooth_62 : decode cX4_smooth 62 = .ok (.iload 8, 2) := by decide +kernel
theorem dX4_smooth_64 : decode cX4_smooth 64 = .ok (.iadd, 1) := by decide +kernel
theorem dX4_smooth_65 : decode cX4_smooth 65 = .ok (.laload, 1) := by decide +kernel
theorem dX4_smooth_66 : decode cX4_smooth 66 = .ok (.lmul, 1) := by decide +kernel
theorem dX4_smooth_67 : decode cX4_smooth 67 = .ok (.ladd, 1) := by decide +kernel
theorem dX4_smooth_68 : decode cX4_smooth 68 = .ok (.lstore 6, 2) := by decide +kernel
theorem dX4_smooth_70 : decode cX4_smooth 70 = .ok (.iinc 8 1, 3) := by decide +kernel
theorem dX4_smooth_73 : decode cX4_smooth 73 = .ok (.goto (-32), 3) := by decide +kernel
theorem dX4_smooth_76 : decode cX4_smooth 76 = .ok (.lload 6, 2) := by decide +kernel
theorem dX4_smooth_78 : decode cX4_smooth 78 = .ok (.aload_n 0, 1) := by decide +kernel
theorem dX4_smooth_79 : decode cX4_smooth 79 = .ok (.getfield 25, 3) := by decide +kernel
theorem dX4_smooth_82 : decode cX4_smooth 82 = .ok (.iload 4, 2) := by decide +kernel
theorem dX4_smooth_84 : decode cX4_smooth 84 = .ok (.iconst 4, 1) := by decide +kernel
theorem dX4_smooth_85 : decode cX4_smooth 85 = .ok (.iadd, 1) := by decide +kernel
theorem dX4_smooth_86 : decode cX4_smooth 86 = .ok (.iload 5, 2) := by decide +kernel
theorem dX4_smooth_88 : decode cX4_smooth 88 = .ok (.iadd, 1) := by decide +kernel
theorem dX4_smooth_89 : decode cX4_smooth 89 = .ok (.laload, 1) := by decide +kernel
theorem dX4_smooth_90 : decode cX4_smooth 90 = .ok (.lcmp, 1) := by decide +kernel
theorem dX4_smooth_91 : decode cX4_smooth 91 = .ok (.ifCond .eq 5, 3) := by decide +kernel
theorem dX4_smooth_94 : decode cX4_smooth 94 = .ok (.iconst 0, 1) := by decide +kernel
theorem dX4_smooth_95 : decode cX4_smooth 95 = .ok (.ireturn, 1) := by decide +kernel
theorem dX4_smooth_96 : decode cX4_smooth 96 = .ok (.iinc 5 1, 3) := by decide +kernel
theorem dX4_smooth_99 : decode cX4_smooth 99 = .ok (.goto (-77), 3) := by decide +kernel
theorem dX4_smooth_102 : decode cX4_smooth 102 = .ok (.iinc 3 1, 3) := by decide +kernel
theorem dX4_smooth_105 : decode cX4_smooth 105 = .ok (.goto (-103), 3) := by decide +kernel
theorem dX4_smooth_108 : decode cX4_smooth 108 = .ok (.iconst 1, 1) := by decide +kernel
theorem dX4_smooth_109 : decode cX4_smooth 109 = .ok (.ireturn, 1) := by decide +kernel
theorem dX4_weighty_0 : decode cX4_weighty 0 = .ok (.iconst 0, 1) := by decide +kernel
theorem dX4_weighty_1 : decode cX4_weighty 1 = .ok (.istore_n 1, 1) := by decide +kernel
theorem dX4_weighty_2 : decode cX4_weighty 2 = .ok (.iload_n 1, 1) := by decide +kernel
theorem dX4_weighty_3 : decode cX4_weighty 3 = .ok (.aload_n 0, 1) := by decide +kernel
theorem dX4_weighty_4 : decode cX4_weighty 4 = .ok (.getfield 70, 3) := by decide +kernel
theorem dX4_weighty_7 : decode cX4_weighty 7 = .ok (.if_icmp .ge 22, 3) := by decide +kernel
theorem dX4_weighty_10 : decode cX4_weighty 10 = .ok (.aload_n 0, 1) := by decide +kernel
theorem dX4_weighty_11 : decode cX4_weighty 11 = .ok (.iload_n 1, 1) := by decide +kernel
theorem dX4_weighty_12 : decode cX4_weighty 12 = .ok (.iconst 2, 1) := by decide +kernel
theorem dX4_weighty_13 : decode cX4_weighty 13 = .ok (.invokevirtual 96, 3) := by decide +kernel
theorem dX4_weighty_16 : decode cX4_weighty 16 = .ok (.lconst 0, 1) := by decide +kernel
theorem dX4_weighty_17 : decode cX4_weighty 17 = .ok (.lcmp, 1) := by decide +kernel
theorem dX4_weighty_18 : decode cX4_weighty 18 = .ok (.ifCond .gt 5, 3) := by decide +kernel
theorem dX4_weighty_21 : decode cX4_weighty 21 = .ok (.iconst 0, 1) := by decide +kernel
theorem dX4_weighty_22 : decode cX4_weighty 22 = .ok (.ireturn, 1) := by decide +kernel
theorem dX4_weighty_23 : decode cX4_weighty 23 = .ok (.iinc 1 1, 3) := by decide +kernel
theorem dX4_weighty_26 : decode cX4_weighty 26 = .ok (.goto (-24), 3) := by decide +kernel
theorem dX4_weighty_29 : decode cX4_weighty 29 = .ok (.iconst 1, 1) := by decide +kernel
theorem dX4_weighty_30 : decode cX4_weighty 30 = .ok (.ireturn, 1) := by decide +kernel
theorem dX4_insert_0 : decode cX4_insert 0 = .ok (.aload_n 0, 1) := by decide +kernel
theorem dX4_insert_1 : decode cX4_insert 1 = .ok (.getfield 57, 3) := by decide +kernel
theorem dX4_insert_4 : decode cX4_insert 4 = .ok (.ifCond .eq 26, 3) := by decide +kernel
theorem dX4_insert_7 : decode cX4_insert 7 = .ok (.iload_n 1, 1) := by decide +kernel
theorem dX4_insert_8 : decode cX4_insert 8 = .ok (.iconst 1, 1) := by decide +kernel
theorem dX4_insert_9 : decode cX4_insert 9 = .ok (.if_icmp .lt 21, 3) := by decide +kernel
theorem dX4_insert_12 : decode cX4_insert 12 = .ok (.iload_n 1, 1) := by decide +kernel
theorem dX4_insert_13 : decode cX4_insert 13 = .ok (.iconst 5, 1) := by decide +kernel
theorem dX4_insert_14 : decode cX4_insert 14 = .ok (.if_icmp .gt 16, 3) := by decide +kernel
theorem dX4_insert_17 : decode cX4_insert 17 = .ok (.aload_n 0, 1) := by decide +kernel
theorem dX4_insert_18 : decode cX4_insert 18 = .ok (.getfield 22, 3) := by decide +kernel
theorem dX4_insert_21 : decode cX4_insert 21 = .ok (.iload_n 1, 1) := by decide +kernel
theorem dX4_insert_22 : decode cX4_insert 22 = .ok (.iaload, 1) := by decide +kernel
theorem dX4_insert_23 : decode cX4_insert 23 = .ok (.aload_n 0, 1) := by decide +kernel
theorem dX4_insert_24 : decode cX4_insert 24 = .ok (.getfield 57, 3) := by decide +kernel
theorem dX4_insert_27 : decode cX4_insert 27 = .ok (.if_icmp .lt 5, 3) := by decide +kernel
theorem dX4_insert_30 : decode cX4_insert 30 = .ok (.iconst (-1), 1) := by decide +kernel
theorem dX4_insert_31 : decode cX4_insert 31 = .ok (.ireturn, 1) := by decide +kernel
theorem dX4_insert_32 : decode cX4_insert 32 = .ok (.aload_n 0, 1) := by decide +kernel
theorem dX4_insert_33 : decode cX4_insert 33 = .ok (.getfield 22, 3) := by decide +kernel
theorem dX4_insert_36 : decode cX4_insert 36 = .ok (.iload_n 1, 1) := by decide +kernel
theorem dX4_insert_37 : decode cX4_insert 37 = .ok (.dup2, 1) := by decide +kernel
theorem dX4_insert_38 : decode cX4_insert 38 = .ok (.iaload, 1) := by decide +kernel
theorem dX4_insert_39 : decode cX4_insert 39 = .ok (.iconst 1, 1) := by decide +kernel
theorem dX4_insert_40 : decode cX4_insert 40 = .ok (.iadd, 1) := by decide +kernel
theorem dX4_insert_41 : decode cX4_insert 41 = .ok (.iastore, 1) := by decide +kernel
theorem dX4_insert_42 : decode cX4_insert 42 = .ok (.aload_n 0, 1) := by decide +kernel
theorem dX4_insert_43 : decode cX4_insert 43 = .ok (.invokevirtual 60, 3) := by decide +kernel
theorem dX4_insert_46 : decode cX4_insert 46 = .ok (.aload_n 0, 1) := by decide +kernel
theorem dX4_insert_47 : decode cX4_insert 47 = .ok (.getfield 22, 3) := by decide +kernel
theorem dX4_insert_50 : decode cX4_insert 50 = .ok (.iload_n 1, 1) := by decide +kernel
theorem dX4_insert_51 : decode cX4_insert 51 = .ok (.iaload, 1) := by decide +kernel
theorem dX4_insert_52 : decode cX4_insert 52 = .ok (.ireturn, 1) := by decide +kernel
theorem dX4_remove_0 : decode cX4_remove 0 = .ok (.aload_n 0, 1) := by decide +kernel
theorem dX4_remove_1 : decode cX4_remove 1 = .ok (.getfield 57, 3) := by decide +kernel
theorem dX4_remove_4 : decode cX4_remove 4 = .ok (.ifCond .eq 22, 3) := by decide +kernel
theorem dX4_remove_7 : decode cX4_remove 7 = .ok (.iload_n 1, 1) := by decide +kernel
theorem dX4_remove_8 : decode cX4_remove 8 = .ok (.iconst 1, 1) := by decide +kernel
theorem dX4_remove_9 : decode cX4_remove 9 = .ok (.if_icmp .lt 17, 3) := by decide +kernel
theorem dX4_remove_12 : decode cX4_remove 12 = .ok (.iload_n 1, 1) := by decide +kernel
theorem dX4_remove_13 : decode cX4_remove 13 = .ok (.iconst 5, 1) := by decide +kernel
theorem dX4_remove_14 : decode cX4_remove 14 = .ok (.if_icmp .gt 12, 3) := by decide +kernel
theorem dX4_remove_17 : decode cX4_remove 17 = .ok (.aload_n 0, 1) := by decide +kernel
theorem dX4_remove_18 : decode cX4_remove 18 = .ok (.getfield 22, 3) := by decide +kernel
theorem dX4_remove_21 : decode cX4_remove 21 = .ok (.iload_n 1, 1) := by decide +kernel
theorem dX4_remove_22 : decode cX4_remove 22 = .ok (.iaload, 1) := by decide +kernel
theorem dX4_remove_23 : decode cX4_remove 23 = .ok (.ifCond .ne 5, 3) := by decide +kernel
theorem dX4_remove_26 : decode cX4_remove 26 = .ok (.iconst 0, 1) := by decide +kernel
theorem dX4_remove_27 : decode cX4_remove 27 = .ok (.ireturn, 1) := by decide +kernel
theorem dX4_remove_28 : decode cX4_remove 28 = .ok (.aload_n 0, 1) := by decide +kernel
theorem dX4_remove_29 : decode cX4_remove 29 = .ok (.iload_n 1, 1) := by decide +kernel
theorem dX4_remove_30 : decode cX4_remove 30 = .ok (.aload_n 0, 1) := by decide +kernel
theorem dX4_remove_31 : decode cX4_remove 31 = .ok (.getfield 57, 3) := by decide +kernel
theorem dX4_remove_34 : decode cX4_remove 34 = .ok (.aload_n 0, 1) := by decide +kernel
theorem dX4_remove_35 : decode cX4_remove 35 = .ok (.getfield 22, 3) := by decide +kernel
theorem dX4_remove_38 : decode cX4_remove 38 = .ok (.iload_n 1, 1) := by decide +kernel
theorem dX4_remove_39 : decode cX4_remove 39 = .ok (.iaload, 1) := by decide +kernel
theorem dX4_remove_40 : decode cX4_remove 40 = .ok (.isub, 1) := by decide +kernel
theorem dX4_remove_41 : decode cX4_remove 41 = .ok (.iconst 2, 1) := by decide +kernel
theorem dX4_remove_42 : decode cX4_remove 42 = .ok (.iadd, 1) := by decide +kernel
theorem dX4_remove_43 : decode cX4_remove 43 = .ok (.invokevirtual 99, 3) := by decide +kernel
theorem dX4_remove_46 : decode cX4_remove 46 = .ok (.ifCond .ne 5, 3) := by decide +kernel
theorem dX4_remove_49 : decode cX4_remove 49 = .ok (.iconst 0, 1) := by decide +kernel
theorem dX4_remove_50 : decode cX4_remove 50 = .ok (.ireturn, 1) := by decide +kernel
theorem dX4_remove_51 : decode cX4_remove 51 = .ok (.aload_n 0, 1) := by decide +kernel
theorem dX4_remove_52 : decode cX4_remove 52 = .ok (.getfield 22, 3) := by decide +kernel
theorem dX4_remove_55 : decode cX4_remove 55 = .ok (.iload_n 1, 1) := by decide +kernel
theorem dX4_remove_56 : decode cX4_remove 56 = .ok (.dup2, 1) := by decide +kernel
theorem dX4_remove_57 : decode cX4_remove 57 = .ok (.iaload, 1) := by decide +kernel
theorem dX4_remove_58 : decode cX4_remove 58 = .ok (.iconst 1, 1) := by decide +kernel
theorem dX4_remove_59 : decode cX4_remove 59 = .ok (.isub, 1) := by decide +kernel
theorem dX4_remove_60 : decode cX4_remove 60 = .ok (.iastore, 1) := by decide +kernel
theorem dX4_remove_61 : decode cX4_remove 61 = .ok (.aload_n 0, 1) := by decide +kernel
theorem dX4_remove_62 : decode cX4_remove 62 = .ok (.invokevirtual 60, 3) := by decide +kernel
theorem dX4_remove_65 : decode cX4_remove 65 = .ok (.aload_n 0, 1) := by decide +kernel
theorem dX4_remove_66 : decode cX4_remove 66 = .ok (.invokevirtual 103, 3) := by decide +kernel
theorem dX4_remove_69 : decode cX4_remove 69 = .ok (.ifCond .eq 5, 3) := by decide +kernel
theorem dX4_remove_72 : decode cX4_remove 72 = .ok (.iconst 1, 1) := by decide +kernel
theorem dX4_remove_73 : decode cX4_remove 73 = .ok (.ireturn, 1) := by decide +kernel
theorem dX4_remove_74 : decode cX4_remove 74 = .ok (.aload_n 0, 1) := by decide +kernel
theorem dX4_remove_75 : decode cX4_remove 75 = .ok (.getfield 22, 3) := by decide +kernel
theorem dX4_remove_78 : decode cX4_remove 78 = .ok (.iload_n 1, 1) := by decide +kernel
theorem dX4_remove_79 : decode cX4_remove 79 = .ok (.dup2, 1) := by decide +kernel
theorem dX4_remove_80 : decode cX4_remove 80 = .ok (.iaload, 1) := by decide +kernel
theorem dX4_remove_81 : decode cX4_remove 81 = .ok (.iconst 1, 1) := by decide +kernel
theorem dX4_remove_82 : decode cX4_remove 82 = .ok (.iadd, 1) := by decide +kernel
theorem dX4_remove_83 : decode cX4_remove 83 = .ok (.iastore, 1) := by decide +kernel
theorem dX4_remove_84 : decode cX4_remove 84 = .ok (.aload_n 0, 1) := by decide +kernel
theorem dX4_remove_85 : decode cX4_remove 85 = .ok (.invokevirtual 60, 3) := by decide +kernel
theorem dX4_remove_88 : decode cX4_remove 88 = .ok (.iconst 0, 1) := by decide +kernel
theorem dX4_remove_89 : decode cX4_remove 89 = .ok (.ireturn, 1) := by decide +kernel
theorem dX4_decompose_0 : decode cX4_decompose 0 = .ok (.aload_n 0, 1) := by decide +kernel
theorem dX4_decompose_1 : decode cX4_decompose 1 = .ok (.getfield 57, 3) := by decide +kernel
theorem dX4_decompose_4 : decode cX4_decompose 4 = .ok (.ifCond .ne 5, 3) := by decide +kernel
theorem dX4_decompose_7 : decode cX4_decompose 7 = .ok (.iconst (-1), 1) := by decide +kernel
theorem dX4_decompose_8 : decode cX4_decompose 8 = .ok (.ireturn, 1) := by decide +kernel
theorem dX4_decompose_9 : decode cX4_decompose 9 = .ok (.iconst 0, 1) := by decide +kernel
theorem dX4_decompose_10 : decode cX4_decompose 10 = .ok (.istore_n 1, 1) := by decide +kernel
theorem dX4_decompose_11 : decode cX4_decompose 11 = .ok (.iconst 1, 1) := by decide +kernel
theorem dX4_decompose_12 : decode cX4_decompose 12 = .ok (.istore_n 2, 1) := by decide +kernel
theorem dX4_decompose_13 : decode cX4_decompose 13 = .ok (.iload_n 2, 1) := by decide +kernel
theorem dX4_decompose_14 : decode cX4_decompose 14 = .ok (.iconst 5, 1) := by decide +kernel
theorem dX4_decompose_15 : decode cX4_decompose 15 = .ok (.if_icmp .gt 42, 3) := by decide +kernel
theorem dX4_decompose_18 : decode cX4_decompose 18 = .ok (.aload_n 0, 1) := by decide +kernel
theorem dX4_decompose_19 : decode cX4_decompose 19 = .ok (.getfield 22, 3) := by decide +kernel
theorem dX4_decompose_22 : decode cX4_decompose 22 = .ok (.iload_n 2, 1) := by decide +kernel
theorem dX4_decompose_23 : decode cX4_decompose 23 = .ok (.iaload, 1) := by decide +kernel
theorem dX4_decompose_24 : decode cX4_decompose 24 = .ok (.ifCond .le 27, 3) := by decide +kernel
theorem dX4_decompose_27 : decode cX4_decompose 27 = .ok (.iload_n 1, 1) := by decide +kernel
theorem dX4_decompose_28 : decode cX4_decompose 28 = .ok (.aload_n 0, 1) := by decide +kernel
theorem dX4_decompose_29 : decode cX4_decompose 29 = .ok (.getfield 57, 3) := by decide +kernel
theorem dX4_decompose_32 : decode cX4_decompose 32 = .ok (.iadd, 1) := by decide +kernel
theorem dX4_decompose_33 : decode cX4_decompose 33 = .ok (.aload_n 0, 1) := by decide +kernel
theorem dX4_decompose_34 : decode cX4_decompose 34 = .ok (.getfield 22, 3) := by decide +kernel
theorem dX4_decompose_37 : decode cX4_decompose 37 = .ok (.iload_n 2, 1) := by decide +kernel
theorem dX4_decompose_38 : decode cX4_decompose 38 = .ok (.iaload, 1) := by decide +kernel
theorem dX4_decompose_39 : decode cX4_decompose 39 = .ok (.isub, 1) := by decide +kernel
theorem dX4_decompose_40 : decode cX4_decompose 40 = .ok (.istore_n 1, 1) := by decide +kernel
theorem dX4_decompose_41 : decode cX4_decompose 41 = .ok (.aload_n 0, 1) := by decide +kernel
theorem dX4_decompose_42 : decode cX4_decompose 42 = .ok (.getfield 22, 3) := by decide +kernel
theorem dX4_decompose_45 : decode cX4_decompose 45 = .ok (.iload_n 2, 1) := by decide +kernel
theorem dX4_decompose_46 : decode cX4_decompose 46 = .ok (.aload_n 0, 1) := by decide +kernel
theorem dX4_decompose_47 : decode cX4_decompose 47 = .ok (.getfield 57, 3) := by decide +kernel
theorem dX4_decompose_50 : decode cX4_decompose 50 = .ok (.iastore, 1) := by decide +kernel
theorem dX4_decompose_51 : decode cX4_decompose 51 = .ok (.iinc 2 1, 3) := by decide +kernel
theorem dX4_decompose_54 : decode cX4_decompose 54 = .ok (.goto (-41), 3) := by decide +kernel
theorem dX4_decompose_57 : decode cX4_decompose 57 = .ok (.aload_n 0, 1) := by decide +kernel
theorem dX4_decompose_58 : decode cX4_decompose 58 = .ok (.invokevirtual 60, 3) := by decide +kernel
theorem dX4_decompose_61 : decode cX4_decompose 61 = .ok (.iload_n 1, 1) := by decide +kernel
theorem dX4_decompose_62 : decode cX4_decompose 62 = .ok (.ireturn, 1) := by decide +kernel
theorem dX4_thin_0 : decode cX4_thin 0 = .ok (.aload_n 0, 1) := by decide +kernel
theorem dX4_thin_1 : decode cX4_thin 1 = .ok (.getfield 57, 3) := by decide +kernel
theorem dX4_thin_4 : decode cX4_thin 4 = .ok (.ifCond .ne 5, 3) := by decide +kernel
theorem dX4_thin_7 : decode cX4_thin 7 = .ok (.iconst (-1), 1) := by decide +kernel
theorem dX4_thin_8 : decode cX4_thin 8 = .ok (.ireturn, 1) := by decide +kernel
theorem dX4_thin_9 : decode cX4_thin 9 = .ok (.iconst 0, 1) := by decide +kernel
theorem dX4_thin_10 : decode cX4_thin 10 = .ok (.istore_n 1, 1) := by decide +kernel
theorem dX4_thin_11 : decode cX4_thin 11 = .ok (.iconst 5, 1) := by decide +kernel
theorem dX4_thin_12 : decode cX4_thin 12 = .ok (.istore_n 2, 1) := by decide +kernel
theorem dX4_thin_13 : decode cX4_thin 13 = .ok (.iload_n 2, 1) := by decide +kernel
theorem dX4_thin_14 : decode cX4_thin 14 = .ok (.iconst 1, 1) := by decide +kernel
theorem dX4_thin_15 : decode cX4_thin 15 = .ok (.if_icmp .lt 42, 3) := by decide +kernel
theorem dX4_thin_18 : decode cX4_thin 18 = .ok (.iconst 0, 1) := by decide +kernel
theorem dX4_thin_19 : decode cX4_thin 19 = .ok (.istore_n 3, 1) := by decide +kernel
theorem dX4_thin_20 : decode cX4_thin 20 = .ok (.iload_n 3, 1) := by decide +kernel
theorem dX4_thin_21 : decode cX4_thin 21 = .ok (.iconst 3, 1) := by decide +kernel
theorem dX4_thin_22 : decode cX4_thin 22 = .ok (.if_icmp .ge 29, 3) := by decide +kernel
theorem dX4_thin_25 : decode cX4_thin 25 = .ok (.aload_n 0, 1) := by decide +kernel
theorem dX4_thin_26 : decode cX4_thin 26 = .ok (.iload_n 2, 1) := by decide +kernel
theorem dX4_thin_27 : decode cX4_thin 27 = .ok (.invokevirtual 107, 3) := by decide +kernel
theorem dX4_thin_30 : decode cX4_thin 30 = .ok (.istore 4, 2) := by decide +kernel
theorem dX4_thin_32 : decode cX4_thin 32 = .ok (.iload 4, 2) := by decide +kernel
theorem dX4_thin_34 : decode cX4_thin 34 = .ok (.ifCond .eq 9, 3) := by decide +kernel
theorem dX4_thin_37 : decode cX4_thin 37 = .ok (.iload_n 1, 1) := by decide +kernel
theorem dX4_thin_38 : decode cX4_thin 38 = .ok (.iconst 1, 1) := by decide +kernel
theorem dX4_thin_39 : decode cX4_thin 39 = .ok (.iadd, 1) := by decide +kernel
theorem dX4_thin_40 : decode cX4_thin 40 = .ok (.goto 4, 3) := by decide +kernel
theorem dX4_thin_43 : decode cX4_thin 43 = .ok (.iload_n 1, 1) := by decide +kernel
theorem dX4_thin_44 : decode cX4_thin 44 = .ok (.istore_n 1, 1) := by decide +kernel
theorem dX4_thin_45 : decode cX4_thin 45 = .ok (.iinc 3 1, 3) := by decide +kernel
theorem dX4_thin_48 : decode cX4_thin 48 = .ok (.goto (-28), 3) := by decide +kernel
theorem dX4_thin_51 : decode cX4_thin 51 = .ok (.iinc 2 (-1), 3) := by decide +kernel
theorem dX4_thin_54 : decode cX4_thin 54 = .ok (.goto (-41), 3) := by decide +kernel
theorem dX4_thin_57 : decode cX4_thin 57 = .ok (.iload_n 1, 1) := by decide +kernel
theorem dX4_thin_58 : decode cX4_thin 58 = .ok (.ireturn, 1) := by decide +kernel
theorem dX4_elevate_0 : decode cX4_elevate 0 = .ok (.aload_n 0, 1) := by decide +kernel
theorem dX4_elevate_1 : decode cX4_elevate 1 = .ok (.getfield 57, 3) := by decide +kernel
theorem dX4_elevate_4 : decode cX4_elevate 4 = .ok (.ifCond .eq 11, 3) := by decide +kernel
theorem dX4_elevate_7 : decode cX4_elevate 7 = .ok (.aload_n 0, 1) := by decide +kernel
theorem dX4_elevate_8 : decode cX4_elevate 8 = .ok (.getfield 57, 3) := by decide +kernel
theorem dX4_elevate_11 : decode cX4_elevate 11 = .ok (.iconst 3, 1) := by decide +kernel
theorem dX4_elevate_12 : decode cX4_elevate 12 = .ok (.if_icmp .ne 5, 3) := by decide +kernel
theorem dX4_elevate_15 : decode cX4_elevate 15 = .ok (.iconst 0, 1) := by decide +kernel
theorem dX4_elevate_16 : decode cX4_elevate 16 = .ok (.ireturn, 1) := by decide +kernel
theorem dX4_elevate_17 : decode cX4_elevate 17 = .ok (.aload_n 0, 1) := by decide +kernel
theorem dX4_elevate_18 : decode cX4_elevate 18 = .ok (.dup, 1) := by decide +kernel
theorem dX4_elevate_19 : decode cX4_elevate 19 = .ok (.getfield 57, 3) := by decide +kernel
theorem dX4_elevate_22 : decode cX4_elevate 22 = .ok (.iconst 1, 1) := by decide +kernel
theorem dX4_elevate_23 : decode cX4_elevate 23 = .ok (.iadd, 1) := by decide +kernel
theorem dX4_elevate_24 : decode cX4_elevate 24 = .ok (.putfield 57, 3) := by decide +kernel
theorem dX4_elevate_27 : decode cX4_elevate 27 = .ok (.iconst 1, 1) := by decide +kernel
theorem dX4_elevate_28 : decode cX4_elevate 28 = .ok (.istore_n 1, 1) := by decide +kernel
theorem dX4_elevate_29 : decode cX4_elevate 29 = .ok (.iload_n 1, 1) := by decide +kernel
theorem dX4_elevate_30 : decode cX4_elevate 30 = .ok (.iconst 5, 1) := by decide +kernel
theorem dX4_elevate_31 : decode cX4_elevate 31 = .ok (.if_icmp .gt 36, 3) := by decide +kernel
theorem dX4_elevate_34 : decode cX4_elevate 34 = .ok (.aload_n 0, 1) := by decide +kernel
theorem dX4_elevate_35 : decode cX4_elevate 35 = .ok (.getfield 22, 3) := by decide +kernel
theorem dX4_elevate_38 : decode cX4_elevate 38 = .ok (.iload_n 1, 1) := by decide +kernel
theorem dX4_elevate_39 : decode cX4_elevate 39 = .ok (.aload_n 0, 1) := by decide +kernel
theorem dX4_elevate_40 : decode cX4_elevate 40 = .ok (.getfield 22, 3) := by decide +kernel
theorem dX4_elevate_43 : decode cX4_elevate 43 = .ok (.iload_n 1, 1) := by decide +kernel
theorem dX4_elevate_44 : decode cX4_elevate 44 = .ok (.iaload, 1) := by decide +kernel
theorem dX4_elevate_45 : decode cX4_elevate 45 = .ok (.ifCond .le 14, 3) := by decide +kernel
theorem dX4_elevate_48 : decode cX4_elevate 48 = .ok (.aload_n 0, 1) := by decide +kernel
theorem dX4_elevate_49 : decode cX4_elevate 49 = .ok (.getfield 22, 3) := by decide +kernel
theorem dX4_elevate_52 : decode cX4_elevate 52 = .ok (.iload_n 1, 1) := by decide +kernel
theorem dX4_elevate_53 : decode cX4_elevate 53 = .ok (.iaload, 1) := by decide +kernel
theorem dX4_elevate_54 : decode cX4_elevate 54 = .ok (.iconst 1, 1) := by decide +kernel
theorem dX4_elevate_55 : decode cX4_elevate 55 = .ok (.iadd, 1) := by decide +kernel
theorem dX4_elevate_56 : decode cX4_elevate 56 = .ok (.goto 4, 3) := by decide +kernel
theorem dX4_elevate_59 : decode cX4_elevate 59 = .ok (.iconst 0, 1) := by decide +kernel
theorem dX4_elevate_60 : decode cX4_elevate 60 = .ok (.iastore, 1) := by decide +kernel
theorem dX4_elevate_61 : decode cX4_elevate 61 = .ok (.iinc 1 1, 3) := by decide +kernel
theorem dX4_elevate_64 : decode cX4_elevate 64 = .ok (.goto (-35), 3) := by decide +kernel
theorem dX4_elevate_67 : decode cX4_elevate 67 = .ok (.aload_n 0, 1) := by decide +kernel
theorem dX4_elevate_68 : decode cX4_elevate 68 = .ok (.invokevirtual 60, 3) := by decide +kernel
theorem dX4_elevate_71 : decode cX4_elevate 71 = .ok (.iconst 1, 1) := by decide +kernel
theorem dX4_elevate_72 : decode cX4_elevate 72 = .ok (.ireturn, 1) := by decide +kernel
theorem dX4_reverse_0 : decode cX4_reverse 0 = .ok (.aload_n 0, 1) := by decide +kernel
theorem dX4_reverse_1 : decode cX4_reverse 1 = .ok (.getfield 57, 3) := by decide +kernel
theorem dX4_reverse_4 : decode cX4_reverse 4 = .ok (.ifCond .ne 5, 3) := by decide +kernel
theorem dX4_reverse_7 : decode cX4_reverse 7 = .ok (.iconst 0, 1) := by decide +kernel
theorem dX4_reverse_8 : decode cX4_reverse 8 = .ok (.ireturn, 1) := by decide +kernel
theorem dX4_reverse_9 : decode cX4_reverse 9 = .ok (.iconst 0, 1) := by decide +kernel
theorem dX4_reverse_10 : decode cX4_reverse 10 = .ok (.istore_n 1, 1) := by decide +kernel
theorem dX4_reverse_11 : decode cX4_reverse 11 = .ok (.iload_n 1, 1) := by decide +kernel
theorem dX4_reverse_12 : decode cX4_reverse 12 = .ok (.iconst 3, 1) := by decide +kernel
theorem dX4_reverse_13 : decode cX4_reverse 13 = .ok (.if_icmp .ge 139, 3) := by decide +kernel
theorem dX4_reverse_16 : decode cX4_reverse 16 = .ok (.iconst 0, 1) := by decide +kernel
theorem dX4_reverse_17 : decode cX4_reverse 17 = .ok (.istore_n 2, 1) := by decide +kernel
theorem dX4_reverse_18 : decode cX4_reverse 18 = .ok (.iload_n 2, 1) := by decide +kernel
theorem dX4_reverse_19 : decode cX4_reverse 19 = .ok (.bipush 6, 2) := by decide +kernel
theorem dX4_reverse_21 : decode cX4_reverse 21 = .ok (.if_icmp .ge 94, 3) := by decide +kernel
theorem dX4_reverse_24 : decode cX4_reverse 24 = .ok (.iconst 0, 1) := by decide +kernel
theorem dX4_reverse_25 : decode cX4_reverse 25 = .ok (.istore_n 3, 1) := by decide +kernel
theorem dX4_reverse_26 : decode cX4_reverse 26 = .ok (.iload_n 3, 1) := by decide +kernel
theorem dX4_reverse_27 : decode cX4_reverse 27 = .ok (.iconst 4, 1) := by decide +kernel
theorem dX4_reverse_28 : decode cX4_reverse 28 = .ok (.if_icmp .ge 81, 3) := by decide +kernel
theorem dX4_reverse_31 : decode cX4_reverse 31 = .ok (.lconst 0, 1) := by decide +kernel
theorem dX4_reverse_32 : decode cX4_reverse 32 = .ok (.lstore 4, 2) := by decide +kernel
theorem dX4_reverse_34 : decode cX4_reverse 34 = .ok (.iload_n 3, 1) := by decide +kernel
theorem dX4_reverse_35 : decode cX4_reverse 35 = .ok (.istore 6, 2) := by decide +kernel
theorem dX4_reverse_37 : decode cX4_reverse 37 = .ok (.iload 6, 2) := by decide +kernel
theorem dX4_reverse_39 : decode cX4_reverse 39 = .ok (.iconst 4, 1) := by decide +kernel
theorem dX4_reverse_40 : decode cX4_reverse 40 = .ok (.if_icmp .ge 39, 3) := by decide +kernel
theorem dX4_reverse_43 : decode cX4_reverse 43 = .ok (.lload 4, 2) := by decide +kernel
theorem dX4_reverse_45 : decode cX4_reverse 45 = .ok (.iload 6, 2) := by decide +kernel
theorem dX4_reverse_47 : decode cX4_reverse 47 = .ok (.iload_n 3, 1) := by decide +kernel
theorem dX4_reverse_48 : decode cX4_reverse 48 = .ok (.invokestatic 93, 3) := by decide +kernel
theorem dX4_reverse_51 : decode cX4_reverse 51 = .ok (.aload_n 0, 1) := by decide +kernel
theorem dX4_reverse_52 : decode cX4_reverse 52 = .ok (.getfield 25, 3) := by decide +kernel
theorem dX4_reverse_55 : decode cX4_reverse 55 = .ok (.bipush 24, 2) := by decide +kernel
theorem dX4_reverse_57 : decode cX4_reverse 57 = .ok (.iload_n 1, 1) := by decide +kernel
theorem dX4_reverse_58 : decode cX4_reverse 58 = .ok (.imul, 1) := by decide +kernel
theorem dX4_reverse_59 : decode cX4_reverse 59 = .ok (.iconst 4, 1) := by decide +kernel
theorem dX4_reverse_60 : decode cX4_reverse 60 = .ok (.iconst 5, 1) := by decide +kernel
theorem dX4_reverse_61 : decode cX4_reverse 61 = .ok (.iload_n 2, 1) := by decide +kernel
theorem dX4_reverse_62 : decode cX4_reverse 62 = .ok (.isub, 1) := by decide +kernel
theorem dX4_reverse_63 : decode cX4_reverse 63 = .ok (.imul, 1) := by decide +kernel
theorem dX4_reverse_64 : decode cX4_reverse 64 = .ok (.iadd, 1) := by decide +kernel
theorem dX4_reverse_65 : decode cX4_reverse 65 = .ok (.iload 6, 2) := by decide +kernel
theorem dX4_reverse_67 : decode cX4_reverse 67 = .ok (.iadd, 1) := by decide +kernel
theorem dX4_reverse_68 : decode cX4_reverse 68 = .ok (.laload, 1) := by decide +kernel
theorem dX4_reverse_69 : decode cX4_reverse 69 = .ok (.lmul, 1) := by decide +kernel
theorem dX4_reverse_70 : decode cX4_reverse 70 = .ok (.ladd, 1) := by decide +kernel
theorem dX4_reverse_71 : decode cX4_reverse 71 = .ok (.lstore 4, 2) := by decide +kernel
theorem dX4_reverse_73 : decode cX4_reverse 73 = .ok (.iinc 6 1, 3) := by decide +kernel
theorem dX4_reverse_76 : decode cX4_reverse 76 = .ok (.goto (-39), 3) := by decide +kernel
theorem dX4_reverse_79 : decode cX4_reverse 79 = .ok (.aload_n 0, 1) := by decide +kernel
theorem dX4_reverse_80 : decode cX4_reverse 80 = .ok (.getfield 38, 3) := by decide +kernel
theorem dX4_reverse_83 : decode cX4_reverse 83 = .ok (.iconst 4, 1) := by decide +kernel
theorem dX4_reverse_84 : decode cX4_reverse 84 = .ok (.iload_n 2, 1) := by decide +kernel
theorem dX4_reverse_85 : decode cX4_reverse 85 = .ok (.imul, 1) := by decide +kernel
theorem dX4_reverse_86 : decode cX4_reverse 86 = .ok (.iload_n 3, 1) := by decide +kernel
theorem dX4_reverse_87 : decode cX4_reverse 87 = .ok (.iadd, 1) := by decide +kernel
theorem dX4_reverse_88 : decode cX4_reverse 88 = .ok (.iload_n 3, 1) := by decide +kernel
theorem dX4_reverse_89 : decode cX4_reverse 89 = .ok (.iconst 2, 1) := by decide +kernel
theorem dX4_reverse_90 : decode cX4_reverse 90 = .ok (.irem, 1) := by decide +kernel
theorem dX4_reverse_91 : decode cX4_reverse 91 = .ok (.ifCond .ne 8, 3) := by decide +kernel
theorem dX4_reverse_94 : decode cX4_reverse 94 = .ok (.lload 4, 2) := by decide +kernel
theorem dX4_reverse_96 : decode cX4_reverse 96 = .ok (.goto 6, 3) := by decide +kernel
theorem dX4_reverse_99 : decode cX4_reverse 99 = .ok (.lload 4, 2) := by decide +kernel
theorem dX4_reverse_101 : decode cX4_reverse 101 = .ok (.lneg, 1) := by decide +kernel
theorem dX4_reverse_102 : decode cX4_reverse 102 = .ok (.lastore, 1) := by decide +kernel
theorem dX4_reverse_103 : decode cX4_reverse 103 = .ok (.iinc 3 1, 3) := by decide +kernel
theorem dX4_reverse_106 : decode cX4_reverse 106 = .ok (.goto (-80), 3) := by decide +kernel
theorem dX4_reverse_109 : decode cX4_reverse 109 = .ok (.iinc 2 1, 3) := by decide +kernel
theorem dX4_reverse_112 : decode cX4_reverse 112 = .ok (.goto (-94), 3) := by decide +kernel
theorem dX4_reverse_115 : decode cX4_reverse 115 = .ok (.iconst 0, 1) := by decide +kernel
theorem dX4_reverse_116 : decode cX4_reverse 116 = .ok (.istore_n 2, 1) := by decide +kernel
theorem dX4_reverse_117 : decode cX4_reverse 117 = .ok (.iload_n 2, 1) := by decide +kernel
theorem dX4_reverse_118 : decode cX4_reverse 118 = .ok (.bipush 24, 2) := by decide +kernel
theorem dX4_reverse_120 : decode cX4_reverse 120 = .ok (.if_icmp .ge 26, 3) := by decide +kernel
theorem dX4_reverse_123 : decode cX4_reverse 123 = .ok (.aload_n 0, 1) := by decide +kernel
theorem dX4_reverse_124 : decode cX4_reverse 124 = .ok (.getfield 25, 3) := by decide +kernel
theorem dX4_reverse_127 : decode cX4_reverse 127 = .ok (.bipush 24, 2) := by decide +kernel
theorem dX4_reverse_129 : decode cX4_reverse 129 = .ok (.iload_n 1, 1) := by decide +kernel
theorem dX4_reverse_130 : decode cX4_reverse 130 = .ok (.imul, 1) := by decide +kernel
theorem dX4_reverse_131 : decode cX4_reverse 131 = .ok (.iload_n 2, 1) := by decide +kernel
theorem dX4_reverse_132 : decode cX4_reverse 132 = .ok (.iadd, 1) := by decide +kernel
theorem dX4_reverse_133 : decode cX4_reverse 133 = .ok (.aload_n 0, 1) := by decide +kernel
theorem dX4_reverse_134 : decode cX4_reverse 134 = .ok (.getfield 38, 3) := by decide +kernel
theorem dX4_reverse_137 : decode cX4_reverse 137 = .ok (.iload_n 2, 1) := by decide +kernel
theorem dX4_reverse_138 : decode cX4_reverse 138 = .ok (.laload, 1) := by decide +kernel
theorem dX4_reverse_139 : decode cX4_reverse 139 = .ok (.lastore, 1) := by decide +kernel
theorem dX4_reverse_140 : decode cX4_reverse 140 = .ok (.iinc 2 1, 3) := by decide +kernel
theorem dX4_reverse_143 : decode cX4_reverse 143 = .ok (.goto (-26), 3) := by decide +kernel
theorem dX4_reverse_146 : decode cX4_reverse 146 = .ok (.iinc 1 1, 3) := by decide +kernel
theorem dX4_reverse_149 : decode cX4_reverse 149 = .ok (.goto (-138), 3) := by decide +kernel
theorem dX4_reverse_152 : decode cX4_reverse 152 = .ok (.iconst 1, 1) := by decide +kernel
theorem dX4_reverse_153 : decode cX4_reverse 153 = .ok (.istore_n 1, 1) := by decide +kernel
theorem dX4_reverse_154 : decode cX4_reverse 154 = .ok (.iload_n 1, 1) := by decide +kernel
theorem dX4_reverse_155 : decode cX4_reverse 155 = .ok (.iconst 2, 1) := by decide +kernel
theorem dX4_reverse_156 : decode cX4_reverse 156 = .ok (.if_icmp .gt 41, 3) := by decide +kernel
theorem dX4_reverse_159 : decode cX4_reverse 159 = .ok (.aload_n 0, 1) := by decide +kernel
theorem dX4_reverse_160 : decode cX4_reverse 160 = .ok (.getfield 22, 3) := by decide +kernel
theorem dX4_reverse_163 : decode cX4_reverse 163 = .ok (.iload_n 1, 1) := by decide +kernel
theorem dX4_reverse_164 : decode cX4_reverse 164 = .ok (.iaload, 1) := by decide +kernel
theorem dX4_reverse_165 : decode cX4_reverse 165 = .ok (.istore_n 2, 1) := by decide +kernel
theorem dX4_reverse_166 : decode cX4_reverse 166 = .ok (.aload_n 0, 1) := by decide +kernel
theorem dX4_reverse_167 : decode cX4_reverse 167 = .ok (.getfield 22, 3) := by decide +kernel
theorem dX4_reverse_170 : decode cX4_reverse 170 = .ok (.iload_n 1, 1) := by decide +kernel
theorem dX4_reverse_171 : decode cX4_reverse 171 = .ok (.aload_n 0, 1) := by decide +kernel
theorem dX4_reverse_172 : decode cX4_reverse 172 = .ok (.getfield 22, 3) := by decide +kernel
theorem dX4_reverse_175 : decode cX4_reverse 175 = .ok (.bipush 6, 2) := by decide +kernel
theorem dX4_reverse_177 : decode cX4_reverse 177 = .ok (.iload_n 1, 1) := by decide +kernel
theorem dX4_reverse_178 : decode cX4_reverse 178 = .ok (.isub, 1) := by decide +kernel
theorem dX4_reverse_179 : decode cX4_reverse 179 = .ok (.iaload, 1) := by decide +kernel
theorem dX4_reverse_180 : decode cX4_reverse 180 = .ok (.iastore, 1) := by decide +kernel
theorem dX4_reverse_181 : decode cX4_reverse 181 = .ok (.aload_n 0, 1) := by decide +kernel
theorem dX4_reverse_182 : decode cX4_reverse 182 = .ok (.getfield 22, 3) := by decide +kernel
theorem dX4_reverse_185 : decode cX4_reverse 185 = .ok (.bipush 6, 2) := by decide +kernel
theorem dX4_reverse_187 : decode cX4_reverse 187 = .ok (.iload_n 1, 1) := by decide +kernel
theorem dX4_reverse_188 : decode cX4_reverse 188 = .ok (.isub, 1) := by decide +kernel
theorem dX4_reverse_189 : decode cX4_reverse 189 = .ok (.iload_n 2, 1) := by decide +kernel
theorem dX4_reverse_190 : decode cX4_reverse 190 = .ok (.iastore, 1) := by decide +kernel
theorem dX4_reverse_191 : decode cX4_reverse 191 = .ok (.iinc 1 1, 3) := by decide +kernel
theorem dX4_reverse_194 : decode cX4_reverse 194 = .ok (.goto (-40), 3) := by decide +kernel
theorem dX4_reverse_197 : decode cX4_reverse 197 = .ok (.aload_n 0, 1) := by decide +kernel
theorem dX4_reverse_198 : decode cX4_reverse 198 = .ok (.invokevirtual 60, 3) := by decide +kernel
theorem dX4_reverse_201 : decode cX4_reverse 201 = .ok (.iconst 1, 1) := by decide +kernel
theorem dX4_reverse_202 : decode cX4_reverse 202 = .ok (.ireturn, 1) := by decide +kernel
theorem dX4_degree_0 : decode cX4_degree 0 = .ok (.aload_n 0, 1) := by decide +kernel
theorem dX4_degree_1 : decode cX4_degree 1 = .ok (.getfield 57, 3) := by decide +kernel
theorem dX4_degree_4 : decode cX4_degree 4 = .ok (.ireturn, 1) := by decide +kernel
theorem dX4_points_0 : decode cX4_points 0 = .ok (.aload_n 0, 1) := by decide +kernel
theorem dX4_points_1 : decode cX4_points 1 = .ok (.getfield 57, 3) := by decide +kernel
theorem dX4_points_4 : decode cX4_points 4 = .ok (.ifCond .ne 7, 3) := by decide +kernel
theorem dX4_points_7 : decode cX4_points 7 = .ok (.iconst 0, 1) := by decide +kernel
theorem dX4_points_8 : decode cX4_points 8 = .ok (.goto 7, 3) := by decide +kernel
theorem dX4_points_11 : decode cX4_points 11 = .ok (.aload_n 0, 1) := by decide +kernel
theorem dX4_points_12 : decode cX4_points 12 = .ok (.getfield 70, 3) := by decide +kernel
theorem dX4_points_15 : decode cX4_points 15 = .ok (.ireturn, 1) := by decide +kernel
theorem dX4_knotAt_0 : decode cX4_knotAt 0 = .ok (.aload_n 0, 1) := by decide +kernel
theorem dX4_knotAt_1 : decode cX4_knotAt 1 = .ok (.getfield 57, 3) := by decide +kernel
