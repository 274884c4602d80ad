theorem dX4_knotAt_4 : decode cX4_knotAt 4 = .ok (.ifCond .eq 20, 3) := by decide +kernel
theorem dX4_knotAt_7 : decode cX4_knotAt 7 = .ok (.iload_n 1, 1) := by decide +kernel
theorem dX4_knotAt_8 : decode cX4_knotAt 8 = .ok (.ifCond .lt 16, 3) := by decide +kernel
theorem dX4_knotAt_11 : decode cX4_knotAt 11 = .ok (.iload_n 1, 1) := by decide +kernel
theorem dX4_knotAt_12 : decode cX4_knotAt 12 = .ok (.aload_n 0, 1) := by decide +kernel
theorem dX4_knotAt_13 : decode cX4_knotAt 13 = .ok (.getfield 70, 3) := by decide +kernel
theorem dX4_knotAt_16 : decode cX4_knotAt 16 = .ok (.aload_n 0, 1) := by decide +kernel
theorem dX4_knotAt_17 : decode cX4_knotAt 17 = .ok (.getfield 57, 3) := by decide +kernel
theorem dX4_knotAt_20 : decode cX4_knotAt 20 = .ok (.iadd, 1) := by decide +kernel
theorem dX4_knotAt_21 : decode cX4_knotAt 21 = .ok (.if_icmp .le 7, 3) := by decide +kernel
theorem dX4_knotAt_24 : decode cX4_knotAt 24 = .ok (.iconst (-1), 1) := by decide +kernel
theorem dX4_knotAt_25 : decode cX4_knotAt 25 = .ok (.goto 9, 3) := by decide +kernel
theorem dX4_knotAt_28 : decode cX4_knotAt 28 = .ok (.aload_n 0, 1) := by decide +kernel
theorem dX4_knotAt_29 : decode cX4_knotAt 29 = .ok (.getfield 29, 3) := by decide +kernel
theorem dX4_knotAt_32 : decode cX4_knotAt 32 = .ok (.iload_n 1, 1) := by decide +kernel
theorem dX4_knotAt_33 : decode cX4_knotAt 33 = .ok (.iaload, 1) := by decide +kernel
theorem dX4_knotAt_34 : decode cX4_knotAt 34 = .ok (.ireturn, 1) := by decide +kernel
theorem dX4_control_0 : decode cX4_control 0 = .ok (.aload_n 0, 1) := by decide +kernel
theorem dX4_control_1 : decode cX4_control 1 = .ok (.getfield 57, 3) := by decide +kernel
theorem dX4_control_4 : decode cX4_control 4 = .ok (.ifCond .eq 24, 3) := by decide +kernel
theorem dX4_control_7 : decode cX4_control 7 = .ok (.iload_n 1, 1) := by decide +kernel
theorem dX4_control_8 : decode cX4_control 8 = .ok (.ifCond .lt 20, 3) := by decide +kernel
theorem dX4_control_11 : decode cX4_control 11 = .ok (.iload_n 1, 1) := by decide +kernel
theorem dX4_control_12 : decode cX4_control 12 = .ok (.aload_n 0, 1) := by decide +kernel
theorem dX4_control_13 : decode cX4_control 13 = .ok (.getfield 70, 3) := by decide +kernel
theorem dX4_control_16 : decode cX4_control 16 = .ok (.if_icmp .ge 12, 3) := by decide +kernel
theorem dX4_control_19 : decode cX4_control 19 = .ok (.iload_n 2, 1) := by decide +kernel
theorem dX4_control_20 : decode cX4_control 20 = .ok (.ifCond .lt 8, 3) := by decide +kernel
theorem dX4_control_23 : decode cX4_control 23 = .ok (.iload_n 2, 1) := by decide +kernel
theorem dX4_control_24 : decode cX4_control 24 = .ok (.iconst 2, 1) := by decide +kernel
theorem dX4_control_25 : decode cX4_control 25 = .ok (.if_icmp .le 5, 3) := by decide +kernel
theorem dX4_control_28 : decode cX4_control 28 = .ok (.lconst 0, 1) := by decide +kernel
theorem dX4_control_29 : decode cX4_control 29 = .ok (.lreturn, 1) := by decide +kernel
theorem dX4_control_30 : decode cX4_control 30 = .ok (.aload_n 0, 1) := by decide +kernel
theorem dX4_control_31 : decode cX4_control 31 = .ok (.iload_n 1, 1) := by decide +kernel
theorem dX4_control_32 : decode cX4_control 32 = .ok (.iload_n 2, 1) := by decide +kernel
theorem dX4_control_33 : decode cX4_control 33 = .ok (.invokevirtual 96, 3) := by decide +kernel
theorem dX4_control_36 : decode cX4_control 36 = .ok (.lreturn, 1) := by decide +kernel
theorem dX4_span_0 : decode cX4_span 0 = .ok (.aload_n 0, 1) := by decide +kernel
theorem dX4_span_1 : decode cX4_span 1 = .ok (.getfield 57, 3) := by decide +kernel
theorem dX4_span_4 : decode cX4_span 4 = .ok (.ifCond .eq 14, 3) := by decide +kernel
theorem dX4_span_7 : decode cX4_span 7 = .ok (.iload_n 1, 1) := by decide +kernel
theorem dX4_span_8 : decode cX4_span 8 = .ok (.ifCond .lt 10, 3) := by decide +kernel
theorem dX4_span_11 : decode cX4_span 11 = .ok (.iload_n 1, 1) := by decide +kernel
theorem dX4_span_12 : decode cX4_span 12 = .ok (.sipush 360, 3) := by decide +kernel
theorem dX4_span_15 : decode cX4_span 15 = .ok (.if_icmp .le 7, 3) := by decide +kernel
theorem dX4_span_18 : decode cX4_span 18 = .ok (.iconst (-1), 1) := by decide +kernel
theorem dX4_span_19 : decode cX4_span 19 = .ok (.goto 8, 3) := by decide +kernel
theorem dX4_span_22 : decode cX4_span 22 = .ok (.aload_n 0, 1) := by decide +kernel
theorem dX4_span_23 : decode cX4_span 23 = .ok (.iload_n 1, 1) := by decide +kernel
theorem dX4_span_24 : decode cX4_span 24 = .ok (.invokevirtual 73, 3) := by decide +kernel
theorem dX4_span_27 : decode cX4_span 27 = .ok (.ireturn, 1) := by decide +kernel
theorem dX4_basis_0 : decode cX4_basis 0 = .ok (.aload_n 0, 1) := by decide +kernel
theorem dX4_basis_1 : decode cX4_basis 1 = .ok (.getfield 57, 3) := by decide +kernel
theorem dX4_basis_4 : decode cX4_basis 4 = .ok (.ifCond .eq 26, 3) := by decide +kernel
theorem dX4_basis_7 : decode cX4_basis 7 = .ok (.iload_n 2, 1) := by decide +kernel
theorem dX4_basis_8 : decode cX4_basis 8 = .ok (.ifCond .lt 22, 3) := by decide +kernel
theorem dX4_basis_11 : decode cX4_basis 11 = .ok (.iload_n 2, 1) := by decide +kernel
theorem dX4_basis_12 : decode cX4_basis 12 = .ok (.sipush 360, 3) := by decide +kernel
theorem dX4_basis_15 : decode cX4_basis 15 = .ok (.if_icmp .gt 15, 3) := by decide +kernel
theorem dX4_basis_18 : decode cX4_basis 18 = .ok (.iload_n 1, 1) := by decide +kernel
theorem dX4_basis_19 : decode cX4_basis 19 = .ok (.ifCond .lt 11, 3) := by decide +kernel
theorem dX4_basis_22 : decode cX4_basis 22 = .ok (.iload_n 1, 1) := by decide +kernel
theorem dX4_basis_23 : decode cX4_basis 23 = .ok (.aload_n 0, 1) := by decide +kernel
theorem dX4_basis_24 : decode cX4_basis 24 = .ok (.getfield 70, 3) := by decide +kernel
theorem dX4_basis_27 : decode cX4_basis 27 = .ok (.if_icmp .lt 7, 3) := by decide +kernel
theorem dX4_basis_30 : decode cX4_basis 30 = .ok (.ldc2_w 111, 3) := by decide +kernel
theorem dX4_basis_33 : decode cX4_basis 33 = .ok (.lreturn, 1) := by decide +kernel
theorem dX4_basis_34 : decode cX4_basis 34 = .ok (.aload_n 0, 1) := by decide +kernel
theorem dX4_basis_35 : decode cX4_basis 35 = .ok (.iload_n 2, 1) := by decide +kernel
theorem dX4_basis_36 : decode cX4_basis 36 = .ok (.invokevirtual 73, 3) := by decide +kernel
theorem dX4_basis_39 : decode cX4_basis 39 = .ok (.istore_n 3, 1) := by decide +kernel
theorem dX4_basis_40 : decode cX4_basis 40 = .ok (.iconst 0, 1) := by decide +kernel
theorem dX4_basis_41 : decode cX4_basis 41 = .ok (.istore 4, 2) := by decide +kernel
theorem dX4_basis_43 : decode cX4_basis 43 = .ok (.iload 4, 2) := by decide +kernel
theorem dX4_basis_45 : decode cX4_basis 45 = .ok (.bipush 24, 2) := by decide +kernel
theorem dX4_basis_47 : decode cX4_basis 47 = .ok (.if_icmp .ge 17, 3) := by decide +kernel
theorem dX4_basis_50 : decode cX4_basis 50 = .ok (.aload_n 0, 1) := by decide +kernel
theorem dX4_basis_51 : decode cX4_basis 51 = .ok (.getfield 38, 3) := by decide +kernel
theorem dX4_basis_54 : decode cX4_basis 54 = .ok (.iload 4, 2) := by decide +kernel
theorem dX4_basis_56 : decode cX4_basis 56 = .ok (.lconst 0, 1) := by decide +kernel
theorem dX4_basis_57 : decode cX4_basis 57 = .ok (.lastore, 1) := by decide +kernel
theorem dX4_basis_58 : decode cX4_basis 58 = .ok (.iinc 4 1, 3) := by decide +kernel
theorem dX4_basis_61 : decode cX4_basis 61 = .ok (.goto (-18), 3) := by decide +kernel
theorem dX4_basis_64 : decode cX4_basis 64 = .ok (.aload_n 0, 1) := by decide +kernel
theorem dX4_basis_65 : decode cX4_basis 65 = .ok (.getfield 38, 3) := by decide +kernel
theorem dX4_basis_68 : decode cX4_basis 68 = .ok (.iload_n 3, 1) := by decide +kernel
theorem dX4_basis_69 : decode cX4_basis 69 = .ok (.lconst 1, 1) := by decide +kernel
theorem dX4_basis_70 : decode cX4_basis 70 = .ok (.lastore, 1) := by decide +kernel
theorem dX4_basis_71 : decode cX4_basis 71 = .ok (.iconst 1, 1) := by decide +kernel
theorem dX4_basis_72 : decode cX4_basis 72 = .ok (.istore 4, 2) := by decide +kernel
theorem dX4_basis_74 : decode cX4_basis 74 = .ok (.iload 4, 2) := by decide +kernel
theorem dX4_basis_76 : decode cX4_basis 76 = .ok (.aload_n 0, 1) := by decide +kernel
theorem dX4_basis_77 : decode cX4_basis 77 = .ok (.getfield 57, 3) := by decide +kernel
theorem dX4_basis_80 : decode cX4_basis 80 = .ok (.if_icmp .gt 168, 3) := by decide +kernel
theorem dX4_basis_83 : decode cX4_basis 83 = .ok (.iload_n 3, 1) := by decide +kernel
theorem dX4_basis_84 : decode cX4_basis 84 = .ok (.iload 4, 2) := by decide +kernel
theorem dX4_basis_86 : decode cX4_basis 86 = .ok (.isub, 1) := by decide +kernel
theorem dX4_basis_87 : decode cX4_basis 87 = .ok (.istore 5, 2) := by decide +kernel
theorem dX4_basis_89 : decode cX4_basis 89 = .ok (.iload 5, 2) := by decide +kernel
theorem dX4_basis_91 : decode cX4_basis 91 = .ok (.iload_n 3, 1) := by decide +kernel
theorem dX4_basis_92 : decode cX4_basis 92 = .ok (.if_icmp .gt 150, 3) := by decide +kernel
theorem dX4_basis_95 : decode cX4_basis 95 = .ok (.aload_n 0, 1) := by decide +kernel
theorem dX4_basis_96 : decode cX4_basis 96 = .ok (.getfield 29, 3) := by decide +kernel
theorem dX4_basis_99 : decode cX4_basis 99 = .ok (.iload 5, 2) := by decide +kernel
theorem dX4_basis_101 : decode cX4_basis 101 = .ok (.iload 4, 2) := by decide +kernel
theorem dX4_basis_103 : decode cX4_basis 103 = .ok (.iadd, 1) := by decide +kernel
theorem dX4_basis_104 : decode cX4_basis 104 = .ok (.iaload, 1) := by decide +kernel
theorem dX4_basis_105 : decode cX4_basis 105 = .ok (.aload_n 0, 1) := by decide +kernel
theorem dX4_basis_106 : decode cX4_basis 106 = .ok (.getfield 29, 3) := by decide +kernel
theorem dX4_basis_109 : decode cX4_basis 109 = .ok (.iload 5, 2) := by decide +kernel
theorem dX4_basis_111 : decode cX4_basis 111 = .ok (.iaload, 1) := by decide +kernel
theorem dX4_basis_112 : decode cX4_basis 112 = .ok (.isub, 1) := by decide +kernel
theorem dX4_basis_113 : decode cX4_basis 113 = .ok (.istore 6, 2) := by decide +kernel
theorem dX4_basis_115 : decode cX4_basis 115 = .ok (.aload_n 0, 1) := by decide +kernel
theorem dX4_basis_116 : decode cX4_basis 116 = .ok (.getfield 29, 3) := by decide +kernel
theorem dX4_basis_119 : decode cX4_basis 119 = .ok (.iload 5, 2) := by decide +kernel
theorem dX4_basis_121 : decode cX4_basis 121 = .ok (.iload 4, 2) := by decide +kernel
theorem dX4_basis_123 : decode cX4_basis 123 = .ok (.iadd, 1) := by decide +kernel
theorem dX4_basis_124 : decode cX4_basis 124 = .ok (.iconst 1, 1) := by decide +kernel
theorem dX4_basis_125 : decode cX4_basis 125 = .ok (.iadd, 1) := by decide +kernel
theorem dX4_basis_126 : decode cX4_basis 126 = .ok (.iaload, 1) := by decide +kernel
theorem dX4_basis_127 : decode cX4_basis 127 = .ok (.aload_n 0, 1) := by decide +kernel
theorem dX4_basis_128 : decode cX4_basis 128 = .ok (.getfield 29, 3) := by decide +kernel
theorem dX4_basis_131 : decode cX4_basis 131 = .ok (.iload 5, 2) := by decide +kernel
theorem dX4_basis_133 : decode cX4_basis 133 = .ok (.iconst 1, 1) := by decide +kernel
theorem dX4_basis_134 : decode cX4_basis 134 = .ok (.iadd, 1) := by decide +kernel
theorem dX4_basis_135 : decode cX4_basis 135 = .ok (.iaload, 1) := by decide +kernel
theorem dX4_basis_136 : decode cX4_basis 136 = .ok (.isub, 1) := by decide +kernel
theorem dX4_basis_137 : decode cX4_basis 137 = .ok (.istore 7, 2) := by decide +kernel
theorem dX4_basis_139 : decode cX4_basis 139 = .ok (.iload 6, 2) := by decide +kernel
theorem dX4_basis_141 : decode cX4_basis 141 = .ok (.ifCond .ne 7, 3) := by decide +kernel
theorem dX4_basis_144 : decode cX4_basis 144 = .ok (.lconst 0, 1) := by decide +kernel
theorem dX4_basis_145 : decode cX4_basis 145 = .ok (.goto 9, 3) := by decide +kernel
theorem dX4_basis_148 : decode cX4_basis 148 = .ok (.bipush 60, 2) := by decide +kernel
theorem dX4_basis_150 : decode cX4_basis 150 = .ok (.iload 6, 2) := by decide +kernel
theorem dX4_basis_152 : decode cX4_basis 152 = .ok (.idiv, 1) := by decide +kernel
theorem dX4_basis_153 : decode cX4_basis 153 = .ok (.i2l, 1) := by decide +kernel
theorem dX4_basis_154 : decode cX4_basis 154 = .ok (.lstore 8, 2) := by decide +kernel
theorem dX4_basis_156 : decode cX4_basis 156 = .ok (.iload 7, 2) := by decide +kernel
theorem dX4_basis_158 : decode cX4_basis 158 = .ok (.ifCond .ne 7, 3) := by decide +kernel
theorem dX4_basis_161 : decode cX4_basis 161 = .ok (.lconst 0, 1) := by decide +kernel
theorem dX4_basis_162 : decode cX4_basis 162 = .ok (.goto 9, 3) := by decide +kernel
theorem dX4_basis_165 : decode cX4_basis 165 = .ok (.bipush 60, 2) := by decide +kernel
theorem dX4_basis_167 : decode cX4_basis 167 = .ok (.iload 7, 2) := by decide +kernel
theorem dX4_basis_169 : decode cX4_basis 169 = .ok (.idiv, 1) := by decide +kernel
theorem dX4_basis_170 : decode cX4_basis 170 = .ok (.i2l, 1) := by decide +kernel
theorem dX4_basis_171 : decode cX4_basis 171 = .ok (.lstore 10, 2) := by decide +kernel
theorem dX4_basis_173 : decode cX4_basis 173 = .ok (.aload_n 0, 1) := by decide +kernel
theorem dX4_basis_174 : decode cX4_basis 174 = .ok (.getfield 38, 3) := by decide +kernel
theorem dX4_basis_177 : decode cX4_basis 177 = .ok (.iload 5, 2) := by decide +kernel
theorem dX4_basis_179 : decode cX4_basis 179 = .ok (.lload 8, 2) := by decide +kernel
theorem dX4_basis_181 : decode cX4_basis 181 = .ok (.iload_n 2, 1) := by decide +kernel
theorem dX4_basis_182 : decode cX4_basis 182 = .ok (.bipush 60, 2) := by decide +kernel
theorem dX4_basis_184 : decode cX4_basis 184 = .ok (.aload_n 0, 1) := by decide +kernel
theorem dX4_basis_185 : decode cX4_basis 185 = .ok (.getfield 29, 3) := by decide +kernel
theorem dX4_basis_188 : decode cX4_basis 188 = .ok (.iload 5, 2) := by decide +kernel
theorem dX4_basis_190 : decode cX4_basis 190 = .ok (.iaload, 1) := by decide +kernel
theorem dX4_basis_191 : decode cX4_basis 191 = .ok (.imul, 1) := by decide +kernel
theorem dX4_basis_192 : decode cX4_basis 192 = .ok (.isub, 1) := by decide +kernel
theorem dX4_basis_193 : decode cX4_basis 193 = .ok (.i2l, 1) := by decide +kernel
theorem dX4_basis_194 : decode cX4_basis 194 = .ok (.lmul, 1) := by decide +kernel
theorem dX4_basis_195 : decode cX4_basis 195 = .ok (.aload_n 0, 1) := by decide +kernel
theorem dX4_basis_196 : decode cX4_basis 196 = .ok (.getfield 38, 3) := by decide +kernel
theorem dX4_basis_199 : decode cX4_basis 199 = .ok (.iload 5, 2) := by decide +kernel
theorem dX4_basis_201 : decode cX4_basis 201 = .ok (.laload, 1) := by decide +kernel
theorem dX4_basis_202 : decode cX4_basis 202 = .ok (.lmul, 1) := by decide +kernel
theorem dX4_basis_203 : decode cX4_basis 203 = .ok (.lload 10, 2) := by decide +kernel
theorem dX4_basis_205 : decode cX4_basis 205 = .ok (.bipush 60, 2) := by decide +kernel
theorem dX4_basis_207 : decode cX4_basis 207 = .ok (.aload_n 0, 1) := by decide +kernel
theorem dX4_basis_208 : decode cX4_basis 208 = .ok (.getfield 29, 3) := by decide +kernel
theorem dX4_basis_211 : decode cX4_basis 211 = .ok (.iload 5, 2) := by decide +kernel
theorem dX4_basis_213 : decode cX4_basis 213 = .ok (.iload 4, 2) := by decide +kernel
theorem dX4_basis_215 : decode cX4_basis 215 = .ok (.iadd, 1) := by decide +kernel
theorem dX4_basis_216 : decode cX4_basis 216 = .ok (.iconst 1, 1) := by decide +kernel
theorem dX4_basis_217 : decode cX4_basis 217 = .ok (.iadd, 1) := by decide +kernel
theorem dX4_basis_218 : decode cX4_basis 218 = .ok (.iaload, 1) := by decide +kernel
theorem dX4_basis_219 : decode cX4_basis 219 = .ok (.imul, 1) := by decide +kernel
theorem dX4_basis_220 : decode cX4_basis 220 = .ok (.iload_n 2, 1) := by decide +kernel
theorem dX4_basis_221 : decode cX4_basis 221 = .ok (.isub, 1) := by decide +kernel
theorem dX4_basis_222 : decode cX4_basis 222 = .ok (.i2l, 1) := by decide +kernel
theorem dX4_basis_223 : decode cX4_basis 223 = .ok (.lmul, 1) := by decide +kernel
theorem dX4_basis_224 : decode cX4_basis 224 = .ok (.aload_n 0, 1) := by decide +kernel
theorem dX4_basis_225 : decode cX4_basis 225 = .ok (.getfield 38, 3) := by decide +kernel
theorem dX4_basis_228 : decode cX4_basis 228 = .ok (.iload 5, 2) := by decide +kernel
theorem dX4_basis_230 : decode cX4_basis 230 = .ok (.iconst 1, 1) := by decide +kernel
theorem dX4_basis_231 : decode cX4_basis 231 = .ok (.iadd, 1) := by decide +kernel
theorem dX4_basis_232 : decode cX4_basis 232 = .ok (.laload, 1) := by decide +kernel
theorem dX4_basis_233 : decode cX4_basis 233 = .ok (.lmul, 1) := by decide +kernel
theorem dX4_basis_234 : decode cX4_basis 234 = .ok (.ladd, 1) := by decide +kernel
theorem dX4_basis_235 : decode cX4_basis 235 = .ok (.lastore, 1) := by decide +kernel
theorem dX4_basis_236 : decode cX4_basis 236 = .ok (.iinc 5 1, 3) := by decide +kernel
theorem dX4_basis_239 : decode cX4_basis 239 = .ok (.goto (-150), 3) := by decide +kernel
theorem dX4_basis_242 : decode cX4_basis 242 = .ok (.iinc 4 1, 3) := by decide +kernel
theorem dX4_basis_245 : decode cX4_basis 245 = .ok (.goto (-171), 3) := by decide +kernel
theorem dX4_basis_248 : decode cX4_basis 248 = .ok (.aload_n 0, 1) := by decide +kernel
theorem dX4_basis_249 : decode cX4_basis 249 = .ok (.getfield 38, 3) := by decide +kernel
theorem dX4_basis_252 : decode cX4_basis 252 = .ok (.iload_n 1, 1) := by decide +kernel
theorem dX4_basis_253 : decode cX4_basis 253 = .ok (.laload, 1) := by decide +kernel
theorem dX4_basis_254 : decode cX4_basis 254 = .ok (.aload_n 0, 1) := by decide +kernel
theorem dX4_basis_255 : decode cX4_basis 255 = .ok (.getfield 57, 3) := by decide +kernel
theorem dX4_basis_258 : decode cX4_basis 258 = .ok (.iconst 1, 1) := by decide +kernel
theorem dX4_basis_259 : decode cX4_basis 259 = .ok (.if_icmp .ne 9, 3) := by decide +kernel
theorem dX4_basis_262 : decode cX4_basis 262 = .ok (.ldc2_w 81, 3) := by decide +kernel
theorem dX4_basis_265 : decode cX4_basis 265 = .ok (.goto 18, 3) := by decide +kernel
theorem dX4_basis_268 : decode cX4_basis 268 = .ok (.aload_n 0, 1) := by decide +kernel
theorem dX4_basis_269 : decode cX4_basis 269 = .ok (.getfield 57, 3) := by decide +kernel
theorem dX4_basis_272 : decode cX4_basis 272 = .ok (.iconst 2, 1) := by decide +kernel
theorem dX4_basis_273 : decode cX4_basis 273 = .ok (.if_icmp .ne 9, 3) := by decide +kernel
theorem dX4_basis_276 : decode cX4_basis 276 = .ok (.ldc2_w 83, 3) := by decide +kernel
theorem dX4_basis_279 : decode cX4_basis 279 = .ok (.goto 4, 3) := by decide +kernel
theorem dX4_basis_282 : decode cX4_basis 282 = .ok (.lconst 1, 1) := by decide +kernel
theorem dX4_basis_283 : decode cX4_basis 283 = .ok (.lmul, 1) := by decide +kernel
theorem dX4_basis_284 : decode cX4_basis 284 = .ok (.lreturn, 1) := by decide +kernel
theorem dX4_at_0 : decode cX4_at 0 = .ok (.bipush 24, 2) := by decide +kernel
theorem dX4_at_2 : decode cX4_at 2 = .ok (.iload_n 1, 1) := by decide +kernel
theorem dX4_at_3 : decode cX4_at 3 = .ok (.imul, 1) := by decide +kernel
theorem dX4_at_4 : decode cX4_at 4 = .ok (.iconst 4, 1) := by decide +kernel
theorem dX4_at_5 : decode cX4_at 5 = .ok (.iload_n 2, 1) := by decide +kernel
theorem dX4_at_6 : decode cX4_at 6 = .ok (.imul, 1) := by decide +kernel
theorem dX4_at_7 : decode cX4_at 7 = .ok (.iadd, 1) := by decide +kernel
theorem dX4_at_8 : decode cX4_at 8 = .ok (.istore 4, 2) := by decide +kernel
theorem dX4_at_10 : decode cX4_at 10 = .ok (.aload_n 0, 1) := by decide +kernel
theorem dX4_at_11 : decode cX4_at 11 = .ok (.getfield 25, 3) := by decide +kernel
theorem dX4_at_14 : decode cX4_at 14 = .ok (.iload 4, 2) := by decide +kernel
theorem dX4_at_16 : decode cX4_at 16 = .ok (.iconst 3, 1) := by decide +kernel
theorem dX4_at_17 : decode cX4_at 17 = .ok (.iadd, 1) := by decide +kernel
theorem dX4_at_18 : decode cX4_at 18 = .ok (.laload, 1) := by decide +kernel
theorem dX4_at_19 : decode cX4_at 19 = .ok (.iload_n 3, 1) := by decide +kernel
theorem dX4_at_20 : decode cX4_at 20 = .ok (.i2l, 1) := by decide +kernel
theorem dX4_at_21 : decode cX4_at 21 = .ok (.lmul, 1) := by decide +kernel
theorem dX4_at_22 : decode cX4_at 22 = .ok (.ldc2_w 83, 3) := by decide +kernel
theorem dX4_at_25 : decode cX4_at 25 = .ok (.aload_n 0, 1) := by decide +kernel
theorem dX4_at_26 : decode cX4_at 26 = .ok (.getfield 25, 3) := by decide +kernel
theorem dX4_at_29 : decode cX4_at 29 = .ok (.iload 4, 2) := by decide +kernel
theorem dX4_at_31 : decode cX4_at 31 = .ok (.iconst 2, 1) := by decide +kernel
theorem dX4_at_32 : decode cX4_at 32 = .ok (.iadd, 1) := by decide +kernel
theorem dX4_at_33 : decode cX4_at 33 = .ok (.laload, 1) := by decide +kernel
theorem dX4_at_34 : decode cX4_at 34 = .ok (.lmul, 1) := by decide +kernel
theorem dX4_at_35 : decode cX4_at 35 = .ok (.ladd, 1) := by decide +kernel
theorem dX4_at_36 : decode cX4_at 36 = .ok (.lstore 5, 2) := by decide +kernel
theorem dX4_at_38 : decode cX4_at 38 = .ok (.lload 5, 2) := by decide +kernel
theorem dX4_at_40 : decode cX4_at 40 = .ok (.iload_n 3, 1) := by decide +kernel
theorem dX4_at_41 : decode cX4_at 41 = .ok (.i2l, 1) := by decide +kernel
theorem dX4_at_42 : decode cX4_at 42 = .ok (.lmul, 1) := by decide +kernel
theorem dX4_at_43 : decode cX4_at 43 = .ok (.ldc2_w 81, 3) := by decide +kernel
theorem dX4_at_46 : decode cX4_at 46 = .ok (.aload_n 0, 1) := by decide +kernel
theorem dX4_at_47 : decode cX4_at 47 = .ok (.getfield 25, 3) := by decide +kernel
theorem dX4_at_50 : decode cX4_at 50 = .ok (.iload 4, 2) := by decide +kernel
theorem dX4_at_52 : decode cX4_at 52 = .ok (.iconst 1, 1) := by decide +kernel
theorem dX4_at_53 : decode cX4_at 53 = .ok (.iadd, 1) := by decide +kernel
theorem dX4_at_54 : decode cX4_at 54 = .ok (.laload, 1) := by decide +kernel
theorem dX4_at_55 : decode cX4_at 55 = .ok (.lmul, 1) := by decide +kernel
theorem dX4_at_56 : decode cX4_at 56 = .ok (.ladd, 1) := by decide +kernel
theorem dX4_at_57 : decode cX4_at 57 = .ok (.lstore 5, 2) := by decide +kernel
theorem dX4_at_59 : decode cX4_at 59 = .ok (.lload 5, 2) := by decide +kernel
theorem dX4_at_61 : decode cX4_at 61 = .ok (.iload_n 3, 1) := by decide +kernel
theorem dX4_at_62 : decode cX4_at 62 = .ok (.i2l, 1) := by decide +kernel
theorem dX4_at_63 : decode cX4_at 63 = .ok (.lmul, 1) := by decide +kernel
theorem dX4_at_64 : decode cX4_at 64 = .ok (.ldc2_w 113, 3) := by decide +kernel
theorem dX4_at_67 : decode cX4_at 67 = .ok (.aload_n 0, 1) := by decide +kernel
theorem dX4_at_68 : decode cX4_at 68 = .ok (.getfield 25, 3) := by decide +kernel
theorem dX4_at_71 : decode cX4_at 71 = .ok (.iload 4, 2) := by decide +kernel
theorem dX4_at_73 : decode cX4_at 73 = .ok (.laload, 1) := by decide +kernel
theorem dX4_at_74 : decode cX4_at 74 = .ok (.lmul, 1) := by decide +kernel
theorem dX4_at_75 : decode cX4_at 75 = .ok (.ladd, 1) := by decide +kernel
theorem dX4_at_76 : decode cX4_at 76 = .ok (.lreturn, 1) := by decide +kernel
theorem dX4_locate_0 : decode cX4_locate 0 = .ok (.aload_n 0, 1) := by decide +kernel
theorem dX4_locate_1 : decode cX4_locate 1 = .ok (.getfield 57, 3) := by decide +kernel
theorem dX4_locate_4 : decode cX4_locate 4 = .ok (.ifCond .eq 23, 3) := by decide +kernel
theorem dX4_locate_7 : decode cX4_locate 7 = .ok (.iload_n 1, 1) := by decide +kernel
theorem dX4_locate_8 : decode cX4_locate 8 = .ok (.ifCond .lt 19, 3) := by decide +kernel
theorem dX4_locate_11 : decode cX4_locate 11 = .ok (.iload_n 1, 1) := by decide +kernel
theorem dX4_locate_12 : decode cX4_locate 12 = .ok (.sipush 360, 3) := by decide +kernel
theorem dX4_locate_15 : decode cX4_locate 15 = .ok (.if_icmp .gt 12, 3) := by decide +kernel
theorem dX4_locate_18 : decode cX4_locate 18 = .ok (.iload_n 2, 1) := by decide +kernel
theorem dX4_locate_19 : decode cX4_locate 19 = .ok (.ifCond .lt 8, 3) := by decide +kernel
theorem dX4_locate_22 : decode cX4_locate 22 = .ok (.iload_n 2, 1) := by decide +kernel
theorem dX4_locate_23 : decode cX4_locate 23 = .ok (.iconst 1, 1) := by decide +kernel
theorem dX4_locate_24 : decode cX4_locate 24 = .ok (.if_icmp .le 6, 3) := by decide +kernel
theorem dX4_locate_27 : decode cX4_locate 27 = .ok (.ldc 115, 2) := by decide +kernel
theorem dX4_locate_29 : decode cX4_locate 29 = .ok (.ireturn, 1) := by decide +kernel
theorem dX4_locate_30 : decode cX4_locate 30 = .ok (.iload_n 1, 1) := by decide +kernel
theorem dX4_locate_31 : decode cX4_locate 31 = .ok (.sipush 360, 3) := by decide +kernel
theorem dX4_locate_34 : decode cX4_locate 34 = .ok (.if_icmp .ne 7, 3) := by decide +kernel
theorem dX4_locate_37 : decode cX4_locate 37 = .ok (.iconst 5, 1) := by decide +kernel
theorem dX4_locate_38 : decode cX4_locate 38 = .ok (.goto 7, 3) := by decide +kernel
theorem dX4_locate_41 : decode cX4_locate 41 = .ok (.iload_n 1, 1) := by decide +kernel
theorem dX4_locate_42 : decode cX4_locate 42 = .ok (.bipush 60, 2) := by decide +kernel
theorem dX4_locate_44 : decode cX4_locate 44 = .ok (.idiv, 1) := by decide +kernel
theorem dX4_locate_45 : decode cX4_locate 45 = .ok (.istore_n 3, 1) := by decide +kernel
theorem dX4_locate_46 : decode cX4_locate 46 = .ok (.ldc2_w 116, 3) := by decide +kernel
theorem dX4_locate_49 : decode cX4_locate 49 = .ok (.aload_n 0, 1) := by decide +kernel
theorem dX4_locate_50 : decode cX4_locate 50 = .ok (.iload_n 2, 1) := by decide +kernel
theorem dX4_locate_51 : decode cX4_locate 51 = .ok (.iload_n 3, 1) := by decide +kernel
theorem dX4_locate_52 : decode cX4_locate 52 = .ok (.iload_n 1, 1) := by decide +kernel
theorem dX4_locate_53 : decode cX4_locate 53 = .ok (.bipush 60, 2) := by decide +kernel
theorem dX4_locate_55 : decode cX4_locate 55 = .ok (.iload_n 3, 1) := by decide +kernel
theorem dX4_locate_56 : decode cX4_locate 56 = .ok (.imul, 1) := by decide +kernel
theorem dX4_locate_57 : decode cX4_locate 57 = .ok (.isub, 1) := by decide +kernel
theorem dX4_locate_58 : decode cX4_locate 58 = .ok (.invokevirtual 118, 3) := by decide +kernel
theorem dX4_locate_61 : decode cX4_locate 61 = .ok (.lmul, 1) := by decide +kernel
theorem dX4_locate_62 : decode cX4_locate 62 = .ok (.lstore 4, 2) := by decide +kernel
theorem dX4_locate_64 : decode cX4_locate 64 = .ok (.aload_n 0, 1) := by decide +kernel
theorem dX4_locate_65 : decode cX4_locate 65 = .ok (.iconst 2, 1) := by decide +kernel
theorem dX4_locate_66 : decode cX4_locate 66 = .ok (.iload_n 3, 1) := by decide +kernel
theorem dX4_locate_67 : decode cX4_locate 67 = .ok (.iload_n 1, 1) := by decide +kernel
theorem dX4_locate_68 : decode cX4_locate 68 = .ok (.bipush 60, 2) := by decide +kernel
theorem dX4_locate_70 : decode cX4_locate 70 = .ok (.iload_n 3, 1) := by decide +kernel
theorem dX4_locate_71 : decode cX4_locate 71 = .ok (.imul, 1) := by decide +kernel
theorem dX4_locate_72 : decode cX4_locate 72 = .ok (.isub, 1) := by decide +kernel
theorem dX4_locate_73 : decode cX4_locate 73 = .ok (.invokevirtual 118, 3) := by decide +kernel
theorem dX4_locate_76 : decode cX4_locate 76 = .ok (.lstore 6, 2) := by decide +kernel
theorem dX4_locate_78 : decode cX4_locate 78 = .ok (.lload 4, 2) := by decide +kernel
theorem dX4_locate_80 : decode cX4_locate 80 = .ok (.lload 6, 2) := by decide +kernel
theorem dX4_locate_82 : decode cX4_locate 82 = .ok (.ldiv, 1) := by decide +kernel
theorem dX4_locate_83 : decode cX4_locate 83 = .ok (.lstore 8, 2) := by decide +kernel
theorem dX4_locate_85 : decode cX4_locate 85 = .ok (.lload 8, 2) := by decide +kernel
theorem dX4_locate_87 : decode cX4_locate 87 = .ok (.lload 6, 2) := by decide +kernel
theorem dX4_locate_89 : decode cX4_locate 89 = .ok (.lmul, 1) := by decide +kernel
theorem dX4_locate_90 : decode cX4_locate 90 = .ok (.lload 4, 2) := by decide +kernel
theorem dX4_locate_92 : decode cX4_locate 92 = .ok (.lcmp, 1) := by decide +kernel
theorem dX4_locate_93 : decode cX4_locate 93 = .ok (.ifCond .le 10, 3) := by decide +kernel
theorem dX4_locate_96 : decode cX4_locate 96 = .ok (.lload 8, 2) := by decide +kernel
theorem dX4_locate_98 : decode cX4_locate 98 = .ok (.lconst 1, 1) := by decide +kernel
theorem dX4_locate_99 : decode cX4_locate 99 = .ok (.lsub, 1) := by decide +kernel
theorem dX4_locate_100 : decode cX4_locate 100 = .ok (.goto 5, 3) := by decide +kernel
theorem dX4_locate_103 : decode cX4_locate 103 = .ok (.lload 8, 2) := by decide +kernel
theorem dX4_locate_105 : decode cX4_locate 105 = .ok (.l2i, 1) := by decide +kernel
theorem dX4_locate_106 : decode cX4_locate 106 = .ok (.ireturn, 1) := by decide +kernel
theorem dX4_straight_0 : decode cX4_straight 0 = .ok (.iconst 1, 1) := by decide +kernel
theorem dX4_straight_1 : decode cX4_straight 1 = .ok (.istore 5, 2) := by decide +kernel
theorem dX4_straight_3 : decode cX4_straight 3 = .ok (.iconst 0, 1) := by decide +kernel
theorem dX4_straight_4 : decode cX4_straight 4 = .ok (.istore 6, 2) := by decide +kernel
theorem dX4_straight_6 : decode cX4_straight 6 = .ok (.iload 6, 2) := by decide +kernel
theorem dX4_straight_8 : decode cX4_straight 8 = .ok (.iconst 2, 1) := by decide +kernel
theorem dX4_straight_9 : decode cX4_straight 9 = .ok (.if_icmp .ge 91, 3) := by decide +kernel
theorem dX4_straight_12 : decode cX4_straight 12 = .ok (.aload_n 0, 1) := by decide +kernel
theorem dX4_straight_13 : decode cX4_straight 13 = .ok (.iload_n 1, 1) := by decide +kernel
theorem dX4_straight_14 : decode cX4_straight 14 = .ok (.iload 6, 2) := by decide +kernel
theorem dX4_straight_16 : decode cX4_straight 16 = .ok (.invokevirtual 122, 3) := by decide +kernel
theorem dX4_straight_19 : decode cX4_straight 19 = .ok (.istore 7, 2) := by decide +kernel
theorem dX4_straight_21 : decode cX4_straight 21 = .ok (.aload_n 0, 1) := by decide +kernel
theorem dX4_straight_22 : decode cX4_straight 22 = .ok (.iload_n 2, 1) := by decide +kernel
theorem dX4_straight_23 : decode cX4_straight 23 = .ok (.iload 6, 2) := by decide +kernel
theorem dX4_straight_25 : decode cX4_straight 25 = .ok (.invokevirtual 122, 3) := by decide +kernel
theorem dX4_straight_28 : decode cX4_straight 28 = .ok (.istore 8, 2) := by decide +kernel
theorem dX4_straight_30 : decode cX4_straight 30 = .ok (.aload_n 0, 1) := by decide +kernel
theorem dX4_straight_31 : decode cX4_straight 31 = .ok (.iload_n 1, 1) := by decide +kernel
theorem dX4_straight_32 : decode cX4_straight 32 = .ok (.iload_n 2, 1) := by decide +kernel
theorem dX4_straight_33 : decode cX4_straight 33 = .ok (.iadd, 1) := by decide +kernel
theorem dX4_straight_34 : decode cX4_straight 34 = .ok (.iconst 2, 1) := by decide +kernel
theorem dX4_straight_35 : decode cX4_straight 35 = .ok (.idiv, 1) := by decide +kernel
theorem dX4_straight_36 : decode cX4_straight 36 = .ok (.iload 6, 2) := by decide +kernel
theorem dX4_straight_38 : decode cX4_straight 38 = .ok (.invokevirtual 122, 3) := by decide +kernel
theorem dX4_straight_41 : decode cX4_straight 41 = .ok (.istore 9, 2) := by decide +kernel
theorem dX4_straight_43 : decode cX4_straight 43 = .ok (.iload_n 3, 1) := by decide +kernel
theorem dX4_straight_44 : decode cX4_straight 44 = .ok (.ifCond .ne 16, 3) := by decide +kernel
theorem dX4_straight_47 : decode cX4_straight 47 = .ok (.iload 7, 2) := by decide +kernel
theorem dX4_straight_49 : decode cX4_straight 49 = .ok (.iload 8, 2) := by decide +kernel
theorem dX4_straight_51 : decode cX4_straight 51 = .ok (.iadd, 1) := by decide +kernel
theorem dX4_straight_52 : decode cX4_straight 52 = .ok (.iconst 2, 1) := by decide +kernel
theorem dX4_straight_53 : decode cX4_straight 53 = .ok (.iload 9, 2) := by decide +kernel
theorem dX4_straight_55 : decode cX4_straight 55 = .ok (.imul, 1) := by decide +kernel
theorem dX4_straight_56 : decode cX4_straight 56 = .ok (.isub, 1) := by decide +kernel
theorem dX4_straight_57 : decode cX4_straight 57 = .ok (.goto 8, 3) := by decide +kernel
theorem dX4_straight_60 : decode cX4_straight 60 = .ok (.iload 7, 2) := by decide +kernel
theorem dX4_straight_62 : decode cX4_straight 62 = .ok (.iload 8, 2) := by decide +kernel
theorem dX4_straight_64 : decode cX4_straight 64 = .ok (.isub, 1) := by decide +kernel
theorem dX4_straight_65 : decode cX4_straight 65 = .ok (.istore 10, 2) := by decide +kernel
theorem dX4_straight_67 : decode cX4_straight 67 = .ok (.iload 5, 2) := by decide +kernel
theorem dX4_straight_69 : decode cX4_straight 69 = .ok (.ifCond .eq 22, 3) := by decide +kernel
theorem dX4_straight_72 : decode cX4_straight 72 = .ok (.iload 10, 2) := by decide +kernel
theorem dX4_straight_74 : decode cX4_straight 74 = .ok (.iload 4, 2) := by decide +kernel
theorem dX4_straight_76 : decode cX4_straight 76 = .ok (.if_icmp .gt 15, 3) := by decide +kernel
theorem dX4_straight_79 : decode cX4_straight 79 = .ok (.iload 10, 2) := by decide +kernel
theorem dX4_straight_81 : decode cX4_straight 81 = .ok (.ineg, 1) := by decide +kernel
theorem dX4_straight_82 : decode cX4_straight 82 = .ok (.iload 4, 2) := by decide +kernel
theorem dX4_straight_84 : decode cX4_straight 84 = .ok (.if_icmp .gt 7, 3) := by decide +kernel
theorem dX4_straight_87 : decode cX4_straight 87 = .ok (.iconst 1, 1) := by decide +kernel
theorem dX4_straight_88 : decode cX4_straight 88 = .ok (.goto 4, 3) := by decide +kernel
theorem dX4_straight_91 : decode cX4_straight 91 = .ok (.iconst 0, 1) := by decide +kernel
theorem dX4_straight_92 : decode cX4_straight 92 = .ok (.istore 5, 2) := by decide +kernel
theorem dX4_straight_94 : decode cX4_straight 94 = .ok (.iinc 6 1, 3) := by decide +kernel
theorem dX4_straight_97 : decode cX4_straight 97 = .ok (.goto (-91), 3) := by decide +kernel
theorem dX4_straight_100 : decode cX4_straight 100 = .ok (.iload 5, 2) := by decide +kernel
theorem dX4_straight_102 : decode cX4_straight 102 = .ok (.ireturn, 1) := by decide +kernel
theorem dX4_cutUp_0 : decode cX4_cutUp 0 = .ok (.iload_n 1, 1) := by decide +kernel
theorem dX4_cutUp_1 : decode cX4_cutUp 1 = .ok (.istore 6, 2) := by decide +kernel
theorem dX4_cutUp_3 : decode cX4_cutUp 3 = .ok (.iconst 1, 1) := by decide +kernel
theorem dX4_cutUp_4 : decode cX4_cutUp 4 = .ok (.istore 7, 2) := by decide +kernel
theorem dX4_cutUp_6 : decode cX4_cutUp 6 = .ok (.aload_n 0, 1) := by decide +kernel
theorem dX4_cutUp_7 : decode cX4_cutUp 7 = .ok (.getfield 41, 3) := by decide +kernel
theorem dX4_cutUp_10 : decode cX4_cutUp 10 = .ok (.iconst 0, 1) := by decide +kernel
theorem dX4_cutUp_11 : decode cX4_cutUp 11 = .ok (.iload_n 2, 1) := by decide +kernel
theorem dX4_cutUp_12 : decode cX4_cutUp 12 = .ok (.iastore, 1) := by decide +kernel
theorem dX4_cutUp_13 : decode cX4_cutUp 13 = .ok (.aload_n 0, 1) := by decide +kernel
theorem dX4_cutUp_14 : decode cX4_cutUp 14 = .ok (.getfield 44, 3) := by decide +kernel
theorem dX4_cutUp_17 : decode cX4_cutUp 17 = .ok (.iconst 0, 1) := by decide +kernel
theorem dX4_cutUp_18 : decode cX4_cutUp 18 = .ok (.iload 5, 2) := by decide +kernel
theorem dX4_cutUp_20 : decode cX4_cutUp 20 = .ok (.iastore, 1) := by decide +kernel
theorem dX4_cutUp_21 : decode cX4_cutUp 21 = .ok (.iload 7, 2) := by decide +kernel
theorem dX4_cutUp_23 : decode cX4_cutUp 23 = .ok (.ifCond .le 128, 3) := by decide +kernel
theorem dX4_cutUp_26 : decode cX4_cutUp 26 = .ok (.aload_n 0, 1) := by decide +kernel
theorem dX4_cutUp_27 : decode cX4_cutUp 27 = .ok (.getfield 41, 3) := by decide +kernel
theorem dX4_cutUp_30 : decode cX4_cutUp 30 = .ok (.iload 7, 2) := by decide +kernel
theorem dX4_cutUp_32 : decode cX4_cutUp 32 = .ok (.iconst 1, 1) := by decide +kernel
theorem dX4_cutUp_33 : decode cX4_cutUp 33 = .ok (.isub, 1) := by decide +kernel
theorem dX4_cutUp_34 : decode cX4_cutUp 34 = .ok (.iaload, 1) := by decide +kernel
theorem dX4_cutUp_35 : decode cX4_cutUp 35 = .ok (.istore 8, 2) := by decide +kernel
theorem dX4_cutUp_37 : decode cX4_cutUp 37 = .ok (.aload_n 0, 1) := by decide +kernel
theorem dX4_cutUp_38 : decode cX4_cutUp 38 = .ok (.getfield 44, 3) := by decide +kernel
theorem dX4_cutUp_41 : decode cX4_cutUp 41 = .ok (.iload 7, 2) := by decide +kernel
theorem dX4_cutUp_43 : decode cX4_cutUp 43 = .ok (.iconst 1, 1) := by decide +kernel
theorem dX4_cutUp_44 : decode cX4_cutUp 44 = .ok (.isub, 1) := by decide +kernel
theorem dX4_cutUp_45 : decode cX4_cutUp 45 = .ok (.iaload, 1) := by decide +kernel
theorem dX4_cutUp_46 : decode cX4_cutUp 46 = .ok (.istore 9, 2) := by decide +kernel
theorem dX4_cutUp_48 : decode cX4_cutUp 48 = .ok (.iload 9, 2) := by decide +kernel
theorem dX4_cutUp_50 : decode cX4_cutUp 50 = .ok (.ifCond .eq 26, 3) := by decide +kernel
theorem dX4_cutUp_53 : decode cX4_cutUp 53 = .ok (.iload 8, 2) := by decide +kernel
theorem dX4_cutUp_55 : decode cX4_cutUp 55 = .ok (.iload 6, 2) := by decide +kernel
theorem dX4_cutUp_57 : decode cX4_cutUp 57 = .ok (.isub, 1) := by decide +kernel
theorem dX4_cutUp_58 : decode cX4_cutUp 58 = .ok (.iconst 2, 1) := by decide +kernel
theorem dX4_cutUp_59 : decode cX4_cutUp 59 = .ok (.if_icmp .lt 17, 3) := by decide +kernel
theorem dX4_cutUp_62 : decode cX4_cutUp 62 = .ok (.aload_n 0, 1) := by decide +kernel
theorem dX4_cutUp_63 : decode cX4_cutUp 63 = .ok (.iload 6, 2) := by decide +kernel
theorem dX4_cutUp_65 : decode cX4_cutUp 65 = .ok (.iload 8, 2) := by decide +kernel
theorem dX4_cutUp_67 : decode cX4_cutUp 67 = .ok (.iload_n 3, 1) := by decide +kernel
theorem dX4_cutUp_68 : decode cX4_cutUp 68 = .ok (.iload 4, 2) := by decide +kernel
theorem dX4_cutUp_70 : decode cX4_cutUp 70 = .ok (.invokevirtual 126, 3) := by decide +kernel
theorem dX4_cutUp_73 : decode cX4_cutUp 73 = .ok (.ifCond .eq 34, 3) := by decide +kernel
theorem dX4_cutUp_76 : decode cX4_cutUp 76 = .ok (.aload_n 0, 1) := by decide +kernel
theorem dX4_cutUp_77 : decode cX4_cutUp 77 = .ok (.getfield 32, 3) := by decide +kernel
theorem dX4_cutUp_80 : decode cX4_cutUp 80 = .ok (.aload_n 0, 1) := by decide +kernel
theorem dX4_cutUp_81 : decode cX4_cutUp 81 = .ok (.getfield 67, 3) := by decide +kernel
theorem dX4_cutUp_84 : decode cX4_cutUp 84 = .ok (.iload 8, 2) := by decide +kernel
theorem dX4_cutUp_86 : decode cX4_cutUp 86 = .ok (.iastore, 1) := by decide +kernel
theorem dX4_cutUp_87 : decode cX4_cutUp 87 = .ok (.aload_n 0, 1) := by decide +kernel
theorem dX4_cutUp_88 : decode cX4_cutUp 88 = .ok (.dup, 1) := by decide +kernel
theorem dX4_cutUp_89 : decode cX4_cutUp 89 = .ok (.getfield 67, 3) := by decide +kernel
theorem dX4_cutUp_92 : decode cX4_cutUp 92 = .ok (.iconst 1, 1) := by decide +kernel
theorem dX4_cutUp_93 : decode cX4_cutUp 93 = .ok (.iadd, 1) := by decide +kernel
theorem dX4_cutUp_94 : decode cX4_cutUp 94 = .ok (.putfield 67, 3) := by decide +kernel
theorem dX4_cutUp_97 : decode cX4_cutUp 97 = .ok (.iload 8, 2) := by decide +kernel
theorem dX4_cutUp_99 : decode cX4_cutUp 99 = .ok (.istore 6, 2) := by decide +kernel
theorem dX4_cutUp_101 : decode cX4_cutUp 101 = .ok (.iinc 7 (-1), 3) := by decide +kernel
theorem dX4_cutUp_104 : decode cX4_cutUp 104 = .ok (.goto 44, 3) := by decide +kernel
theorem dX4_cutUp_107 : decode cX4_cutUp 107 = .ok (.aload_n 0, 1) := by decide +kernel
theorem dX4_cutUp_108 : decode cX4_cutUp 108 = .ok (.getfield 44, 3) := by decide +kernel
theorem dX4_cutUp_111 : decode cX4_cutUp 111 = .ok (.iload 7, 2) := by decide +kernel
theorem dX4_cutUp_113 : decode cX4_cutUp 113 = .ok (.iconst 1, 1) := by decide +kernel
theorem dX4_cutUp_114 : decode cX4_cutUp 114 = .ok (.isub, 1) := by decide +kernel
theorem dX4_cutUp_115 : decode cX4_cutUp 115 = .ok (.iload 9, 2) := by decide +kernel
theorem dX4_cutUp_117 : decode cX4_cutUp 117 = .ok (.iconst 1, 1) := by decide +kernel
theorem dX4_cutUp_118 : decode cX4_cutUp 118 = .ok (.isub, 1) := by decide +kernel
theorem dX4_cutUp_119 : decode cX4_cutUp 119 = .ok (.iastore, 1) := by decide +kernel
theorem dX4_cutUp_120 : decode cX4_cutUp 120 = .ok (.aload_n 0, 1) := by decide +kernel
theorem dX4_cutUp_121 : decode cX4_cutUp 121 = .ok (.getfield 41, 3) := by decide +kernel
theorem dX4_cutUp_124 : decode cX4_cutUp 124 = .ok (.iload 7, 2) := by decide +kernel
theorem dX4_cutUp_126 : decode cX4_cutUp 126 = .ok (.iload 6, 2) := by decide +kernel
theorem dX4_cutUp_128 : decode cX4_cutUp 128 = .ok (.iload 8, 2) := by decide +kernel
theorem dX4_cutUp_130 : decode cX4_cutUp 130 = .ok (.iadd, 1) := by decide +kernel
theorem dX4_cutUp_131 : decode cX4_cutUp 131 = .ok (.iconst 2, 1) := by decide +kernel
theorem dX4_cutUp_132 : decode cX4_cutUp 132 = .ok (.idiv, 1) := by decide +kernel
theorem dX4_cutUp_133 : decode cX4_cutUp 133 = .ok (.iastore, 1) := by decide +kernel
theorem dX4_cutUp_134 : decode cX4_cutUp 134 = .ok (.aload_n 0, 1) := by decide +kernel
theorem dX4_cutUp_135 : decode cX4_cutUp 135 = .ok (.getfield 44, 3) := by decide +kernel
theorem dX4_cutUp_138 : decode cX4_cutUp 138 = .ok (.iload 7, 2) := by decide +kernel
theorem dX4_cutUp_140 : decode cX4_cutUp 140 = .ok (.iload 9, 2) := by decide +kernel
theorem dX4_cutUp_142 : decode cX4_cutUp 142 = .ok (.iconst 1, 1) := by decide +kernel
theorem dX4_cutUp_143 : decode cX4_cutUp 143 = .ok (.isub, 1) := by decide +kernel
theorem dX4_cutUp_144 : decode cX4_cutUp 144 = .ok (.iastore, 1) := by decide +kernel
theorem dX4_cutUp_145 : decode cX4_cutUp 145 = .ok (.iinc 7 1, 3) := by decide +kernel
theorem dX4_cutUp_148 : decode cX4_cutUp 148 = .ok (.goto (-127), 3) := by decide +kernel
theorem dX4_cutUp_151 : decode cX4_cutUp 151 = .ok (.return_, 1) := by decide +kernel
theorem dX4_tessellate_0 : decode cX4_tessellate 0 = .ok (.aload_n 0, 1) := by decide +kernel
theorem dX4_tessellate_1 : decode cX4_tessellate 1 = .ok (.getfield 57, 3) := by decide +kernel
theorem dX4_tessellate_4 : decode cX4_tessellate 4 = .ok (.ifCond .eq 26, 3) := by decide +kernel
theorem dX4_tessellate_7 : decode cX4_tessellate 7 = .ok (.iload_n 1, 1) := by decide +kernel
theorem dX4_tessellate_8 : decode cX4_tessellate 8 = .ok (.ifCond .lt 22, 3) := by decide +kernel
theorem dX4_tessellate_11 : decode cX4_tessellate 11 = .ok (.iload_n 1, 1) := by decide +kernel
theorem dX4_tessellate_12 : decode cX4_tessellate 12 = .ok (.iconst 1, 1) := by decide +kernel
theorem dX4_tessellate_13 : decode cX4_tessellate 13 = .ok (.if_icmp .gt 17, 3) := by decide +kernel
theorem dX4_tessellate_16 : decode cX4_tessellate 16 = .ok (.iload_n 2, 1) := by decide +kernel
theorem dX4_tessellate_17 : decode cX4_tessellate 17 = .ok (.ifCond .lt 13, 3) := by decide +kernel
theorem dX4_tessellate_20 : decode cX4_tessellate 20 = .ok (.iload_n 3, 1) := by decide +kernel
theorem dX4_tessellate_21 : decode cX4_tessellate 21 = .ok (.ifCond .lt 9, 3) := by decide +kernel
theorem dX4_tessellate_24 : decode cX4_tessellate 24 = .ok (.iload_n 3, 1) := by decide +kernel
theorem dX4_tessellate_25 : decode cX4_tessellate 25 = .ok (.bipush 6, 2) := by decide +kernel
theorem dX4_tessellate_27 : decode cX4_tessellate 27 = .ok (.if_icmp .le 5, 3) := by decide +kernel
theorem dX4_tessellate_30 : decode cX4_tessellate 30 = .ok (.iconst (-1), 1) := by decide +kernel
theorem dX4_tessellate_31 : decode cX4_tessellate 31 = .ok (.ireturn, 1) := by decide +kernel
theorem dX4_tessellate_32 : decode cX4_tessellate 32 = .ok (.aload_n 0, 1) := by decide +kernel
theorem dX4_tessellate_33 : decode cX4_tessellate 33 = .ok (.getfield 32, 3) := by decide +kernel
theorem dX4_tessellate_36 : decode cX4_tessellate 36 = .ok (.iconst 0, 1) := by decide +kernel
theorem dX4_tessellate_37 : decode cX4_tessellate 37 = .ok (.iconst 0, 1) := by decide +kernel
theorem dX4_tessellate_38 : decode cX4_tessellate 38 = .ok (.iastore, 1) := by decide +kernel
theorem dX4_tessellate_39 : decode cX4_tessellate 39 = .ok (.aload_n 0, 1) := by decide +kernel
theorem dX4_tessellate_40 : decode cX4_tessellate 40 = .ok (.iconst 1, 1) := by decide +kernel
theorem dX4_tessellate_41 : decode cX4_tessellate 41 = .ok (.putfield 67, 3) := by decide +kernel
theorem dX4_tessellate_44 : decode cX4_tessellate 44 = .ok (.iconst 0, 1) := by decide +kernel
theorem dX4_tessellate_45 : decode cX4_tessellate 45 = .ok (.istore 4, 2) := by decide +kernel
theorem dX4_tessellate_47 : decode cX4_tessellate 47 = .ok (.iconst 1, 1) := by decide +kernel
theorem dX4_tessellate_48 : decode cX4_tessellate 48 = .ok (.istore 5, 2) := by decide +kernel
theorem dX4_tessellate_50 : decode cX4_tessellate 50 = .ok (.iload 5, 2) := by decide +kernel
theorem dX4_tessellate_52 : decode cX4_tessellate 52 = .ok (.bipush 6, 2) := by decide +kernel
theorem dX4_tessellate_54 : decode cX4_tessellate 54 = .ok (.if_icmp .gt 47, 3) := by decide +kernel
theorem dX4_tessellate_57 : decode cX4_tessellate 57 = .ok (.iload 5, 2) := by decide +kernel
theorem dX4_tessellate_59 : decode cX4_tessellate 59 = .ok (.bipush 6, 2) := by decide +kernel
theorem dX4_tessellate_61 : decode cX4_tessellate 61 = .ok (.if_icmp .eq 13, 3) := by decide +kernel
theorem dX4_tessellate_64 : decode cX4_tessellate 64 = .ok (.aload_n 0, 1) := by decide +kernel
theorem dX4_tessellate_65 : decode cX4_tessellate 65 = .ok (.getfield 22, 3) := by decide +kernel
theorem dX4_tessellate_68 : decode cX4_tessellate 68 = .ok (.iload 5, 2) := by decide +kernel
theorem dX4_tessellate_70 : decode cX4_tessellate 70 = .ok (.iaload, 1) := by decide +kernel
theorem dX4_tessellate_71 : decode cX4_tessellate 71 = .ok (.ifCond .le 24, 3) := by decide +kernel
theorem dX4_tessellate_74 : decode cX4_tessellate 74 = .ok (.aload_n 0, 1) := by decide +kernel
theorem dX4_tessellate_75 : decode cX4_tessellate 75 = .ok (.iload 4, 2) := by decide +kernel
theorem dX4_tessellate_77 : decode cX4_tessellate 77 = .ok (.bipush 60, 2) := by decide +kernel
theorem dX4_tessellate_79 : decode cX4_tessellate 79 = .ok (.iload 5, 2) := by decide +kernel
theorem dX4_tessellate_81 : decode cX4_tessellate 81 = .ok (.imul, 1) := by decide +kernel
theorem dX4_tessellate_82 : decode cX4_tessellate 82 = .ok (.iload_n 1, 1) := by decide +kernel
theorem dX4_tessellate_83 : decode cX4_tessellate 83 = .ok (.iload_n 2, 1) := by decide +kernel
theorem dX4_tessellate_84 : decode cX4_tessellate 84 = .ok (.iload_n 3, 1) := by decide +kernel
theorem dX4_tessellate_85 : decode cX4_tessellate 85 = .ok (.invokevirtual 130, 3) := by decide +kernel
theorem dX4_tessellate_88 : decode cX4_tessellate 88 = .ok (.bipush 60, 2) := by decide +kernel
theorem dX4_tessellate_90 : decode cX4_tessellate 90 = .ok (.iload 5, 2) := by decide +kernel
theorem dX4_tessellate_92 : decode cX4_tessellate 92 = .ok (.imul, 1) := by decide +kernel
theorem dX4_tessellate_93 : decode cX4_tessellate 93 = .ok (.istore 4, 2) := by decide +kernel
theorem dX4_tessellate_95 : decode cX4_tessellate 95 = .ok (.iinc 5 1, 3) := by decide +kernel
theorem dX4_tessellate_98 : decode cX4_tessellate 98 = .ok (.goto (-48), 3) := by decide +kernel
theorem dX4_tessellate_101 : decode cX4_tessellate 101 = .ok (.aload_n 0, 1) := by decide +kernel
theorem dX4_tessellate_102 : decode cX4_tessellate 102 = .ok (.getfield 67, 3) := by decide +kernel
theorem dX4_tessellate_105 : decode cX4_tessellate 105 = .ok (.iconst 1, 1) := by decide +kernel
theorem dX4_tessellate_106 : decode cX4_tessellate 106 = .ok (.isub, 1) := by decide +kernel
theorem dX4_tessellate_107 : decode cX4_tessellate 107 = .ok (.ireturn, 1) := by decide +kernel
theorem dX4_vertex_0 : decode cX4_vertex 0 = .ok (.iload_n 1, 1) := by decide +kernel
theorem dX4_vertex_1 : decode cX4_vertex 1 = .ok (.ifCond .lt 11, 3) := by decide +kernel
theorem dX4_vertex_4 : decode cX4_vertex 4 = .ok (.iload_n 1, 1) := by decide +kernel
theorem dX4_vertex_5 : decode cX4_vertex 5 = .ok (.aload_n 0, 1) := by decide +kernel
theorem dX4_vertex_6 : decode cX4_vertex 6 = .ok (.getfield 67, 3) := by decide +kernel
theorem dX4_vertex_9 : decode cX4_vertex 9 = .ok (.if_icmp .lt 7, 3) := by decide +kernel
theorem dX4_vertex_12 : decode cX4_vertex 12 = .ok (.iconst (-1), 1) := by decide +kernel
theorem dX4_vertex_13 : decode cX4_vertex 13 = .ok (.goto 9, 3) := by decide +kernel
theorem dX4_vertex_16 : decode cX4_vertex 16 = .ok (.aload_n 0, 1) := by decide +kernel
theorem dX4_vertex_17 : decode cX4_vertex 17 = .ok (.getfield 32, 3) := by decide +kernel
theorem dX4_vertex_20 : decode cX4_vertex 20 = .ok (.iload_n 1, 1) := by decide +kernel
theorem dX4_vertex_21 : decode cX4_vertex 21 = .ok (.iaload, 1) := by decide +kernel
theorem dX4_vertex_22 : decode cX4_vertex 22 = .ok (.ireturn, 1) := by decide +kernel
