theorem dX3_tessellate_24 : decode cX3_tessellate 24 = .ok (.ireturn, 1) := by decide +kernel
theorem dX3_tessellate_25 : decode cX3_tessellate 25 = .ok (.iload_n 3, 1) := by decide +kernel
theorem dX3_tessellate_26 : decode cX3_tessellate 26 = .ok (.ifCond .lt 9, 3) := by decide +kernel
theorem dX3_tessellate_29 : decode cX3_tessellate 29 = .ok (.iload_n 3, 1) := by decide +kernel
theorem dX3_tessellate_30 : decode cX3_tessellate 30 = .ok (.bipush 6, 2) := by decide +kernel
theorem dX3_tessellate_32 : decode cX3_tessellate 32 = .ok (.if_icmp .le 5, 3) := by decide +kernel
theorem dX3_tessellate_35 : decode cX3_tessellate 35 = .ok (.iconst (-1), 1) := by decide +kernel
theorem dX3_tessellate_36 : decode cX3_tessellate 36 = .ok (.ireturn, 1) := by decide +kernel
theorem dX3_tessellate_37 : decode cX3_tessellate 37 = .ok (.aload_n 0, 1) := by decide +kernel
theorem dX3_tessellate_38 : decode cX3_tessellate 38 = .ok (.getfield 19, 3) := by decide +kernel
theorem dX3_tessellate_41 : decode cX3_tessellate 41 = .ok (.aload_n 0, 1) := by decide +kernel
theorem dX3_tessellate_42 : decode cX3_tessellate 42 = .ok (.getfield 26, 3) := by decide +kernel
theorem dX3_tessellate_45 : decode cX3_tessellate 45 = .ok (.iload_n 1, 1) := by decide +kernel
theorem dX3_tessellate_46 : decode cX3_tessellate 46 = .ok (.iload_n 2, 1) := by decide +kernel
theorem dX3_tessellate_47 : decode cX3_tessellate 47 = .ok (.iload_n 3, 1) := by decide +kernel
theorem dX3_tessellate_48 : decode cX3_tessellate 48 = .ok (.invokevirtual 124, 3) := by decide +kernel
theorem dX3_tessellate_51 : decode cX3_tessellate 51 = .ok (.ireturn, 1) := by decide +kernel
theorem dX3_vertex_0 : decode cX3_vertex 0 = .ok (.iload_n 1, 1) := by decide +kernel
theorem dX3_vertex_1 : decode cX3_vertex 1 = .ok (.ifCond .lt 14, 3) := by decide +kernel
theorem dX3_vertex_4 : decode cX3_vertex 4 = .ok (.iload_n 1, 1) := by decide +kernel
theorem dX3_vertex_5 : decode cX3_vertex 5 = .ok (.aload_n 0, 1) := by decide +kernel
theorem dX3_vertex_6 : decode cX3_vertex 6 = .ok (.getfield 19, 3) := by decide +kernel
theorem dX3_vertex_9 : decode cX3_vertex 9 = .ok (.getfield 128, 3) := by decide +kernel
theorem dX3_vertex_12 : decode cX3_vertex 12 = .ok (.if_icmp .lt 5, 3) := by decide +kernel
theorem dX3_vertex_15 : decode cX3_vertex 15 = .ok (.iconst (-1), 1) := by decide +kernel
theorem dX3_vertex_16 : decode cX3_vertex 16 = .ok (.ireturn, 1) := by decide +kernel
theorem dX3_vertex_17 : decode cX3_vertex 17 = .ok (.aload_n 0, 1) := by decide +kernel
theorem dX3_vertex_18 : decode cX3_vertex 18 = .ok (.getfield 19, 3) := by decide +kernel
theorem dX3_vertex_21 : decode cX3_vertex 21 = .ok (.getfield 131, 3) := by decide +kernel
theorem dX3_vertex_24 : decode cX3_vertex 24 = .ok (.iload_n 1, 1) := by decide +kernel
theorem dX3_vertex_25 : decode cX3_vertex 25 = .ok (.iaload, 1) := by decide +kernel
theorem dX3_vertex_26 : decode cX3_vertex 26 = .ok (.ireturn, 1) := by decide +kernel
theorem dX3_isInner_0 : decode cX3_isInner 0 = .ok (.iload_n 0, 1) := by decide +kernel
theorem dX3_isInner_1 : decode cX3_isInner 1 = .ok (.ifCond .le 13, 3) := by decide +kernel
theorem dX3_isInner_4 : decode cX3_isInner 4 = .ok (.iload_n 0, 1) := by decide +kernel
theorem dX3_isInner_5 : decode cX3_isInner 5 = .ok (.bipush 6, 2) := by decide +kernel
theorem dX3_isInner_7 : decode cX3_isInner 7 = .ok (.if_icmp .ge 7, 3) := by decide +kernel
theorem dX3_isInner_10 : decode cX3_isInner 10 = .ok (.iconst 1, 1) := by decide +kernel
theorem dX3_isInner_11 : decode cX3_isInner 11 = .ok (.goto 4, 3) := by decide +kernel
theorem dX3_isInner_14 : decode cX3_isInner 14 = .ok (.iconst 0, 1) := by decide +kernel
theorem dX3_isInner_15 : decode cX3_isInner 15 = .ok (.ireturn, 1) := by decide +kernel
theorem dX3_isParameter_0 : decode cX3_isParameter 0 = .ok (.iload_n 0, 1) := by decide +kernel
theorem dX3_isParameter_1 : decode cX3_isParameter 1 = .ok (.ifCond .lt 14, 3) := by decide +kernel
theorem dX3_isParameter_4 : decode cX3_isParameter 4 = .ok (.iload_n 0, 1) := by decide +kernel
theorem dX3_isParameter_5 : decode cX3_isParameter 5 = .ok (.sipush 360, 3) := by decide +kernel
theorem dX3_isParameter_8 : decode cX3_isParameter 8 = .ok (.if_icmp .gt 7, 3) := by decide +kernel
theorem dX3_isParameter_11 : decode cX3_isParameter 11 = .ok (.iconst 1, 1) := by decide +kernel
theorem dX3_isParameter_12 : decode cX3_isParameter 12 = .ok (.goto 4, 3) := by decide +kernel
theorem dX3_isParameter_15 : decode cX3_isParameter 15 = .ok (.iconst 0, 1) := by decide +kernel
theorem dX3_isParameter_16 : decode cX3_isParameter 16 = .ok (.ireturn, 1) := by decide +kernel
theorem dX3_putIn_0 : decode cX3_putIn 0 = .ok (.aload_n 0, 1) := by decide +kernel
theorem dX3_putIn_1 : decode cX3_putIn 1 = .ok (.getfield 26, 3) := by decide +kernel
theorem dX3_putIn_4 : decode cX3_putIn 4 = .ok (.aload_n 0, 1) := by decide +kernel
theorem dX3_putIn_5 : decode cX3_putIn 5 = .ok (.getfield 30, 3) := by decide +kernel
theorem dX3_putIn_8 : decode cX3_putIn 8 = .ok (.iload_n 1, 1) := by decide +kernel
theorem dX3_putIn_9 : decode cX3_putIn 9 = .ok (.invokevirtual 134, 3) := by decide +kernel
theorem dX3_putIn_12 : decode cX3_putIn 12 = .ok (.aload_n 0, 1) := by decide +kernel
theorem dX3_putIn_13 : decode cX3_putIn 13 = .ok (.invokevirtual 83, 3) := by decide +kernel
theorem dX3_putIn_16 : decode cX3_putIn 16 = .ok (.return_, 1) := by decide +kernel
theorem dX3_takeOut_0 : decode cX3_takeOut 0 = .ok (.aload_n 0, 1) := by decide +kernel
theorem dX3_takeOut_1 : decode cX3_takeOut 1 = .ok (.getfield 26, 3) := by decide +kernel
theorem dX3_takeOut_4 : decode cX3_takeOut 4 = .ok (.aload_n 0, 1) := by decide +kernel
theorem dX3_takeOut_5 : decode cX3_takeOut 5 = .ok (.getfield 30, 3) := by decide +kernel
theorem dX3_takeOut_8 : decode cX3_takeOut 8 = .ok (.iload_n 1, 1) := by decide +kernel
theorem dX3_takeOut_9 : decode cX3_takeOut 9 = .ok (.invokevirtual 138, 3) := by decide +kernel
theorem dX3_takeOut_12 : decode cX3_takeOut 12 = .ok (.aload_n 0, 1) := by decide +kernel
theorem dX3_takeOut_13 : decode cX3_takeOut 13 = .ok (.getfield 30, 3) := by decide +kernel
theorem dX3_takeOut_16 : decode cX3_takeOut 16 = .ok (.invokevirtual 141, 3) := by decide +kernel
theorem dX3_takeOut_19 : decode cX3_takeOut 19 = .ok (.ifCond .eq 18, 3) := by decide +kernel
theorem dX3_takeOut_22 : decode cX3_takeOut 22 = .ok (.aload_n 0, 1) := by decide +kernel
theorem dX3_takeOut_23 : decode cX3_takeOut 23 = .ok (.getfield 30, 3) := by decide +kernel
theorem dX3_takeOut_26 : decode cX3_takeOut 26 = .ok (.aload_n 0, 1) := by decide +kernel
theorem dX3_takeOut_27 : decode cX3_takeOut 27 = .ok (.getfield 26, 3) := by decide +kernel
theorem dX3_takeOut_30 : decode cX3_takeOut 30 = .ok (.iload_n 1, 1) := by decide +kernel
theorem dX3_takeOut_31 : decode cX3_takeOut 31 = .ok (.invokevirtual 144, 3) := by decide +kernel
theorem dX3_takeOut_34 : decode cX3_takeOut 34 = .ok (.ifCond .ne 5, 3) := by decide +kernel
theorem dX3_takeOut_37 : decode cX3_takeOut 37 = .ok (.iconst 0, 1) := by decide +kernel
theorem dX3_takeOut_38 : decode cX3_takeOut 38 = .ok (.ireturn, 1) := by decide +kernel
theorem dX3_takeOut_39 : decode cX3_takeOut 39 = .ok (.aload_n 0, 1) := by decide +kernel
theorem dX3_takeOut_40 : decode cX3_takeOut 40 = .ok (.invokevirtual 83, 3) := by decide +kernel
theorem dX3_takeOut_43 : decode cX3_takeOut 43 = .ok (.iconst 1, 1) := by decide +kernel
theorem dX3_takeOut_44 : decode cX3_takeOut 44 = .ok (.ireturn, 1) := by decide +kernel
theorem dX3_takeSpare_0 : decode cX3_takeSpare 0 = .ok (.aload_n 0, 1) := by decide +kernel
theorem dX3_takeSpare_1 : decode cX3_takeSpare 1 = .ok (.getfield 26, 3) := by decide +kernel
theorem dX3_takeSpare_4 : decode cX3_takeSpare 4 = .ok (.astore_n 1, 1) := by decide +kernel
theorem dX3_takeSpare_5 : decode cX3_takeSpare 5 = .ok (.aload_n 0, 1) := by decide +kernel
theorem dX3_takeSpare_6 : decode cX3_takeSpare 6 = .ok (.aload_n 0, 1) := by decide +kernel
theorem dX3_takeSpare_7 : decode cX3_takeSpare 7 = .ok (.getfield 30, 3) := by decide +kernel
theorem dX3_takeSpare_10 : decode cX3_takeSpare 10 = .ok (.putfield 26, 3) := by decide +kernel
theorem dX3_takeSpare_13 : decode cX3_takeSpare 13 = .ok (.aload_n 0, 1) := by decide +kernel
theorem dX3_takeSpare_14 : decode cX3_takeSpare 14 = .ok (.aload_n 1, 1) := by decide +kernel
theorem dX3_takeSpare_15 : decode cX3_takeSpare 15 = .ok (.putfield 30, 3) := by decide +kernel
theorem dX3_takeSpare_18 : decode cX3_takeSpare 18 = .ok (.return_, 1) := by decide +kernel
