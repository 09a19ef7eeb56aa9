theorem dX11_isSquare_1 : decode cX11_isSquare 1 = .ok (.i2l, 1) := by decide +kernel
theorem dX11_isSquare_2 : decode cX11_isSquare 2 = .ok (.lconst 0, 1) := by decide +kernel
theorem dX11_isSquare_3 : decode cX11_isSquare 3 = .ok (.aload_n 0, 1) := by decide +kernel
theorem dX11_isSquare_4 : decode cX11_isSquare 4 = .ok (.getfield 7, 3) := by decide +kernel
theorem dX11_isSquare_7 : decode cX11_isSquare 7 = .ok (.iconst 0, 1) := by decide +kernel
theorem dX11_isSquare_8 : decode cX11_isSquare 8 = .ok (.iaload, 1) := by decide +kernel
theorem dX11_isSquare_9 : decode cX11_isSquare 9 = .ok (.iconst 1, 1) := by decide +kernel
theorem dX11_isSquare_10 : decode cX11_isSquare 10 = .ok (.isub, 1) := by decide +kernel
theorem dX11_isSquare_11 : decode cX11_isSquare 11 = .ok (.i2l, 1) := by decide +kernel
theorem dX11_isSquare_12 : decode cX11_isSquare 12 = .ok (.invokestatic 53, 3) := by decide +kernel
theorem dX11_isSquare_15 : decode cX11_isSquare 15 = .ok (.ireturn, 1) := by decide +kernel
theorem dX11_far_0 : decode cX11_far 0 = .ok (.lload_n 0, 1) := by decide +kernel
theorem dX11_far_1 : decode cX11_far 1 = .ok (.lconst 0, 1) := by decide +kernel
theorem dX11_far_2 : decode cX11_far 2 = .ok (.lcmp, 1) := by decide +kernel
theorem dX11_far_3 : decode cX11_far 3 = .ok (.ifCond .ge 9, 3) := by decide +kernel
theorem dX11_far_6 : decode cX11_far 6 = .ok (.lconst 0, 1) := by decide +kernel
theorem dX11_far_7 : decode cX11_far 7 = .ok (.lload_n 0, 1) := by decide +kernel
theorem dX11_far_8 : decode cX11_far 8 = .ok (.lsub, 1) := by decide +kernel
theorem dX11_far_9 : decode cX11_far 9 = .ok (.goto 4, 3) := by decide +kernel
theorem dX11_far_12 : decode cX11_far 12 = .ok (.lload_n 0, 1) := by decide +kernel
theorem dX11_far_13 : decode cX11_far 13 = .ok (.lreturn, 1) := by decide +kernel
theorem dX11_divisor_0 : decode cX11_divisor 0 = .ok (.lload_n 0, 1) := by decide +kernel
theorem dX11_divisor_1 : decode cX11_divisor 1 = .ok (.invokestatic 116, 3) := by decide +kernel
theorem dX11_divisor_4 : decode cX11_divisor 4 = .ok (.lstore 4, 2) := by decide +kernel
theorem dX11_divisor_6 : decode cX11_divisor 6 = .ok (.lload_n 2, 1) := by decide +kernel
theorem dX11_divisor_7 : decode cX11_divisor 7 = .ok (.invokestatic 116, 3) := by decide +kernel
theorem dX11_divisor_10 : decode cX11_divisor 10 = .ok (.lstore 6, 2) := by decide +kernel
theorem dX11_divisor_12 : decode cX11_divisor 12 = .ok (.lload 6, 2) := by decide +kernel
theorem dX11_divisor_14 : decode cX11_divisor 14 = .ok (.lconst 0, 1) := by decide +kernel
theorem dX11_divisor_15 : decode cX11_divisor 15 = .ok (.lcmp, 1) := by decide +kernel
theorem dX11_divisor_16 : decode cX11_divisor 16 = .ok (.ifCond .eq 21, 3) := by decide +kernel
theorem dX11_divisor_19 : decode cX11_divisor 19 = .ok (.lload 4, 2) := by decide +kernel
theorem dX11_divisor_21 : decode cX11_divisor 21 = .ok (.lload 6, 2) := by decide +kernel
theorem dX11_divisor_23 : decode cX11_divisor 23 = .ok (.lrem, 1) := by decide +kernel
theorem dX11_divisor_24 : decode cX11_divisor 24 = .ok (.lstore 8, 2) := by decide +kernel
theorem dX11_divisor_26 : decode cX11_divisor 26 = .ok (.lload 6, 2) := by decide +kernel
theorem dX11_divisor_28 : decode cX11_divisor 28 = .ok (.lstore 4, 2) := by decide +kernel
theorem dX11_divisor_30 : decode cX11_divisor 30 = .ok (.lload 8, 2) := by decide +kernel
theorem dX11_divisor_32 : decode cX11_divisor 32 = .ok (.lstore 6, 2) := by decide +kernel
theorem dX11_divisor_34 : decode cX11_divisor 34 = .ok (.goto (-22), 3) := by decide +kernel
theorem dX11_divisor_37 : decode cX11_divisor 37 = .ok (.lload 4, 2) := by decide +kernel
theorem dX11_divisor_39 : decode cX11_divisor 39 = .ok (.lreturn, 1) := by decide +kernel
theorem dX11_root_0 : decode cX11_root 0 = .ok (.lconst 0, 1) := by decide +kernel
theorem dX11_root_1 : decode cX11_root 1 = .ok (.lstore_n 2, 1) := by decide +kernel
theorem dX11_root_2 : decode cX11_root 2 = .ok (.ldc2_w 120, 3) := by decide +kernel
theorem dX11_root_5 : decode cX11_root 5 = .ok (.lstore 4, 2) := by decide +kernel
theorem dX11_root_7 : decode cX11_root 7 = .ok (.lload 4, 2) := by decide +kernel
theorem dX11_root_9 : decode cX11_root 9 = .ok (.lconst 0, 1) := by decide +kernel
theorem dX11_root_10 : decode cX11_root 10 = .ok (.lcmp, 1) := by decide +kernel
theorem dX11_root_11 : decode cX11_root 11 = .ok (.ifCond .le 35, 3) := by decide +kernel
theorem dX11_root_14 : decode cX11_root 14 = .ok (.lload_n 2, 1) := by decide +kernel
theorem dX11_root_15 : decode cX11_root 15 = .ok (.lload 4, 2) := by decide +kernel
theorem dX11_root_17 : decode cX11_root 17 = .ok (.ladd, 1) := by decide +kernel
theorem dX11_root_18 : decode cX11_root 18 = .ok (.lstore 6, 2) := by decide +kernel
theorem dX11_root_20 : decode cX11_root 20 = .ok (.lload 6, 2) := by decide +kernel
theorem dX11_root_22 : decode cX11_root 22 = .ok (.lload 6, 2) := by decide +kernel
theorem dX11_root_24 : decode cX11_root 24 = .ok (.lmul, 1) := by decide +kernel
theorem dX11_root_25 : decode cX11_root 25 = .ok (.lload_n 0, 1) := by decide +kernel
theorem dX11_root_26 : decode cX11_root 26 = .ok (.lcmp, 1) := by decide +kernel
theorem dX11_root_27 : decode cX11_root 27 = .ok (.ifCond .gt 8, 3) := by decide +kernel
theorem dX11_root_30 : decode cX11_root 30 = .ok (.lload 6, 2) := by decide +kernel
theorem dX11_root_32 : decode cX11_root 32 = .ok (.goto 4, 3) := by decide +kernel
theorem dX11_root_35 : decode cX11_root 35 = .ok (.lload_n 2, 1) := by decide +kernel
theorem dX11_root_36 : decode cX11_root 36 = .ok (.lstore_n 2, 1) := by decide +kernel
theorem dX11_root_37 : decode cX11_root 37 = .ok (.lload 4, 2) := by decide +kernel
theorem dX11_root_39 : decode cX11_root 39 = .ok (.iconst 1, 1) := by decide +kernel
theorem dX11_root_40 : decode cX11_root 40 = .ok (.lshr, 1) := by decide +kernel
theorem dX11_root_41 : decode cX11_root 41 = .ok (.lstore 4, 2) := by decide +kernel
theorem dX11_root_43 : decode cX11_root 43 = .ok (.goto (-36), 3) := by decide +kernel
theorem dX11_root_46 : decode cX11_root 46 = .ok (.lload_n 2, 1) := by decide +kernel
theorem dX11_root_47 : decode cX11_root 47 = .ok (.lreturn, 1) := by decide +kernel
theorem dX11_floor_0 : decode cX11_floor 0 = .ok (.lload_n 0, 1) := by decide +kernel
theorem dX11_floor_1 : decode cX11_floor 1 = .ok (.lload_n 2, 1) := by decide +kernel
theorem dX11_floor_2 : decode cX11_floor 2 = .ok (.ldiv, 1) := by decide +kernel
theorem dX11_floor_3 : decode cX11_floor 3 = .ok (.lstore 4, 2) := by decide +kernel
theorem dX11_floor_5 : decode cX11_floor 5 = .ok (.lload 4, 2) := by decide +kernel
theorem dX11_floor_7 : decode cX11_floor 7 = .ok (.lload_n 2, 1) := by decide +kernel
theorem dX11_floor_8 : decode cX11_floor 8 = .ok (.lmul, 1) := by decide +kernel
theorem dX11_floor_9 : decode cX11_floor 9 = .ok (.lload_n 0, 1) := by decide +kernel
theorem dX11_floor_10 : decode cX11_floor 10 = .ok (.lcmp, 1) := by decide +kernel
theorem dX11_floor_11 : decode cX11_floor 11 = .ok (.ifCond .eq 35, 3) := by decide +kernel
theorem dX11_floor_14 : decode cX11_floor 14 = .ok (.lload_n 0, 1) := by decide +kernel
theorem dX11_floor_15 : decode cX11_floor 15 = .ok (.lconst 0, 1) := by decide +kernel
theorem dX11_floor_16 : decode cX11_floor 16 = .ok (.lcmp, 1) := by decide +kernel
theorem dX11_floor_17 : decode cX11_floor 17 = .ok (.ifCond .ge 7, 3) := by decide +kernel
theorem dX11_floor_20 : decode cX11_floor 20 = .ok (.iconst 1, 1) := by decide +kernel
theorem dX11_floor_21 : decode cX11_floor 21 = .ok (.goto 4, 3) := by decide +kernel
theorem dX11_floor_24 : decode cX11_floor 24 = .ok (.iconst 0, 1) := by decide +kernel
theorem dX11_floor_25 : decode cX11_floor 25 = .ok (.lload_n 2, 1) := by decide +kernel
theorem dX11_floor_26 : decode cX11_floor 26 = .ok (.lconst 0, 1) := by decide +kernel
theorem dX11_floor_27 : decode cX11_floor 27 = .ok (.lcmp, 1) := by decide +kernel
theorem dX11_floor_28 : decode cX11_floor 28 = .ok (.ifCond .ge 7, 3) := by decide +kernel
theorem dX11_floor_31 : decode cX11_floor 31 = .ok (.iconst 1, 1) := by decide +kernel
theorem dX11_floor_32 : decode cX11_floor 32 = .ok (.goto 4, 3) := by decide +kernel
theorem dX11_floor_35 : decode cX11_floor 35 = .ok (.iconst 0, 1) := by decide +kernel
theorem dX11_floor_36 : decode cX11_floor 36 = .ok (.if_icmp .eq 10, 3) := by decide +kernel
theorem dX11_floor_39 : decode cX11_floor 39 = .ok (.lload 4, 2) := by decide +kernel
theorem dX11_floor_41 : decode cX11_floor 41 = .ok (.lconst 1, 1) := by decide +kernel
theorem dX11_floor_42 : decode cX11_floor 42 = .ok (.lsub, 1) := by decide +kernel
theorem dX11_floor_43 : decode cX11_floor 43 = .ok (.goto 5, 3) := by decide +kernel
theorem dX11_floor_46 : decode cX11_floor 46 = .ok (.lload 4, 2) := by decide +kernel
theorem dX11_floor_48 : decode cX11_floor 48 = .ok (.lreturn, 1) := by decide +kernel
theorem dX11_part_0 : decode cX11_part 0 = .ok (.lload_n 2, 1) := by decide +kernel
theorem dX11_part_1 : decode cX11_part 1 = .ok (.lconst 0, 1) := by decide +kernel
theorem dX11_part_2 : decode cX11_part 2 = .ok (.lcmp, 1) := by decide +kernel
theorem dX11_part_3 : decode cX11_part 3 = .ok (.ifCond .ge 9, 3) := by decide +kernel
theorem dX11_part_6 : decode cX11_part 6 = .ok (.lconst 0, 1) := by decide +kernel
theorem dX11_part_7 : decode cX11_part 7 = .ok (.lload_n 0, 1) := by decide +kernel
theorem dX11_part_8 : decode cX11_part 8 = .ok (.lsub, 1) := by decide +kernel
theorem dX11_part_9 : decode cX11_part 9 = .ok (.goto 4, 3) := by decide +kernel
theorem dX11_part_12 : decode cX11_part 12 = .ok (.lload_n 0, 1) := by decide +kernel
theorem dX11_part_13 : decode cX11_part 13 = .ok (.lload 4, 2) := by decide +kernel
theorem dX11_part_15 : decode cX11_part 15 = .ok (.ladd, 1) := by decide +kernel
theorem dX11_part_16 : decode cX11_part 16 = .ok (.lload_n 2, 1) := by decide +kernel
theorem dX11_part_17 : decode cX11_part 17 = .ok (.invokestatic 116, 3) := by decide +kernel
theorem dX11_part_20 : decode cX11_part 20 = .ok (.invokestatic 122, 3) := by decide +kernel
theorem dX11_part_23 : decode cX11_part 23 = .ok (.lreturn, 1) := by decide +kernel
theorem dX11_carries_0 : decode cX11_carries 0 = .ok (.aload_n 0, 1) := by decide +kernel
theorem dX11_carries_1 : decode cX11_carries 1 = .ok (.getfield 126, 3) := by decide +kernel
theorem dX11_carries_4 : decode cX11_carries 4 = .ok (.aload_n 0, 1) := by decide +kernel
theorem dX11_carries_5 : decode cX11_carries 5 = .ok (.getfield 126, 3) := by decide +kernel
theorem dX11_carries_8 : decode cX11_carries 8 = .ok (.lmul, 1) := by decide +kernel
theorem dX11_carries_9 : decode cX11_carries 9 = .ok (.ldc2_w 129, 3) := by decide +kernel
theorem dX11_carries_12 : decode cX11_carries 12 = .ok (.lsub, 1) := by decide +kernel
theorem dX11_carries_13 : decode cX11_carries 13 = .ok (.invokestatic 131, 3) := by decide +kernel
theorem dX11_carries_16 : decode cX11_carries 16 = .ok (.lstore_n 1, 1) := by decide +kernel
theorem dX11_carries_17 : decode cX11_carries 17 = .ok (.iconst 1, 1) := by decide +kernel
theorem dX11_carries_18 : decode cX11_carries 18 = .ok (.istore_n 3, 1) := by decide +kernel
theorem dX11_carries_19 : decode cX11_carries 19 = .ok (.aload_n 0, 1) := by decide +kernel
theorem dX11_carries_20 : decode cX11_carries 20 = .ok (.getfield 61, 3) := by decide +kernel
theorem dX11_carries_23 : decode cX11_carries 23 = .ok (.lconst 0, 1) := by decide +kernel
theorem dX11_carries_24 : decode cX11_carries 24 = .ok (.lcmp, 1) := by decide +kernel
theorem dX11_carries_25 : decode cX11_carries 25 = .ok (.ifCond .ge 7, 3) := by decide +kernel
theorem dX11_carries_28 : decode cX11_carries 28 = .ok (.iconst 1, 1) := by decide +kernel
theorem dX11_carries_29 : decode cX11_carries 29 = .ok (.goto 4, 3) := by decide +kernel
theorem dX11_carries_32 : decode cX11_carries 32 = .ok (.iconst 0, 1) := by decide +kernel
theorem dX11_carries_33 : decode cX11_carries 33 = .ok (.aload_n 0, 1) := by decide +kernel
theorem dX11_carries_34 : decode cX11_carries 34 = .ok (.getfield 64, 3) := by decide +kernel
theorem dX11_carries_37 : decode cX11_carries 37 = .ok (.lconst 0, 1) := by decide +kernel
theorem dX11_carries_38 : decode cX11_carries 38 = .ok (.lcmp, 1) := by decide +kernel
theorem dX11_carries_39 : decode cX11_carries 39 = .ok (.ifCond .ge 7, 3) := by decide +kernel
theorem dX11_carries_42 : decode cX11_carries 42 = .ok (.iconst 1, 1) := by decide +kernel
theorem dX11_carries_43 : decode cX11_carries 43 = .ok (.goto 4, 3) := by decide +kernel
theorem dX11_carries_46 : decode cX11_carries 46 = .ok (.iconst 0, 1) := by decide +kernel
theorem dX11_carries_47 : decode cX11_carries 47 = .ok (.if_icmp .eq 205, 3) := by decide +kernel
theorem dX11_carries_50 : decode cX11_carries 50 = .ok (.iload_n 3, 1) := by decide +kernel
theorem dX11_carries_51 : decode cX11_carries 51 = .ok (.ifCond .eq 15, 3) := by decide +kernel
theorem dX11_carries_54 : decode cX11_carries 54 = .ok (.aload_n 0, 1) := by decide +kernel
theorem dX11_carries_55 : decode cX11_carries 55 = .ok (.getfield 57, 3) := by decide +kernel
theorem dX11_carries_58 : decode cX11_carries 58 = .ok (.aload_n 0, 1) := by decide +kernel
theorem dX11_carries_59 : decode cX11_carries 59 = .ok (.getfield 67, 3) := by decide +kernel
theorem dX11_carries_62 : decode cX11_carries 62 = .ok (.lsub, 1) := by decide +kernel
theorem dX11_carries_63 : decode cX11_carries 63 = .ok (.goto 12, 3) := by decide +kernel
theorem dX11_carries_66 : decode cX11_carries 66 = .ok (.aload_n 0, 1) := by decide +kernel
theorem dX11_carries_67 : decode cX11_carries 67 = .ok (.getfield 67, 3) := by decide +kernel
theorem dX11_carries_70 : decode cX11_carries 70 = .ok (.aload_n 0, 1) := by decide +kernel
theorem dX11_carries_71 : decode cX11_carries 71 = .ok (.getfield 57, 3) := by decide +kernel
theorem dX11_carries_74 : decode cX11_carries 74 = .ok (.lsub, 1) := by decide +kernel
theorem dX11_carries_75 : decode cX11_carries 75 = .ok (.lstore 4, 2) := by decide +kernel
theorem dX11_carries_77 : decode cX11_carries 77 = .ok (.iload_n 3, 1) := by decide +kernel
theorem dX11_carries_78 : decode cX11_carries 78 = .ok (.ifCond .eq 14, 3) := by decide +kernel
theorem dX11_carries_81 : decode cX11_carries 81 = .ok (.ldc2_w 134, 3) := by decide +kernel
theorem dX11_carries_84 : decode cX11_carries 84 = .ok (.aload_n 0, 1) := by decide +kernel
theorem dX11_carries_85 : decode cX11_carries 85 = .ok (.getfield 64, 3) := by decide +kernel
theorem dX11_carries_88 : decode cX11_carries 88 = .ok (.lmul, 1) := by decide +kernel
theorem dX11_carries_89 : decode cX11_carries 89 = .ok (.goto 11, 3) := by decide +kernel
theorem dX11_carries_92 : decode cX11_carries 92 = .ok (.ldc2_w 134, 3) := by decide +kernel
theorem dX11_carries_95 : decode cX11_carries 95 = .ok (.aload_n 0, 1) := by decide +kernel
theorem dX11_carries_96 : decode cX11_carries 96 = .ok (.getfield 61, 3) := by decide +kernel
theorem dX11_carries_99 : decode cX11_carries 99 = .ok (.lmul, 1) := by decide +kernel
theorem dX11_carries_100 : decode cX11_carries 100 = .ok (.lstore 6, 2) := by decide +kernel
theorem dX11_carries_102 : decode cX11_carries 102 = .ok (.lload 4, 2) := by decide +kernel
theorem dX11_carries_104 : decode cX11_carries 104 = .ok (.lload 6, 2) := by decide +kernel
theorem dX11_carries_106 : decode cX11_carries 106 = .ok (.lload_n 1, 1) := by decide +kernel
theorem dX11_carries_107 : decode cX11_carries 107 = .ok (.invokestatic 136, 3) := by decide +kernel
theorem dX11_carries_110 : decode cX11_carries 110 = .ok (.lstore 8, 2) := by decide +kernel
theorem dX11_carries_112 : decode cX11_carries 112 = .ok (.iload_n 3, 1) := by decide +kernel
theorem dX11_carries_113 : decode cX11_carries 113 = .ok (.ifCond .eq 66, 3) := by decide +kernel
theorem dX11_carries_116 : decode cX11_carries 116 = .ok (.aload_n 0, 1) := by decide +kernel
theorem dX11_carries_117 : decode cX11_carries 117 = .ok (.aload_n 0, 1) := by decide +kernel
theorem dX11_carries_118 : decode cX11_carries 118 = .ok (.getfield 57, 3) := by decide +kernel
theorem dX11_carries_121 : decode cX11_carries 121 = .ok (.lload 8, 2) := by decide +kernel
theorem dX11_carries_123 : decode cX11_carries 123 = .ok (.aload_n 0, 1) := by decide +kernel
theorem dX11_carries_124 : decode cX11_carries 124 = .ok (.getfield 64, 3) := by decide +kernel
theorem dX11_carries_127 : decode cX11_carries 127 = .ok (.lmul, 1) := by decide +kernel
theorem dX11_carries_128 : decode cX11_carries 128 = .ok (.lsub, 1) := by decide +kernel
theorem dX11_carries_129 : decode cX11_carries 129 = .ok (.aload_n 0, 1) := by decide +kernel
theorem dX11_carries_130 : decode cX11_carries 130 = .ok (.getfield 57, 3) := by decide +kernel
theorem dX11_carries_133 : decode cX11_carries 133 = .ok (.lload 8, 2) := by decide +kernel
theorem dX11_carries_135 : decode cX11_carries 135 = .ok (.lmul, 1) := by decide +kernel
theorem dX11_carries_136 : decode cX11_carries 136 = .ok (.aload_n 0, 1) := by decide +kernel
theorem dX11_carries_137 : decode cX11_carries 137 = .ok (.getfield 61, 3) := by decide +kernel
theorem dX11_carries_140 : decode cX11_carries 140 = .ok (.ladd, 1) := by decide +kernel
theorem dX11_carries_141 : decode cX11_carries 141 = .ok (.lload 8, 2) := by decide +kernel
theorem dX11_carries_143 : decode cX11_carries 143 = .ok (.aload_n 0, 1) := by decide +kernel
theorem dX11_carries_144 : decode cX11_carries 144 = .ok (.getfield 64, 3) := by decide +kernel
theorem dX11_carries_147 : decode cX11_carries 147 = .ok (.lload 8, 2) := by decide +kernel
theorem dX11_carries_149 : decode cX11_carries 149 = .ok (.lmul, 1) := by decide +kernel
theorem dX11_carries_150 : decode cX11_carries 150 = .ok (.aload_n 0, 1) := by decide +kernel
theorem dX11_carries_151 : decode cX11_carries 151 = .ok (.getfield 67, 3) := by decide +kernel
theorem dX11_carries_154 : decode cX11_carries 154 = .ok (.ladd, 1) := by decide +kernel
theorem dX11_carries_155 : decode cX11_carries 155 = .ok (.lmul, 1) := by decide +kernel
theorem dX11_carries_156 : decode cX11_carries 156 = .ok (.lsub, 1) := by decide +kernel
theorem dX11_carries_157 : decode cX11_carries 157 = .ok (.aload_n 0, 1) := by decide +kernel
theorem dX11_carries_158 : decode cX11_carries 158 = .ok (.getfield 64, 3) := by decide +kernel
theorem dX11_carries_161 : decode cX11_carries 161 = .ok (.aload_n 0, 1) := by decide +kernel
theorem dX11_carries_162 : decode cX11_carries 162 = .ok (.getfield 64, 3) := by decide +kernel
theorem dX11_carries_165 : decode cX11_carries 165 = .ok (.lload 8, 2) := by decide +kernel
theorem dX11_carries_167 : decode cX11_carries 167 = .ok (.lmul, 1) := by decide +kernel
theorem dX11_carries_168 : decode cX11_carries 168 = .ok (.aload_n 0, 1) := by decide +kernel
theorem dX11_carries_169 : decode cX11_carries 169 = .ok (.getfield 67, 3) := by decide +kernel
theorem dX11_carries_172 : decode cX11_carries 172 = .ok (.ladd, 1) := by decide +kernel
theorem dX11_carries_173 : decode cX11_carries 173 = .ok (.invokevirtual 70, 3) := by decide +kernel
theorem dX11_carries_176 : decode cX11_carries 176 = .ok (.goto 63, 3) := by decide +kernel
theorem dX11_carries_179 : decode cX11_carries 179 = .ok (.aload_n 0, 1) := by decide +kernel
theorem dX11_carries_180 : decode cX11_carries 180 = .ok (.aload_n 0, 1) := by decide +kernel
theorem dX11_carries_181 : decode cX11_carries 181 = .ok (.getfield 57, 3) := by decide +kernel
theorem dX11_carries_184 : decode cX11_carries 184 = .ok (.aload_n 0, 1) := by decide +kernel
theorem dX11_carries_185 : decode cX11_carries 185 = .ok (.getfield 61, 3) := by decide +kernel
theorem dX11_carries_188 : decode cX11_carries 188 = .ok (.lload 8, 2) := by decide +kernel
theorem dX11_carries_190 : decode cX11_carries 190 = .ok (.lmul, 1) := by decide +kernel
theorem dX11_carries_191 : decode cX11_carries 191 = .ok (.ladd, 1) := by decide +kernel
theorem dX11_carries_192 : decode cX11_carries 192 = .ok (.aload_n 0, 1) := by decide +kernel
theorem dX11_carries_193 : decode cX11_carries 193 = .ok (.getfield 61, 3) := by decide +kernel
theorem dX11_carries_196 : decode cX11_carries 196 = .ok (.aload_n 0, 1) := by decide +kernel
theorem dX11_carries_197 : decode cX11_carries 197 = .ok (.getfield 64, 3) := by decide +kernel
theorem dX11_carries_200 : decode cX11_carries 200 = .ok (.aload_n 0, 1) := by decide +kernel
theorem dX11_carries_201 : decode cX11_carries 201 = .ok (.getfield 67, 3) := by decide +kernel
theorem dX11_carries_204 : decode cX11_carries 204 = .ok (.lload 8, 2) := by decide +kernel
theorem dX11_carries_206 : decode cX11_carries 206 = .ok (.lmul, 1) := by decide +kernel
theorem dX11_carries_207 : decode cX11_carries 207 = .ok (.ladd, 1) := by decide +kernel
theorem dX11_carries_208 : decode cX11_carries 208 = .ok (.lload 8, 2) := by decide +kernel
theorem dX11_carries_210 : decode cX11_carries 210 = .ok (.aload_n 0, 1) := by decide +kernel
theorem dX11_carries_211 : decode cX11_carries 211 = .ok (.getfield 57, 3) := by decide +kernel
theorem dX11_carries_214 : decode cX11_carries 214 = .ok (.aload_n 0, 1) := by decide +kernel
theorem dX11_carries_215 : decode cX11_carries 215 = .ok (.getfield 61, 3) := by decide +kernel
theorem dX11_carries_218 : decode cX11_carries 218 = .ok (.lload 8, 2) := by decide +kernel
theorem dX11_carries_220 : decode cX11_carries 220 = .ok (.lmul, 1) := by decide +kernel
theorem dX11_carries_221 : decode cX11_carries 221 = .ok (.ladd, 1) := by decide +kernel
theorem dX11_carries_222 : decode cX11_carries 222 = .ok (.lmul, 1) := by decide +kernel
theorem dX11_carries_223 : decode cX11_carries 223 = .ok (.lsub, 1) := by decide +kernel
theorem dX11_carries_224 : decode cX11_carries 224 = .ok (.aload_n 0, 1) := by decide +kernel
theorem dX11_carries_225 : decode cX11_carries 225 = .ok (.getfield 67, 3) := by decide +kernel
theorem dX11_carries_228 : decode cX11_carries 228 = .ok (.lload 8, 2) := by decide +kernel
theorem dX11_carries_230 : decode cX11_carries 230 = .ok (.aload_n 0, 1) := by decide +kernel
theorem dX11_carries_231 : decode cX11_carries 231 = .ok (.getfield 61, 3) := by decide +kernel
theorem dX11_carries_234 : decode cX11_carries 234 = .ok (.lmul, 1) := by decide +kernel
theorem dX11_carries_235 : decode cX11_carries 235 = .ok (.lsub, 1) := by decide +kernel
theorem dX11_carries_236 : decode cX11_carries 236 = .ok (.invokevirtual 70, 3) := by decide +kernel
theorem dX11_carries_239 : decode cX11_carries 239 = .ok (.iload_n 3, 1) := by decide +kernel
theorem dX11_carries_240 : decode cX11_carries 240 = .ok (.ifCond .ne 7, 3) := by decide +kernel
theorem dX11_carries_243 : decode cX11_carries 243 = .ok (.iconst 1, 1) := by decide +kernel
theorem dX11_carries_244 : decode cX11_carries 244 = .ok (.goto 4, 3) := by decide +kernel
theorem dX11_carries_247 : decode cX11_carries 247 = .ok (.iconst 0, 1) := by decide +kernel
theorem dX11_carries_248 : decode cX11_carries 248 = .ok (.istore_n 3, 1) := by decide +kernel
theorem dX11_carries_249 : decode cX11_carries 249 = .ok (.goto (-230), 3) := by decide +kernel
theorem dX11_carries_252 : decode cX11_carries 252 = .ok (.aload_n 0, 1) := by decide +kernel
theorem dX11_carries_253 : decode cX11_carries 253 = .ok (.getfield 61, 3) := by decide +kernel
theorem dX11_carries_256 : decode cX11_carries 256 = .ok (.lconst 0, 1) := by decide +kernel
theorem dX11_carries_257 : decode cX11_carries 257 = .ok (.lcmp, 1) := by decide +kernel
theorem dX11_carries_258 : decode cX11_carries 258 = .ok (.ifCond .ge 27, 3) := by decide +kernel
theorem dX11_carries_261 : decode cX11_carries 261 = .ok (.aload_n 0, 1) := by decide +kernel
theorem dX11_carries_262 : decode cX11_carries 262 = .ok (.aload_n 0, 1) := by decide +kernel
theorem dX11_carries_263 : decode cX11_carries 263 = .ok (.getfield 67, 3) := by decide +kernel
theorem dX11_carries_266 : decode cX11_carries 266 = .ok (.lconst 0, 1) := by decide +kernel
theorem dX11_carries_267 : decode cX11_carries 267 = .ok (.aload_n 0, 1) := by decide +kernel
theorem dX11_carries_268 : decode cX11_carries 268 = .ok (.getfield 64, 3) := by decide +kernel
theorem dX11_carries_271 : decode cX11_carries 271 = .ok (.lsub, 1) := by decide +kernel
theorem dX11_carries_272 : decode cX11_carries 272 = .ok (.lconst 0, 1) := by decide +kernel
theorem dX11_carries_273 : decode cX11_carries 273 = .ok (.aload_n 0, 1) := by decide +kernel
theorem dX11_carries_274 : decode cX11_carries 274 = .ok (.getfield 61, 3) := by decide +kernel
theorem dX11_carries_277 : decode cX11_carries 277 = .ok (.lsub, 1) := by decide +kernel
theorem dX11_carries_278 : decode cX11_carries 278 = .ok (.aload_n 0, 1) := by decide +kernel
theorem dX11_carries_279 : decode cX11_carries 279 = .ok (.getfield 57, 3) := by decide +kernel
theorem dX11_carries_282 : decode cX11_carries 282 = .ok (.invokevirtual 70, 3) := by decide +kernel
theorem dX11_carries_285 : decode cX11_carries 285 = .ok (.return_, 1) := by decide +kernel
theorem dX11_spells_0 : decode cX11_spells 0 = .ok (.aload_n 0, 1) := by decide +kernel
theorem dX11_spells_1 : decode cX11_spells 1 = .ok (.iconst 0, 1) := by decide +kernel
theorem dX11_spells_2 : decode cX11_spells 2 = .ok (.putfield 140, 3) := by decide +kernel
theorem dX11_spells_5 : decode cX11_spells 5 = .ok (.aload_n 0, 1) := by decide +kernel
theorem dX11_spells_6 : decode cX11_spells 6 = .ok (.getfield 57, 3) := by decide +kernel
theorem dX11_spells_9 : decode cX11_spells 9 = .ok (.lconst 1, 1) := by decide +kernel
theorem dX11_spells_10 : decode cX11_spells 10 = .ok (.lcmp, 1) := by decide +kernel
theorem dX11_spells_11 : decode cX11_spells 11 = .ok (.ifCond .ne 21, 3) := by decide +kernel
theorem dX11_spells_14 : decode cX11_spells 14 = .ok (.aload_n 0, 1) := by decide +kernel
theorem dX11_spells_15 : decode cX11_spells 15 = .ok (.getfield 61, 3) := by decide +kernel
theorem dX11_spells_18 : decode cX11_spells 18 = .ok (.lconst 0, 1) := by decide +kernel
theorem dX11_spells_19 : decode cX11_spells 19 = .ok (.lcmp, 1) := by decide +kernel
theorem dX11_spells_20 : decode cX11_spells 20 = .ok (.ifCond .ne 12, 3) := by decide +kernel
theorem dX11_spells_23 : decode cX11_spells 23 = .ok (.aload_n 0, 1) := by decide +kernel
theorem dX11_spells_24 : decode cX11_spells 24 = .ok (.getfield 64, 3) := by decide +kernel
theorem dX11_spells_27 : decode cX11_spells 27 = .ok (.lconst 0, 1) := by decide +kernel
theorem dX11_spells_28 : decode cX11_spells 28 = .ok (.lcmp, 1) := by decide +kernel
theorem dX11_spells_29 : decode cX11_spells 29 = .ok (.ifCond .eq 322, 3) := by decide +kernel
theorem dX11_spells_32 : decode cX11_spells 32 = .ok (.aload_n 0, 1) := by decide +kernel
theorem dX11_spells_33 : decode cX11_spells 33 = .ok (.getfield 57, 3) := by decide +kernel
theorem dX11_spells_36 : decode cX11_spells 36 = .ok (.aload_n 0, 1) := by decide +kernel
theorem dX11_spells_37 : decode cX11_spells 37 = .ok (.getfield 64, 3) := by decide +kernel
theorem dX11_spells_40 : decode cX11_spells 40 = .ok (.lcmp, 1) := by decide +kernel
theorem dX11_spells_41 : decode cX11_spells 41 = .ok (.ifCond .lt 19, 3) := by decide +kernel
theorem dX11_spells_44 : decode cX11_spells 44 = .ok (.aload_n 0, 1) := by decide +kernel
theorem dX11_spells_45 : decode cX11_spells 45 = .ok (.getfield 61, 3) := by decide +kernel
theorem dX11_spells_48 : decode cX11_spells 48 = .ok (.aload_n 0, 1) := by decide +kernel
theorem dX11_spells_49 : decode cX11_spells 49 = .ok (.getfield 67, 3) := by decide +kernel
theorem dX11_spells_52 : decode cX11_spells 52 = .ok (.lcmp, 1) := by decide +kernel
theorem dX11_spells_53 : decode cX11_spells 53 = .ok (.ifCond .lt 7, 3) := by decide +kernel
theorem dX11_spells_56 : decode cX11_spells 56 = .ok (.iconst 1, 1) := by decide +kernel
theorem dX11_spells_57 : decode cX11_spells 57 = .ok (.goto 4, 3) := by decide +kernel
theorem dX11_spells_60 : decode cX11_spells 60 = .ok (.iconst 0, 1) := by decide +kernel
theorem dX11_spells_61 : decode cX11_spells 61 = .ok (.istore_n 1, 1) := by decide +kernel
theorem dX11_spells_62 : decode cX11_spells 62 = .ok (.iload_n 1, 1) := by decide +kernel
theorem dX11_spells_63 : decode cX11_spells 63 = .ok (.ifCond .eq 126, 3) := by decide +kernel
theorem dX11_spells_66 : decode cX11_spells 66 = .ok (.aload_n 0, 1) := by decide +kernel
theorem dX11_spells_67 : decode cX11_spells 67 = .ok (.getfield 64, 3) := by decide +kernel
theorem dX11_spells_70 : decode cX11_spells 70 = .ok (.lconst 0, 1) := by decide +kernel
theorem dX11_spells_71 : decode cX11_spells 71 = .ok (.lcmp, 1) := by decide +kernel
theorem dX11_spells_72 : decode cX11_spells 72 = .ok (.ifCond .ne 15, 3) := by decide +kernel
theorem dX11_spells_75 : decode cX11_spells 75 = .ok (.aload_n 0, 1) := by decide +kernel
theorem dX11_spells_76 : decode cX11_spells 76 = .ok (.getfield 61, 3) := by decide +kernel
theorem dX11_spells_79 : decode cX11_spells 79 = .ok (.aload_n 0, 1) := by decide +kernel
theorem dX11_spells_80 : decode cX11_spells 80 = .ok (.getfield 67, 3) := by decide +kernel
theorem dX11_spells_83 : decode cX11_spells 83 = .ok (.ldiv, 1) := by decide +kernel
theorem dX11_spells_84 : decode cX11_spells 84 = .ok (.goto 67, 3) := by decide +kernel
theorem dX11_spells_87 : decode cX11_spells 87 = .ok (.aload_n 0, 1) := by decide +kernel
theorem dX11_spells_88 : decode cX11_spells 88 = .ok (.getfield 67, 3) := by decide +kernel
theorem dX11_spells_91 : decode cX11_spells 91 = .ok (.lconst 0, 1) := by decide +kernel
theorem dX11_spells_92 : decode cX11_spells 92 = .ok (.lcmp, 1) := by decide +kernel
theorem dX11_spells_93 : decode cX11_spells 93 = .ok (.ifCond .ne 15, 3) := by decide +kernel
theorem dX11_spells_96 : decode cX11_spells 96 = .ok (.aload_n 0, 1) := by decide +kernel
theorem dX11_spells_97 : decode cX11_spells 97 = .ok (.getfield 57, 3) := by decide +kernel
theorem dX11_spells_100 : decode cX11_spells 100 = .ok (.aload_n 0, 1) := by decide +kernel
theorem dX11_spells_101 : decode cX11_spells 101 = .ok (.getfield 64, 3) := by decide +kernel
theorem dX11_spells_104 : decode cX11_spells 104 = .ok (.ldiv, 1) := by decide +kernel
theorem dX11_spells_105 : decode cX11_spells 105 = .ok (.goto 46, 3) := by decide +kernel
theorem dX11_spells_108 : decode cX11_spells 108 = .ok (.aload_n 0, 1) := by decide +kernel
theorem dX11_spells_109 : decode cX11_spells 109 = .ok (.getfield 57, 3) := by decide +kernel
theorem dX11_spells_112 : decode cX11_spells 112 = .ok (.aload_n 0, 1) := by decide +kernel
theorem dX11_spells_113 : decode cX11_spells 113 = .ok (.getfield 64, 3) := by decide +kernel
theorem dX11_spells_116 : decode cX11_spells 116 = .ok (.ldiv, 1) := by decide +kernel
theorem dX11_spells_117 : decode cX11_spells 117 = .ok (.aload_n 0, 1) := by decide +kernel
theorem dX11_spells_118 : decode cX11_spells 118 = .ok (.getfield 61, 3) := by decide +kernel
theorem dX11_spells_121 : decode cX11_spells 121 = .ok (.aload_n 0, 1) := by decide +kernel
theorem dX11_spells_122 : decode cX11_spells 122 = .ok (.getfield 67, 3) := by decide +kernel
theorem dX11_spells_125 : decode cX11_spells 125 = .ok (.ldiv, 1) := by decide +kernel
theorem dX11_spells_126 : decode cX11_spells 126 = .ok (.lcmp, 1) := by decide +kernel
theorem dX11_spells_127 : decode cX11_spells 127 = .ok (.ifCond .ge 15, 3) := by decide +kernel
theorem dX11_spells_130 : decode cX11_spells 130 = .ok (.aload_n 0, 1) := by decide +kernel
theorem dX11_spells_131 : decode cX11_spells 131 = .ok (.getfield 57, 3) := by decide +kernel
theorem dX11_spells_134 : decode cX11_spells 134 = .ok (.aload_n 0, 1) := by decide +kernel
theorem dX11_spells_135 : decode cX11_spells 135 = .ok (.getfield 64, 3) := by decide +kernel
theorem dX11_spells_138 : decode cX11_spells 138 = .ok (.ldiv, 1) := by decide +kernel
theorem dX11_spells_139 : decode cX11_spells 139 = .ok (.goto 12, 3) := by decide +kernel
theorem dX11_spells_142 : decode cX11_spells 142 = .ok (.aload_n 0, 1) := by decide +kernel
theorem dX11_spells_143 : decode cX11_spells 143 = .ok (.getfield 61, 3) := by decide +kernel
theorem dX11_spells_146 : decode cX11_spells 146 = .ok (.aload_n 0, 1) := by decide +kernel
theorem dX11_spells_147 : decode cX11_spells 147 = .ok (.getfield 67, 3) := by decide +kernel
theorem dX11_spells_150 : decode cX11_spells 150 = .ok (.ldiv, 1) := by decide +kernel
theorem dX11_spells_151 : decode cX11_spells 151 = .ok (.lstore_n 2, 1) := by decide +kernel
theorem dX11_spells_152 : decode cX11_spells 152 = .ok (.aload_n 0, 1) := by decide +kernel
theorem dX11_spells_153 : decode cX11_spells 153 = .ok (.aload_n 0, 1) := by decide +kernel
theorem dX11_spells_154 : decode cX11_spells 154 = .ok (.getfield 57, 3) := by decide +kernel
theorem dX11_spells_157 : decode cX11_spells 157 = .ok (.lload_n 2, 1) := by decide +kernel
theorem dX11_spells_158 : decode cX11_spells 158 = .ok (.aload_n 0, 1) := by decide +kernel
theorem dX11_spells_159 : decode cX11_spells 159 = .ok (.getfield 64, 3) := by decide +kernel
theorem dX11_spells_162 : decode cX11_spells 162 = .ok (.lmul, 1) := by decide +kernel
theorem dX11_spells_163 : decode cX11_spells 163 = .ok (.lsub, 1) := by decide +kernel
theorem dX11_spells_164 : decode cX11_spells 164 = .ok (.aload_n 0, 1) := by decide +kernel
theorem dX11_spells_165 : decode cX11_spells 165 = .ok (.getfield 61, 3) := by decide +kernel
theorem dX11_spells_168 : decode cX11_spells 168 = .ok (.lload_n 2, 1) := by decide +kernel
theorem dX11_spells_169 : decode cX11_spells 169 = .ok (.aload_n 0, 1) := by decide +kernel
theorem dX11_spells_170 : decode cX11_spells 170 = .ok (.getfield 67, 3) := by decide +kernel
theorem dX11_spells_173 : decode cX11_spells 173 = .ok (.lmul, 1) := by decide +kernel
theorem dX11_spells_174 : decode cX11_spells 174 = .ok (.lsub, 1) := by decide +kernel
theorem dX11_spells_175 : decode cX11_spells 175 = .ok (.aload_n 0, 1) := by decide +kernel
theorem dX11_spells_176 : decode cX11_spells 176 = .ok (.getfield 64, 3) := by decide +kernel
theorem dX11_spells_179 : decode cX11_spells 179 = .ok (.aload_n 0, 1) := by decide +kernel
theorem dX11_spells_180 : decode cX11_spells 180 = .ok (.getfield 67, 3) := by decide +kernel
theorem dX11_spells_183 : decode cX11_spells 183 = .ok (.invokevirtual 70, 3) := by decide +kernel
theorem dX11_spells_186 : decode cX11_spells 186 = .ok (.goto 123, 3) := by decide +kernel
theorem dX11_spells_189 : decode cX11_spells 189 = .ok (.aload_n 0, 1) := by decide +kernel
theorem dX11_spells_190 : decode cX11_spells 190 = .ok (.getfield 57, 3) := by decide +kernel
theorem dX11_spells_193 : decode cX11_spells 193 = .ok (.lconst 0, 1) := by decide +kernel
theorem dX11_spells_194 : decode cX11_spells 194 = .ok (.lcmp, 1) := by decide +kernel
theorem dX11_spells_195 : decode cX11_spells 195 = .ok (.ifCond .ne 15, 3) := by decide +kernel
theorem dX11_spells_198 : decode cX11_spells 198 = .ok (.aload_n 0, 1) := by decide +kernel
theorem dX11_spells_199 : decode cX11_spells 199 = .ok (.getfield 67, 3) := by decide +kernel
theorem dX11_spells_202 : decode cX11_spells 202 = .ok (.aload_n 0, 1) := by decide +kernel
theorem dX11_spells_203 : decode cX11_spells 203 = .ok (.getfield 61, 3) := by decide +kernel
theorem dX11_spells_206 : decode cX11_spells 206 = .ok (.ldiv, 1) := by decide +kernel
theorem dX11_spells_207 : decode cX11_spells 207 = .ok (.goto 67, 3) := by decide +kernel
theorem dX11_spells_210 : decode cX11_spells 210 = .ok (.aload_n 0, 1) := by decide +kernel
theorem dX11_spells_211 : decode cX11_spells 211 = .ok (.getfield 61, 3) := by decide +kernel
theorem dX11_spells_214 : decode cX11_spells 214 = .ok (.lconst 0, 1) := by decide +kernel
theorem dX11_spells_215 : decode cX11_spells 215 = .ok (.lcmp, 1) := by decide +kernel
theorem dX11_spells_216 : decode cX11_spells 216 = .ok (.ifCond .ne 15, 3) := by decide +kernel
theorem dX11_spells_219 : decode cX11_spells 219 = .ok (.aload_n 0, 1) := by decide +kernel
theorem dX11_spells_220 : decode cX11_spells 220 = .ok (.getfield 64, 3) := by decide +kernel
theorem dX11_spells_223 : decode cX11_spells 223 = .ok (.aload_n 0, 1) := by decide +kernel
theorem dX11_spells_224 : decode cX11_spells 224 = .ok (.getfield 57, 3) := by decide +kernel
theorem dX11_spells_227 : decode cX11_spells 227 = .ok (.ldiv, 1) := by decide +kernel
theorem dX11_spells_228 : decode cX11_spells 228 = .ok (.goto 46, 3) := by decide +kernel
theorem dX11_spells_231 : decode cX11_spells 231 = .ok (.aload_n 0, 1) := by decide +kernel
theorem dX11_spells_232 : decode cX11_spells 232 = .ok (.getfield 64, 3) := by decide +kernel
theorem dX11_spells_235 : decode cX11_spells 235 = .ok (.aload_n 0, 1) := by decide +kernel
theorem dX11_spells_236 : decode cX11_spells 236 = .ok (.getfield 57, 3) := by decide +kernel
theorem dX11_spells_239 : decode cX11_spells 239 = .ok (.ldiv, 1) := by decide +kernel
theorem dX11_spells_240 : decode cX11_spells 240 = .ok (.aload_n 0, 1) := by decide +kernel
theorem dX11_spells_241 : decode cX11_spells 241 = .ok (.getfield 67, 3) := by decide +kernel
theorem dX11_spells_244 : decode cX11_spells 244 = .ok (.aload_n 0, 1) := by decide +kernel
theorem dX11_spells_245 : decode cX11_spells 245 = .ok (.getfield 61, 3) := by decide +kernel
theorem dX11_spells_248 : decode cX11_spells 248 = .ok (.ldiv, 1) := by decide +kernel
theorem dX11_spells_249 : decode cX11_spells 249 = .ok (.lcmp, 1) := by decide +kernel
theorem dX11_spells_250 : decode cX11_spells 250 = .ok (.ifCond .ge 15, 3) := by decide +kernel
theorem dX11_spells_253 : decode cX11_spells 253 = .ok (.aload_n 0, 1) := by decide +kernel
theorem dX11_spells_254 : decode cX11_spells 254 = .ok (.getfield 64, 3) := by decide +kernel
theorem dX11_spells_257 : decode cX11_spells 257 = .ok (.aload_n 0, 1) := by decide +kernel
theorem dX11_spells_258 : decode cX11_spells 258 = .ok (.getfield 57, 3) := by decide +kernel
theorem dX11_spells_261 : decode cX11_spells 261 = .ok (.ldiv, 1) := by decide +kernel
theorem dX11_spells_262 : decode cX11_spells 262 = .ok (.goto 12, 3) := by decide +kernel
theorem dX11_spells_265 : decode cX11_spells 265 = .ok (.aload_n 0, 1) := by decide +kernel
theorem dX11_spells_266 : decode cX11_spells 266 = .ok (.getfield 67, 3) := by decide +kernel
theorem dX11_spells_269 : decode cX11_spells 269 = .ok (.aload_n 0, 1) := by decide +kernel
theorem dX11_spells_270 : decode cX11_spells 270 = .ok (.getfield 61, 3) := by decide +kernel
theorem dX11_spells_273 : decode cX11_spells 273 = .ok (.ldiv, 1) := by decide +kernel
theorem dX11_spells_274 : decode cX11_spells 274 = .ok (.lstore_n 2, 1) := by decide +kernel
theorem dX11_spells_275 : decode cX11_spells 275 = .ok (.aload_n 0, 1) := by decide +kernel
theorem dX11_spells_276 : decode cX11_spells 276 = .ok (.aload_n 0, 1) := by decide +kernel
theorem dX11_spells_277 : decode cX11_spells 277 = .ok (.getfield 57, 3) := by decide +kernel
theorem dX11_spells_280 : decode cX11_spells 280 = .ok (.aload_n 0, 1) := by decide +kernel
theorem dX11_spells_281 : decode cX11_spells 281 = .ok (.getfield 61, 3) := by decide +kernel
theorem dX11_spells_284 : decode cX11_spells 284 = .ok (.aload_n 0, 1) := by decide +kernel
theorem dX11_spells_285 : decode cX11_spells 285 = .ok (.getfield 64, 3) := by decide +kernel
theorem dX11_spells_288 : decode cX11_spells 288 = .ok (.lload_n 2, 1) := by decide +kernel
theorem dX11_spells_289 : decode cX11_spells 289 = .ok (.aload_n 0, 1) := by decide +kernel
theorem dX11_spells_290 : decode cX11_spells 290 = .ok (.getfield 57, 3) := by decide +kernel
theorem dX11_spells_293 : decode cX11_spells 293 = .ok (.lmul, 1) := by decide +kernel
theorem dX11_spells_294 : decode cX11_spells 294 = .ok (.lsub, 1) := by decide +kernel
theorem dX11_spells_295 : decode cX11_spells 295 = .ok (.aload_n 0, 1) := by decide +kernel
theorem dX11_spells_296 : decode cX11_spells 296 = .ok (.getfield 67, 3) := by decide +kernel
theorem dX11_spells_299 : decode cX11_spells 299 = .ok (.lload_n 2, 1) := by decide +kernel
theorem dX11_spells_300 : decode cX11_spells 300 = .ok (.aload_n 0, 1) := by decide +kernel
theorem dX11_spells_301 : decode cX11_spells 301 = .ok (.getfield 61, 3) := by decide +kernel
theorem dX11_spells_304 : decode cX11_spells 304 = .ok (.lmul, 1) := by decide +kernel
theorem dX11_spells_305 : decode cX11_spells 305 = .ok (.lsub, 1) := by decide +kernel
theorem dX11_spells_306 : decode cX11_spells 306 = .ok (.invokevirtual 70, 3) := by decide +kernel
theorem dX11_spells_309 : decode cX11_spells 309 = .ok (.aload_n 0, 1) := by decide +kernel
theorem dX11_spells_310 : decode cX11_spells 310 = .ok (.getfield 33, 3) := by decide +kernel
theorem dX11_spells_313 : decode cX11_spells 313 = .ok (.aload_n 0, 1) := by decide +kernel
theorem dX11_spells_314 : decode cX11_spells 314 = .ok (.getfield 140, 3) := by decide +kernel
theorem dX11_spells_317 : decode cX11_spells 317 = .ok (.lload_n 2, 1) := by decide +kernel
theorem dX11_spells_318 : decode cX11_spells 318 = .ok (.l2i, 1) := by decide +kernel
theorem dX11_spells_319 : decode cX11_spells 319 = .ok (.iastore, 1) := by decide +kernel
theorem dX11_spells_320 : decode cX11_spells 320 = .ok (.aload_n 0, 1) := by decide +kernel
theorem dX11_spells_321 : decode cX11_spells 321 = .ok (.getfield 36, 3) := by decide +kernel
theorem dX11_spells_324 : decode cX11_spells 324 = .ok (.aload_n 0, 1) := by decide +kernel
theorem dX11_spells_325 : decode cX11_spells 325 = .ok (.getfield 140, 3) := by decide +kernel
theorem dX11_spells_328 : decode cX11_spells 328 = .ok (.iload_n 1, 1) := by decide +kernel
theorem dX11_spells_329 : decode cX11_spells 329 = .ok (.ifCond .eq 7, 3) := by decide +kernel
theorem dX11_spells_332 : decode cX11_spells 332 = .ok (.iconst 0, 1) := by decide +kernel
theorem dX11_spells_333 : decode cX11_spells 333 = .ok (.goto 4, 3) := by decide +kernel
theorem dX11_spells_336 : decode cX11_spells 336 = .ok (.iconst 1, 1) := by decide +kernel
theorem dX11_spells_337 : decode cX11_spells 337 = .ok (.iastore, 1) := by decide +kernel
theorem dX11_spells_338 : decode cX11_spells 338 = .ok (.aload_n 0, 1) := by decide +kernel
theorem dX11_spells_339 : decode cX11_spells 339 = .ok (.dup, 1) := by decide +kernel
theorem dX11_spells_340 : decode cX11_spells 340 = .ok (.getfield 140, 3) := by decide +kernel
theorem dX11_spells_343 : decode cX11_spells 343 = .ok (.iconst 1, 1) := by decide +kernel
theorem dX11_spells_344 : decode cX11_spells 344 = .ok (.iadd, 1) := by decide +kernel
theorem dX11_spells_345 : decode cX11_spells 345 = .ok (.putfield 140, 3) := by decide +kernel
theorem dX11_spells_348 : decode cX11_spells 348 = .ok (.goto (-343), 3) := by decide +kernel
theorem dX11_spells_351 : decode cX11_spells 351 = .ok (.return_, 1) := by decide +kernel
theorem dX11_isLess_0 : decode cX11_isLess 0 = .ok (.iconst 0, 1) := by decide +kernel
theorem dX11_isLess_1 : decode cX11_isLess 1 = .ok (.istore_n 3, 1) := by decide +kernel
theorem dX11_isLess_2 : decode cX11_isLess 2 = .ok (.iload_n 3, 1) := by decide +kernel
theorem dX11_isLess_3 : decode cX11_isLess 3 = .ok (.aload_n 0, 1) := by decide +kernel
theorem dX11_isLess_4 : decode cX11_isLess 4 = .ok (.getfield 140, 3) := by decide +kernel
theorem dX11_isLess_7 : decode cX11_isLess 7 = .ok (.if_icmp .ge 59, 3) := by decide +kernel
theorem dX11_isLess_10 : decode cX11_isLess 10 = .ok (.aload_n 0, 1) := by decide +kernel
theorem dX11_isLess_11 : decode cX11_isLess 11 = .ok (.getfield 39, 3) := by decide +kernel
theorem dX11_isLess_14 : decode cX11_isLess 14 = .ok (.iload_n 1, 1) := by decide +kernel
theorem dX11_isLess_15 : decode cX11_isLess 15 = .ok (.iload_n 3, 1) := by decide +kernel
theorem dX11_isLess_16 : decode cX11_isLess 16 = .ok (.iadd, 1) := by decide +kernel
theorem dX11_isLess_17 : decode cX11_isLess 17 = .ok (.aload_n 0, 1) := by decide +kernel
theorem dX11_isLess_18 : decode cX11_isLess 18 = .ok (.getfield 140, 3) := by decide +kernel
theorem dX11_isLess_21 : decode cX11_isLess 21 = .ok (.irem, 1) := by decide +kernel
theorem dX11_isLess_22 : decode cX11_isLess 22 = .ok (.iaload, 1) := by decide +kernel
theorem dX11_isLess_23 : decode cX11_isLess 23 = .ok (.istore 4, 2) := by decide +kernel
theorem dX11_isLess_25 : decode cX11_isLess 25 = .ok (.aload_n 0, 1) := by decide +kernel
theorem dX11_isLess_26 : decode cX11_isLess 26 = .ok (.getfield 39, 3) := by decide +kernel
theorem dX11_isLess_29 : decode cX11_isLess 29 = .ok (.iload_n 2, 1) := by decide +kernel
theorem dX11_isLess_30 : decode cX11_isLess 30 = .ok (.iload_n 3, 1) := by decide +kernel
theorem dX11_isLess_31 : decode cX11_isLess 31 = .ok (.iadd, 1) := by decide +kernel
theorem dX11_isLess_32 : decode cX11_isLess 32 = .ok (.aload_n 0, 1) := by decide +kernel
theorem dX11_isLess_33 : decode cX11_isLess 33 = .ok (.getfield 140, 3) := by decide +kernel
theorem dX11_isLess_36 : decode cX11_isLess 36 = .ok (.irem, 1) := by decide +kernel
theorem dX11_isLess_37 : decode cX11_isLess 37 = .ok (.iaload, 1) := by decide +kernel
theorem dX11_isLess_38 : decode cX11_isLess 38 = .ok (.istore 5, 2) := by decide +kernel
theorem dX11_isLess_40 : decode cX11_isLess 40 = .ok (.iload 4, 2) := by decide +kernel
theorem dX11_isLess_42 : decode cX11_isLess 42 = .ok (.iload 5, 2) := by decide +kernel
theorem dX11_isLess_44 : decode cX11_isLess 44 = .ok (.if_icmp .eq 16, 3) := by decide +kernel
theorem dX11_isLess_47 : decode cX11_isLess 47 = .ok (.iload 4, 2) := by decide +kernel
theorem dX11_isLess_49 : decode cX11_isLess 49 = .ok (.iload 5, 2) := by decide +kernel
theorem dX11_isLess_51 : decode cX11_isLess 51 = .ok (.if_icmp .ge 7, 3) := by decide +kernel
theorem dX11_isLess_54 : decode cX11_isLess 54 = .ok (.iconst 1, 1) := by decide +kernel
theorem dX11_isLess_55 : decode cX11_isLess 55 = .ok (.goto 4, 3) := by decide +kernel
theorem dX11_isLess_58 : decode cX11_isLess 58 = .ok (.iconst 0, 1) := by decide +kernel
theorem dX11_isLess_59 : decode cX11_isLess 59 = .ok (.ireturn, 1) := by decide +kernel
theorem dX11_isLess_60 : decode cX11_isLess 60 = .ok (.iinc 3 1, 3) := by decide +kernel
theorem dX11_isLess_63 : decode cX11_isLess 63 = .ok (.goto (-61), 3) := by decide +kernel
theorem dX11_isLess_66 : decode cX11_isLess 66 = .ok (.iconst 0, 1) := by decide +kernel
theorem dX11_isLess_67 : decode cX11_isLess 67 = .ok (.ireturn, 1) := by decide +kernel
theorem dX11_isLike_0 : decode cX11_isLike 0 = .ok (.iconst 1, 1) := by decide +kernel
theorem dX11_isLike_1 : decode cX11_isLike 1 = .ok (.istore_n 2, 1) := by decide +kernel
theorem dX11_isLike_2 : decode cX11_isLike 2 = .ok (.iconst 0, 1) := by decide +kernel
theorem dX11_isLike_3 : decode cX11_isLike 3 = .ok (.istore_n 3, 1) := by decide +kernel
theorem dX11_isLike_4 : decode cX11_isLike 4 = .ok (.iload_n 3, 1) := by decide +kernel
theorem dX11_isLike_5 : decode cX11_isLike 5 = .ok (.aload_n 0, 1) := by decide +kernel
theorem dX11_isLike_6 : decode cX11_isLike 6 = .ok (.getfield 140, 3) := by decide +kernel
theorem dX11_isLike_9 : decode cX11_isLike 9 = .ok (.if_icmp .ge 41, 3) := by decide +kernel
theorem dX11_isLike_12 : decode cX11_isLike 12 = .ok (.iload_n 2, 1) := by decide +kernel
theorem dX11_isLike_13 : decode cX11_isLike 13 = .ok (.ifCond .eq 37, 3) := by decide +kernel
theorem dX11_isLike_16 : decode cX11_isLike 16 = .ok (.aload_n 0, 1) := by decide +kernel
theorem dX11_isLike_17 : decode cX11_isLike 17 = .ok (.getfield 39, 3) := by decide +kernel
theorem dX11_isLike_20 : decode cX11_isLike 20 = .ok (.iload_n 1, 1) := by decide +kernel
theorem dX11_isLike_21 : decode cX11_isLike 21 = .ok (.iload_n 3, 1) := by decide +kernel
theorem dX11_isLike_22 : decode cX11_isLike 22 = .ok (.iadd, 1) := by decide +kernel
theorem dX11_isLike_23 : decode cX11_isLike 23 = .ok (.aload_n 0, 1) := by decide +kernel
theorem dX11_isLike_24 : decode cX11_isLike 24 = .ok (.getfield 140, 3) := by decide +kernel
theorem dX11_isLike_27 : decode cX11_isLike 27 = .ok (.irem, 1) := by decide +kernel
theorem dX11_isLike_28 : decode cX11_isLike 28 = .ok (.iaload, 1) := by decide +kernel
theorem dX11_isLike_29 : decode cX11_isLike 29 = .ok (.aload_n 0, 1) := by decide +kernel
theorem dX11_isLike_30 : decode cX11_isLike 30 = .ok (.getfield 39, 3) := by decide +kernel
theorem dX11_isLike_33 : decode cX11_isLike 33 = .ok (.iload_n 3, 1) := by decide +kernel
theorem dX11_isLike_34 : decode cX11_isLike 34 = .ok (.iaload, 1) := by decide +kernel
theorem dX11_isLike_35 : decode cX11_isLike 35 = .ok (.if_icmp .ne 7, 3) := by decide +kernel
theorem dX11_isLike_38 : decode cX11_isLike 38 = .ok (.iconst 1, 1) := by decide +kernel
theorem dX11_isLike_39 : decode cX11_isLike 39 = .ok (.goto 4, 3) := by decide +kernel
theorem dX11_isLike_42 : decode cX11_isLike 42 = .ok (.iconst 0, 1) := by decide +kernel
theorem dX11_isLike_43 : decode cX11_isLike 43 = .ok (.istore_n 2, 1) := by decide +kernel
theorem dX11_isLike_44 : decode cX11_isLike 44 = .ok (.iinc 3 1, 3) := by decide +kernel
theorem dX11_isLike_47 : decode cX11_isLike 47 = .ok (.goto (-43), 3) := by decide +kernel
theorem dX11_isLike_50 : decode cX11_isLike 50 = .ok (.iload_n 2, 1) := by decide +kernel
theorem dX11_isLike_51 : decode cX11_isLike 51 = .ok (.ireturn, 1) := by decide +kernel
theorem dX11_turns_0 : decode cX11_turns 0 = .ok (.lconst 0, 1) := by decide +kernel
theorem dX11_turns_1 : decode cX11_turns 1 = .ok (.lstore_n 1, 1) := by decide +kernel
theorem dX11_turns_2 : decode cX11_turns 2 = .ok (.iconst 0, 1) := by decide +kernel
theorem dX11_turns_3 : decode cX11_turns 3 = .ok (.istore_n 3, 1) := by decide +kernel
theorem dX11_turns_4 : decode cX11_turns 4 = .ok (.aload_n 0, 1) := by decide +kernel
theorem dX11_turns_5 : decode cX11_turns 5 = .ok (.getfield 36, 3) := by decide +kernel
theorem dX11_turns_8 : decode cX11_turns 8 = .ok (.iconst 0, 1) := by decide +kernel
theorem dX11_turns_9 : decode cX11_turns 9 = .ok (.iaload, 1) := by decide +kernel
theorem dX11_turns_10 : decode cX11_turns 10 = .ok (.aload_n 0, 1) := by decide +kernel
theorem dX11_turns_11 : decode cX11_turns 11 = .ok (.getfield 36, 3) := by decide +kernel
theorem dX11_turns_14 : decode cX11_turns 14 = .ok (.aload_n 0, 1) := by decide +kernel
theorem dX11_turns_15 : decode cX11_turns 15 = .ok (.getfield 140, 3) := by decide +kernel
theorem dX11_turns_18 : decode cX11_turns 18 = .ok (.iconst 1, 1) := by decide +kernel
theorem dX11_turns_19 : decode cX11_turns 19 = .ok (.isub, 1) := by decide +kernel
theorem dX11_turns_20 : decode cX11_turns 20 = .ok (.iaload, 1) := by decide +kernel
theorem dX11_turns_21 : decode cX11_turns 21 = .ok (.if_icmp .ne 33, 3) := by decide +kernel
theorem dX11_turns_24 : decode cX11_turns 24 = .ok (.aload_n 0, 1) := by decide +kernel
theorem dX11_turns_25 : decode cX11_turns 25 = .ok (.getfield 33, 3) := by decide +kernel
theorem dX11_turns_28 : decode cX11_turns 28 = .ok (.iconst 0, 1) := by decide +kernel
theorem dX11_turns_29 : decode cX11_turns 29 = .ok (.iaload, 1) := by decide +kernel
theorem dX11_turns_30 : decode cX11_turns 30 = .ok (.i2l, 1) := by decide +kernel
theorem dX11_turns_31 : decode cX11_turns 31 = .ok (.lstore_n 1, 1) := by decide +kernel
theorem dX11_turns_32 : decode cX11_turns 32 = .ok (.aload_n 0, 1) := by decide +kernel
theorem dX11_turns_33 : decode cX11_turns 33 = .ok (.getfield 33, 3) := by decide +kernel
theorem dX11_turns_36 : decode cX11_turns 36 = .ok (.aload_n 0, 1) := by decide +kernel
theorem dX11_turns_37 : decode cX11_turns 37 = .ok (.getfield 140, 3) := by decide +kernel
theorem dX11_turns_40 : decode cX11_turns 40 = .ok (.iconst 1, 1) := by decide +kernel
theorem dX11_turns_41 : decode cX11_turns 41 = .ok (.isub, 1) := by decide +kernel
theorem dX11_turns_42 : decode cX11_turns 42 = .ok (.dup2, 1) := by decide +kernel
theorem dX11_turns_43 : decode cX11_turns 43 = .ok (.iaload, 1) := by decide +kernel
theorem dX11_turns_44 : decode cX11_turns 44 = .ok (.aload_n 0, 1) := by decide +kernel
theorem dX11_turns_45 : decode cX11_turns 45 = .ok (.getfield 33, 3) := by decide +kernel
theorem dX11_turns_48 : decode cX11_turns 48 = .ok (.iconst 0, 1) := by decide +kernel
theorem dX11_turns_49 : decode cX11_turns 49 = .ok (.iaload, 1) := by decide +kernel
theorem dX11_turns_50 : decode cX11_turns 50 = .ok (.iadd, 1) := by decide +kernel
theorem dX11_turns_51 : decode cX11_turns 51 = .ok (.iastore, 1) := by decide +kernel
theorem dX11_turns_52 : decode cX11_turns 52 = .ok (.iconst 1, 1) := by decide +kernel
theorem dX11_turns_53 : decode cX11_turns 53 = .ok (.istore_n 3, 1) := by decide +kernel
theorem dX11_turns_54 : decode cX11_turns 54 = .ok (.aload_n 0, 1) := by decide +kernel
theorem dX11_turns_55 : decode cX11_turns 55 = .ok (.getfield 36, 3) := by decide +kernel
theorem dX11_turns_58 : decode cX11_turns 58 = .ok (.iload_n 3, 1) := by decide +kernel
theorem dX11_turns_59 : decode cX11_turns 59 = .ok (.iaload, 1) := by decide +kernel
theorem dX11_turns_60 : decode cX11_turns 60 = .ok (.iconst 1, 1) := by decide +kernel
theorem dX11_turns_61 : decode cX11_turns 61 = .ok (.if_icmp .ne 55, 3) := by decide +kernel
theorem dX11_turns_64 : decode cX11_turns 64 = .ok (.lload_n 1, 1) := by decide +kernel
theorem dX11_turns_65 : decode cX11_turns 65 = .ok (.aload_n 0, 1) := by decide +kernel
theorem dX11_turns_66 : decode cX11_turns 66 = .ok (.getfield 33, 3) := by decide +kernel
theorem dX11_turns_69 : decode cX11_turns 69 = .ok (.iload_n 3, 1) := by decide +kernel
theorem dX11_turns_70 : decode cX11_turns 70 = .ok (.iaload, 1) := by decide +kernel
theorem dX11_turns_71 : decode cX11_turns 71 = .ok (.i2l, 1) := by decide +kernel
theorem dX11_turns_72 : decode cX11_turns 72 = .ok (.ladd, 1) := by decide +kernel
theorem dX11_turns_73 : decode cX11_turns 73 = .ok (.lstore_n 1, 1) := by decide +kernel
theorem dX11_turns_74 : decode cX11_turns 74 = .ok (.aload_n 0, 1) := by decide +kernel
theorem dX11_turns_75 : decode cX11_turns 75 = .ok (.getfield 33, 3) := by decide +kernel
theorem dX11_turns_78 : decode cX11_turns 78 = .ok (.iload_n 3, 1) := by decide +kernel
theorem dX11_turns_79 : decode cX11_turns 79 = .ok (.iaload, 1) := by decide +kernel
theorem dX11_turns_80 : decode cX11_turns 80 = .ok (.istore 4, 2) := by decide +kernel
theorem dX11_turns_82 : decode cX11_turns 82 = .ok (.aload_n 0, 1) := by decide +kernel
theorem dX11_turns_83 : decode cX11_turns 83 = .ok (.getfield 33, 3) := by decide +kernel
theorem dX11_turns_86 : decode cX11_turns 86 = .ok (.aload_n 0, 1) := by decide +kernel
theorem dX11_turns_87 : decode cX11_turns 87 = .ok (.getfield 140, 3) := by decide +kernel
theorem dX11_turns_90 : decode cX11_turns 90 = .ok (.iload 4, 2) := by decide +kernel
theorem dX11_turns_92 : decode cX11_turns 92 = .ok (.iastore, 1) := by decide +kernel
theorem dX11_turns_93 : decode cX11_turns 93 = .ok (.aload_n 0, 1) := by decide +kernel
theorem dX11_turns_94 : decode cX11_turns 94 = .ok (.getfield 36, 3) := by decide +kernel
theorem dX11_turns_97 : decode cX11_turns 97 = .ok (.aload_n 0, 1) := by decide +kernel
theorem dX11_turns_98 : decode cX11_turns 98 = .ok (.getfield 140, 3) := by decide +kernel
theorem dX11_turns_101 : decode cX11_turns 101 = .ok (.iconst 1, 1) := by decide +kernel
theorem dX11_turns_102 : decode cX11_turns 102 = .ok (.iastore, 1) := by decide +kernel
theorem dX11_turns_103 : decode cX11_turns 103 = .ok (.aload_n 0, 1) := by decide +kernel
theorem dX11_turns_104 : decode cX11_turns 104 = .ok (.dup, 1) := by decide +kernel
theorem dX11_turns_105 : decode cX11_turns 105 = .ok (.getfield 140, 3) := by decide +kernel
theorem dX11_turns_108 : decode cX11_turns 108 = .ok (.iconst 1, 1) := by decide +kernel
theorem dX11_turns_109 : decode cX11_turns 109 = .ok (.iadd, 1) := by decide +kernel
theorem dX11_turns_110 : decode cX11_turns 110 = .ok (.putfield 140, 3) := by decide +kernel
theorem dX11_turns_113 : decode cX11_turns 113 = .ok (.iinc 3 1, 3) := by decide +kernel
theorem dX11_turns_116 : decode cX11_turns 116 = .ok (.aload_n 0, 1) := by decide +kernel
theorem dX11_turns_117 : decode cX11_turns 117 = .ok (.dup, 1) := by decide +kernel
theorem dX11_turns_118 : decode cX11_turns 118 = .ok (.getfield 140, 3) := by decide +kernel
theorem dX11_turns_121 : decode cX11_turns 121 = .ok (.iload_n 3, 1) := by decide +kernel
theorem dX11_turns_122 : decode cX11_turns 122 = .ok (.isub, 1) := by decide +kernel
theorem dX11_turns_123 : decode cX11_turns 123 = .ok (.putfield 140, 3) := by decide +kernel
theorem dX11_turns_126 : decode cX11_turns 126 = .ok (.aload_n 0, 1) := by decide +kernel
theorem dX11_turns_127 : decode cX11_turns 127 = .ok (.lconst 0, 1) := by decide +kernel
theorem dX11_turns_128 : decode cX11_turns 128 = .ok (.putfield 143, 3) := by decide +kernel
theorem dX11_turns_131 : decode cX11_turns 131 = .ok (.iconst 0, 1) := by decide +kernel
theorem dX11_turns_132 : decode cX11_turns 132 = .ok (.istore 4, 2) := by decide +kernel
theorem dX11_turns_134 : decode cX11_turns 134 = .ok (.iload 4, 2) := by decide +kernel
theorem dX11_turns_136 : decode cX11_turns 136 = .ok (.aload_n 0, 1) := by decide +kernel
theorem dX11_turns_137 : decode cX11_turns 137 = .ok (.getfield 140, 3) := by decide +kernel
theorem dX11_turns_140 : decode cX11_turns 140 = .ok (.if_icmp .ge 42, 3) := by decide +kernel
theorem dX11_turns_143 : decode cX11_turns 143 = .ok (.aload_n 0, 1) := by decide +kernel
theorem dX11_turns_144 : decode cX11_turns 144 = .ok (.getfield 39, 3) := by decide +kernel
theorem dX11_turns_147 : decode cX11_turns 147 = .ok (.iload 4, 2) := by decide +kernel
theorem dX11_turns_149 : decode cX11_turns 149 = .ok (.aload_n 0, 1) := by decide +kernel
theorem dX11_turns_150 : decode cX11_turns 150 = .ok (.getfield 33, 3) := by decide +kernel
theorem dX11_turns_153 : decode cX11_turns 153 = .ok (.iload_n 3, 1) := by decide +kernel
theorem dX11_turns_154 : decode cX11_turns 154 = .ok (.iload 4, 2) := by decide +kernel
theorem dX11_turns_156 : decode cX11_turns 156 = .ok (.iadd, 1) := by decide +kernel
theorem dX11_turns_157 : decode cX11_turns 157 = .ok (.iaload, 1) := by decide +kernel
theorem dX11_turns_158 : decode cX11_turns 158 = .ok (.iastore, 1) := by decide +kernel
theorem dX11_turns_159 : decode cX11_turns 159 = .ok (.aload_n 0, 1) := by decide +kernel
theorem dX11_turns_160 : decode cX11_turns 160 = .ok (.dup, 1) := by decide +kernel
theorem dX11_turns_161 : decode cX11_turns 161 = .ok (.getfield 143, 3) := by decide +kernel
theorem dX11_turns_164 : decode cX11_turns 164 = .ok (.aload_n 0, 1) := by decide +kernel
theorem dX11_turns_165 : decode cX11_turns 165 = .ok (.getfield 39, 3) := by decide +kernel
theorem dX11_turns_168 : decode cX11_turns 168 = .ok (.iload 4, 2) := by decide +kernel
theorem dX11_turns_170 : decode cX11_turns 170 = .ok (.iaload, 1) := by decide +kernel
theorem dX11_turns_171 : decode cX11_turns 171 = .ok (.i2l, 1) := by decide +kernel
theorem dX11_turns_172 : decode cX11_turns 172 = .ok (.ladd, 1) := by decide +kernel
theorem dX11_turns_173 : decode cX11_turns 173 = .ok (.putfield 143, 3) := by decide +kernel
theorem dX11_turns_176 : decode cX11_turns 176 = .ok (.iinc 4 1, 3) := by decide +kernel
theorem dX11_turns_179 : decode cX11_turns 179 = .ok (.goto (-45), 3) := by decide +kernel
theorem dX11_turns_182 : decode cX11_turns 182 = .ok (.iconst 0, 1) := by decide +kernel
theorem dX11_turns_183 : decode cX11_turns 183 = .ok (.istore 4, 2) := by decide +kernel
theorem dX11_turns_185 : decode cX11_turns 185 = .ok (.aload_n 0, 1) := by decide +kernel
theorem dX11_turns_186 : decode cX11_turns 186 = .ok (.iconst 0, 1) := by decide +kernel
theorem dX11_turns_187 : decode cX11_turns 187 = .ok (.putfield 146, 3) := by decide +kernel
theorem dX11_turns_190 : decode cX11_turns 190 = .ok (.iconst 0, 1) := by decide +kernel
theorem dX11_turns_191 : decode cX11_turns 191 = .ok (.istore 5, 2) := by decide +kernel
theorem dX11_turns_193 : decode cX11_turns 193 = .ok (.iload 5, 2) := by decide +kernel
theorem dX11_turns_195 : decode cX11_turns 195 = .ok (.aload_n 0, 1) := by decide +kernel
theorem dX11_turns_196 : decode cX11_turns 196 = .ok (.getfield 140, 3) := by decide +kernel
theorem dX11_turns_199 : decode cX11_turns 199 = .ok (.if_icmp .ge 52, 3) := by decide +kernel
theorem dX11_turns_202 : decode cX11_turns 202 = .ok (.aload_n 0, 1) := by decide +kernel
theorem dX11_turns_203 : decode cX11_turns 203 = .ok (.iload 5, 2) := by decide +kernel
theorem dX11_turns_205 : decode cX11_turns 205 = .ok (.iload 4, 2) := by decide +kernel
theorem dX11_turns_207 : decode cX11_turns 207 = .ok (.invokevirtual 149, 3) := by decide +kernel
theorem dX11_turns_210 : decode cX11_turns 210 = .ok (.ifCond .eq 8, 3) := by decide +kernel
theorem dX11_turns_213 : decode cX11_turns 213 = .ok (.iload 5, 2) := by decide +kernel
theorem dX11_turns_215 : decode cX11_turns 215 = .ok (.goto 5, 3) := by decide +kernel
theorem dX11_turns_218 : decode cX11_turns 218 = .ok (.iload 4, 2) := by decide +kernel
theorem dX11_turns_220 : decode cX11_turns 220 = .ok (.istore 4, 2) := by decide +kernel
theorem dX11_turns_222 : decode cX11_turns 222 = .ok (.aload_n 0, 1) := by decide +kernel
theorem dX11_turns_223 : decode cX11_turns 223 = .ok (.dup, 1) := by decide +kernel
theorem dX11_turns_224 : decode cX11_turns 224 = .ok (.getfield 146, 3) := by decide +kernel
theorem dX11_turns_227 : decode cX11_turns 227 = .ok (.aload_n 0, 1) := by decide +kernel
theorem dX11_turns_228 : decode cX11_turns 228 = .ok (.iload 5, 2) := by decide +kernel
theorem dX11_turns_230 : decode cX11_turns 230 = .ok (.invokevirtual 153, 3) := by decide +kernel
theorem dX11_turns_233 : decode cX11_turns 233 = .ok (.ifCond .eq 7, 3) := by decide +kernel
theorem dX11_turns_236 : decode cX11_turns 236 = .ok (.iconst 1, 1) := by decide +kernel
theorem dX11_turns_237 : decode cX11_turns 237 = .ok (.goto 4, 3) := by decide +kernel
theorem dX11_turns_240 : decode cX11_turns 240 = .ok (.iconst 0, 1) := by decide +kernel
theorem dX11_turns_241 : decode cX11_turns 241 = .ok (.iadd, 1) := by decide +kernel
theorem dX11_turns_242 : decode cX11_turns 242 = .ok (.putfield 146, 3) := by decide +kernel
theorem dX11_turns_245 : decode cX11_turns 245 = .ok (.iinc 5 2, 3) := by decide +kernel
theorem dX11_turns_248 : decode cX11_turns 248 = .ok (.goto (-55), 3) := by decide +kernel
theorem dX11_turns_251 : decode cX11_turns 251 = .ok (.lconst 0, 1) := by decide +kernel
theorem dX11_turns_252 : decode cX11_turns 252 = .ok (.lstore 5, 2) := by decide +kernel
theorem dX11_turns_254 : decode cX11_turns 254 = .ok (.iconst 0, 1) := by decide +kernel
theorem dX11_turns_255 : decode cX11_turns 255 = .ok (.istore 7, 2) := by decide +kernel
theorem dX11_turns_257 : decode cX11_turns 257 = .ok (.iload 7, 2) := by decide +kernel
theorem dX11_turns_259 : decode cX11_turns 259 = .ok (.iload 4, 2) := by decide +kernel
theorem dX11_turns_261 : decode cX11_turns 261 = .ok (.if_icmp .ge 22, 3) := by decide +kernel
theorem dX11_turns_264 : decode cX11_turns 264 = .ok (.lload 5, 2) := by decide +kernel
theorem dX11_turns_266 : decode cX11_turns 266 = .ok (.aload_n 0, 1) := by decide +kernel
theorem dX11_turns_267 : decode cX11_turns 267 = .ok (.getfield 39, 3) := by decide +kernel
theorem dX11_turns_270 : decode cX11_turns 270 = .ok (.iload 7, 2) := by decide +kernel
theorem dX11_turns_272 : decode cX11_turns 272 = .ok (.iaload, 1) := by decide +kernel
theorem dX11_turns_273 : decode cX11_turns 273 = .ok (.i2l, 1) := by decide +kernel
theorem dX11_turns_274 : decode cX11_turns 274 = .ok (.ladd, 1) := by decide +kernel
theorem dX11_turns_275 : decode cX11_turns 275 = .ok (.lstore 5, 2) := by decide +kernel
theorem dX11_turns_277 : decode cX11_turns 277 = .ok (.iinc 7 1, 3) := by decide +kernel
theorem dX11_turns_280 : decode cX11_turns 280 = .ok (.goto (-23), 3) := by decide +kernel
theorem dX11_turns_283 : decode cX11_turns 283 = .ok (.aload_n 0, 1) := by decide +kernel
theorem dX11_turns_284 : decode cX11_turns 284 = .ok (.getfield 143, 3) := by decide +kernel
theorem dX11_turns_287 : decode cX11_turns 287 = .ok (.aload_n 0, 1) := by decide +kernel
theorem dX11_turns_288 : decode cX11_turns 288 = .ok (.getfield 146, 3) := by decide +kernel
theorem dX11_turns_291 : decode cX11_turns 291 = .ok (.i2l, 1) := by decide +kernel
theorem dX11_turns_292 : decode cX11_turns 292 = .ok (.ldiv, 1) := by decide +kernel
theorem dX11_turns_293 : decode cX11_turns 293 = .ok (.lstore 7, 2) := by decide +kernel
theorem dX11_turns_295 : decode cX11_turns 295 = .ok (.aload_n 0, 1) := by decide +kernel
theorem dX11_turns_296 : decode cX11_turns 296 = .ok (.lconst 0, 1) := by decide +kernel
theorem dX11_turns_297 : decode cX11_turns 297 = .ok (.lload_n 1, 1) := by decide +kernel
theorem dX11_turns_298 : decode cX11_turns 298 = .ok (.lsub, 1) := by decide +kernel
theorem dX11_turns_299 : decode cX11_turns 299 = .ok (.lload 5, 2) := by decide +kernel
theorem dX11_turns_301 : decode cX11_turns 301 = .ok (.lsub, 1) := by decide +kernel
theorem dX11_turns_302 : decode cX11_turns 302 = .ok (.lload 7, 2) := by decide +kernel
theorem dX11_turns_304 : decode cX11_turns 304 = .ok (.lrem, 1) := by decide +kernel
theorem dX11_turns_305 : decode cX11_turns 305 = .ok (.lload 7, 2) := by decide +kernel
theorem dX11_turns_307 : decode cX11_turns 307 = .ok (.ladd, 1) := by decide +kernel
theorem dX11_turns_308 : decode cX11_turns 308 = .ok (.lload 7, 2) := by decide +kernel
theorem dX11_turns_310 : decode cX11_turns 310 = .ok (.lrem, 1) := by decide +kernel
theorem dX11_turns_311 : decode cX11_turns 311 = .ok (.putfield 157, 3) := by decide +kernel
theorem dX11_turns_314 : decode cX11_turns 314 = .ok (.iconst 0, 1) := by decide +kernel
theorem dX11_turns_315 : decode cX11_turns 315 = .ok (.istore 9, 2) := by decide +kernel
theorem dX11_turns_317 : decode cX11_turns 317 = .ok (.iload 9, 2) := by decide +kernel
theorem dX11_turns_319 : decode cX11_turns 319 = .ok (.aload_n 0, 1) := by decide +kernel
theorem dX11_turns_320 : decode cX11_turns 320 = .ok (.getfield 140, 3) := by decide +kernel
theorem dX11_turns_323 : decode cX11_turns 323 = .ok (.if_icmp .ge 31, 3) := by decide +kernel
theorem dX11_turns_326 : decode cX11_turns 326 = .ok (.aload_n 0, 1) := by decide +kernel
theorem dX11_turns_327 : decode cX11_turns 327 = .ok (.getfield 33, 3) := by decide +kernel
theorem dX11_turns_330 : decode cX11_turns 330 = .ok (.iload 9, 2) := by decide +kernel
theorem dX11_turns_332 : decode cX11_turns 332 = .ok (.aload_n 0, 1) := by decide +kernel
theorem dX11_turns_333 : decode cX11_turns 333 = .ok (.getfield 39, 3) := by decide +kernel
theorem dX11_turns_336 : decode cX11_turns 336 = .ok (.iload 4, 2) := by decide +kernel
theorem dX11_turns_338 : decode cX11_turns 338 = .ok (.iload 9, 2) := by decide +kernel
theorem dX11_turns_340 : decode cX11_turns 340 = .ok (.iadd, 1) := by decide +kernel
theorem dX11_turns_341 : decode cX11_turns 341 = .ok (.aload_n 0, 1) := by decide +kernel
theorem dX11_turns_342 : decode cX11_turns 342 = .ok (.getfield 140, 3) := by decide +kernel
theorem dX11_turns_345 : decode cX11_turns 345 = .ok (.irem, 1) := by decide +kernel
theorem dX11_turns_346 : decode cX11_turns 346 = .ok (.iaload, 1) := by decide +kernel
theorem dX11_turns_347 : decode cX11_turns 347 = .ok (.iastore, 1) := by decide +kernel
theorem dX11_turns_348 : decode cX11_turns 348 = .ok (.iinc 9 1, 3) := by decide +kernel
theorem dX11_turns_351 : decode cX11_turns 351 = .ok (.goto (-34), 3) := by decide +kernel
theorem dX11_turns_354 : decode cX11_turns 354 = .ok (.return_, 1) := by decide +kernel
theorem dX11_isOne_0 : decode cX11_isOne 0 = .ok (.aload_n 0, 1) := by decide +kernel
theorem dX11_isOne_1 : decode cX11_isOne 1 = .ok (.getfield 61, 3) := by decide +kernel
theorem dX11_isOne_4 : decode cX11_isOne 4 = .ok (.lconst 0, 1) := by decide +kernel
theorem dX11_isOne_5 : decode cX11_isOne 5 = .ok (.lcmp, 1) := by decide +kernel
theorem dX11_isOne_6 : decode cX11_isOne 6 = .ok (.ifCond .ne 16, 3) := by decide +kernel
theorem dX11_isOne_9 : decode cX11_isOne 9 = .ok (.aload_n 0, 1) := by decide +kernel
theorem dX11_isOne_10 : decode cX11_isOne 10 = .ok (.getfield 64, 3) := by decide +kernel
theorem dX11_isOne_13 : decode cX11_isOne 13 = .ok (.lconst 0, 1) := by decide +kernel
theorem dX11_isOne_14 : decode cX11_isOne 14 = .ok (.lcmp, 1) := by decide +kernel
theorem dX11_isOne_15 : decode cX11_isOne 15 = .ok (.ifCond .ne 7, 3) := by decide +kernel
theorem dX11_isOne_18 : decode cX11_isOne 18 = .ok (.iconst 1, 1) := by decide +kernel
theorem dX11_isOne_19 : decode cX11_isOne 19 = .ok (.goto 4, 3) := by decide +kernel
theorem dX11_isOne_22 : decode cX11_isOne 22 = .ok (.iconst 0, 1) := by decide +kernel
theorem dX11_isOne_23 : decode cX11_isOne 23 = .ok (.ireturn, 1) := by decide +kernel
theorem dX11_changes_0 : decode cX11_changes 0 = .ok (.aload_n 0, 1) := by decide +kernel
theorem dX11_changes_1 : decode cX11_changes 1 = .ok (.lconst 0, 1) := by decide +kernel
theorem dX11_changes_2 : decode cX11_changes 2 = .ok (.aload_n 0, 1) := by decide +kernel
theorem dX11_changes_3 : decode cX11_changes 3 = .ok (.getfield 57, 3) := by decide +kernel
theorem dX11_changes_6 : decode cX11_changes 6 = .ok (.lsub, 1) := by decide +kernel
theorem dX11_changes_7 : decode cX11_changes 7 = .ok (.lconst 0, 1) := by decide +kernel
theorem dX11_changes_8 : decode cX11_changes 8 = .ok (.aload_n 0, 1) := by decide +kernel
theorem dX11_changes_9 : decode cX11_changes 9 = .ok (.getfield 61, 3) := by decide +kernel
theorem dX11_changes_12 : decode cX11_changes 12 = .ok (.lsub, 1) := by decide +kernel
theorem dX11_changes_13 : decode cX11_changes 13 = .ok (.lconst 0, 1) := by decide +kernel
theorem dX11_changes_14 : decode cX11_changes 14 = .ok (.aload_n 0, 1) := by decide +kernel
theorem dX11_changes_15 : decode cX11_changes 15 = .ok (.getfield 64, 3) := by decide +kernel
theorem dX11_changes_18 : decode cX11_changes 18 = .ok (.lsub, 1) := by decide +kernel
theorem dX11_changes_19 : decode cX11_changes 19 = .ok (.lconst 0, 1) := by decide +kernel
theorem dX11_changes_20 : decode cX11_changes 20 = .ok (.aload_n 0, 1) := by decide +kernel
theorem dX11_changes_21 : decode cX11_changes 21 = .ok (.getfield 67, 3) := by decide +kernel
theorem dX11_changes_24 : decode cX11_changes 24 = .ok (.lsub, 1) := by decide +kernel
theorem dX11_changes_25 : decode cX11_changes 25 = .ok (.invokevirtual 70, 3) := by decide +kernel
theorem dX11_changes_28 : decode cX11_changes 28 = .ok (.return_, 1) := by decide +kernel
theorem dX11_knows_0 : decode cX11_knows 0 = .ok (.aload_n 0, 1) := by decide +kernel
theorem dX11_knows_1 : decode cX11_knows 1 = .ok (.aload_n 0, 1) := by decide +kernel
theorem dX11_knows_2 : decode cX11_knows 2 = .ok (.getfield 57, 3) := by decide +kernel
theorem dX11_knows_5 : decode cX11_knows 5 = .ok (.aload_n 0, 1) := by decide +kernel
theorem dX11_knows_6 : decode cX11_knows 6 = .ok (.getfield 67, 3) := by decide +kernel
theorem dX11_knows_9 : decode cX11_knows 9 = .ok (.ladd, 1) := by decide +kernel
theorem dX11_knows_10 : decode cX11_knows 10 = .ok (.putfield 126, 3) := by decide +kernel
theorem dX11_knows_13 : decode cX11_knows 13 = .ok (.aload_n 0, 1) := by decide +kernel
theorem dX11_knows_14 : decode cX11_knows 14 = .ok (.lconst 0, 1) := by decide +kernel
theorem dX11_knows_15 : decode cX11_knows 15 = .ok (.putfield 160, 3) := by decide +kernel
theorem dX11_knows_18 : decode cX11_knows 18 = .ok (.aload_n 0, 1) := by decide +kernel
theorem dX11_knows_19 : decode cX11_knows 19 = .ok (.iconst 0, 1) := by decide +kernel
theorem dX11_knows_20 : decode cX11_knows 20 = .ok (.putfield 140, 3) := by decide +kernel
theorem dX11_knows_23 : decode cX11_knows 23 = .ok (.aload_n 0, 1) := by decide +kernel
theorem dX11_knows_24 : decode cX11_knows 24 = .ok (.iconst 0, 1) := by decide +kernel
theorem dX11_knows_25 : decode cX11_knows 25 = .ok (.putfield 146, 3) := by decide +kernel
theorem dX11_knows_28 : decode cX11_knows 28 = .ok (.aload_n 0, 1) := by decide +kernel
theorem dX11_knows_29 : decode cX11_knows 29 = .ok (.lconst 0, 1) := by decide +kernel
theorem dX11_knows_30 : decode cX11_knows 30 = .ok (.putfield 143, 3) := by decide +kernel
theorem dX11_knows_33 : decode cX11_knows 33 = .ok (.aload_n 0, 1) := by decide +kernel
theorem dX11_knows_34 : decode cX11_knows 34 = .ok (.aload_n 0, 1) := by decide +kernel
theorem dX11_knows_35 : decode cX11_knows 35 = .ok (.invokevirtual 163, 3) := by decide +kernel
theorem dX11_knows_38 : decode cX11_knows 38 = .ok (.ifCond .eq 7, 3) := by decide +kernel
theorem dX11_knows_41 : decode cX11_knows 41 = .ok (.iconst 0, 1) := by decide +kernel
theorem dX11_knows_42 : decode cX11_knows 42 = .ok (.goto 42, 3) := by decide +kernel
theorem dX11_knows_45 : decode cX11_knows 45 = .ok (.aload_n 0, 1) := by decide +kernel
theorem dX11_knows_46 : decode cX11_knows 46 = .ok (.getfield 126, 3) := by decide +kernel
theorem dX11_knows_49 : decode cX11_knows 49 = .ok (.ldc2_w 81, 3) := by decide +kernel
theorem dX11_knows_52 : decode cX11_knows 52 = .ok (.lconst 1, 1) := by decide +kernel
theorem dX11_knows_53 : decode cX11_knows 53 = .ok (.invokestatic 53, 3) := by decide +kernel
theorem dX11_knows_56 : decode cX11_knows 56 = .ok (.ifCond .eq 7, 3) := by decide +kernel
theorem dX11_knows_59 : decode cX11_knows 59 = .ok (.iconst 1, 1) := by decide +kernel
theorem dX11_knows_60 : decode cX11_knows 60 = .ok (.goto 24, 3) := by decide +kernel
theorem dX11_knows_63 : decode cX11_knows 63 = .ok (.aload_n 0, 1) := by decide +kernel
theorem dX11_knows_64 : decode cX11_knows 64 = .ok (.getfield 126, 3) := by decide +kernel
theorem dX11_knows_67 : decode cX11_knows 67 = .ok (.ldc2_w 166, 3) := by decide +kernel
theorem dX11_knows_70 : decode cX11_knows 70 = .ok (.ldc2_w 134, 3) := by decide +kernel
theorem dX11_knows_73 : decode cX11_knows 73 = .ok (.invokestatic 53, 3) := by decide +kernel
theorem dX11_knows_76 : decode cX11_knows 76 = .ok (.ifCond .eq 7, 3) := by decide +kernel
theorem dX11_knows_79 : decode cX11_knows 79 = .ok (.iconst 2, 1) := by decide +kernel
theorem dX11_knows_80 : decode cX11_knows 80 = .ok (.goto 4, 3) := by decide +kernel
theorem dX11_knows_83 : decode cX11_knows 83 = .ok (.iconst 3, 1) := by decide +kernel
theorem dX11_knows_84 : decode cX11_knows 84 = .ok (.putfield 168, 3) := by decide +kernel
theorem dX11_knows_87 : decode cX11_knows 87 = .ok (.aload_n 0, 1) := by decide +kernel
theorem dX11_knows_88 : decode cX11_knows 88 = .ok (.aload_n 0, 1) := by decide +kernel
theorem dX11_knows_89 : decode cX11_knows 89 = .ok (.getfield 64, 3) := by decide +kernel
theorem dX11_knows_92 : decode cX11_knows 92 = .ok (.lconst 0, 1) := by decide +kernel
theorem dX11_knows_93 : decode cX11_knows 93 = .ok (.lcmp, 1) := by decide +kernel
theorem dX11_knows_94 : decode cX11_knows 94 = .ok (.ifCond .ge 7, 3) := by decide +kernel
theorem dX11_knows_97 : decode cX11_knows 97 = .ok (.iconst (-1), 1) := by decide +kernel
theorem dX11_knows_98 : decode cX11_knows 98 = .ok (.goto 4, 3) := by decide +kernel
theorem dX11_knows_101 : decode cX11_knows 101 = .ok (.iconst 1, 1) := by decide +kernel
theorem dX11_knows_102 : decode cX11_knows 102 = .ok (.putfield 171, 3) := by decide +kernel
theorem dX11_knows_105 : decode cX11_knows 105 = .ok (.aload_n 0, 1) := by decide +kernel
theorem dX11_knows_106 : decode cX11_knows 106 = .ok (.getfield 168, 3) := by decide +kernel
theorem dX11_knows_109 : decode cX11_knows 109 = .ok (.iconst 1, 1) := by decide +kernel
theorem dX11_knows_110 : decode cX11_knows 110 = .ok (.if_icmp .le 16, 3) := by decide +kernel
theorem dX11_knows_113 : decode cX11_knows 113 = .ok (.aload_n 0, 1) := by decide +kernel
theorem dX11_knows_114 : decode cX11_knows 114 = .ok (.getfield 126, 3) := by decide +kernel
theorem dX11_knows_117 : decode cX11_knows 117 = .ok (.lconst 0, 1) := by decide +kernel
theorem dX11_knows_118 : decode cX11_knows 118 = .ok (.lcmp, 1) := by decide +kernel
theorem dX11_knows_119 : decode cX11_knows 119 = .ok (.ifCond .ge 7, 3) := by decide +kernel
theorem dX11_knows_122 : decode cX11_knows 122 = .ok (.aload_n 0, 1) := by decide +kernel
theorem dX11_knows_123 : decode cX11_knows 123 = .ok (.invokevirtual 174, 3) := by decide +kernel
theorem dX11_knows_126 : decode cX11_knows 126 = .ok (.aload_n 0, 1) := by decide +kernel
theorem dX11_knows_127 : decode cX11_knows 127 = .ok (.getfield 168, 3) := by decide +kernel
theorem dX11_knows_130 : decode cX11_knows 130 = .ok (.iconst 2, 1) := by decide +kernel
theorem dX11_knows_131 : decode cX11_knows 131 = .ok (.if_icmp .ne 62, 3) := by decide +kernel
theorem dX11_knows_134 : decode cX11_knows 134 = .ok (.aload_n 0, 1) := by decide +kernel
theorem dX11_knows_135 : decode cX11_knows 135 = .ok (.getfield 57, 3) := by decide +kernel
theorem dX11_knows_138 : decode cX11_knows 138 = .ok (.lconst 1, 1) := by decide +kernel
theorem dX11_knows_139 : decode cX11_knows 139 = .ok (.lsub, 1) := by decide +kernel
theorem dX11_knows_140 : decode cX11_knows 140 = .ok (.aload_n 0, 1) := by decide +kernel
theorem dX11_knows_141 : decode cX11_knows 141 = .ok (.getfield 61, 3) := by decide +kernel
theorem dX11_knows_144 : decode cX11_knows 144 = .ok (.invokestatic 177, 3) := by decide +kernel
theorem dX11_knows_147 : decode cX11_knows 147 = .ok (.aload_n 0, 1) := by decide +kernel
theorem dX11_knows_148 : decode cX11_knows 148 = .ok (.getfield 64, 3) := by decide +kernel
theorem dX11_knows_151 : decode cX11_knows 151 = .ok (.invokestatic 177, 3) := by decide +kernel
theorem dX11_knows_154 : decode cX11_knows 154 = .ok (.lstore_n 1, 1) := by decide +kernel
theorem dX11_knows_155 : decode cX11_knows 155 = .ok (.aload_n 0, 1) := by decide +kernel
theorem dX11_knows_156 : decode cX11_knows 156 = .ok (.aload_n 0, 1) := by decide +kernel
theorem dX11_knows_157 : decode cX11_knows 157 = .ok (.getfield 61, 3) := by decide +kernel
theorem dX11_knows_160 : decode cX11_knows 160 = .ok (.lconst 0, 1) := by decide +kernel
theorem dX11_knows_161 : decode cX11_knows 161 = .ok (.lcmp, 1) := by decide +kernel
theorem dX11_knows_162 : decode cX11_knows 162 = .ok (.ifCond .gt 21, 3) := by decide +kernel
theorem dX11_knows_165 : decode cX11_knows 165 = .ok (.aload_n 0, 1) := by decide +kernel
theorem dX11_knows_166 : decode cX11_knows 166 = .ok (.getfield 61, 3) := by decide +kernel
theorem dX11_knows_169 : decode cX11_knows 169 = .ok (.lconst 0, 1) := by decide +kernel
theorem dX11_knows_170 : decode cX11_knows 170 = .ok (.lcmp, 1) := by decide +kernel
theorem dX11_knows_171 : decode cX11_knows 171 = .ok (.ifCond .ne 16, 3) := by decide +kernel
theorem dX11_knows_174 : decode cX11_knows 174 = .ok (.aload_n 0, 1) := by decide +kernel
theorem dX11_knows_175 : decode cX11_knows 175 = .ok (.getfield 64, 3) := by decide +kernel
theorem dX11_knows_178 : decode cX11_knows 178 = .ok (.lconst 0, 1) := by decide +kernel
theorem dX11_knows_179 : decode cX11_knows 179 = .ok (.lcmp, 1) := by decide +kernel
theorem dX11_knows_180 : decode cX11_knows 180 = .ok (.ifCond .ge 7, 3) := by decide +kernel
theorem dX11_knows_183 : decode cX11_knows 183 = .ok (.lload_n 1, 1) := by decide +kernel
theorem dX11_knows_184 : decode cX11_knows 184 = .ok (.goto 6, 3) := by decide +kernel
theorem dX11_knows_187 : decode cX11_knows 187 = .ok (.lconst 0, 1) := by decide +kernel
theorem dX11_knows_188 : decode cX11_knows 188 = .ok (.lload_n 1, 1) := by decide +kernel
theorem dX11_knows_189 : decode cX11_knows 189 = .ok (.lsub, 1) := by decide +kernel
theorem dX11_knows_190 : decode cX11_knows 190 = .ok (.putfield 160, 3) := by decide +kernel
theorem dX11_knows_193 : decode cX11_knows 193 = .ok (.aload_n 0, 1) := by decide +kernel
theorem dX11_knows_194 : decode cX11_knows 194 = .ok (.getfield 168, 3) := by decide +kernel
theorem dX11_knows_197 : decode cX11_knows 197 = .ok (.iconst 3, 1) := by decide +kernel
theorem dX11_knows_198 : decode cX11_knows 198 = .ok (.if_icmp .ne 36, 3) := by decide +kernel
theorem dX11_knows_201 : decode cX11_knows 201 = .ok (.aload_n 0, 1) := by decide +kernel
theorem dX11_knows_202 : decode cX11_knows 202 = .ok (.getfield 126, 3) := by decide +kernel
theorem dX11_knows_205 : decode cX11_knows 205 = .ok (.lstore_n 1, 1) := by decide +kernel
theorem dX11_knows_206 : decode cX11_knows 206 = .ok (.aload_n 0, 1) := by decide +kernel
theorem dX11_knows_207 : decode cX11_knows 207 = .ok (.aload_n 0, 1) := by decide +kernel
theorem dX11_knows_208 : decode cX11_knows 208 = .ok (.getfield 126, 3) := by decide +kernel
theorem dX11_knows_211 : decode cX11_knows 211 = .ok (.invokestatic 116, 3) := by decide +kernel
theorem dX11_knows_214 : decode cX11_knows 214 = .ok (.putfield 126, 3) := by decide +kernel
theorem dX11_knows_217 : decode cX11_knows 217 = .ok (.aload_n 0, 1) := by decide +kernel
theorem dX11_knows_218 : decode cX11_knows 218 = .ok (.invokevirtual 180, 3) := by decide +kernel
theorem dX11_knows_221 : decode cX11_knows 221 = .ok (.aload_n 0, 1) := by decide +kernel
theorem dX11_knows_222 : decode cX11_knows 222 = .ok (.invokevirtual 183, 3) := by decide +kernel
theorem dX11_knows_225 : decode cX11_knows 225 = .ok (.aload_n 0, 1) := by decide +kernel
theorem dX11_knows_226 : decode cX11_knows 226 = .ok (.invokevirtual 186, 3) := by decide +kernel
theorem dX11_knows_229 : decode cX11_knows 229 = .ok (.aload_n 0, 1) := by decide +kernel
theorem dX11_knows_230 : decode cX11_knows 230 = .ok (.lload_n 1, 1) := by decide +kernel
theorem dX11_knows_231 : decode cX11_knows 231 = .ok (.putfield 126, 3) := by decide +kernel
theorem dX11_knows_234 : decode cX11_knows 234 = .ok (.return_, 1) := by decide +kernel
theorem dX11_putsAside_0 : decode cX11_putsAside 0 = .ok (.aload_n 0, 1) := by decide +kernel
theorem dX11_putsAside_1 : decode cX11_putsAside 1 = .ok (.aload_n 0, 1) := by decide +kernel
theorem dX11_putsAside_2 : decode cX11_putsAside 2 = .ok (.getfield 168, 3) := by decide +kernel
theorem dX11_putsAside_5 : decode cX11_putsAside 5 = .ok (.putfield 189, 3) := by decide +kernel
theorem dX11_putsAside_8 : decode cX11_putsAside 8 = .ok (.aload_n 0, 1) := by decide +kernel
theorem dX11_putsAside_9 : decode cX11_putsAside 9 = .ok (.aload_n 0, 1) := by decide +kernel
theorem dX11_putsAside_10 : decode cX11_putsAside 10 = .ok (.getfield 126, 3) := by decide +kernel
theorem dX11_putsAside_13 : decode cX11_putsAside 13 = .ok (.putfield 192, 3) := by decide +kernel
theorem dX11_putsAside_16 : decode cX11_putsAside 16 = .ok (.aload_n 0, 1) := by decide +kernel
theorem dX11_putsAside_17 : decode cX11_putsAside 17 = .ok (.aload_n 0, 1) := by decide +kernel
theorem dX11_putsAside_18 : decode cX11_putsAside 18 = .ok (.getfield 160, 3) := by decide +kernel
theorem dX11_putsAside_21 : decode cX11_putsAside 21 = .ok (.putfield 195, 3) := by decide +kernel
theorem dX11_putsAside_24 : decode cX11_putsAside 24 = .ok (.aload_n 0, 1) := by decide +kernel
theorem dX11_putsAside_25 : decode cX11_putsAside 25 = .ok (.aload_n 0, 1) := by decide +kernel
theorem dX11_putsAside_26 : decode cX11_putsAside 26 = .ok (.getfield 171, 3) := by decide +kernel
theorem dX11_putsAside_29 : decode cX11_putsAside 29 = .ok (.putfield 198, 3) := by decide +kernel
theorem dX11_putsAside_32 : decode cX11_putsAside 32 = .ok (.aload_n 0, 1) := by decide +kernel
theorem dX11_putsAside_33 : decode cX11_putsAside 33 = .ok (.aload_n 0, 1) := by decide +kernel
theorem dX11_putsAside_34 : decode cX11_putsAside 34 = .ok (.getfield 140, 3) := by decide +kernel
theorem dX11_putsAside_37 : decode cX11_putsAside 37 = .ok (.putfield 201, 3) := by decide +kernel
theorem dX11_putsAside_40 : decode cX11_putsAside 40 = .ok (.aload_n 0, 1) := by decide +kernel
theorem dX11_putsAside_41 : decode cX11_putsAside 41 = .ok (.aload_n 0, 1) := by decide +kernel
theorem dX11_putsAside_42 : decode cX11_putsAside 42 = .ok (.getfield 157, 3) := by decide +kernel
theorem dX11_putsAside_45 : decode cX11_putsAside 45 = .ok (.putfield 204, 3) := by decide +kernel
theorem dX11_putsAside_48 : decode cX11_putsAside 48 = .ok (.iconst 0, 1) := by decide +kernel
theorem dX11_putsAside_49 : decode cX11_putsAside 49 = .ok (.istore_n 1, 1) := by decide +kernel
theorem dX11_putsAside_50 : decode cX11_putsAside 50 = .ok (.iload_n 1, 1) := by decide +kernel
theorem dX11_putsAside_51 : decode cX11_putsAside 51 = .ok (.aload_n 0, 1) := by decide +kernel
theorem dX11_putsAside_52 : decode cX11_putsAside 52 = .ok (.getfield 140, 3) := by decide +kernel
theorem dX11_putsAside_55 : decode cX11_putsAside 55 = .ok (.if_icmp .ge 21, 3) := by decide +kernel
theorem dX11_putsAside_58 : decode cX11_putsAside 58 = .ok (.aload_n 0, 1) := by decide +kernel
theorem dX11_putsAside_59 : decode cX11_putsAside 59 = .ok (.getfield 42, 3) := by decide +kernel
theorem dX11_putsAside_62 : decode cX11_putsAside 62 = .ok (.iload_n 1, 1) := by decide +kernel
theorem dX11_putsAside_63 : decode cX11_putsAside 63 = .ok (.aload_n 0, 1) := by decide +kernel
theorem dX11_putsAside_64 : decode cX11_putsAside 64 = .ok (.getfield 33, 3) := by decide +kernel
theorem dX11_putsAside_67 : decode cX11_putsAside 67 = .ok (.iload_n 1, 1) := by decide +kernel
theorem dX11_putsAside_68 : decode cX11_putsAside 68 = .ok (.iaload, 1) := by decide +kernel
theorem dX11_putsAside_69 : decode cX11_putsAside 69 = .ok (.iastore, 1) := by decide +kernel
theorem dX11_putsAside_70 : decode cX11_putsAside 70 = .ok (.iinc 1 1, 3) := by decide +kernel
theorem dX11_putsAside_73 : decode cX11_putsAside 73 = .ok (.goto (-23), 3) := by decide +kernel
theorem dX11_putsAside_76 : decode cX11_putsAside 76 = .ok (.return_, 1) := by decide +kernel
theorem dX11_isAlike_0 : decode cX11_isAlike 0 = .ok (.aload_n 0, 1) := by decide +kernel
theorem dX11_isAlike_1 : decode cX11_isAlike 1 = .ok (.getfield 168, 3) := by decide +kernel
theorem dX11_isAlike_4 : decode cX11_isAlike 4 = .ok (.aload_n 0, 1) := by decide +kernel
theorem dX11_isAlike_5 : decode cX11_isAlike 5 = .ok (.getfield 189, 3) := by decide +kernel
theorem dX11_isAlike_8 : decode cX11_isAlike 8 = .ok (.if_icmp .ne 61, 3) := by decide +kernel
theorem dX11_isAlike_11 : decode cX11_isAlike 11 = .ok (.aload_n 0, 1) := by decide +kernel
theorem dX11_isAlike_12 : decode cX11_isAlike 12 = .ok (.getfield 126, 3) := by decide +kernel
theorem dX11_isAlike_15 : decode cX11_isAlike 15 = .ok (.aload_n 0, 1) := by decide +kernel
theorem dX11_isAlike_16 : decode cX11_isAlike 16 = .ok (.getfield 192, 3) := by decide +kernel
theorem dX11_isAlike_19 : decode cX11_isAlike 19 = .ok (.lcmp, 1) := by decide +kernel
theorem dX11_isAlike_20 : decode cX11_isAlike 20 = .ok (.ifCond .ne 49, 3) := by decide +kernel
theorem dX11_isAlike_23 : decode cX11_isAlike 23 = .ok (.aload_n 0, 1) := by decide +kernel
theorem dX11_isAlike_24 : decode cX11_isAlike 24 = .ok (.getfield 168, 3) := by decide +kernel
theorem dX11_isAlike_27 : decode cX11_isAlike 27 = .ok (.iconst 1, 1) := by decide +kernel
theorem dX11_isAlike_28 : decode cX11_isAlike 28 = .ok (.if_icmp .ne 14, 3) := by decide +kernel
theorem dX11_isAlike_31 : decode cX11_isAlike 31 = .ok (.aload_n 0, 1) := by decide +kernel
theorem dX11_isAlike_32 : decode cX11_isAlike 32 = .ok (.getfield 171, 3) := by decide +kernel
theorem dX11_isAlike_35 : decode cX11_isAlike 35 = .ok (.aload_n 0, 1) := by decide +kernel
theorem dX11_isAlike_36 : decode cX11_isAlike 36 = .ok (.getfield 198, 3) := by decide +kernel
theorem dX11_isAlike_39 : decode cX11_isAlike 39 = .ok (.if_icmp .ne 30, 3) := by decide +kernel
theorem dX11_isAlike_42 : decode cX11_isAlike 42 = .ok (.aload_n 0, 1) := by decide +kernel
theorem dX11_isAlike_43 : decode cX11_isAlike 43 = .ok (.getfield 160, 3) := by decide +kernel
theorem dX11_isAlike_46 : decode cX11_isAlike 46 = .ok (.aload_n 0, 1) := by decide +kernel
theorem dX11_isAlike_47 : decode cX11_isAlike 47 = .ok (.getfield 195, 3) := by decide +kernel
theorem dX11_isAlike_50 : decode cX11_isAlike 50 = .ok (.lcmp, 1) := by decide +kernel
theorem dX11_isAlike_51 : decode cX11_isAlike 51 = .ok (.ifCond .ne 18, 3) := by decide +kernel
theorem dX11_isAlike_54 : decode cX11_isAlike 54 = .ok (.aload_n 0, 1) := by decide +kernel
theorem dX11_isAlike_55 : decode cX11_isAlike 55 = .ok (.getfield 140, 3) := by decide +kernel
theorem dX11_isAlike_58 : decode cX11_isAlike 58 = .ok (.aload_n 0, 1) := by decide +kernel
theorem dX11_isAlike_59 : decode cX11_isAlike 59 = .ok (.getfield 201, 3) := by decide +kernel
theorem dX11_isAlike_62 : decode cX11_isAlike 62 = .ok (.if_icmp .ne 7, 3) := by decide +kernel
theorem dX11_isAlike_65 : decode cX11_isAlike 65 = .ok (.iconst 1, 1) := by decide +kernel
theorem dX11_isAlike_66 : decode cX11_isAlike 66 = .ok (.goto 4, 3) := by decide +kernel
theorem dX11_isAlike_69 : decode cX11_isAlike 69 = .ok (.iconst 0, 1) := by decide +kernel
theorem dX11_isAlike_70 : decode cX11_isAlike 70 = .ok (.istore_n 1, 1) := by decide +kernel
theorem dX11_isAlike_71 : decode cX11_isAlike 71 = .ok (.iconst 0, 1) := by decide +kernel
theorem dX11_isAlike_72 : decode cX11_isAlike 72 = .ok (.istore_n 2, 1) := by decide +kernel
theorem dX11_isAlike_73 : decode cX11_isAlike 73 = .ok (.iload_n 2, 1) := by decide +kernel
theorem dX11_isAlike_74 : decode cX11_isAlike 74 = .ok (.aload_n 0, 1) := by decide +kernel
theorem dX11_isAlike_75 : decode cX11_isAlike 75 = .ok (.getfield 140, 3) := by decide +kernel
theorem dX11_isAlike_78 : decode cX11_isAlike 78 = .ok (.if_icmp .ge 34, 3) := by decide +kernel
theorem dX11_isAlike_81 : decode cX11_isAlike 81 = .ok (.iload_n 1, 1) := by decide +kernel
theorem dX11_isAlike_82 : decode cX11_isAlike 82 = .ok (.ifCond .eq 30, 3) := by decide +kernel
theorem dX11_isAlike_85 : decode cX11_isAlike 85 = .ok (.aload_n 0, 1) := by decide +kernel
theorem dX11_isAlike_86 : decode cX11_isAlike 86 = .ok (.getfield 33, 3) := by decide +kernel
theorem dX11_isAlike_89 : decode cX11_isAlike 89 = .ok (.iload_n 2, 1) := by decide +kernel
theorem dX11_isAlike_90 : decode cX11_isAlike 90 = .ok (.iaload, 1) := by decide +kernel
theorem dX11_isAlike_91 : decode cX11_isAlike 91 = .ok (.aload_n 0, 1) := by decide +kernel
theorem dX11_isAlike_92 : decode cX11_isAlike 92 = .ok (.getfield 42, 3) := by decide +kernel
theorem dX11_isAlike_95 : decode cX11_isAlike 95 = .ok (.iload_n 2, 1) := by decide +kernel
theorem dX11_isAlike_96 : decode cX11_isAlike 96 = .ok (.iaload, 1) := by decide +kernel
theorem dX11_isAlike_97 : decode cX11_isAlike 97 = .ok (.if_icmp .ne 7, 3) := by decide +kernel
theorem dX11_isAlike_100 : decode cX11_isAlike 100 = .ok (.iconst 1, 1) := by decide +kernel
theorem dX11_isAlike_101 : decode cX11_isAlike 101 = .ok (.goto 4, 3) := by decide +kernel
theorem dX11_isAlike_104 : decode cX11_isAlike 104 = .ok (.iconst 0, 1) := by decide +kernel
theorem dX11_isAlike_105 : decode cX11_isAlike 105 = .ok (.istore_n 1, 1) := by decide +kernel
theorem dX11_isAlike_106 : decode cX11_isAlike 106 = .ok (.iinc 2 1, 3) := by decide +kernel
theorem dX11_isAlike_109 : decode cX11_isAlike 109 = .ok (.goto (-36), 3) := by decide +kernel
theorem dX11_isAlike_112 : decode cX11_isAlike 112 = .ok (.iload_n 1, 1) := by decide +kernel
theorem dX11_isAlike_113 : decode cX11_isAlike 113 = .ok (.ireturn, 1) := by decide +kernel
theorem dX11_asides_0 : decode cX11_asides 0 = .ok (.aload_n 0, 1) := by decide +kernel
theorem dX11_asides_1 : decode cX11_asides 1 = .ok (.iload_n 1, 1) := by decide +kernel
theorem dX11_asides_2 : decode cX11_asides 2 = .ok (.invokevirtual 207, 3) := by decide +kernel
theorem dX11_asides_5 : decode cX11_asides 5 = .ok (.aload_n 0, 1) := by decide +kernel
theorem dX11_asides_6 : decode cX11_asides 6 = .ok (.invokevirtual 210, 3) := by decide +kernel
theorem dX11_asides_9 : decode cX11_asides 9 = .ok (.aload_n 0, 1) := by decide +kernel
theorem dX11_asides_10 : decode cX11_asides 10 = .ok (.invokevirtual 213, 3) := by decide +kernel
theorem dX11_asides_13 : decode cX11_asides 13 = .ok (.return_, 1) := by decide +kernel
theorem dX11_areAlike_0 : decode cX11_areAlike 0 = .ok (.aload_n 0, 1) := by decide +kernel
theorem dX11_areAlike_1 : decode cX11_areAlike 1 = .ok (.iload_n 1, 1) := by decide +kernel
theorem dX11_areAlike_2 : decode cX11_areAlike 2 = .ok (.invokevirtual 216, 3) := by decide +kernel
theorem dX11_areAlike_5 : decode cX11_areAlike 5 = .ok (.aload_n 0, 1) := by decide +kernel
theorem dX11_areAlike_6 : decode cX11_areAlike 6 = .ok (.iload_n 2, 1) := by decide +kernel
theorem dX11_areAlike_7 : decode cX11_areAlike 7 = .ok (.invokevirtual 207, 3) := by decide +kernel
theorem dX11_areAlike_10 : decode cX11_areAlike 10 = .ok (.aload_n 0, 1) := by decide +kernel
theorem dX11_areAlike_11 : decode cX11_areAlike 11 = .ok (.invokevirtual 210, 3) := by decide +kernel
theorem dX11_areAlike_14 : decode cX11_areAlike 14 = .ok (.aload_n 0, 1) := by decide +kernel
theorem dX11_areAlike_15 : decode cX11_areAlike 15 = .ok (.invokevirtual 219, 3) := by decide +kernel
theorem dX11_areAlike_18 : decode cX11_areAlike 18 = .ok (.ireturn, 1) := by decide +kernel
theorem dX11_isTwin_0 : decode cX11_isTwin 0 = .ok (.aload_n 0, 1) := by decide +kernel
theorem dX11_isTwin_1 : decode cX11_isTwin 1 = .ok (.iload_n 1, 1) := by decide +kernel
theorem dX11_isTwin_2 : decode cX11_isTwin 2 = .ok (.invokevirtual 216, 3) := by decide +kernel
theorem dX11_isTwin_5 : decode cX11_isTwin 5 = .ok (.aload_n 0, 1) := by decide +kernel
theorem dX11_isTwin_6 : decode cX11_isTwin 6 = .ok (.iload_n 1, 1) := by decide +kernel
theorem dX11_isTwin_7 : decode cX11_isTwin 7 = .ok (.invokevirtual 207, 3) := by decide +kernel
theorem dX11_isTwin_10 : decode cX11_isTwin 10 = .ok (.aload_n 0, 1) := by decide +kernel
theorem dX11_isTwin_11 : decode cX11_isTwin 11 = .ok (.aload_n 0, 1) := by decide +kernel
theorem dX11_isTwin_12 : decode cX11_isTwin 12 = .ok (.getfield 67, 3) := by decide +kernel
theorem dX11_isTwin_15 : decode cX11_isTwin 15 = .ok (.lconst 0, 1) := by decide +kernel
theorem dX11_isTwin_16 : decode cX11_isTwin 16 = .ok (.aload_n 0, 1) := by decide +kernel
theorem dX11_isTwin_17 : decode cX11_isTwin 17 = .ok (.getfield 61, 3) := by decide +kernel
theorem dX11_isTwin_20 : decode cX11_isTwin 20 = .ok (.lsub, 1) := by decide +kernel
theorem dX11_isTwin_21 : decode cX11_isTwin 21 = .ok (.lconst 0, 1) := by decide +kernel
theorem dX11_isTwin_22 : decode cX11_isTwin 22 = .ok (.aload_n 0, 1) := by decide +kernel
theorem dX11_isTwin_23 : decode cX11_isTwin 23 = .ok (.getfield 64, 3) := by decide +kernel
theorem dX11_isTwin_26 : decode cX11_isTwin 26 = .ok (.lsub, 1) := by decide +kernel
theorem dX11_isTwin_27 : decode cX11_isTwin 27 = .ok (.aload_n 0, 1) := by decide +kernel
theorem dX11_isTwin_28 : decode cX11_isTwin 28 = .ok (.getfield 57, 3) := by decide +kernel
theorem dX11_isTwin_31 : decode cX11_isTwin 31 = .ok (.invokevirtual 70, 3) := by decide +kernel
theorem dX11_isTwin_34 : decode cX11_isTwin 34 = .ok (.aload_n 0, 1) := by decide +kernel
theorem dX11_isTwin_35 : decode cX11_isTwin 35 = .ok (.invokevirtual 210, 3) := by decide +kernel
theorem dX11_isTwin_38 : decode cX11_isTwin 38 = .ok (.aload_n 0, 1) := by decide +kernel
theorem dX11_isTwin_39 : decode cX11_isTwin 39 = .ok (.invokevirtual 219, 3) := by decide +kernel
theorem dX11_isTwin_42 : decode cX11_isTwin 42 = .ok (.ireturn, 1) := by decide +kernel
theorem dX11_isMirrored_0 : decode cX11_isMirrored 0 = .ok (.aload_n 0, 1) := by decide +kernel
theorem dX11_isMirrored_1 : decode cX11_isMirrored 1 = .ok (.iload_n 1, 1) := by decide +kernel
theorem dX11_isMirrored_2 : decode cX11_isMirrored 2 = .ok (.invokevirtual 216, 3) := by decide +kernel
theorem dX11_isMirrored_5 : decode cX11_isMirrored 5 = .ok (.aload_n 0, 1) := by decide +kernel
theorem dX11_isMirrored_6 : decode cX11_isMirrored 6 = .ok (.iload_n 1, 1) := by decide +kernel
theorem dX11_isMirrored_7 : decode cX11_isMirrored 7 = .ok (.invokevirtual 207, 3) := by decide +kernel
theorem dX11_isMirrored_10 : decode cX11_isMirrored 10 = .ok (.aload_n 0, 1) := by decide +kernel
theorem dX11_isMirrored_11 : decode cX11_isMirrored 11 = .ok (.aload_n 0, 1) := by decide +kernel
theorem dX11_isMirrored_12 : decode cX11_isMirrored 12 = .ok (.getfield 57, 3) := by decide +kernel
theorem dX11_isMirrored_15 : decode cX11_isMirrored 15 = .ok (.lconst 0, 1) := by decide +kernel
theorem dX11_isMirrored_16 : decode cX11_isMirrored 16 = .ok (.aload_n 0, 1) := by decide +kernel
theorem dX11_isMirrored_17 : decode cX11_isMirrored 17 = .ok (.getfield 61, 3) := by decide +kernel
theorem dX11_isMirrored_20 : decode cX11_isMirrored 20 = .ok (.lsub, 1) := by decide +kernel
theorem dX11_isMirrored_21 : decode cX11_isMirrored 21 = .ok (.lconst 0, 1) := by decide +kernel
theorem dX11_isMirrored_22 : decode cX11_isMirrored 22 = .ok (.aload_n 0, 1) := by decide +kernel
theorem dX11_isMirrored_23 : decode cX11_isMirrored 23 = .ok (.getfield 64, 3) := by decide +kernel
theorem dX11_isMirrored_26 : decode cX11_isMirrored 26 = .ok (.lsub, 1) := by decide +kernel
theorem dX11_isMirrored_27 : decode cX11_isMirrored 27 = .ok (.aload_n 0, 1) := by decide +kernel
theorem dX11_isMirrored_28 : decode cX11_isMirrored 28 = .ok (.getfield 67, 3) := by decide +kernel
theorem dX11_isMirrored_31 : decode cX11_isMirrored 31 = .ok (.invokevirtual 70, 3) := by decide +kernel
theorem dX11_isMirrored_34 : decode cX11_isMirrored 34 = .ok (.aload_n 0, 1) := by decide +kernel
theorem dX11_isMirrored_35 : decode cX11_isMirrored 35 = .ok (.invokevirtual 210, 3) := by decide +kernel
theorem dX11_isMirrored_38 : decode cX11_isMirrored 38 = .ok (.aload_n 0, 1) := by decide +kernel
theorem dX11_isMirrored_39 : decode cX11_isMirrored 39 = .ok (.invokevirtual 219, 3) := by decide +kernel
theorem dX11_isMirrored_42 : decode cX11_isMirrored 42 = .ok (.ireturn, 1) := by decide +kernel
theorem dX11_family_0 : decode cX11_family 0 = .ok (.aload_n 0, 1) := by decide +kernel
theorem dX11_family_1 : decode cX11_family 1 = .ok (.iload_n 1, 1) := by decide +kernel
theorem dX11_family_2 : decode cX11_family 2 = .ok (.invokevirtual 216, 3) := by decide +kernel
theorem dX11_family_5 : decode cX11_family 5 = .ok (.iconst 0, 1) := by decide +kernel
theorem dX11_family_6 : decode cX11_family 6 = .ok (.istore_n 2, 1) := by decide +kernel
theorem dX11_family_7 : decode cX11_family 7 = .ok (.iconst 0, 1) := by decide +kernel
theorem dX11_family_8 : decode cX11_family 8 = .ok (.istore_n 3, 1) := by decide +kernel
theorem dX11_family_9 : decode cX11_family 9 = .ok (.iload_n 3, 1) := by decide +kernel
theorem dX11_family_10 : decode cX11_family 10 = .ok (.aload_n 0, 1) := by decide +kernel
theorem dX11_family_11 : decode cX11_family 11 = .ok (.getfield 7, 3) := by decide +kernel
theorem dX11_family_14 : decode cX11_family 14 = .ok (.iconst 0, 1) := by decide +kernel
theorem dX11_family_15 : decode cX11_family 15 = .ok (.iaload, 1) := by decide +kernel
theorem dX11_family_16 : decode cX11_family 16 = .ok (.if_icmp .ge 35, 3) := by decide +kernel
theorem dX11_family_19 : decode cX11_family 19 = .ok (.aload_n 0, 1) := by decide +kernel
theorem dX11_family_20 : decode cX11_family 20 = .ok (.iload_n 3, 1) := by decide +kernel
theorem dX11_family_21 : decode cX11_family 21 = .ok (.invokevirtual 207, 3) := by decide +kernel
theorem dX11_family_24 : decode cX11_family 24 = .ok (.aload_n 0, 1) := by decide +kernel
theorem dX11_family_25 : decode cX11_family 25 = .ok (.invokevirtual 210, 3) := by decide +kernel
theorem dX11_family_28 : decode cX11_family 28 = .ok (.iload_n 2, 1) := by decide +kernel
theorem dX11_family_29 : decode cX11_family 29 = .ok (.aload_n 0, 1) := by decide +kernel
theorem dX11_family_30 : decode cX11_family 30 = .ok (.invokevirtual 219, 3) := by decide +kernel
theorem dX11_family_33 : decode cX11_family 33 = .ok (.ifCond .eq 9, 3) := by decide +kernel
theorem dX11_family_36 : decode cX11_family 36 = .ok (.iconst 1, 1) := by decide +kernel
theorem dX11_family_37 : decode cX11_family 37 = .ok (.iload_n 3, 1) := by decide +kernel
theorem dX11_family_38 : decode cX11_family 38 = .ok (.ishl, 1) := by decide +kernel
theorem dX11_family_39 : decode cX11_family 39 = .ok (.goto 4, 3) := by decide +kernel
theorem dX11_family_42 : decode cX11_family 42 = .ok (.iconst 0, 1) := by decide +kernel
theorem dX11_family_43 : decode cX11_family 43 = .ok (.ior, 1) := by decide +kernel
theorem dX11_family_44 : decode cX11_family 44 = .ok (.istore_n 2, 1) := by decide +kernel
theorem dX11_family_45 : decode cX11_family 45 = .ok (.iinc 3 1, 3) := by decide +kernel
theorem dX11_family_48 : decode cX11_family 48 = .ok (.goto (-39), 3) := by decide +kernel
theorem dX11_family_51 : decode cX11_family 51 = .ok (.iload_n 2, 1) := by decide +kernel
theorem dX11_family_52 : decode cX11_family 52 = .ok (.ireturn, 1) := by decide +kernel
theorem dX11_families_0 : decode cX11_families 0 = .ok (.iconst 0, 1) := by decide +kernel
theorem dX11_families_1 : decode cX11_families 1 = .ok (.istore_n 2, 1) := by decide +kernel
theorem dX11_families_2 : decode cX11_families 2 = .ok (.iconst 0, 1) := by decide +kernel
theorem dX11_families_3 : decode cX11_families 3 = .ok (.istore_n 3, 1) := by decide +kernel
theorem dX11_families_4 : decode cX11_families 4 = .ok (.iconst 0, 1) := by decide +kernel
theorem dX11_families_5 : decode cX11_families 5 = .ok (.istore 4, 2) := by decide +kernel
theorem dX11_families_7 : decode cX11_families 7 = .ok (.iload 4, 2) := by decide +kernel
theorem dX11_families_9 : decode cX11_families 9 = .ok (.aload_n 0, 1) := by decide +kernel
theorem dX11_families_10 : decode cX11_families 10 = .ok (.getfield 7, 3) := by decide +kernel
theorem dX11_families_13 : decode cX11_families 13 = .ok (.iconst 0, 1) := by decide +kernel
theorem dX11_families_14 : decode cX11_families 14 = .ok (.iaload, 1) := by decide +kernel
theorem dX11_families_15 : decode cX11_families 15 = .ok (.if_icmp .ge 56, 3) := by decide +kernel
theorem dX11_families_18 : decode cX11_families 18 = .ok (.aload_n 0, 1) := by decide +kernel
theorem dX11_families_19 : decode cX11_families 19 = .ok (.iload 4, 2) := by decide +kernel
theorem dX11_families_21 : decode cX11_families 21 = .ok (.invokevirtual 222, 3) := by decide +kernel
theorem dX11_families_24 : decode cX11_families 24 = .ok (.istore 5, 2) := by decide +kernel
theorem dX11_families_26 : decode cX11_families 26 = .ok (.iload_n 2, 1) := by decide +kernel
theorem dX11_families_27 : decode cX11_families 27 = .ok (.iload 5, 2) := by decide +kernel
theorem dX11_families_29 : decode cX11_families 29 = .ok (.iconst 1, 1) := by decide +kernel
theorem dX11_families_30 : decode cX11_families 30 = .ok (.iload 4, 2) := by decide +kernel
theorem dX11_families_32 : decode cX11_families 32 = .ok (.ishl, 1) := by decide +kernel
theorem dX11_families_33 : decode cX11_families 33 = .ok (.iconst 1, 1) := by decide +kernel
theorem dX11_families_34 : decode cX11_families 34 = .ok (.isub, 1) := by decide +kernel
theorem dX11_families_35 : decode cX11_families 35 = .ok (.iand, 1) := by decide +kernel
theorem dX11_families_36 : decode cX11_families 36 = .ok (.ifCond .ne 7, 3) := by decide +kernel
theorem dX11_families_39 : decode cX11_families 39 = .ok (.iconst 1, 1) := by decide +kernel
theorem dX11_families_40 : decode cX11_families 40 = .ok (.goto 4, 3) := by decide +kernel
theorem dX11_families_43 : decode cX11_families 43 = .ok (.iconst 0, 1) := by decide +kernel
theorem dX11_families_44 : decode cX11_families 44 = .ok (.iadd, 1) := by decide +kernel
theorem dX11_families_45 : decode cX11_families 45 = .ok (.istore_n 2, 1) := by decide +kernel
theorem dX11_families_46 : decode cX11_families 46 = .ok (.iload 5, 2) := by decide +kernel
theorem dX11_families_48 : decode cX11_families 48 = .ok (.invokestatic 225, 3) := by decide +kernel
theorem dX11_families_51 : decode cX11_families 51 = .ok (.iload_n 3, 1) := by decide +kernel
theorem dX11_families_52 : decode cX11_families 52 = .ok (.invokestatic 225, 3) := by decide +kernel
theorem dX11_families_55 : decode cX11_families 55 = .ok (.if_icmp .le 8, 3) := by decide +kernel
theorem dX11_families_58 : decode cX11_families 58 = .ok (.iload 5, 2) := by decide +kernel
theorem dX11_families_60 : decode cX11_families 60 = .ok (.goto 4, 3) := by decide +kernel
theorem dX11_families_63 : decode cX11_families 63 = .ok (.iload_n 3, 1) := by decide +kernel
theorem dX11_families_64 : decode cX11_families 64 = .ok (.istore_n 3, 1) := by decide +kernel
theorem dX11_families_65 : decode cX11_families 65 = .ok (.iinc 4 1, 3) := by decide +kernel
theorem dX11_families_68 : decode cX11_families 68 = .ok (.goto (-61), 3) := by decide +kernel
theorem dX11_families_71 : decode cX11_families 71 = .ok (.iload_n 1, 1) := by decide +kernel
theorem dX11_families_72 : decode cX11_families 72 = .ok (.iconst 2, 1) := by decide +kernel
theorem dX11_families_73 : decode cX11_families 73 = .ok (.if_icmp .ne 7, 3) := by decide +kernel
theorem dX11_families_76 : decode cX11_families 76 = .ok (.iload_n 2, 1) := by decide +kernel
theorem dX11_families_77 : decode cX11_families 77 = .ok (.goto 4, 3) := by decide +kernel
theorem dX11_families_80 : decode cX11_families 80 = .ok (.iload_n 3, 1) := by decide +kernel
theorem dX11_families_81 : decode cX11_families 81 = .ok (.ireturn, 1) := by decide +kernel
theorem dX11_twins_0 : decode cX11_twins 0 = .ok (.iconst 0, 1) := by decide +kernel
theorem dX11_twins_1 : decode cX11_twins 1 = .ok (.istore_n 1, 1) := by decide +kernel
theorem dX11_twins_2 : decode cX11_twins 2 = .ok (.iconst 0, 1) := by decide +kernel
theorem dX11_twins_3 : decode cX11_twins 3 = .ok (.istore_n 2, 1) := by decide +kernel
theorem dX11_twins_4 : decode cX11_twins 4 = .ok (.iload_n 2, 1) := by decide +kernel
theorem dX11_twins_5 : decode cX11_twins 5 = .ok (.aload_n 0, 1) := by decide +kernel
theorem dX11_twins_6 : decode cX11_twins 6 = .ok (.getfield 7, 3) := by decide +kernel
theorem dX11_twins_9 : decode cX11_twins 9 = .ok (.iconst 0, 1) := by decide +kernel
theorem dX11_twins_10 : decode cX11_twins 10 = .ok (.iaload, 1) := by decide +kernel
theorem dX11_twins_11 : decode cX11_twins 11 = .ok (.if_icmp .ge 25, 3) := by decide +kernel
theorem dX11_twins_14 : decode cX11_twins 14 = .ok (.iload_n 1, 1) := by decide +kernel
theorem dX11_twins_15 : decode cX11_twins 15 = .ok (.aload_n 0, 1) := by decide +kernel
theorem dX11_twins_16 : decode cX11_twins 16 = .ok (.iload_n 2, 1) := by decide +kernel
theorem dX11_twins_17 : decode cX11_twins 17 = .ok (.invokevirtual 228, 3) := by decide +kernel
theorem dX11_twins_20 : decode cX11_twins 20 = .ok (.ifCond .eq 7, 3) := by decide +kernel
theorem dX11_twins_23 : decode cX11_twins 23 = .ok (.iconst 1, 1) := by decide +kernel
theorem dX11_twins_24 : decode cX11_twins 24 = .ok (.goto 4, 3) := by decide +kernel
theorem dX11_twins_27 : decode cX11_twins 27 = .ok (.iconst 0, 1) := by decide +kernel
theorem dX11_twins_28 : decode cX11_twins 28 = .ok (.iadd, 1) := by decide +kernel
theorem dX11_twins_29 : decode cX11_twins 29 = .ok (.istore_n 1, 1) := by decide +kernel
theorem dX11_twins_30 : decode cX11_twins 30 = .ok (.iinc 2 1, 3) := by decide +kernel
theorem dX11_twins_33 : decode cX11_twins 33 = .ok (.goto (-29), 3) := by decide +kernel
theorem dX11_twins_36 : decode cX11_twins 36 = .ok (.iload_n 1, 1) := by decide +kernel
theorem dX11_twins_37 : decode cX11_twins 37 = .ok (.ireturn, 1) := by decide +kernel
theorem dX11_wrong_0 : decode cX11_wrong 0 = .ok (.iconst 0, 1) := by decide +kernel
theorem dX11_wrong_1 : decode cX11_wrong 1 = .ok (.istore_n 1, 1) := by decide +kernel
theorem dX11_wrong_2 : decode cX11_wrong 2 = .ok (.iload_n 1, 1) := by decide +kernel
theorem dX11_wrong_3 : decode cX11_wrong 3 = .ok (.aload_n 0, 1) := by decide +kernel
theorem dX11_wrong_4 : decode cX11_wrong 4 = .ok (.getfield 231, 3) := by decide +kernel
theorem dX11_wrong_7 : decode cX11_wrong 7 = .ok (.if_icmp .ge 75, 3) := by decide +kernel
theorem dX11_wrong_10 : decode cX11_wrong 10 = .ok (.aload_n 0, 1) := by decide +kernel
theorem dX11_wrong_11 : decode cX11_wrong 11 = .ok (.getfield 30, 3) := by decide +kernel
theorem dX11_wrong_14 : decode cX11_wrong 14 = .ok (.iconst 3, 1) := by decide +kernel
theorem dX11_wrong_15 : decode cX11_wrong 15 = .ok (.iload_n 1, 1) := by decide +kernel
theorem dX11_wrong_16 : decode cX11_wrong 16 = .ok (.imul, 1) := by decide +kernel
theorem dX11_wrong_17 : decode cX11_wrong 17 = .ok (.iaload, 1) := by decide +kernel
theorem dX11_wrong_18 : decode cX11_wrong 18 = .ok (.istore_n 2, 1) := by decide +kernel
theorem dX11_wrong_19 : decode cX11_wrong 19 = .ok (.aload_n 0, 1) := by decide +kernel
theorem dX11_wrong_20 : decode cX11_wrong 20 = .ok (.getfield 30, 3) := by decide +kernel
theorem dX11_wrong_23 : decode cX11_wrong 23 = .ok (.iconst 3, 1) := by decide +kernel
theorem dX11_wrong_24 : decode cX11_wrong 24 = .ok (.iload_n 1, 1) := by decide +kernel
theorem dX11_wrong_25 : decode cX11_wrong 25 = .ok (.imul, 1) := by decide +kernel
theorem dX11_wrong_26 : decode cX11_wrong 26 = .ok (.iconst 1, 1) := by decide +kernel
theorem dX11_wrong_27 : decode cX11_wrong 27 = .ok (.iadd, 1) := by decide +kernel
theorem dX11_wrong_28 : decode cX11_wrong 28 = .ok (.iaload, 1) := by decide +kernel
