theorem dX10_firstWrong_85 : decode cX10_firstWrong 85 = .ok (.iload_n 1, 1) := by decide +kernel
theorem dX10_firstWrong_86 : decode cX10_firstWrong 86 = .ok (.ireturn, 1) := by decide +kernel
theorem dX10_firstWrong_87 : decode cX10_firstWrong 87 = .ok (.iinc 1 1, 3) := by decide +kernel
theorem dX10_firstWrong_90 : decode cX10_firstWrong 90 = .ok (.goto (-88), 3) := by decide +kernel
theorem dX10_firstWrong_93 : decode cX10_firstWrong 93 = .ok (.iconst (-1), 1) := by decide +kernel
theorem dX10_firstWrong_94 : decode cX10_firstWrong 94 = .ok (.ireturn, 1) := by decide +kernel
theorem dX10_number_0 : decode cX10_number 0 = .ok (.aload_n 0, 1) := by decide +kernel
theorem dX10_number_1 : decode cX10_number 1 = .ok (.getfield 10, 3) := by decide +kernel
theorem dX10_number_4 : decode cX10_number 4 = .ok (.iload_n 1, 1) := by decide +kernel
theorem dX10_number_5 : decode cX10_number 5 = .ok (.invokevirtual 135, 3) := by decide +kernel
theorem dX10_number_8 : decode cX10_number 8 = .ok (.ifCond .ne 6, 3) := by decide +kernel
theorem dX10_number_11 : decode cX10_number 11 = .ok (.ldc 146, 2) := by decide +kernel
theorem dX10_number_13 : decode cX10_number 13 = .ok (.ireturn, 1) := by decide +kernel
theorem dX10_number_14 : decode cX10_number 14 = .ok (.iload_n 2, 1) := by decide +kernel
theorem dX10_number_15 : decode cX10_number 15 = .ok (.ifCond .lt 8, 3) := by decide +kernel
theorem dX10_number_18 : decode cX10_number 18 = .ok (.iload_n 2, 1) := by decide +kernel
theorem dX10_number_19 : decode cX10_number 19 = .ok (.iconst 4, 1) := by decide +kernel
theorem dX10_number_20 : decode cX10_number 20 = .ok (.if_icmp .lt 6, 3) := by decide +kernel
theorem dX10_number_23 : decode cX10_number 23 = .ok (.ldc 68, 2) := by decide +kernel
theorem dX10_number_25 : decode cX10_number 25 = .ok (.ireturn, 1) := by decide +kernel
theorem dX10_number_26 : decode cX10_number 26 = .ok (.aload_n 0, 1) := by decide +kernel
theorem dX10_number_27 : decode cX10_number 27 = .ok (.getfield 10, 3) := by decide +kernel
theorem dX10_number_30 : decode cX10_number 30 = .ok (.iload_n 1, 1) := by decide +kernel
theorem dX10_number_31 : decode cX10_number 31 = .ok (.iload_n 2, 1) := by decide +kernel
theorem dX10_number_32 : decode cX10_number 32 = .ok (.invokevirtual 147, 3) := by decide +kernel
theorem dX10_number_35 : decode cX10_number 35 = .ok (.ldc 151, 2) := by decide +kernel
theorem dX10_number_37 : decode cX10_number 37 = .ok (.iadd, 1) := by decide +kernel
theorem dX10_number_38 : decode cX10_number 38 = .ok (.ireturn, 1) := by decide +kernel
theorem dX10_square_0 : decode cX10_square 0 = .ok (.aload_n 0, 1) := by decide +kernel
theorem dX10_square_1 : decode cX10_square 1 = .ok (.getfield 10, 3) := by decide +kernel
theorem dX10_square_4 : decode cX10_square 4 = .ok (.iload_n 1, 1) := by decide +kernel
theorem dX10_square_5 : decode cX10_square 5 = .ok (.invokevirtual 135, 3) := by decide +kernel
theorem dX10_square_8 : decode cX10_square 8 = .ok (.ifCond .ne 6, 3) := by decide +kernel
theorem dX10_square_11 : decode cX10_square 11 = .ok (.ldc 146, 2) := by decide +kernel
theorem dX10_square_13 : decode cX10_square 13 = .ok (.ireturn, 1) := by decide +kernel
theorem dX10_square_14 : decode cX10_square 14 = .ok (.aload_n 0, 1) := by decide +kernel
theorem dX10_square_15 : decode cX10_square 15 = .ok (.getfield 40, 3) := by decide +kernel
theorem dX10_square_18 : decode cX10_square 18 = .ok (.aload_n 0, 1) := by decide +kernel
theorem dX10_square_19 : decode cX10_square 19 = .ok (.getfield 10, 3) := by decide +kernel
theorem dX10_square_22 : decode cX10_square 22 = .ok (.invokevirtual 110, 3) := by decide +kernel
theorem dX10_square_25 : decode cX10_square 25 = .ok (.aload_n 0, 1) := by decide +kernel
theorem dX10_square_26 : decode cX10_square 26 = .ok (.getfield 40, 3) := by decide +kernel
theorem dX10_square_29 : decode cX10_square 29 = .ok (.iload_n 1, 1) := by decide +kernel
theorem dX10_square_30 : decode cX10_square 30 = .ok (.invokevirtual 152, 3) := by decide +kernel
theorem dX10_square_33 : decode cX10_square 33 = .ok (.astore_n 3, 1) := by decide +kernel
theorem dX10_square_34 : decode cX10_square 34 = .ok (.iload_n 2, 1) := by decide +kernel
theorem dX10_square_35 : decode cX10_square 35 = .ok (.tableswitch 169 0 10 #[57, 62, 70, 77, 82, 102, 110, 118, 135, 144, 161], 57) := by decide +kernel
theorem dX10_square_92 : decode cX10_square 92 = .ok (.aload_n 3, 1) := by decide +kernel
theorem dX10_square_93 : decode cX10_square 93 = .ok (.invokevirtual 156, 3) := by decide +kernel
theorem dX10_square_96 : decode cX10_square 96 = .ok (.ireturn, 1) := by decide +kernel
theorem dX10_square_97 : decode cX10_square 97 = .ok (.aload_n 3, 1) := by decide +kernel
theorem dX10_square_98 : decode cX10_square 98 = .ok (.invokevirtual 161, 3) := by decide +kernel
theorem dX10_square_101 : decode cX10_square 101 = .ok (.ldc 164, 2) := by decide +kernel
theorem dX10_square_103 : decode cX10_square 103 = .ok (.iadd, 1) := by decide +kernel
theorem dX10_square_104 : decode cX10_square 104 = .ok (.ireturn, 1) := by decide +kernel
theorem dX10_square_105 : decode cX10_square 105 = .ok (.aload_n 3, 1) := by decide +kernel
theorem dX10_square_106 : decode cX10_square 106 = .ok (.invokevirtual 165, 3) := by decide +kernel
theorem dX10_square_109 : decode cX10_square 109 = .ok (.iconst 1, 1) := by decide +kernel
theorem dX10_square_110 : decode cX10_square 110 = .ok (.iadd, 1) := by decide +kernel
theorem dX10_square_111 : decode cX10_square 111 = .ok (.ireturn, 1) := by decide +kernel
theorem dX10_square_112 : decode cX10_square 112 = .ok (.aload_n 3, 1) := by decide +kernel
theorem dX10_square_113 : decode cX10_square 113 = .ok (.invokevirtual 168, 3) := by decide +kernel
theorem dX10_square_116 : decode cX10_square 116 = .ok (.ireturn, 1) := by decide +kernel
theorem dX10_square_117 : decode cX10_square 117 = .ok (.aload_n 3, 1) := by decide +kernel
theorem dX10_square_118 : decode cX10_square 118 = .ok (.invokevirtual 156, 3) := by decide +kernel
theorem dX10_square_121 : decode cX10_square 121 = .ok (.iconst 2, 1) := by decide +kernel
theorem dX10_square_122 : decode cX10_square 122 = .ok (.if_icmp .ne 13, 3) := by decide +kernel
theorem dX10_square_125 : decode cX10_square 125 = .ok (.aload_n 3, 1) := by decide +kernel
theorem dX10_square_126 : decode cX10_square 126 = .ok (.invokevirtual 171, 3) := by decide +kernel
theorem dX10_square_129 : decode cX10_square 129 = .ok (.ldc 174, 2) := by decide +kernel
theorem dX10_square_131 : decode cX10_square 131 = .ok (.iadd, 1) := by decide +kernel
theorem dX10_square_132 : decode cX10_square 132 = .ok (.goto 4, 3) := by decide +kernel
theorem dX10_square_135 : decode cX10_square 135 = .ok (.iconst 0, 1) := by decide +kernel
theorem dX10_square_136 : decode cX10_square 136 = .ok (.ireturn, 1) := by decide +kernel
theorem dX10_square_137 : decode cX10_square 137 = .ok (.aload_n 3, 1) := by decide +kernel
theorem dX10_square_138 : decode cX10_square 138 = .ok (.invokevirtual 175, 3) := by decide +kernel
theorem dX10_square_141 : decode cX10_square 141 = .ok (.invokevirtual 179, 3) := by decide +kernel
theorem dX10_square_144 : decode cX10_square 144 = .ok (.ireturn, 1) := by decide +kernel
theorem dX10_square_145 : decode cX10_square 145 = .ok (.aload_n 3, 1) := by decide +kernel
theorem dX10_square_146 : decode cX10_square 146 = .ok (.invokevirtual 175, 3) := by decide +kernel
theorem dX10_square_149 : decode cX10_square 149 = .ok (.invokevirtual 184, 3) := by decide +kernel
theorem dX10_square_152 : decode cX10_square 152 = .ok (.ireturn, 1) := by decide +kernel
theorem dX10_square_153 : decode cX10_square 153 = .ok (.aload_n 0, 1) := by decide +kernel
theorem dX10_square_154 : decode cX10_square 154 = .ok (.getfield 40, 3) := by decide +kernel
theorem dX10_square_157 : decode cX10_square 157 = .ok (.iload_n 1, 1) := by decide +kernel
theorem dX10_square_158 : decode cX10_square 158 = .ok (.invokevirtual 187, 3) := by decide +kernel
theorem dX10_square_161 : decode cX10_square 161 = .ok (.ifCond .eq 7, 3) := by decide +kernel
theorem dX10_square_164 : decode cX10_square 164 = .ok (.iconst 1, 1) := by decide +kernel
theorem dX10_square_165 : decode cX10_square 165 = .ok (.goto 4, 3) := by decide +kernel
theorem dX10_square_168 : decode cX10_square 168 = .ok (.iconst 0, 1) := by decide +kernel
theorem dX10_square_169 : decode cX10_square 169 = .ok (.ireturn, 1) := by decide +kernel
theorem dX10_square_170 : decode cX10_square 170 = .ok (.aload_n 0, 1) := by decide +kernel
theorem dX10_square_171 : decode cX10_square 171 = .ok (.getfield 40, 3) := by decide +kernel
theorem dX10_square_174 : decode cX10_square 174 = .ok (.iload_n 1, 1) := by decide +kernel
theorem dX10_square_175 : decode cX10_square 175 = .ok (.invokevirtual 190, 3) := by decide +kernel
theorem dX10_square_178 : decode cX10_square 178 = .ok (.ireturn, 1) := by decide +kernel
theorem dX10_square_179 : decode cX10_square 179 = .ok (.aload_n 0, 1) := by decide +kernel
theorem dX10_square_180 : decode cX10_square 180 = .ok (.getfield 40, 3) := by decide +kernel
theorem dX10_square_183 : decode cX10_square 183 = .ok (.iload_n 1, 1) := by decide +kernel
theorem dX10_square_184 : decode cX10_square 184 = .ok (.invokevirtual 193, 3) := by decide +kernel
theorem dX10_square_187 : decode cX10_square 187 = .ok (.ifCond .eq 7, 3) := by decide +kernel
theorem dX10_square_190 : decode cX10_square 190 = .ok (.iconst 1, 1) := by decide +kernel
theorem dX10_square_191 : decode cX10_square 191 = .ok (.goto 4, 3) := by decide +kernel
theorem dX10_square_194 : decode cX10_square 194 = .ok (.iconst 0, 1) := by decide +kernel
theorem dX10_square_195 : decode cX10_square 195 = .ok (.ireturn, 1) := by decide +kernel
theorem dX10_square_196 : decode cX10_square 196 = .ok (.aload_n 3, 1) := by decide +kernel
theorem dX10_square_197 : decode cX10_square 197 = .ok (.invokevirtual 175, 3) := by decide +kernel
theorem dX10_square_200 : decode cX10_square 200 = .ok (.invokevirtual 196, 3) := by decide +kernel
theorem dX10_square_203 : decode cX10_square 203 = .ok (.ireturn, 1) := by decide +kernel
theorem dX10_square_204 : decode cX10_square 204 = .ok (.ldc 68, 2) := by decide +kernel
theorem dX10_square_206 : decode cX10_square 206 = .ok (.ireturn, 1) := by decide +kernel
theorem dX10_run_0 : decode cX10_run 0 = .ok (.aload_n 0, 1) := by decide +kernel
theorem dX10_run_1 : decode cX10_run 1 = .ok (.getfield 10, 3) := by decide +kernel
theorem dX10_run_4 : decode cX10_run 4 = .ok (.iload_n 1, 1) := by decide +kernel
theorem dX10_run_5 : decode cX10_run 5 = .ok (.invokevirtual 135, 3) := by decide +kernel
theorem dX10_run_8 : decode cX10_run 8 = .ok (.ifCond .ne 6, 3) := by decide +kernel
theorem dX10_run_11 : decode cX10_run 11 = .ok (.ldc 146, 2) := by decide +kernel
theorem dX10_run_13 : decode cX10_run 13 = .ok (.ireturn, 1) := by decide +kernel
theorem dX10_run_14 : decode cX10_run 14 = .ok (.aload_n 0, 1) := by decide +kernel
theorem dX10_run_15 : decode cX10_run 15 = .ok (.getfield 40, 3) := by decide +kernel
theorem dX10_run_18 : decode cX10_run 18 = .ok (.aload_n 0, 1) := by decide +kernel
theorem dX10_run_19 : decode cX10_run 19 = .ok (.getfield 10, 3) := by decide +kernel
theorem dX10_run_22 : decode cX10_run 22 = .ok (.invokevirtual 110, 3) := by decide +kernel
theorem dX10_run_25 : decode cX10_run 25 = .ok (.aload_n 0, 1) := by decide +kernel
theorem dX10_run_26 : decode cX10_run 26 = .ok (.getfield 40, 3) := by decide +kernel
theorem dX10_run_29 : decode cX10_run 29 = .ok (.iload_n 1, 1) := by decide +kernel
theorem dX10_run_30 : decode cX10_run 30 = .ok (.invokevirtual 152, 3) := by decide +kernel
theorem dX10_run_33 : decode cX10_run 33 = .ok (.invokevirtual 175, 3) := by decide +kernel
theorem dX10_run_36 : decode cX10_run 36 = .ok (.iload_n 2, 1) := by decide +kernel
theorem dX10_run_37 : decode cX10_run 37 = .ok (.invokevirtual 199, 3) := by decide +kernel
theorem dX10_run_40 : decode cX10_run 40 = .ok (.ireturn, 1) := by decide +kernel
theorem dX10_multiply_0 : decode cX10_multiply 0 = .ok (.aload_n 0, 1) := by decide +kernel
theorem dX10_multiply_1 : decode cX10_multiply 1 = .ok (.getfield 10, 3) := by decide +kernel
theorem dX10_multiply_4 : decode cX10_multiply 4 = .ok (.iload_n 1, 1) := by decide +kernel
theorem dX10_multiply_5 : decode cX10_multiply 5 = .ok (.invokevirtual 135, 3) := by decide +kernel
theorem dX10_multiply_8 : decode cX10_multiply 8 = .ok (.ifCond .eq 14, 3) := by decide +kernel
theorem dX10_multiply_11 : decode cX10_multiply 11 = .ok (.aload_n 0, 1) := by decide +kernel
theorem dX10_multiply_12 : decode cX10_multiply 12 = .ok (.getfield 10, 3) := by decide +kernel
theorem dX10_multiply_15 : decode cX10_multiply 15 = .ok (.iload_n 2, 1) := by decide +kernel
theorem dX10_multiply_16 : decode cX10_multiply 16 = .ok (.invokevirtual 135, 3) := by decide +kernel
theorem dX10_multiply_19 : decode cX10_multiply 19 = .ok (.ifCond .ne 6, 3) := by decide +kernel
theorem dX10_multiply_22 : decode cX10_multiply 22 = .ok (.ldc 146, 2) := by decide +kernel
theorem dX10_multiply_24 : decode cX10_multiply 24 = .ok (.ireturn, 1) := by decide +kernel
theorem dX10_multiply_25 : decode cX10_multiply 25 = .ok (.aload_n 0, 1) := by decide +kernel
theorem dX10_multiply_26 : decode cX10_multiply 26 = .ok (.getfield 10, 3) := by decide +kernel
theorem dX10_multiply_29 : decode cX10_multiply 29 = .ok (.invokevirtual 82, 3) := by decide +kernel
theorem dX10_multiply_32 : decode cX10_multiply 32 = .ok (.ifCond .eq 6, 3) := by decide +kernel
theorem dX10_multiply_35 : decode cX10_multiply 35 = .ok (.ldc 73, 2) := by decide +kernel
theorem dX10_multiply_37 : decode cX10_multiply 37 = .ok (.ireturn, 1) := by decide +kernel
theorem dX10_multiply_38 : decode cX10_multiply 38 = .ok (.aload_n 0, 1) := by decide +kernel
theorem dX10_multiply_39 : decode cX10_multiply 39 = .ok (.getfield 10, 3) := by decide +kernel
theorem dX10_multiply_42 : decode cX10_multiply 42 = .ok (.iload_n 1, 1) := by decide +kernel
theorem dX10_multiply_43 : decode cX10_multiply 43 = .ok (.aload_n 0, 1) := by decide +kernel
theorem dX10_multiply_44 : decode cX10_multiply 44 = .ok (.getfield 53, 3) := by decide +kernel
theorem dX10_multiply_47 : decode cX10_multiply 47 = .ok (.invokevirtual 202, 3) := by decide +kernel
theorem dX10_multiply_50 : decode cX10_multiply 50 = .ok (.aload_n 0, 1) := by decide +kernel
theorem dX10_multiply_51 : decode cX10_multiply 51 = .ok (.getfield 10, 3) := by decide +kernel
theorem dX10_multiply_54 : decode cX10_multiply 54 = .ok (.iload_n 2, 1) := by decide +kernel
theorem dX10_multiply_55 : decode cX10_multiply 55 = .ok (.aload_n 0, 1) := by decide +kernel
theorem dX10_multiply_56 : decode cX10_multiply 56 = .ok (.getfield 57, 3) := by decide +kernel
theorem dX10_multiply_59 : decode cX10_multiply 59 = .ok (.invokevirtual 202, 3) := by decide +kernel
theorem dX10_multiply_62 : decode cX10_multiply 62 = .ok (.aload_n 0, 1) := by decide +kernel
theorem dX10_multiply_63 : decode cX10_multiply 63 = .ok (.getfield 60, 3) := by decide +kernel
theorem dX10_multiply_66 : decode cX10_multiply 66 = .ok (.aload_n 0, 1) := by decide +kernel
theorem dX10_multiply_67 : decode cX10_multiply 67 = .ok (.getfield 53, 3) := by decide +kernel
theorem dX10_multiply_70 : decode cX10_multiply 70 = .ok (.aload_n 0, 1) := by decide +kernel
theorem dX10_multiply_71 : decode cX10_multiply 71 = .ok (.getfield 57, 3) := by decide +kernel
theorem dX10_multiply_74 : decode cX10_multiply 74 = .ok (.invokevirtual 206, 3) := by decide +kernel
theorem dX10_multiply_77 : decode cX10_multiply 77 = .ok (.aload_n 0, 1) := by decide +kernel
theorem dX10_multiply_78 : decode cX10_multiply 78 = .ok (.getfield 60, 3) := by decide +kernel
theorem dX10_multiply_81 : decode cX10_multiply 81 = .ok (.invokevirtual 100, 3) := by decide +kernel
theorem dX10_multiply_84 : decode cX10_multiply 84 = .ok (.ifCond .ne 6, 3) := by decide +kernel
theorem dX10_multiply_87 : decode cX10_multiply 87 = .ok (.ldc 106, 2) := by decide +kernel
theorem dX10_multiply_89 : decode cX10_multiply 89 = .ok (.ireturn, 1) := by decide +kernel
theorem dX10_multiply_90 : decode cX10_multiply 90 = .ok (.aload_n 0, 1) := by decide +kernel
theorem dX10_multiply_91 : decode cX10_multiply 91 = .ok (.aload_n 0, 1) := by decide +kernel
theorem dX10_multiply_92 : decode cX10_multiply 92 = .ok (.getfield 60, 3) := by decide +kernel
theorem dX10_multiply_95 : decode cX10_multiply 95 = .ok (.invokevirtual 90, 3) := by decide +kernel
theorem dX10_multiply_98 : decode cX10_multiply 98 = .ok (.ireturn, 1) := by decide +kernel
theorem dX10_back_0 : decode cX10_back 0 = .ok (.aload_n 0, 1) := by decide +kernel
theorem dX10_back_1 : decode cX10_back 1 = .ok (.getfield 10, 3) := by decide +kernel
theorem dX10_back_4 : decode cX10_back 4 = .ok (.iload_n 1, 1) := by decide +kernel
theorem dX10_back_5 : decode cX10_back 5 = .ok (.invokevirtual 135, 3) := by decide +kernel
theorem dX10_back_8 : decode cX10_back 8 = .ok (.ifCond .ne 6, 3) := by decide +kernel
theorem dX10_back_11 : decode cX10_back 11 = .ok (.ldc 146, 2) := by decide +kernel
theorem dX10_back_13 : decode cX10_back 13 = .ok (.ireturn, 1) := by decide +kernel
theorem dX10_back_14 : decode cX10_back 14 = .ok (.aload_n 0, 1) := by decide +kernel
theorem dX10_back_15 : decode cX10_back 15 = .ok (.getfield 10, 3) := by decide +kernel
theorem dX10_back_18 : decode cX10_back 18 = .ok (.iload_n 1, 1) := by decide +kernel
theorem dX10_back_19 : decode cX10_back 19 = .ok (.aload_n 0, 1) := by decide +kernel
theorem dX10_back_20 : decode cX10_back 20 = .ok (.getfield 60, 3) := by decide +kernel
theorem dX10_back_23 : decode cX10_back 23 = .ok (.invokevirtual 202, 3) := by decide +kernel
theorem dX10_back_26 : decode cX10_back 26 = .ok (.aload_n 0, 1) := by decide +kernel
theorem dX10_back_27 : decode cX10_back 27 = .ok (.getfield 60, 3) := by decide +kernel
theorem dX10_back_30 : decode cX10_back 30 = .ok (.invokevirtual 210, 3) := by decide +kernel
theorem dX10_back_33 : decode cX10_back 33 = .ok (.aload_n 0, 1) := by decide +kernel
theorem dX10_back_34 : decode cX10_back 34 = .ok (.iload_n 1, 1) := by decide +kernel
theorem dX10_back_35 : decode cX10_back 35 = .ok (.aload_n 0, 1) := by decide +kernel
theorem dX10_back_36 : decode cX10_back 36 = .ok (.getfield 60, 3) := by decide +kernel
theorem dX10_back_39 : decode cX10_back 39 = .ok (.invokevirtual 213, 3) := by decide +kernel
theorem dX10_back_42 : decode cX10_back 42 = .ok (.ireturn, 1) := by decide +kernel
theorem dX10_carry_0 : decode cX10_carry 0 = .ok (.aload_n 0, 1) := by decide +kernel
theorem dX10_carry_1 : decode cX10_carry 1 = .ok (.getfield 10, 3) := by decide +kernel
theorem dX10_carry_4 : decode cX10_carry 4 = .ok (.iload_n 1, 1) := by decide +kernel
theorem dX10_carry_5 : decode cX10_carry 5 = .ok (.invokevirtual 135, 3) := by decide +kernel
theorem dX10_carry_8 : decode cX10_carry 8 = .ok (.ifCond .eq 14, 3) := by decide +kernel
theorem dX10_carry_11 : decode cX10_carry 11 = .ok (.aload_n 0, 1) := by decide +kernel
theorem dX10_carry_12 : decode cX10_carry 12 = .ok (.getfield 10, 3) := by decide +kernel
theorem dX10_carry_15 : decode cX10_carry 15 = .ok (.iload_n 2, 1) := by decide +kernel
theorem dX10_carry_16 : decode cX10_carry 16 = .ok (.invokevirtual 135, 3) := by decide +kernel
theorem dX10_carry_19 : decode cX10_carry 19 = .ok (.ifCond .ne 6, 3) := by decide +kernel
theorem dX10_carry_22 : decode cX10_carry 22 = .ok (.ldc 146, 2) := by decide +kernel
theorem dX10_carry_24 : decode cX10_carry 24 = .ok (.ireturn, 1) := by decide +kernel
theorem dX10_carry_25 : decode cX10_carry 25 = .ok (.aload_n 0, 1) := by decide +kernel
theorem dX10_carry_26 : decode cX10_carry 26 = .ok (.getfield 10, 3) := by decide +kernel
theorem dX10_carry_29 : decode cX10_carry 29 = .ok (.iload_n 1, 1) := by decide +kernel
theorem dX10_carry_30 : decode cX10_carry 30 = .ok (.aload_n 0, 1) := by decide +kernel
theorem dX10_carry_31 : decode cX10_carry 31 = .ok (.getfield 53, 3) := by decide +kernel
theorem dX10_carry_34 : decode cX10_carry 34 = .ok (.invokevirtual 202, 3) := by decide +kernel
theorem dX10_carry_37 : decode cX10_carry 37 = .ok (.aload_n 0, 1) := by decide +kernel
theorem dX10_carry_38 : decode cX10_carry 38 = .ok (.getfield 10, 3) := by decide +kernel
theorem dX10_carry_41 : decode cX10_carry 41 = .ok (.iload_n 2, 1) := by decide +kernel
theorem dX10_carry_42 : decode cX10_carry 42 = .ok (.aload_n 0, 1) := by decide +kernel
theorem dX10_carry_43 : decode cX10_carry 43 = .ok (.getfield 57, 3) := by decide +kernel
theorem dX10_carry_46 : decode cX10_carry 46 = .ok (.invokevirtual 202, 3) := by decide +kernel
theorem dX10_carry_49 : decode cX10_carry 49 = .ok (.aload_n 0, 1) := by decide +kernel
theorem dX10_carry_50 : decode cX10_carry 50 = .ok (.getfield 60, 3) := by decide +kernel
theorem dX10_carry_53 : decode cX10_carry 53 = .ok (.aload_n 0, 1) := by decide +kernel
theorem dX10_carry_54 : decode cX10_carry 54 = .ok (.getfield 57, 3) := by decide +kernel
theorem dX10_carry_57 : decode cX10_carry 57 = .ok (.aload_n 0, 1) := by decide +kernel
theorem dX10_carry_58 : decode cX10_carry 58 = .ok (.getfield 53, 3) := by decide +kernel
theorem dX10_carry_61 : decode cX10_carry 61 = .ok (.invokevirtual 206, 3) := by decide +kernel
theorem dX10_carry_64 : decode cX10_carry 64 = .ok (.aload_n 0, 1) := by decide +kernel
theorem dX10_carry_65 : decode cX10_carry 65 = .ok (.getfield 57, 3) := by decide +kernel
theorem dX10_carry_68 : decode cX10_carry 68 = .ok (.invokevirtual 210, 3) := by decide +kernel
theorem dX10_carry_71 : decode cX10_carry 71 = .ok (.aload_n 0, 1) := by decide +kernel
theorem dX10_carry_72 : decode cX10_carry 72 = .ok (.getfield 60, 3) := by decide +kernel
theorem dX10_carry_75 : decode cX10_carry 75 = .ok (.aload_n 0, 1) := by decide +kernel
theorem dX10_carry_76 : decode cX10_carry 76 = .ok (.getfield 60, 3) := by decide +kernel
theorem dX10_carry_79 : decode cX10_carry 79 = .ok (.aload_n 0, 1) := by decide +kernel
theorem dX10_carry_80 : decode cX10_carry 80 = .ok (.getfield 57, 3) := by decide +kernel
theorem dX10_carry_83 : decode cX10_carry 83 = .ok (.invokevirtual 206, 3) := by decide +kernel
theorem dX10_carry_86 : decode cX10_carry 86 = .ok (.aload_n 0, 1) := by decide +kernel
theorem dX10_carry_87 : decode cX10_carry 87 = .ok (.getfield 60, 3) := by decide +kernel
theorem dX10_carry_90 : decode cX10_carry 90 = .ok (.invokevirtual 100, 3) := by decide +kernel
theorem dX10_carry_93 : decode cX10_carry 93 = .ok (.ifCond .ne 6, 3) := by decide +kernel
theorem dX10_carry_96 : decode cX10_carry 96 = .ok (.ldc 106, 2) := by decide +kernel
theorem dX10_carry_98 : decode cX10_carry 98 = .ok (.ireturn, 1) := by decide +kernel
theorem dX10_carry_99 : decode cX10_carry 99 = .ok (.aload_n 0, 1) := by decide +kernel
theorem dX10_carry_100 : decode cX10_carry 100 = .ok (.iload_n 1, 1) := by decide +kernel
theorem dX10_carry_101 : decode cX10_carry 101 = .ok (.aload_n 0, 1) := by decide +kernel
theorem dX10_carry_102 : decode cX10_carry 102 = .ok (.getfield 60, 3) := by decide +kernel
theorem dX10_carry_105 : decode cX10_carry 105 = .ok (.invokevirtual 213, 3) := by decide +kernel
theorem dX10_carry_108 : decode cX10_carry 108 = .ok (.ireturn, 1) := by decide +kernel
theorem dX10_raise_0 : decode cX10_raise 0 = .ok (.aload_n 0, 1) := by decide +kernel
theorem dX10_raise_1 : decode cX10_raise 1 = .ok (.getfield 10, 3) := by decide +kernel
theorem dX10_raise_4 : decode cX10_raise 4 = .ok (.iload_n 1, 1) := by decide +kernel
theorem dX10_raise_5 : decode cX10_raise 5 = .ok (.invokevirtual 135, 3) := by decide +kernel
theorem dX10_raise_8 : decode cX10_raise 8 = .ok (.ifCond .ne 6, 3) := by decide +kernel
theorem dX10_raise_11 : decode cX10_raise 11 = .ok (.ldc 146, 2) := by decide +kernel
theorem dX10_raise_13 : decode cX10_raise 13 = .ok (.ireturn, 1) := by decide +kernel
theorem dX10_raise_14 : decode cX10_raise 14 = .ok (.iload_n 2, 1) := by decide +kernel
theorem dX10_raise_15 : decode cX10_raise 15 = .ok (.ifCond .lt 9, 3) := by decide +kernel
theorem dX10_raise_18 : decode cX10_raise 18 = .ok (.iload_n 2, 1) := by decide +kernel
theorem dX10_raise_19 : decode cX10_raise 19 = .ok (.bipush 20, 2) := by decide +kernel
theorem dX10_raise_21 : decode cX10_raise 21 = .ok (.if_icmp .le 6, 3) := by decide +kernel
theorem dX10_raise_24 : decode cX10_raise 24 = .ok (.ldc 68, 2) := by decide +kernel
theorem dX10_raise_26 : decode cX10_raise 26 = .ok (.ireturn, 1) := by decide +kernel
theorem dX10_raise_27 : decode cX10_raise 27 = .ok (.aload_n 0, 1) := by decide +kernel
theorem dX10_raise_28 : decode cX10_raise 28 = .ok (.getfield 10, 3) := by decide +kernel
theorem dX10_raise_31 : decode cX10_raise 31 = .ok (.iload_n 1, 1) := by decide +kernel
theorem dX10_raise_32 : decode cX10_raise 32 = .ok (.aload_n 0, 1) := by decide +kernel
theorem dX10_raise_33 : decode cX10_raise 33 = .ok (.getfield 53, 3) := by decide +kernel
theorem dX10_raise_36 : decode cX10_raise 36 = .ok (.invokevirtual 202, 3) := by decide +kernel
theorem dX10_raise_39 : decode cX10_raise 39 = .ok (.aload_n 0, 1) := by decide +kernel
theorem dX10_raise_40 : decode cX10_raise 40 = .ok (.getfield 60, 3) := by decide +kernel
theorem dX10_raise_43 : decode cX10_raise 43 = .ok (.invokevirtual 217, 3) := by decide +kernel
theorem dX10_raise_46 : decode cX10_raise 46 = .ok (.iconst 0, 1) := by decide +kernel
theorem dX10_raise_47 : decode cX10_raise 47 = .ok (.istore_n 3, 1) := by decide +kernel
theorem dX10_raise_48 : decode cX10_raise 48 = .ok (.iload_n 3, 1) := by decide +kernel
theorem dX10_raise_49 : decode cX10_raise 49 = .ok (.iload_n 2, 1) := by decide +kernel
theorem dX10_raise_50 : decode cX10_raise 50 = .ok (.if_icmp .ge 37, 3) := by decide +kernel
theorem dX10_raise_53 : decode cX10_raise 53 = .ok (.aload_n 0, 1) := by decide +kernel
theorem dX10_raise_54 : decode cX10_raise 54 = .ok (.getfield 60, 3) := by decide +kernel
theorem dX10_raise_57 : decode cX10_raise 57 = .ok (.aload_n 0, 1) := by decide +kernel
theorem dX10_raise_58 : decode cX10_raise 58 = .ok (.getfield 60, 3) := by decide +kernel
theorem dX10_raise_61 : decode cX10_raise 61 = .ok (.aload_n 0, 1) := by decide +kernel
theorem dX10_raise_62 : decode cX10_raise 62 = .ok (.getfield 53, 3) := by decide +kernel
theorem dX10_raise_65 : decode cX10_raise 65 = .ok (.invokevirtual 206, 3) := by decide +kernel
theorem dX10_raise_68 : decode cX10_raise 68 = .ok (.aload_n 0, 1) := by decide +kernel
theorem dX10_raise_69 : decode cX10_raise 69 = .ok (.getfield 60, 3) := by decide +kernel
theorem dX10_raise_72 : decode cX10_raise 72 = .ok (.invokevirtual 100, 3) := by decide +kernel
theorem dX10_raise_75 : decode cX10_raise 75 = .ok (.ifCond .ne 6, 3) := by decide +kernel
theorem dX10_raise_78 : decode cX10_raise 78 = .ok (.ldc 106, 2) := by decide +kernel
theorem dX10_raise_80 : decode cX10_raise 80 = .ok (.ireturn, 1) := by decide +kernel
theorem dX10_raise_81 : decode cX10_raise 81 = .ok (.iinc 3 1, 3) := by decide +kernel
theorem dX10_raise_84 : decode cX10_raise 84 = .ok (.goto (-36), 3) := by decide +kernel
theorem dX10_raise_87 : decode cX10_raise 87 = .ok (.aload_n 0, 1) := by decide +kernel
theorem dX10_raise_88 : decode cX10_raise 88 = .ok (.iload_n 1, 1) := by decide +kernel
theorem dX10_raise_89 : decode cX10_raise 89 = .ok (.aload_n 0, 1) := by decide +kernel
theorem dX10_raise_90 : decode cX10_raise 90 = .ok (.getfield 60, 3) := by decide +kernel
theorem dX10_raise_93 : decode cX10_raise 93 = .ok (.invokevirtual 213, 3) := by decide +kernel
theorem dX10_raise_96 : decode cX10_raise 96 = .ok (.ireturn, 1) := by decide +kernel
theorem dX10_take_0 : decode cX10_take 0 = .ok (.aload_n 0, 1) := by decide +kernel
theorem dX10_take_1 : decode cX10_take 1 = .ok (.getfield 10, 3) := by decide +kernel
theorem dX10_take_4 : decode cX10_take 4 = .ok (.iload_n 1, 1) := by decide +kernel
theorem dX10_take_5 : decode cX10_take 5 = .ok (.invokevirtual 135, 3) := by decide +kernel
theorem dX10_take_8 : decode cX10_take 8 = .ok (.ifCond .ne 6, 3) := by decide +kernel
theorem dX10_take_11 : decode cX10_take 11 = .ok (.ldc 146, 2) := by decide +kernel
theorem dX10_take_13 : decode cX10_take 13 = .ok (.ireturn, 1) := by decide +kernel
theorem dX10_take_14 : decode cX10_take 14 = .ok (.aload_n 0, 1) := by decide +kernel
theorem dX10_take_15 : decode cX10_take 15 = .ok (.getfield 19, 3) := by decide +kernel
theorem dX10_take_18 : decode cX10_take 18 = .ok (.aload_n 0, 1) := by decide +kernel
theorem dX10_take_19 : decode cX10_take 19 = .ok (.getfield 10, 3) := by decide +kernel
theorem dX10_take_22 : decode cX10_take 22 = .ok (.invokevirtual 220, 3) := by decide +kernel
theorem dX10_take_25 : decode cX10_take 25 = .ok (.aload_n 0, 1) := by decide +kernel
theorem dX10_take_26 : decode cX10_take 26 = .ok (.getfield 10, 3) := by decide +kernel
theorem dX10_take_29 : decode cX10_take 29 = .ok (.iload_n 1, 1) := by decide +kernel
theorem dX10_take_30 : decode cX10_take 30 = .ok (.invokevirtual 223, 3) := by decide +kernel
theorem dX10_take_33 : decode cX10_take 33 = .ok (.aload_n 0, 1) := by decide +kernel
theorem dX10_take_34 : decode cX10_take 34 = .ok (.getfield 10, 3) := by decide +kernel
theorem dX10_take_37 : decode cX10_take 37 = .ok (.invokevirtual 107, 3) := by decide +kernel
theorem dX10_take_40 : decode cX10_take 40 = .ok (.ireturn, 1) := by decide +kernel
theorem dX10_drift_0 : decode cX10_drift 0 = .ok (.iload_n 1, 1) := by decide +kernel
theorem dX10_drift_1 : decode cX10_drift 1 = .ok (.iconst 1, 1) := by decide +kernel
theorem dX10_drift_2 : decode cX10_drift 2 = .ok (.if_icmp .lt 9, 3) := by decide +kernel
theorem dX10_drift_5 : decode cX10_drift 5 = .ok (.iload_n 1, 1) := by decide +kernel
theorem dX10_drift_6 : decode cX10_drift 6 = .ok (.bipush 12, 2) := by decide +kernel
theorem dX10_drift_8 : decode cX10_drift 8 = .ok (.if_icmp .le 6, 3) := by decide +kernel
theorem dX10_drift_11 : decode cX10_drift 11 = .ok (.ldc 68, 2) := by decide +kernel
theorem dX10_drift_13 : decode cX10_drift 13 = .ok (.ireturn, 1) := by decide +kernel
theorem dX10_drift_14 : decode cX10_drift 14 = .ok (.iconst 0, 1) := by decide +kernel
theorem dX10_drift_15 : decode cX10_drift 15 = .ok (.istore_n 2, 1) := by decide +kernel
theorem dX10_drift_16 : decode cX10_drift 16 = .ok (.iload_n 2, 1) := by decide +kernel
theorem dX10_drift_17 : decode cX10_drift 17 = .ok (.iload_n 1, 1) := by decide +kernel
theorem dX10_drift_18 : decode cX10_drift 18 = .ok (.if_icmp .ge 36, 3) := by decide +kernel
theorem dX10_drift_21 : decode cX10_drift 21 = .ok (.aload_n 0, 1) := by decide +kernel
theorem dX10_drift_22 : decode cX10_drift 22 = .ok (.getfield 10, 3) := by decide +kernel
theorem dX10_drift_25 : decode cX10_drift 25 = .ok (.invokevirtual 82, 3) := by decide +kernel
theorem dX10_drift_28 : decode cX10_drift 28 = .ok (.ifCond .ne 26, 3) := by decide +kernel
theorem dX10_drift_31 : decode cX10_drift 31 = .ok (.aload_n 0, 1) := by decide +kernel
theorem dX10_drift_32 : decode cX10_drift 32 = .ok (.aload_n 0, 1) := by decide +kernel
theorem dX10_drift_33 : decode cX10_drift 33 = .ok (.getfield 60, 3) := by decide +kernel
theorem dX10_drift_36 : decode cX10_drift 36 = .ok (.invokevirtual 226, 3) := by decide +kernel
theorem dX10_drift_39 : decode cX10_drift 39 = .ok (.aload_n 0, 1) := by decide +kernel
theorem dX10_drift_40 : decode cX10_drift 40 = .ok (.aload_n 0, 1) := by decide +kernel
theorem dX10_drift_41 : decode cX10_drift 41 = .ok (.getfield 60, 3) := by decide +kernel
theorem dX10_drift_44 : decode cX10_drift 44 = .ok (.invokevirtual 90, 3) := by decide +kernel
theorem dX10_drift_47 : decode cX10_drift 47 = .ok (.pop, 1) := by decide +kernel
theorem dX10_drift_48 : decode cX10_drift 48 = .ok (.iinc 2 1, 3) := by decide +kernel
theorem dX10_drift_51 : decode cX10_drift 51 = .ok (.goto (-35), 3) := by decide +kernel
theorem dX10_drift_54 : decode cX10_drift 54 = .ok (.aload_n 0, 1) := by decide +kernel
theorem dX10_drift_55 : decode cX10_drift 55 = .ok (.getfield 10, 3) := by decide +kernel
theorem dX10_drift_58 : decode cX10_drift 58 = .ok (.invokevirtual 107, 3) := by decide +kernel
theorem dX10_drift_61 : decode cX10_drift 61 = .ok (.ireturn, 1) := by decide +kernel
theorem dX10_undo_0 : decode cX10_undo 0 = .ok (.iload_n 1, 1) := by decide +kernel
theorem dX10_undo_1 : decode cX10_undo 1 = .ok (.iconst 1, 1) := by decide +kernel
theorem dX10_undo_2 : decode cX10_undo 2 = .ok (.if_icmp .lt 9, 3) := by decide +kernel
theorem dX10_undo_5 : decode cX10_undo 5 = .ok (.iload_n 1, 1) := by decide +kernel
theorem dX10_undo_6 : decode cX10_undo 6 = .ok (.bipush 20, 2) := by decide +kernel
theorem dX10_undo_8 : decode cX10_undo 8 = .ok (.if_icmp .le 6, 3) := by decide +kernel
theorem dX10_undo_11 : decode cX10_undo 11 = .ok (.ldc 68, 2) := by decide +kernel
theorem dX10_undo_13 : decode cX10_undo 13 = .ok (.ireturn, 1) := by decide +kernel
theorem dX10_undo_14 : decode cX10_undo 14 = .ok (.iload_n 1, 1) := by decide +kernel
theorem dX10_undo_15 : decode cX10_undo 15 = .ok (.aload_n 0, 1) := by decide +kernel
theorem dX10_undo_16 : decode cX10_undo 16 = .ok (.getfield 19, 3) := by decide +kernel
theorem dX10_undo_19 : decode cX10_undo 19 = .ok (.invokevirtual 127, 3) := by decide +kernel
theorem dX10_undo_22 : decode cX10_undo 22 = .ok (.if_icmp .le 6, 3) := by decide +kernel
theorem dX10_undo_25 : decode cX10_undo 25 = .ok (.ldc 106, 2) := by decide +kernel
theorem dX10_undo_27 : decode cX10_undo 27 = .ok (.ireturn, 1) := by decide +kernel
theorem dX10_undo_28 : decode cX10_undo 28 = .ok (.aload_n 0, 1) := by decide +kernel
theorem dX10_undo_29 : decode cX10_undo 29 = .ok (.getfield 19, 3) := by decide +kernel
theorem dX10_undo_32 : decode cX10_undo 32 = .ok (.iload_n 1, 1) := by decide +kernel
theorem dX10_undo_33 : decode cX10_undo 33 = .ok (.aload_n 0, 1) := by decide +kernel
theorem dX10_undo_34 : decode cX10_undo 34 = .ok (.getfield 10, 3) := by decide +kernel
theorem dX10_undo_37 : decode cX10_undo 37 = .ok (.invokevirtual 230, 3) := by decide +kernel
theorem dX10_undo_40 : decode cX10_undo 40 = .ok (.aload_n 0, 1) := by decide +kernel
theorem dX10_undo_41 : decode cX10_undo 41 = .ok (.getfield 10, 3) := by decide +kernel
theorem dX10_undo_44 : decode cX10_undo 44 = .ok (.invokevirtual 107, 3) := by decide +kernel
theorem dX10_undo_47 : decode cX10_undo 47 = .ok (.ireturn, 1) := by decide +kernel
theorem dX10_place_0 : decode cX10_place 0 = .ok (.aload_n 0, 1) := by decide +kernel
theorem dX10_place_1 : decode cX10_place 1 = .ok (.getfield 19, 3) := by decide +kernel
theorem dX10_place_4 : decode cX10_place 4 = .ok (.aload_n 0, 1) := by decide +kernel
theorem dX10_place_5 : decode cX10_place 5 = .ok (.getfield 10, 3) := by decide +kernel
theorem dX10_place_8 : decode cX10_place 8 = .ok (.invokevirtual 220, 3) := by decide +kernel
theorem dX10_place_11 : decode cX10_place 11 = .ok (.aload_n 0, 1) := by decide +kernel
theorem dX10_place_12 : decode cX10_place 12 = .ok (.getfield 10, 3) := by decide +kernel
theorem dX10_place_15 : decode cX10_place 15 = .ok (.aload_n 1, 1) := by decide +kernel
theorem dX10_place_16 : decode cX10_place 16 = .ok (.invokevirtual 234, 3) := by decide +kernel
theorem dX10_place_19 : decode cX10_place 19 = .ok (.ireturn, 1) := by decide +kernel
theorem dX10_exchange_0 : decode cX10_exchange 0 = .ok (.aload_n 0, 1) := by decide +kernel
theorem dX10_exchange_1 : decode cX10_exchange 1 = .ok (.getfield 19, 3) := by decide +kernel
theorem dX10_exchange_4 : decode cX10_exchange 4 = .ok (.aload_n 0, 1) := by decide +kernel
theorem dX10_exchange_5 : decode cX10_exchange 5 = .ok (.getfield 10, 3) := by decide +kernel
theorem dX10_exchange_8 : decode cX10_exchange 8 = .ok (.invokevirtual 220, 3) := by decide +kernel
theorem dX10_exchange_11 : decode cX10_exchange 11 = .ok (.aload_n 0, 1) := by decide +kernel
theorem dX10_exchange_12 : decode cX10_exchange 12 = .ok (.getfield 10, 3) := by decide +kernel
theorem dX10_exchange_15 : decode cX10_exchange 15 = .ok (.iload_n 1, 1) := by decide +kernel
theorem dX10_exchange_16 : decode cX10_exchange 16 = .ok (.aload_n 2, 1) := by decide +kernel
theorem dX10_exchange_17 : decode cX10_exchange 17 = .ok (.invokevirtual 237, 3) := by decide +kernel
theorem dX10_exchange_20 : decode cX10_exchange 20 = .ok (.ifCond .eq 7, 3) := by decide +kernel
theorem dX10_exchange_23 : decode cX10_exchange 23 = .ok (.iconst 1, 1) := by decide +kernel
theorem dX10_exchange_24 : decode cX10_exchange 24 = .ok (.goto 4, 3) := by decide +kernel
theorem dX10_exchange_27 : decode cX10_exchange 27 = .ok (.iconst 0, 1) := by decide +kernel
theorem dX10_exchange_28 : decode cX10_exchange 28 = .ok (.ireturn, 1) := by decide +kernel
theorem dX10_drawSquare_0 : decode cX10_drawSquare 0 = .ok (.aload_n 1, 1) := by decide +kernel
theorem dX10_drawSquare_1 : decode cX10_drawSquare 1 = .ok (.invokevirtual 217, 3) := by decide +kernel
theorem dX10_drawSquare_4 : decode cX10_drawSquare 4 = .ok (.aload_n 0, 1) := by decide +kernel
theorem dX10_drawSquare_5 : decode cX10_drawSquare 5 = .ok (.bipush 8, 2) := by decide +kernel
theorem dX10_drawSquare_7 : decode cX10_drawSquare 7 = .ok (.invokevirtual 241, 3) := by decide +kernel
theorem dX10_drawSquare_10 : decode cX10_drawSquare 10 = .ok (.iconst 2, 1) := by decide +kernel
theorem dX10_drawSquare_11 : decode cX10_drawSquare 11 = .ok (.iadd, 1) := by decide +kernel
theorem dX10_drawSquare_12 : decode cX10_drawSquare 12 = .ok (.istore_n 2, 1) := by decide +kernel
theorem dX10_drawSquare_13 : decode cX10_drawSquare 13 = .ok (.iconst 0, 1) := by decide +kernel
theorem dX10_drawSquare_14 : decode cX10_drawSquare 14 = .ok (.istore_n 3, 1) := by decide +kernel
theorem dX10_drawSquare_15 : decode cX10_drawSquare 15 = .ok (.iload_n 3, 1) := by decide +kernel
theorem dX10_drawSquare_16 : decode cX10_drawSquare 16 = .ok (.iload_n 2, 1) := by decide +kernel
theorem dX10_drawSquare_17 : decode cX10_drawSquare 17 = .ok (.if_icmp .ge 25, 3) := by decide +kernel
theorem dX10_drawSquare_20 : decode cX10_drawSquare 20 = .ok (.aload_n 1, 1) := by decide +kernel
theorem dX10_drawSquare_21 : decode cX10_drawSquare 21 = .ok (.ldc 244, 2) := by decide +kernel
theorem dX10_drawSquare_23 : decode cX10_drawSquare 23 = .ok (.aload_n 0, 1) := by decide +kernel
theorem dX10_drawSquare_24 : decode cX10_drawSquare 24 = .ok (.bipush 6, 2) := by decide +kernel
theorem dX10_drawSquare_26 : decode cX10_drawSquare 26 = .ok (.invokevirtual 241, 3) := by decide +kernel
theorem dX10_drawSquare_29 : decode cX10_drawSquare 29 = .ok (.invokevirtual 246, 3) := by decide +kernel
theorem dX10_drawSquare_32 : decode cX10_drawSquare 32 = .ok (.invokevirtual 252, 3) := by decide +kernel
theorem dX10_drawSquare_35 : decode cX10_drawSquare 35 = .ok (.pop, 1) := by decide +kernel
theorem dX10_drawSquare_36 : decode cX10_drawSquare 36 = .ok (.iinc 3 1, 3) := by decide +kernel
theorem dX10_drawSquare_39 : decode cX10_drawSquare 39 = .ok (.goto (-24), 3) := by decide +kernel
theorem dX10_drawSquare_42 : decode cX10_drawSquare 42 = .ok (.return_, 1) := by decide +kernel
theorem dX10_draw_0 : decode cX10_draw 0 = .ok (.aload_n 0, 1) := by decide +kernel
theorem dX10_draw_1 : decode cX10_draw 1 = .ok (.getfield 63, 3) := by decide +kernel
theorem dX10_draw_4 : decode cX10_draw 4 = .ok (.i2l, 1) := by decide +kernel
theorem dX10_draw_5 : decode cX10_draw 5 = .ok (.ldc2_w 255, 3) := by decide +kernel
theorem dX10_draw_8 : decode cX10_draw 8 = .ok (.lmul, 1) := by decide +kernel
theorem dX10_draw_9 : decode cX10_draw 9 = .ok (.ldc2_w 257, 3) := by decide +kernel
theorem dX10_draw_12 : decode cX10_draw 12 = .ok (.ladd, 1) := by decide +kernel
theorem dX10_draw_13 : decode cX10_draw 13 = .ok (.lstore_n 2, 1) := by decide +kernel
theorem dX10_draw_14 : decode cX10_draw 14 = .ok (.aload_n 0, 1) := by decide +kernel
theorem dX10_draw_15 : decode cX10_draw 15 = .ok (.lload_n 2, 1) := by decide +kernel
theorem dX10_draw_16 : decode cX10_draw 16 = .ok (.ldc2_w 259, 3) := by decide +kernel
theorem dX10_draw_19 : decode cX10_draw 19 = .ok (.land, 1) := by decide +kernel
theorem dX10_draw_20 : decode cX10_draw 20 = .ok (.l2i, 1) := by decide +kernel
theorem dX10_draw_21 : decode cX10_draw 21 = .ok (.putfield 63, 3) := by decide +kernel
theorem dX10_draw_24 : decode cX10_draw 24 = .ok (.iload_n 1, 1) := by decide +kernel
theorem dX10_draw_25 : decode cX10_draw 25 = .ok (.ifCond .le 16, 3) := by decide +kernel
theorem dX10_draw_28 : decode cX10_draw 28 = .ok (.aload_n 0, 1) := by decide +kernel
theorem dX10_draw_29 : decode cX10_draw 29 = .ok (.getfield 63, 3) := by decide +kernel
theorem dX10_draw_32 : decode cX10_draw 32 = .ok (.ldc_w 261, 3) := by decide +kernel
theorem dX10_draw_35 : decode cX10_draw 35 = .ok (.idiv, 1) := by decide +kernel
theorem dX10_draw_36 : decode cX10_draw 36 = .ok (.iload_n 1, 1) := by decide +kernel
theorem dX10_draw_37 : decode cX10_draw 37 = .ok (.irem, 1) := by decide +kernel
theorem dX10_draw_38 : decode cX10_draw 38 = .ok (.goto 4, 3) := by decide +kernel
theorem dX10_draw_41 : decode cX10_draw 41 = .ok (.iconst 0, 1) := by decide +kernel
theorem dX10_draw_42 : decode cX10_draw 42 = .ok (.ireturn, 1) := by decide +kernel
theorem dX10_pair_0 : decode cX10_pair 0 = .ok (.aload_n 0, 1) := by decide +kernel
theorem dX10_pair_1 : decode cX10_pair 1 = .ok (.getfield 10, 3) := by decide +kernel
theorem dX10_pair_4 : decode cX10_pair 4 = .ok (.iload_n 1, 1) := by decide +kernel
theorem dX10_pair_5 : decode cX10_pair 5 = .ok (.invokevirtual 135, 3) := by decide +kernel
theorem dX10_pair_8 : decode cX10_pair 8 = .ok (.ifCond .eq 14, 3) := by decide +kernel
theorem dX10_pair_11 : decode cX10_pair 11 = .ok (.aload_n 0, 1) := by decide +kernel
theorem dX10_pair_12 : decode cX10_pair 12 = .ok (.getfield 10, 3) := by decide +kernel
theorem dX10_pair_15 : decode cX10_pair 15 = .ok (.iload_n 2, 1) := by decide +kernel
theorem dX10_pair_16 : decode cX10_pair 16 = .ok (.invokevirtual 135, 3) := by decide +kernel
theorem dX10_pair_19 : decode cX10_pair 19 = .ok (.ifCond .ne 6, 3) := by decide +kernel
theorem dX10_pair_22 : decode cX10_pair 22 = .ok (.ldc 146, 2) := by decide +kernel
theorem dX10_pair_24 : decode cX10_pair 24 = .ok (.ireturn, 1) := by decide +kernel
theorem dX10_pair_25 : decode cX10_pair 25 = .ok (.aload_n 0, 1) := by decide +kernel
theorem dX10_pair_26 : decode cX10_pair 26 = .ok (.getfield 40, 3) := by decide +kernel
theorem dX10_pair_29 : decode cX10_pair 29 = .ok (.aload_n 0, 1) := by decide +kernel
theorem dX10_pair_30 : decode cX10_pair 30 = .ok (.getfield 10, 3) := by decide +kernel
theorem dX10_pair_33 : decode cX10_pair 33 = .ok (.invokevirtual 110, 3) := by decide +kernel
theorem dX10_pair_36 : decode cX10_pair 36 = .ok (.iload_n 3, 1) := by decide +kernel
theorem dX10_pair_37 : decode cX10_pair 37 = .ok (.tableswitch 73 0 2 #[27, 45, 63], 27) := by decide +kernel
theorem dX10_pair_64 : decode cX10_pair 64 = .ok (.aload_n 0, 1) := by decide +kernel
theorem dX10_pair_65 : decode cX10_pair 65 = .ok (.getfield 40, 3) := by decide +kernel
theorem dX10_pair_68 : decode cX10_pair 68 = .ok (.iload_n 1, 1) := by decide +kernel
theorem dX10_pair_69 : decode cX10_pair 69 = .ok (.iload_n 2, 1) := by decide +kernel
theorem dX10_pair_70 : decode cX10_pair 70 = .ok (.invokevirtual 139, 3) := by decide +kernel
theorem dX10_pair_73 : decode cX10_pair 73 = .ok (.ifCond .eq 7, 3) := by decide +kernel
theorem dX10_pair_76 : decode cX10_pair 76 = .ok (.iconst 1, 1) := by decide +kernel
theorem dX10_pair_77 : decode cX10_pair 77 = .ok (.goto 4, 3) := by decide +kernel
theorem dX10_pair_80 : decode cX10_pair 80 = .ok (.iconst 0, 1) := by decide +kernel
theorem dX10_pair_81 : decode cX10_pair 81 = .ok (.ireturn, 1) := by decide +kernel
theorem dX10_pair_82 : decode cX10_pair 82 = .ok (.aload_n 0, 1) := by decide +kernel
theorem dX10_pair_83 : decode cX10_pair 83 = .ok (.getfield 40, 3) := by decide +kernel
theorem dX10_pair_86 : decode cX10_pair 86 = .ok (.iload_n 1, 1) := by decide +kernel
theorem dX10_pair_87 : decode cX10_pair 87 = .ok (.iload_n 2, 1) := by decide +kernel
theorem dX10_pair_88 : decode cX10_pair 88 = .ok (.invokevirtual 262, 3) := by decide +kernel
theorem dX10_pair_91 : decode cX10_pair 91 = .ok (.ifCond .eq 7, 3) := by decide +kernel
theorem dX10_pair_94 : decode cX10_pair 94 = .ok (.iconst 1, 1) := by decide +kernel
theorem dX10_pair_95 : decode cX10_pair 95 = .ok (.goto 4, 3) := by decide +kernel
theorem dX10_pair_98 : decode cX10_pair 98 = .ok (.iconst 0, 1) := by decide +kernel
theorem dX10_pair_99 : decode cX10_pair 99 = .ok (.ireturn, 1) := by decide +kernel
theorem dX10_pair_100 : decode cX10_pair 100 = .ok (.aload_n 0, 1) := by decide +kernel
theorem dX10_pair_101 : decode cX10_pair 101 = .ok (.getfield 40, 3) := by decide +kernel
theorem dX10_pair_104 : decode cX10_pair 104 = .ok (.iload_n 1, 1) := by decide +kernel
theorem dX10_pair_105 : decode cX10_pair 105 = .ok (.iload_n 2, 1) := by decide +kernel
theorem dX10_pair_106 : decode cX10_pair 106 = .ok (.invokevirtual 265, 3) := by decide +kernel
theorem dX10_pair_109 : decode cX10_pair 109 = .ok (.ireturn, 1) := by decide +kernel
theorem dX10_pair_110 : decode cX10_pair 110 = .ok (.ldc 68, 2) := by decide +kernel
theorem dX10_pair_112 : decode cX10_pair 112 = .ok (.ireturn, 1) := by decide +kernel
theorem dX10_note_0 : decode cX10_note 0 = .ok (.aload_n 0, 1) := by decide +kernel
theorem dX10_note_1 : decode cX10_note 1 = .ok (.getfield 10, 3) := by decide +kernel
theorem dX10_note_4 : decode cX10_note 4 = .ok (.iload_n 1, 1) := by decide +kernel
theorem dX10_note_5 : decode cX10_note 5 = .ok (.invokevirtual 135, 3) := by decide +kernel
theorem dX10_note_8 : decode cX10_note 8 = .ok (.ifCond .eq 14, 3) := by decide +kernel
theorem dX10_note_11 : decode cX10_note 11 = .ok (.aload_n 0, 1) := by decide +kernel
theorem dX10_note_12 : decode cX10_note 12 = .ok (.getfield 10, 3) := by decide +kernel
theorem dX10_note_15 : decode cX10_note 15 = .ok (.iload_n 2, 1) := by decide +kernel
theorem dX10_note_16 : decode cX10_note 16 = .ok (.invokevirtual 135, 3) := by decide +kernel
theorem dX10_note_19 : decode cX10_note 19 = .ok (.ifCond .ne 6, 3) := by decide +kernel
theorem dX10_note_22 : decode cX10_note 22 = .ok (.ldc 146, 2) := by decide +kernel
theorem dX10_note_24 : decode cX10_note 24 = .ok (.ireturn, 1) := by decide +kernel
theorem dX10_note_25 : decode cX10_note 25 = .ok (.aload_n 0, 1) := by decide +kernel
theorem dX10_note_26 : decode cX10_note 26 = .ok (.getfield 33, 3) := by decide +kernel
theorem dX10_note_29 : decode cX10_note 29 = .ok (.invokevirtual 268, 3) := by decide +kernel
theorem dX10_note_32 : decode cX10_note 32 = .ok (.ifCond .eq 6, 3) := by decide +kernel
theorem dX10_note_35 : decode cX10_note 35 = .ok (.ldc 73, 2) := by decide +kernel
theorem dX10_note_37 : decode cX10_note 37 = .ok (.ireturn, 1) := by decide +kernel
theorem dX10_note_38 : decode cX10_note 38 = .ok (.aload_n 0, 1) := by decide +kernel
theorem dX10_note_39 : decode cX10_note 39 = .ok (.getfield 33, 3) := by decide +kernel
theorem dX10_note_42 : decode cX10_note 42 = .ok (.iload_n 1, 1) := by decide +kernel
theorem dX10_note_43 : decode cX10_note 43 = .ok (.iload_n 2, 1) := by decide +kernel
theorem dX10_note_44 : decode cX10_note 44 = .ok (.iload_n 3, 1) := by decide +kernel
theorem dX10_note_45 : decode cX10_note 45 = .ok (.invokevirtual 269, 3) := by decide +kernel
theorem dX10_note_48 : decode cX10_note 48 = .ok (.aload_n 0, 1) := by decide +kernel
theorem dX10_note_49 : decode cX10_note 49 = .ok (.getfield 33, 3) := by decide +kernel
theorem dX10_note_52 : decode cX10_note 52 = .ok (.invokevirtual 123, 3) := by decide +kernel
theorem dX10_note_55 : decode cX10_note 55 = .ok (.ireturn, 1) := by decide +kernel
theorem dX10_tear_0 : decode cX10_tear 0 = .ok (.aload_n 0, 1) := by decide +kernel
theorem dX10_tear_1 : decode cX10_tear 1 = .ok (.getfield 33, 3) := by decide +kernel
theorem dX10_tear_4 : decode cX10_tear 4 = .ok (.invokevirtual 123, 3) := by decide +kernel
theorem dX10_tear_7 : decode cX10_tear 7 = .ok (.istore_n 1, 1) := by decide +kernel
theorem dX10_tear_8 : decode cX10_tear 8 = .ok (.aload_n 0, 1) := by decide +kernel
theorem dX10_tear_9 : decode cX10_tear 9 = .ok (.getfield 33, 3) := by decide +kernel
theorem dX10_tear_12 : decode cX10_tear 12 = .ok (.invokevirtual 272, 3) := by decide +kernel
theorem dX10_tear_15 : decode cX10_tear 15 = .ok (.iload_n 1, 1) := by decide +kernel
theorem dX10_tear_16 : decode cX10_tear 16 = .ok (.ireturn, 1) := by decide +kernel
theorem dX10_seed_0 : decode cX10_seed 0 = .ok (.iload_n 1, 1) := by decide +kernel
theorem dX10_seed_1 : decode cX10_seed 1 = .ok (.ifCond .ge 6, 3) := by decide +kernel
theorem dX10_seed_4 : decode cX10_seed 4 = .ok (.ldc 68, 2) := by decide +kernel
theorem dX10_seed_6 : decode cX10_seed 6 = .ok (.ireturn, 1) := by decide +kernel
theorem dX10_seed_7 : decode cX10_seed 7 = .ok (.aload_n 0, 1) := by decide +kernel
theorem dX10_seed_8 : decode cX10_seed 8 = .ok (.getfield 63, 3) := by decide +kernel
theorem dX10_seed_11 : decode cX10_seed 11 = .ok (.istore_n 2, 1) := by decide +kernel
theorem dX10_seed_12 : decode cX10_seed 12 = .ok (.aload_n 0, 1) := by decide +kernel
theorem dX10_seed_13 : decode cX10_seed 13 = .ok (.iload_n 1, 1) := by decide +kernel
theorem dX10_seed_14 : decode cX10_seed 14 = .ok (.putfield 63, 3) := by decide +kernel
theorem dX10_seed_17 : decode cX10_seed 17 = .ok (.iload_n 2, 1) := by decide +kernel
theorem dX10_seed_18 : decode cX10_seed 18 = .ok (.ireturn, 1) := by decide +kernel
theorem dX10_keep_0 : decode cX10_keep 0 = .ok (.iload_n 1, 1) := by decide +kernel
theorem dX10_keep_1 : decode cX10_keep 1 = .ok (.ifCond .lt 8, 3) := by decide +kernel
theorem dX10_keep_4 : decode cX10_keep 4 = .ok (.iload_n 1, 1) := by decide +kernel
theorem dX10_keep_5 : decode cX10_keep 5 = .ok (.iconst 2, 1) := by decide +kernel
theorem dX10_keep_6 : decode cX10_keep 6 = .ok (.if_icmp .lt 6, 3) := by decide +kernel
theorem dX10_keep_9 : decode cX10_keep 9 = .ok (.ldc 146, 2) := by decide +kernel
theorem dX10_keep_11 : decode cX10_keep 11 = .ok (.ireturn, 1) := by decide +kernel
theorem dX10_keep_12 : decode cX10_keep 12 = .ok (.aload_n 0, 1) := by decide +kernel
theorem dX10_keep_13 : decode cX10_keep 13 = .ok (.getfield 46, 3) := by decide +kernel
theorem dX10_keep_16 : decode cX10_keep 16 = .ok (.iload_n 1, 1) := by decide +kernel
theorem dX10_keep_17 : decode cX10_keep 17 = .ok (.aaload, 1) := by decide +kernel
theorem dX10_keep_18 : decode cX10_keep 18 = .ok (.aload_n 0, 1) := by decide +kernel
theorem dX10_keep_19 : decode cX10_keep 19 = .ok (.getfield 10, 3) := by decide +kernel
theorem dX10_keep_22 : decode cX10_keep 22 = .ok (.aload_n 0, 1) := by decide +kernel
theorem dX10_keep_23 : decode cX10_keep 23 = .ok (.getfield 63, 3) := by decide +kernel
theorem dX10_keep_26 : decode cX10_keep 26 = .ok (.invokevirtual 273, 3) := by decide +kernel
theorem dX10_keep_29 : decode cX10_keep 29 = .ok (.aload_n 0, 1) := by decide +kernel
theorem dX10_keep_30 : decode cX10_keep 30 = .ok (.getfield 19, 3) := by decide +kernel
theorem dX10_keep_33 : decode cX10_keep 33 = .ok (.invokevirtual 277, 3) := by decide +kernel
theorem dX10_keep_36 : decode cX10_keep 36 = .ok (.iconst 1, 1) := by decide +kernel
theorem dX10_keep_37 : decode cX10_keep 37 = .ok (.ireturn, 1) := by decide +kernel
theorem dX10_goBack_0 : decode cX10_goBack 0 = .ok (.iload_n 1, 1) := by decide +kernel
theorem dX10_goBack_1 : decode cX10_goBack 1 = .ok (.ifCond .lt 8, 3) := by decide +kernel
theorem dX10_goBack_4 : decode cX10_goBack 4 = .ok (.iload_n 1, 1) := by decide +kernel
theorem dX10_goBack_5 : decode cX10_goBack 5 = .ok (.iconst 2, 1) := by decide +kernel
theorem dX10_goBack_6 : decode cX10_goBack 6 = .ok (.if_icmp .lt 6, 3) := by decide +kernel
theorem dX10_goBack_9 : decode cX10_goBack 9 = .ok (.ldc 146, 2) := by decide +kernel
theorem dX10_goBack_11 : decode cX10_goBack 11 = .ok (.ireturn, 1) := by decide +kernel
theorem dX10_goBack_12 : decode cX10_goBack 12 = .ok (.aload_n 0, 1) := by decide +kernel
theorem dX10_goBack_13 : decode cX10_goBack 13 = .ok (.getfield 46, 3) := by decide +kernel
theorem dX10_goBack_16 : decode cX10_goBack 16 = .ok (.iload_n 1, 1) := by decide +kernel
theorem dX10_goBack_17 : decode cX10_goBack 17 = .ok (.aaload, 1) := by decide +kernel
theorem dX10_goBack_18 : decode cX10_goBack 18 = .ok (.invokevirtual 280, 3) := by decide +kernel
theorem dX10_goBack_21 : decode cX10_goBack 21 = .ok (.ifCond .ne 6, 3) := by decide +kernel
theorem dX10_goBack_24 : decode cX10_goBack 24 = .ok (.ldc 106, 2) := by decide +kernel
theorem dX10_goBack_26 : decode cX10_goBack 26 = .ok (.ireturn, 1) := by decide +kernel
theorem dX10_goBack_27 : decode cX10_goBack 27 = .ok (.aload_n 0, 1) := by decide +kernel
theorem dX10_goBack_28 : decode cX10_goBack 28 = .ok (.getfield 10, 3) := by decide +kernel
theorem dX10_goBack_31 : decode cX10_goBack 31 = .ok (.aload_n 0, 1) := by decide +kernel
theorem dX10_goBack_32 : decode cX10_goBack 32 = .ok (.getfield 46, 3) := by decide +kernel
theorem dX10_goBack_35 : decode cX10_goBack 35 = .ok (.iload_n 1, 1) := by decide +kernel
theorem dX10_goBack_36 : decode cX10_goBack 36 = .ok (.aaload, 1) := by decide +kernel
theorem dX10_goBack_37 : decode cX10_goBack 37 = .ok (.invokevirtual 283, 3) := by decide +kernel
theorem dX10_goBack_40 : decode cX10_goBack 40 = .ok (.invokevirtual 286, 3) := by decide +kernel
theorem dX10_goBack_43 : decode cX10_goBack 43 = .ok (.aload_n 0, 1) := by decide +kernel
theorem dX10_goBack_44 : decode cX10_goBack 44 = .ok (.aload_n 0, 1) := by decide +kernel
theorem dX10_goBack_45 : decode cX10_goBack 45 = .ok (.getfield 46, 3) := by decide +kernel
theorem dX10_goBack_48 : decode cX10_goBack 48 = .ok (.iload_n 1, 1) := by decide +kernel
theorem dX10_goBack_49 : decode cX10_goBack 49 = .ok (.aaload, 1) := by decide +kernel
theorem dX10_goBack_50 : decode cX10_goBack 50 = .ok (.invokevirtual 289, 3) := by decide +kernel
theorem dX10_goBack_53 : decode cX10_goBack 53 = .ok (.putfield 63, 3) := by decide +kernel
theorem dX10_goBack_56 : decode cX10_goBack 56 = .ok (.aload_n 0, 1) := by decide +kernel
theorem dX10_goBack_57 : decode cX10_goBack 57 = .ok (.getfield 19, 3) := by decide +kernel
theorem dX10_goBack_60 : decode cX10_goBack 60 = .ok (.invokevirtual 277, 3) := by decide +kernel
theorem dX10_goBack_63 : decode cX10_goBack 63 = .ok (.iconst 1, 1) := by decide +kernel
theorem dX10_goBack_64 : decode cX10_goBack 64 = .ok (.ireturn, 1) := by decide +kernel
theorem dX11_init_0 : decode cX11_init 0 = .ok (.aload_n 0, 1) := by decide +kernel
theorem dX11_init_1 : decode cX11_init 1 = .ok (.invokespecial 1, 3) := by decide +kernel
theorem dX11_init_4 : decode cX11_init 4 = .ok (.aload_n 0, 1) := by decide +kernel
theorem dX11_init_5 : decode cX11_init 5 = .ok (.bipush 49, 2) := by decide +kernel
theorem dX11_init_7 : decode cX11_init 7 = .ok (.newarray .int, 2) := by decide +kernel
theorem dX11_init_9 : decode cX11_init 9 = .ok (.putfield 7, 3) := by decide +kernel
theorem dX11_init_12 : decode cX11_init 12 = .ok (.aload_n 0, 1) := by decide +kernel
theorem dX11_init_13 : decode cX11_init 13 = .ok (.sipush 980, 3) := by decide +kernel
theorem dX11_init_16 : decode cX11_init 16 = .ok (.newarray .int, 2) := by decide +kernel
theorem dX11_init_18 : decode cX11_init 18 = .ok (.putfield 13, 3) := by decide +kernel
theorem dX11_init_21 : decode cX11_init 21 = .ok (.aload_n 0, 1) := by decide +kernel
theorem dX11_init_22 : decode cX11_init 22 = .ok (.bipush 100, 2) := by decide +kernel
theorem dX11_init_24 : decode cX11_init 24 = .ok (.newarray .int, 2) := by decide +kernel
theorem dX11_init_26 : decode cX11_init 26 = .ok (.putfield 16, 3) := by decide +kernel
theorem dX11_init_29 : decode cX11_init 29 = .ok (.aload_n 0, 1) := by decide +kernel
theorem dX11_init_30 : decode cX11_init 30 = .ok (.iconst 2, 1) := by decide +kernel
theorem dX11_init_31 : decode cX11_init 31 = .ok (.newarray .boolean, 2) := by decide +kernel
theorem dX11_init_33 : decode cX11_init 33 = .ok (.putfield 19, 3) := by decide +kernel
theorem dX11_init_36 : decode cX11_init 36 = .ok (.aload_n 0, 1) := by decide +kernel
theorem dX11_init_37 : decode cX11_init 37 = .ok (.bipush 60, 2) := by decide +kernel
theorem dX11_init_39 : decode cX11_init 39 = .ok (.newarray .int, 2) := by decide +kernel
theorem dX11_init_41 : decode cX11_init 41 = .ok (.putfield 23, 3) := by decide +kernel
theorem dX11_init_44 : decode cX11_init 44 = .ok (.aload_n 0, 1) := by decide +kernel
theorem dX11_init_45 : decode cX11_init 45 = .ok (.iconst (-1), 1) := by decide +kernel
theorem dX11_init_46 : decode cX11_init 46 = .ok (.putfield 26, 3) := by decide +kernel
theorem dX11_init_49 : decode cX11_init 49 = .ok (.aload_n 0, 1) := by decide +kernel
theorem dX11_init_50 : decode cX11_init 50 = .ok (.bipush 60, 2) := by decide +kernel
theorem dX11_init_52 : decode cX11_init 52 = .ok (.newarray .int, 2) := by decide +kernel
theorem dX11_init_54 : decode cX11_init 54 = .ok (.putfield 30, 3) := by decide +kernel
theorem dX11_init_57 : decode cX11_init 57 = .ok (.aload_n 0, 1) := by decide +kernel
theorem dX11_init_58 : decode cX11_init 58 = .ok (.bipush 64, 2) := by decide +kernel
theorem dX11_init_60 : decode cX11_init 60 = .ok (.newarray .int, 2) := by decide +kernel
theorem dX11_init_62 : decode cX11_init 62 = .ok (.putfield 33, 3) := by decide +kernel
theorem dX11_init_65 : decode cX11_init 65 = .ok (.aload_n 0, 1) := by decide +kernel
theorem dX11_init_66 : decode cX11_init 66 = .ok (.bipush 64, 2) := by decide +kernel
theorem dX11_init_68 : decode cX11_init 68 = .ok (.newarray .int, 2) := by decide +kernel
theorem dX11_init_70 : decode cX11_init 70 = .ok (.putfield 36, 3) := by decide +kernel
theorem dX11_init_73 : decode cX11_init 73 = .ok (.aload_n 0, 1) := by decide +kernel
theorem dX11_init_74 : decode cX11_init 74 = .ok (.bipush 64, 2) := by decide +kernel
theorem dX11_init_76 : decode cX11_init 76 = .ok (.newarray .int, 2) := by decide +kernel
theorem dX11_init_78 : decode cX11_init 78 = .ok (.putfield 39, 3) := by decide +kernel
theorem dX11_init_81 : decode cX11_init 81 = .ok (.aload_n 0, 1) := by decide +kernel
theorem dX11_init_82 : decode cX11_init 82 = .ok (.bipush 64, 2) := by decide +kernel
theorem dX11_init_84 : decode cX11_init 84 = .ok (.newarray .int, 2) := by decide +kernel
theorem dX11_init_86 : decode cX11_init 86 = .ok (.putfield 42, 3) := by decide +kernel
theorem dX11_init_89 : decode cX11_init 89 = .ok (.aload_n 0, 1) := by decide +kernel
theorem dX11_init_90 : decode cX11_init 90 = .ok (.iconst 4, 1) := by decide +kernel
theorem dX11_init_91 : decode cX11_init 91 = .ok (.newarray .long, 2) := by decide +kernel
theorem dX11_init_93 : decode cX11_init 93 = .ok (.putfield 45, 3) := by decide +kernel
theorem dX11_init_96 : decode cX11_init 96 = .ok (.return_, 1) := by decide +kernel
theorem dX11_in_0 : decode cX11_in 0 = .ok (.lload_n 0, 1) := by decide +kernel
theorem dX11_in_1 : decode cX11_in 1 = .ok (.lload_n 2, 1) := by decide +kernel
theorem dX11_in_2 : decode cX11_in 2 = .ok (.lcmp, 1) := by decide +kernel
theorem dX11_in_3 : decode cX11_in 3 = .ok (.ifCond .lt 14, 3) := by decide +kernel
theorem dX11_in_6 : decode cX11_in 6 = .ok (.lload_n 0, 1) := by decide +kernel
theorem dX11_in_7 : decode cX11_in 7 = .ok (.lload 4, 2) := by decide +kernel
theorem dX11_in_9 : decode cX11_in 9 = .ok (.lcmp, 1) := by decide +kernel
theorem dX11_in_10 : decode cX11_in 10 = .ok (.ifCond .gt 7, 3) := by decide +kernel
theorem dX11_in_13 : decode cX11_in 13 = .ok (.iconst 1, 1) := by decide +kernel
theorem dX11_in_14 : decode cX11_in 14 = .ok (.goto 4, 3) := by decide +kernel
theorem dX11_in_17 : decode cX11_in 17 = .ok (.iconst 0, 1) := by decide +kernel
theorem dX11_in_18 : decode cX11_in 18 = .ok (.ireturn, 1) := by decide +kernel
theorem dX11_isBound_0 : decode cX11_isBound 0 = .ok (.lload_n 0, 1) := by decide +kernel
theorem dX11_isBound_1 : decode cX11_isBound 1 = .ok (.ldc2_w 49, 3) := by decide +kernel
theorem dX11_isBound_4 : decode cX11_isBound 4 = .ok (.ldc2_w 51, 3) := by decide +kernel
theorem dX11_isBound_7 : decode cX11_isBound 7 = .ok (.invokestatic 53, 3) := by decide +kernel
theorem dX11_isBound_10 : decode cX11_isBound 10 = .ok (.ireturn, 1) := by decide +kernel
theorem dX11_bits_0 : decode cX11_bits 0 = .ok (.iconst 0, 1) := by decide +kernel
theorem dX11_bits_1 : decode cX11_bits 1 = .ok (.istore_n 1, 1) := by decide +kernel
theorem dX11_bits_2 : decode cX11_bits 2 = .ok (.iload_n 0, 1) := by decide +kernel
theorem dX11_bits_3 : decode cX11_bits 3 = .ok (.istore_n 2, 1) := by decide +kernel
theorem dX11_bits_4 : decode cX11_bits 4 = .ok (.iload_n 2, 1) := by decide +kernel
theorem dX11_bits_5 : decode cX11_bits 5 = .ok (.ifCond .eq 15, 3) := by decide +kernel
theorem dX11_bits_8 : decode cX11_bits 8 = .ok (.iinc 1 1, 3) := by decide +kernel
theorem dX11_bits_11 : decode cX11_bits 11 = .ok (.iload_n 2, 1) := by decide +kernel
theorem dX11_bits_12 : decode cX11_bits 12 = .ok (.iload_n 2, 1) := by decide +kernel
theorem dX11_bits_13 : decode cX11_bits 13 = .ok (.iconst 1, 1) := by decide +kernel
theorem dX11_bits_14 : decode cX11_bits 14 = .ok (.isub, 1) := by decide +kernel
theorem dX11_bits_15 : decode cX11_bits 15 = .ok (.iand, 1) := by decide +kernel
theorem dX11_bits_16 : decode cX11_bits 16 = .ok (.istore_n 2, 1) := by decide +kernel
theorem dX11_bits_17 : decode cX11_bits 17 = .ok (.goto (-13), 3) := by decide +kernel
theorem dX11_bits_20 : decode cX11_bits 20 = .ok (.iload_n 1, 1) := by decide +kernel
theorem dX11_bits_21 : decode cX11_bits 21 = .ok (.ireturn, 1) := by decide +kernel
theorem dX11_takes_0 : decode cX11_takes 0 = .ok (.aload_n 0, 1) := by decide +kernel
theorem dX11_takes_1 : decode cX11_takes 1 = .ok (.lload_n 1, 1) := by decide +kernel
theorem dX11_takes_2 : decode cX11_takes 2 = .ok (.putfield 57, 3) := by decide +kernel
theorem dX11_takes_5 : decode cX11_takes 5 = .ok (.aload_n 0, 1) := by decide +kernel
theorem dX11_takes_6 : decode cX11_takes 6 = .ok (.lload_n 3, 1) := by decide +kernel
theorem dX11_takes_7 : decode cX11_takes 7 = .ok (.putfield 61, 3) := by decide +kernel
theorem dX11_takes_10 : decode cX11_takes 10 = .ok (.aload_n 0, 1) := by decide +kernel
theorem dX11_takes_11 : decode cX11_takes 11 = .ok (.lload 5, 2) := by decide +kernel
theorem dX11_takes_13 : decode cX11_takes 13 = .ok (.putfield 64, 3) := by decide +kernel
theorem dX11_takes_16 : decode cX11_takes 16 = .ok (.aload_n 0, 1) := by decide +kernel
theorem dX11_takes_17 : decode cX11_takes 17 = .ok (.lload 7, 2) := by decide +kernel
theorem dX11_takes_19 : decode cX11_takes 19 = .ok (.putfield 67, 3) := by decide +kernel
theorem dX11_takes_22 : decode cX11_takes 22 = .ok (.return_, 1) := by decide +kernel
theorem dX11_takesFrom_0 : decode cX11_takesFrom 0 = .ok (.aload_n 0, 1) := by decide +kernel
theorem dX11_takesFrom_1 : decode cX11_takesFrom 1 = .ok (.aload_n 0, 1) := by decide +kernel
theorem dX11_takesFrom_2 : decode cX11_takesFrom 2 = .ok (.getfield 7, 3) := by decide +kernel
theorem dX11_takesFrom_5 : decode cX11_takesFrom 5 = .ok (.iconst 1, 1) := by decide +kernel
theorem dX11_takesFrom_6 : decode cX11_takesFrom 6 = .ok (.iconst 4, 1) := by decide +kernel
theorem dX11_takesFrom_7 : decode cX11_takesFrom 7 = .ok (.iload_n 1, 1) := by decide +kernel
theorem dX11_takesFrom_8 : decode cX11_takesFrom 8 = .ok (.imul, 1) := by decide +kernel
theorem dX11_takesFrom_9 : decode cX11_takesFrom 9 = .ok (.iadd, 1) := by decide +kernel
theorem dX11_takesFrom_10 : decode cX11_takesFrom 10 = .ok (.iaload, 1) := by decide +kernel
theorem dX11_takesFrom_11 : decode cX11_takesFrom 11 = .ok (.i2l, 1) := by decide +kernel
theorem dX11_takesFrom_12 : decode cX11_takesFrom 12 = .ok (.aload_n 0, 1) := by decide +kernel
theorem dX11_takesFrom_13 : decode cX11_takesFrom 13 = .ok (.getfield 7, 3) := by decide +kernel
theorem dX11_takesFrom_16 : decode cX11_takesFrom 16 = .ok (.iconst 2, 1) := by decide +kernel
theorem dX11_takesFrom_17 : decode cX11_takesFrom 17 = .ok (.iconst 4, 1) := by decide +kernel
theorem dX11_takesFrom_18 : decode cX11_takesFrom 18 = .ok (.iload_n 1, 1) := by decide +kernel
theorem dX11_takesFrom_19 : decode cX11_takesFrom 19 = .ok (.imul, 1) := by decide +kernel
theorem dX11_takesFrom_20 : decode cX11_takesFrom 20 = .ok (.iadd, 1) := by decide +kernel
theorem dX11_takesFrom_21 : decode cX11_takesFrom 21 = .ok (.iaload, 1) := by decide +kernel
theorem dX11_takesFrom_22 : decode cX11_takesFrom 22 = .ok (.i2l, 1) := by decide +kernel
theorem dX11_takesFrom_23 : decode cX11_takesFrom 23 = .ok (.aload_n 0, 1) := by decide +kernel
theorem dX11_takesFrom_24 : decode cX11_takesFrom 24 = .ok (.getfield 7, 3) := by decide +kernel
theorem dX11_takesFrom_27 : decode cX11_takesFrom 27 = .ok (.iconst 3, 1) := by decide +kernel
theorem dX11_takesFrom_28 : decode cX11_takesFrom 28 = .ok (.iconst 4, 1) := by decide +kernel
theorem dX11_takesFrom_29 : decode cX11_takesFrom 29 = .ok (.iload_n 1, 1) := by decide +kernel
theorem dX11_takesFrom_30 : decode cX11_takesFrom 30 = .ok (.imul, 1) := by decide +kernel
theorem dX11_takesFrom_31 : decode cX11_takesFrom 31 = .ok (.iadd, 1) := by decide +kernel
theorem dX11_takesFrom_32 : decode cX11_takesFrom 32 = .ok (.iaload, 1) := by decide +kernel
theorem dX11_takesFrom_33 : decode cX11_takesFrom 33 = .ok (.i2l, 1) := by decide +kernel
theorem dX11_takesFrom_34 : decode cX11_takesFrom 34 = .ok (.aload_n 0, 1) := by decide +kernel
theorem dX11_takesFrom_35 : decode cX11_takesFrom 35 = .ok (.getfield 7, 3) := by decide +kernel
theorem dX11_takesFrom_38 : decode cX11_takesFrom 38 = .ok (.iconst 4, 1) := by decide +kernel
theorem dX11_takesFrom_39 : decode cX11_takesFrom 39 = .ok (.iconst 4, 1) := by decide +kernel
theorem dX11_takesFrom_40 : decode cX11_takesFrom 40 = .ok (.iload_n 1, 1) := by decide +kernel
theorem dX11_takesFrom_41 : decode cX11_takesFrom 41 = .ok (.imul, 1) := by decide +kernel
theorem dX11_takesFrom_42 : decode cX11_takesFrom 42 = .ok (.iadd, 1) := by decide +kernel
theorem dX11_takesFrom_43 : decode cX11_takesFrom 43 = .ok (.iaload, 1) := by decide +kernel
theorem dX11_takesFrom_44 : decode cX11_takesFrom 44 = .ok (.i2l, 1) := by decide +kernel
theorem dX11_takesFrom_45 : decode cX11_takesFrom 45 = .ok (.invokevirtual 70, 3) := by decide +kernel
theorem dX11_takesFrom_48 : decode cX11_takesFrom 48 = .ok (.return_, 1) := by decide +kernel
theorem dX11_multiplies_0 : decode cX11_multiplies 0 = .ok (.aload_n 0, 1) := by decide +kernel
theorem dX11_multiplies_1 : decode cX11_multiplies 1 = .ok (.aload_n 0, 1) := by decide +kernel
theorem dX11_multiplies_2 : decode cX11_multiplies 2 = .ok (.getfield 57, 3) := by decide +kernel
theorem dX11_multiplies_5 : decode cX11_multiplies 5 = .ok (.lload_n 1, 1) := by decide +kernel
theorem dX11_multiplies_6 : decode cX11_multiplies 6 = .ok (.lmul, 1) := by decide +kernel
theorem dX11_multiplies_7 : decode cX11_multiplies 7 = .ok (.aload_n 0, 1) := by decide +kernel
theorem dX11_multiplies_8 : decode cX11_multiplies 8 = .ok (.getfield 61, 3) := by decide +kernel
theorem dX11_multiplies_11 : decode cX11_multiplies 11 = .ok (.lload 5, 2) := by decide +kernel
theorem dX11_multiplies_13 : decode cX11_multiplies 13 = .ok (.lmul, 1) := by decide +kernel
theorem dX11_multiplies_14 : decode cX11_multiplies 14 = .ok (.ladd, 1) := by decide +kernel
theorem dX11_multiplies_15 : decode cX11_multiplies 15 = .ok (.aload_n 0, 1) := by decide +kernel
theorem dX11_multiplies_16 : decode cX11_multiplies 16 = .ok (.getfield 57, 3) := by decide +kernel
theorem dX11_multiplies_19 : decode cX11_multiplies 19 = .ok (.lload_n 3, 1) := by decide +kernel
theorem dX11_multiplies_20 : decode cX11_multiplies 20 = .ok (.lmul, 1) := by decide +kernel
theorem dX11_multiplies_21 : decode cX11_multiplies 21 = .ok (.aload_n 0, 1) := by decide +kernel
theorem dX11_multiplies_22 : decode cX11_multiplies 22 = .ok (.getfield 61, 3) := by decide +kernel
theorem dX11_multiplies_25 : decode cX11_multiplies 25 = .ok (.lload 7, 2) := by decide +kernel
theorem dX11_multiplies_27 : decode cX11_multiplies 27 = .ok (.lmul, 1) := by decide +kernel
theorem dX11_multiplies_28 : decode cX11_multiplies 28 = .ok (.ladd, 1) := by decide +kernel
theorem dX11_multiplies_29 : decode cX11_multiplies 29 = .ok (.aload_n 0, 1) := by decide +kernel
theorem dX11_multiplies_30 : decode cX11_multiplies 30 = .ok (.getfield 64, 3) := by decide +kernel
theorem dX11_multiplies_33 : decode cX11_multiplies 33 = .ok (.lload_n 1, 1) := by decide +kernel
theorem dX11_multiplies_34 : decode cX11_multiplies 34 = .ok (.lmul, 1) := by decide +kernel
theorem dX11_multiplies_35 : decode cX11_multiplies 35 = .ok (.aload_n 0, 1) := by decide +kernel
theorem dX11_multiplies_36 : decode cX11_multiplies 36 = .ok (.getfield 67, 3) := by decide +kernel
theorem dX11_multiplies_39 : decode cX11_multiplies 39 = .ok (.lload 5, 2) := by decide +kernel
theorem dX11_multiplies_41 : decode cX11_multiplies 41 = .ok (.lmul, 1) := by decide +kernel
theorem dX11_multiplies_42 : decode cX11_multiplies 42 = .ok (.ladd, 1) := by decide +kernel
theorem dX11_multiplies_43 : decode cX11_multiplies 43 = .ok (.aload_n 0, 1) := by decide +kernel
theorem dX11_multiplies_44 : decode cX11_multiplies 44 = .ok (.getfield 64, 3) := by decide +kernel
theorem dX11_multiplies_47 : decode cX11_multiplies 47 = .ok (.lload_n 3, 1) := by decide +kernel
theorem dX11_multiplies_48 : decode cX11_multiplies 48 = .ok (.lmul, 1) := by decide +kernel
theorem dX11_multiplies_49 : decode cX11_multiplies 49 = .ok (.aload_n 0, 1) := by decide +kernel
theorem dX11_multiplies_50 : decode cX11_multiplies 50 = .ok (.getfield 67, 3) := by decide +kernel
theorem dX11_multiplies_53 : decode cX11_multiplies 53 = .ok (.lload 7, 2) := by decide +kernel
theorem dX11_multiplies_55 : decode cX11_multiplies 55 = .ok (.lmul, 1) := by decide +kernel
theorem dX11_multiplies_56 : decode cX11_multiplies 56 = .ok (.ladd, 1) := by decide +kernel
theorem dX11_multiplies_57 : decode cX11_multiplies 57 = .ok (.invokevirtual 70, 3) := by decide +kernel
theorem dX11_multiplies_60 : decode cX11_multiplies 60 = .ok (.return_, 1) := by decide +kernel
theorem dX11_isWell_0 : decode cX11_isWell 0 = .ok (.aload_n 0, 1) := by decide +kernel
theorem dX11_isWell_1 : decode cX11_isWell 1 = .ok (.getfield 57, 3) := by decide +kernel
theorem dX11_isWell_4 : decode cX11_isWell 4 = .ok (.invokestatic 74, 3) := by decide +kernel
theorem dX11_isWell_7 : decode cX11_isWell 7 = .ok (.ifCond .eq 37, 3) := by decide +kernel
theorem dX11_isWell_10 : decode cX11_isWell 10 = .ok (.aload_n 0, 1) := by decide +kernel
theorem dX11_isWell_11 : decode cX11_isWell 11 = .ok (.getfield 61, 3) := by decide +kernel
theorem dX11_isWell_14 : decode cX11_isWell 14 = .ok (.invokestatic 74, 3) := by decide +kernel
theorem dX11_isWell_17 : decode cX11_isWell 17 = .ok (.ifCond .eq 27, 3) := by decide +kernel
theorem dX11_isWell_20 : decode cX11_isWell 20 = .ok (.aload_n 0, 1) := by decide +kernel
theorem dX11_isWell_21 : decode cX11_isWell 21 = .ok (.getfield 64, 3) := by decide +kernel
theorem dX11_isWell_24 : decode cX11_isWell 24 = .ok (.invokestatic 74, 3) := by decide +kernel
theorem dX11_isWell_27 : decode cX11_isWell 27 = .ok (.ifCond .eq 17, 3) := by decide +kernel
theorem dX11_isWell_30 : decode cX11_isWell 30 = .ok (.aload_n 0, 1) := by decide +kernel
theorem dX11_isWell_31 : decode cX11_isWell 31 = .ok (.getfield 67, 3) := by decide +kernel
theorem dX11_isWell_34 : decode cX11_isWell 34 = .ok (.invokestatic 74, 3) := by decide +kernel
theorem dX11_isWell_37 : decode cX11_isWell 37 = .ok (.ifCond .eq 7, 3) := by decide +kernel
theorem dX11_isWell_40 : decode cX11_isWell 40 = .ok (.iconst 1, 1) := by decide +kernel
theorem dX11_isWell_41 : decode cX11_isWell 41 = .ok (.goto 4, 3) := by decide +kernel
theorem dX11_isWell_44 : decode cX11_isWell 44 = .ok (.iconst 0, 1) := by decide +kernel
theorem dX11_isWell_45 : decode cX11_isWell 45 = .ok (.ireturn, 1) := by decide +kernel
theorem dX11_isAt_0 : decode cX11_isAt 0 = .ok (.aload_n 0, 1) := by decide +kernel
theorem dX11_isAt_1 : decode cX11_isAt 1 = .ok (.getfield 57, 3) := by decide +kernel
theorem dX11_isAt_4 : decode cX11_isAt 4 = .ok (.aload_n 0, 1) := by decide +kernel
theorem dX11_isAt_5 : decode cX11_isAt 5 = .ok (.getfield 7, 3) := by decide +kernel
theorem dX11_isAt_8 : decode cX11_isAt 8 = .ok (.iconst 1, 1) := by decide +kernel
theorem dX11_isAt_9 : decode cX11_isAt 9 = .ok (.iconst 4, 1) := by decide +kernel
theorem dX11_isAt_10 : decode cX11_isAt 10 = .ok (.iload_n 1, 1) := by decide +kernel
theorem dX11_isAt_11 : decode cX11_isAt 11 = .ok (.imul, 1) := by decide +kernel
theorem dX11_isAt_12 : decode cX11_isAt 12 = .ok (.iadd, 1) := by decide +kernel
theorem dX11_isAt_13 : decode cX11_isAt 13 = .ok (.iaload, 1) := by decide +kernel
theorem dX11_isAt_14 : decode cX11_isAt 14 = .ok (.i2l, 1) := by decide +kernel
theorem dX11_isAt_15 : decode cX11_isAt 15 = .ok (.lcmp, 1) := by decide +kernel
theorem dX11_isAt_16 : decode cX11_isAt 16 = .ok (.ifCond .ne 64, 3) := by decide +kernel
theorem dX11_isAt_19 : decode cX11_isAt 19 = .ok (.aload_n 0, 1) := by decide +kernel
theorem dX11_isAt_20 : decode cX11_isAt 20 = .ok (.getfield 61, 3) := by decide +kernel
theorem dX11_isAt_23 : decode cX11_isAt 23 = .ok (.aload_n 0, 1) := by decide +kernel
theorem dX11_isAt_24 : decode cX11_isAt 24 = .ok (.getfield 7, 3) := by decide +kernel
theorem dX11_isAt_27 : decode cX11_isAt 27 = .ok (.iconst 2, 1) := by decide +kernel
theorem dX11_isAt_28 : decode cX11_isAt 28 = .ok (.iconst 4, 1) := by decide +kernel
theorem dX11_isAt_29 : decode cX11_isAt 29 = .ok (.iload_n 1, 1) := by decide +kernel
theorem dX11_isAt_30 : decode cX11_isAt 30 = .ok (.imul, 1) := by decide +kernel
theorem dX11_isAt_31 : decode cX11_isAt 31 = .ok (.iadd, 1) := by decide +kernel
theorem dX11_isAt_32 : decode cX11_isAt 32 = .ok (.iaload, 1) := by decide +kernel
theorem dX11_isAt_33 : decode cX11_isAt 33 = .ok (.i2l, 1) := by decide +kernel
theorem dX11_isAt_34 : decode cX11_isAt 34 = .ok (.lcmp, 1) := by decide +kernel
theorem dX11_isAt_35 : decode cX11_isAt 35 = .ok (.ifCond .ne 45, 3) := by decide +kernel
theorem dX11_isAt_38 : decode cX11_isAt 38 = .ok (.aload_n 0, 1) := by decide +kernel
theorem dX11_isAt_39 : decode cX11_isAt 39 = .ok (.getfield 64, 3) := by decide +kernel
theorem dX11_isAt_42 : decode cX11_isAt 42 = .ok (.aload_n 0, 1) := by decide +kernel
theorem dX11_isAt_43 : decode cX11_isAt 43 = .ok (.getfield 7, 3) := by decide +kernel
theorem dX11_isAt_46 : decode cX11_isAt 46 = .ok (.iconst 3, 1) := by decide +kernel
theorem dX11_isAt_47 : decode cX11_isAt 47 = .ok (.iconst 4, 1) := by decide +kernel
theorem dX11_isAt_48 : decode cX11_isAt 48 = .ok (.iload_n 1, 1) := by decide +kernel
theorem dX11_isAt_49 : decode cX11_isAt 49 = .ok (.imul, 1) := by decide +kernel
theorem dX11_isAt_50 : decode cX11_isAt 50 = .ok (.iadd, 1) := by decide +kernel
theorem dX11_isAt_51 : decode cX11_isAt 51 = .ok (.iaload, 1) := by decide +kernel
theorem dX11_isAt_52 : decode cX11_isAt 52 = .ok (.i2l, 1) := by decide +kernel
theorem dX11_isAt_53 : decode cX11_isAt 53 = .ok (.lcmp, 1) := by decide +kernel
theorem dX11_isAt_54 : decode cX11_isAt 54 = .ok (.ifCond .ne 26, 3) := by decide +kernel
theorem dX11_isAt_57 : decode cX11_isAt 57 = .ok (.aload_n 0, 1) := by decide +kernel
theorem dX11_isAt_58 : decode cX11_isAt 58 = .ok (.getfield 67, 3) := by decide +kernel
theorem dX11_isAt_61 : decode cX11_isAt 61 = .ok (.aload_n 0, 1) := by decide +kernel
theorem dX11_isAt_62 : decode cX11_isAt 62 = .ok (.getfield 7, 3) := by decide +kernel
theorem dX11_isAt_65 : decode cX11_isAt 65 = .ok (.iconst 4, 1) := by decide +kernel
theorem dX11_isAt_66 : decode cX11_isAt 66 = .ok (.iconst 4, 1) := by decide +kernel
theorem dX11_isAt_67 : decode cX11_isAt 67 = .ok (.iload_n 1, 1) := by decide +kernel
theorem dX11_isAt_68 : decode cX11_isAt 68 = .ok (.imul, 1) := by decide +kernel
theorem dX11_isAt_69 : decode cX11_isAt 69 = .ok (.iadd, 1) := by decide +kernel
theorem dX11_isAt_70 : decode cX11_isAt 70 = .ok (.iaload, 1) := by decide +kernel
theorem dX11_isAt_71 : decode cX11_isAt 71 = .ok (.i2l, 1) := by decide +kernel
theorem dX11_isAt_72 : decode cX11_isAt 72 = .ok (.lcmp, 1) := by decide +kernel
theorem dX11_isAt_73 : decode cX11_isAt 73 = .ok (.ifCond .ne 7, 3) := by decide +kernel
theorem dX11_isAt_76 : decode cX11_isAt 76 = .ok (.iconst 1, 1) := by decide +kernel
theorem dX11_isAt_77 : decode cX11_isAt 77 = .ok (.goto 4, 3) := by decide +kernel
theorem dX11_isAt_80 : decode cX11_isAt 80 = .ok (.iconst 0, 1) := by decide +kernel
theorem dX11_isAt_81 : decode cX11_isAt 81 = .ok (.ireturn, 1) := by decide +kernel
theorem dX11_laysAt_0 : decode cX11_laysAt 0 = .ok (.aload_n 0, 1) := by decide +kernel
theorem dX11_laysAt_1 : decode cX11_laysAt 1 = .ok (.getfield 7, 3) := by decide +kernel
theorem dX11_laysAt_4 : decode cX11_laysAt 4 = .ok (.iconst 1, 1) := by decide +kernel
theorem dX11_laysAt_5 : decode cX11_laysAt 5 = .ok (.iconst 4, 1) := by decide +kernel
theorem dX11_laysAt_6 : decode cX11_laysAt 6 = .ok (.iload_n 1, 1) := by decide +kernel
theorem dX11_laysAt_7 : decode cX11_laysAt 7 = .ok (.imul, 1) := by decide +kernel
theorem dX11_laysAt_8 : decode cX11_laysAt 8 = .ok (.iadd, 1) := by decide +kernel
theorem dX11_laysAt_9 : decode cX11_laysAt 9 = .ok (.aload_n 0, 1) := by decide +kernel
theorem dX11_laysAt_10 : decode cX11_laysAt 10 = .ok (.getfield 57, 3) := by decide +kernel
theorem dX11_laysAt_13 : decode cX11_laysAt 13 = .ok (.l2i, 1) := by decide +kernel
theorem dX11_laysAt_14 : decode cX11_laysAt 14 = .ok (.iastore, 1) := by decide +kernel
theorem dX11_laysAt_15 : decode cX11_laysAt 15 = .ok (.aload_n 0, 1) := by decide +kernel
theorem dX11_laysAt_16 : decode cX11_laysAt 16 = .ok (.getfield 7, 3) := by decide +kernel
theorem dX11_laysAt_19 : decode cX11_laysAt 19 = .ok (.iconst 2, 1) := by decide +kernel
theorem dX11_laysAt_20 : decode cX11_laysAt 20 = .ok (.iconst 4, 1) := by decide +kernel
theorem dX11_laysAt_21 : decode cX11_laysAt 21 = .ok (.iload_n 1, 1) := by decide +kernel
theorem dX11_laysAt_22 : decode cX11_laysAt 22 = .ok (.imul, 1) := by decide +kernel
theorem dX11_laysAt_23 : decode cX11_laysAt 23 = .ok (.iadd, 1) := by decide +kernel
theorem dX11_laysAt_24 : decode cX11_laysAt 24 = .ok (.aload_n 0, 1) := by decide +kernel
theorem dX11_laysAt_25 : decode cX11_laysAt 25 = .ok (.getfield 61, 3) := by decide +kernel
theorem dX11_laysAt_28 : decode cX11_laysAt 28 = .ok (.l2i, 1) := by decide +kernel
theorem dX11_laysAt_29 : decode cX11_laysAt 29 = .ok (.iastore, 1) := by decide +kernel
theorem dX11_laysAt_30 : decode cX11_laysAt 30 = .ok (.aload_n 0, 1) := by decide +kernel
theorem dX11_laysAt_31 : decode cX11_laysAt 31 = .ok (.getfield 7, 3) := by decide +kernel
theorem dX11_laysAt_34 : decode cX11_laysAt 34 = .ok (.iconst 3, 1) := by decide +kernel
theorem dX11_laysAt_35 : decode cX11_laysAt 35 = .ok (.iconst 4, 1) := by decide +kernel
theorem dX11_laysAt_36 : decode cX11_laysAt 36 = .ok (.iload_n 1, 1) := by decide +kernel
theorem dX11_laysAt_37 : decode cX11_laysAt 37 = .ok (.imul, 1) := by decide +kernel
theorem dX11_laysAt_38 : decode cX11_laysAt 38 = .ok (.iadd, 1) := by decide +kernel
theorem dX11_laysAt_39 : decode cX11_laysAt 39 = .ok (.aload_n 0, 1) := by decide +kernel
theorem dX11_laysAt_40 : decode cX11_laysAt 40 = .ok (.getfield 64, 3) := by decide +kernel
theorem dX11_laysAt_43 : decode cX11_laysAt 43 = .ok (.l2i, 1) := by decide +kernel
theorem dX11_laysAt_44 : decode cX11_laysAt 44 = .ok (.iastore, 1) := by decide +kernel
theorem dX11_laysAt_45 : decode cX11_laysAt 45 = .ok (.aload_n 0, 1) := by decide +kernel
theorem dX11_laysAt_46 : decode cX11_laysAt 46 = .ok (.getfield 7, 3) := by decide +kernel
theorem dX11_laysAt_49 : decode cX11_laysAt 49 = .ok (.iconst 4, 1) := by decide +kernel
theorem dX11_laysAt_50 : decode cX11_laysAt 50 = .ok (.iconst 4, 1) := by decide +kernel
theorem dX11_laysAt_51 : decode cX11_laysAt 51 = .ok (.iload_n 1, 1) := by decide +kernel
theorem dX11_laysAt_52 : decode cX11_laysAt 52 = .ok (.imul, 1) := by decide +kernel
theorem dX11_laysAt_53 : decode cX11_laysAt 53 = .ok (.iadd, 1) := by decide +kernel
theorem dX11_laysAt_54 : decode cX11_laysAt 54 = .ok (.aload_n 0, 1) := by decide +kernel
theorem dX11_laysAt_55 : decode cX11_laysAt 55 = .ok (.getfield 67, 3) := by decide +kernel
theorem dX11_laysAt_58 : decode cX11_laysAt 58 = .ok (.l2i, 1) := by decide +kernel
theorem dX11_laysAt_59 : decode cX11_laysAt 59 = .ok (.iastore, 1) := by decide +kernel
theorem dX11_laysAt_60 : decode cX11_laysAt 60 = .ok (.return_, 1) := by decide +kernel
theorem dX11_comes_0 : decode cX11_comes 0 = .ok (.iload_n 1, 1) := by decide +kernel
theorem dX11_comes_1 : decode cX11_comes 1 = .ok (.tableswitch 96 0 4 #[35, 46, 57, 70, 83], 35) := by decide +kernel
theorem dX11_comes_36 : decode cX11_comes 36 = .ok (.aload_n 0, 1) := by decide +kernel
theorem dX11_comes_37 : decode cX11_comes 37 = .ok (.lconst 1, 1) := by decide +kernel
theorem dX11_comes_38 : decode cX11_comes 38 = .ok (.lconst 1, 1) := by decide +kernel
theorem dX11_comes_39 : decode cX11_comes 39 = .ok (.lconst 0, 1) := by decide +kernel
theorem dX11_comes_40 : decode cX11_comes 40 = .ok (.lconst 1, 1) := by decide +kernel
theorem dX11_comes_41 : decode cX11_comes 41 = .ok (.invokevirtual 78, 3) := by decide +kernel
theorem dX11_comes_44 : decode cX11_comes 44 = .ok (.goto 63, 3) := by decide +kernel
theorem dX11_comes_47 : decode cX11_comes 47 = .ok (.aload_n 0, 1) := by decide +kernel
theorem dX11_comes_48 : decode cX11_comes 48 = .ok (.lconst 1, 1) := by decide +kernel
theorem dX11_comes_49 : decode cX11_comes 49 = .ok (.lconst 0, 1) := by decide +kernel
theorem dX11_comes_50 : decode cX11_comes 50 = .ok (.lconst 1, 1) := by decide +kernel
theorem dX11_comes_51 : decode cX11_comes 51 = .ok (.lconst 1, 1) := by decide +kernel
theorem dX11_comes_52 : decode cX11_comes 52 = .ok (.invokevirtual 78, 3) := by decide +kernel
theorem dX11_comes_55 : decode cX11_comes 55 = .ok (.goto 52, 3) := by decide +kernel
theorem dX11_comes_58 : decode cX11_comes 58 = .ok (.aload_n 0, 1) := by decide +kernel
theorem dX11_comes_59 : decode cX11_comes 59 = .ok (.lconst 1, 1) := by decide +kernel
theorem dX11_comes_60 : decode cX11_comes 60 = .ok (.ldc2_w 81, 3) := by decide +kernel
theorem dX11_comes_63 : decode cX11_comes 63 = .ok (.lconst 0, 1) := by decide +kernel
theorem dX11_comes_64 : decode cX11_comes 64 = .ok (.lconst 1, 1) := by decide +kernel
theorem dX11_comes_65 : decode cX11_comes 65 = .ok (.invokevirtual 78, 3) := by decide +kernel
theorem dX11_comes_68 : decode cX11_comes 68 = .ok (.goto 39, 3) := by decide +kernel
theorem dX11_comes_71 : decode cX11_comes 71 = .ok (.aload_n 0, 1) := by decide +kernel
theorem dX11_comes_72 : decode cX11_comes 72 = .ok (.lconst 1, 1) := by decide +kernel
theorem dX11_comes_73 : decode cX11_comes 73 = .ok (.lconst 0, 1) := by decide +kernel
theorem dX11_comes_74 : decode cX11_comes 74 = .ok (.ldc2_w 81, 3) := by decide +kernel
theorem dX11_comes_77 : decode cX11_comes 77 = .ok (.lconst 1, 1) := by decide +kernel
theorem dX11_comes_78 : decode cX11_comes 78 = .ok (.invokevirtual 78, 3) := by decide +kernel
theorem dX11_comes_81 : decode cX11_comes 81 = .ok (.goto 26, 3) := by decide +kernel
theorem dX11_comes_84 : decode cX11_comes 84 = .ok (.aload_n 0, 1) := by decide +kernel
theorem dX11_comes_85 : decode cX11_comes 85 = .ok (.lconst 0, 1) := by decide +kernel
theorem dX11_comes_86 : decode cX11_comes 86 = .ok (.ldc2_w 81, 3) := by decide +kernel
theorem dX11_comes_89 : decode cX11_comes 89 = .ok (.lconst 1, 1) := by decide +kernel
theorem dX11_comes_90 : decode cX11_comes 90 = .ok (.lconst 0, 1) := by decide +kernel
theorem dX11_comes_91 : decode cX11_comes 91 = .ok (.invokevirtual 78, 3) := by decide +kernel
theorem dX11_comes_94 : decode cX11_comes 94 = .ok (.goto 13, 3) := by decide +kernel
theorem dX11_comes_97 : decode cX11_comes 97 = .ok (.aload_n 0, 1) := by decide +kernel
theorem dX11_comes_98 : decode cX11_comes 98 = .ok (.lconst 0, 1) := by decide +kernel
theorem dX11_comes_99 : decode cX11_comes 99 = .ok (.lconst 1, 1) := by decide +kernel
theorem dX11_comes_100 : decode cX11_comes 100 = .ok (.ldc2_w 81, 3) := by decide +kernel
theorem dX11_comes_103 : decode cX11_comes 103 = .ok (.lconst 0, 1) := by decide +kernel
theorem dX11_comes_104 : decode cX11_comes 104 = .ok (.invokevirtual 78, 3) := by decide +kernel
theorem dX11_comes_107 : decode cX11_comes 107 = .ok (.return_, 1) := by decide +kernel
theorem dX11_letterOf_0 : decode cX11_letterOf 0 = .ok (.iload_n 0, 1) := by decide +kernel
theorem dX11_letterOf_1 : decode cX11_letterOf 1 = .ok (.bipush 82, 2) := by decide +kernel
theorem dX11_letterOf_3 : decode cX11_letterOf 3 = .ok (.if_icmp .ne 7, 3) := by decide +kernel
theorem dX11_letterOf_6 : decode cX11_letterOf 6 = .ok (.iconst 0, 1) := by decide +kernel
theorem dX11_letterOf_7 : decode cX11_letterOf 7 = .ok (.goto 54, 3) := by decide +kernel
theorem dX11_letterOf_10 : decode cX11_letterOf 10 = .ok (.iload_n 0, 1) := by decide +kernel
theorem dX11_letterOf_11 : decode cX11_letterOf 11 = .ok (.bipush 76, 2) := by decide +kernel
theorem dX11_letterOf_13 : decode cX11_letterOf 13 = .ok (.if_icmp .ne 7, 3) := by decide +kernel
theorem dX11_letterOf_16 : decode cX11_letterOf 16 = .ok (.iconst 1, 1) := by decide +kernel
theorem dX11_letterOf_17 : decode cX11_letterOf 17 = .ok (.goto 44, 3) := by decide +kernel
theorem dX11_letterOf_20 : decode cX11_letterOf 20 = .ok (.iload_n 0, 1) := by decide +kernel
theorem dX11_letterOf_21 : decode cX11_letterOf 21 = .ok (.bipush 114, 2) := by decide +kernel
theorem dX11_letterOf_23 : decode cX11_letterOf 23 = .ok (.if_icmp .ne 7, 3) := by decide +kernel
theorem dX11_letterOf_26 : decode cX11_letterOf 26 = .ok (.iconst 2, 1) := by decide +kernel
theorem dX11_letterOf_27 : decode cX11_letterOf 27 = .ok (.goto 34, 3) := by decide +kernel
theorem dX11_letterOf_30 : decode cX11_letterOf 30 = .ok (.iload_n 0, 1) := by decide +kernel
theorem dX11_letterOf_31 : decode cX11_letterOf 31 = .ok (.bipush 108, 2) := by decide +kernel
theorem dX11_letterOf_33 : decode cX11_letterOf 33 = .ok (.if_icmp .ne 7, 3) := by decide +kernel
theorem dX11_letterOf_36 : decode cX11_letterOf 36 = .ok (.iconst 3, 1) := by decide +kernel
theorem dX11_letterOf_37 : decode cX11_letterOf 37 = .ok (.goto 24, 3) := by decide +kernel
theorem dX11_letterOf_40 : decode cX11_letterOf 40 = .ok (.iload_n 0, 1) := by decide +kernel
theorem dX11_letterOf_41 : decode cX11_letterOf 41 = .ok (.bipush 83, 2) := by decide +kernel
theorem dX11_letterOf_43 : decode cX11_letterOf 43 = .ok (.if_icmp .ne 7, 3) := by decide +kernel
theorem dX11_letterOf_46 : decode cX11_letterOf 46 = .ok (.iconst 4, 1) := by decide +kernel
theorem dX11_letterOf_47 : decode cX11_letterOf 47 = .ok (.goto 14, 3) := by decide +kernel
theorem dX11_letterOf_50 : decode cX11_letterOf 50 = .ok (.iload_n 0, 1) := by decide +kernel
theorem dX11_letterOf_51 : decode cX11_letterOf 51 = .ok (.bipush 115, 2) := by decide +kernel
theorem dX11_letterOf_53 : decode cX11_letterOf 53 = .ok (.if_icmp .ne 7, 3) := by decide +kernel
theorem dX11_letterOf_56 : decode cX11_letterOf 56 = .ok (.iconst 5, 1) := by decide +kernel
theorem dX11_letterOf_57 : decode cX11_letterOf 57 = .ok (.goto 4, 3) := by decide +kernel
theorem dX11_letterOf_60 : decode cX11_letterOf 60 = .ok (.iconst (-1), 1) := by decide +kernel
theorem dX11_letterOf_61 : decode cX11_letterOf 61 = .ok (.ireturn, 1) := by decide +kernel
theorem dX11_feed_0 : decode cX11_feed 0 = .ok (.iload_n 1, 1) := by decide +kernel
theorem dX11_feed_1 : decode cX11_feed 1 = .ok (.i2l, 1) := by decide +kernel
theorem dX11_feed_2 : decode cX11_feed 2 = .ok (.lconst 0, 1) := by decide +kernel
theorem dX11_feed_3 : decode cX11_feed 3 = .ok (.ldc2_w 83, 3) := by decide +kernel
theorem dX11_feed_6 : decode cX11_feed 6 = .ok (.invokestatic 53, 3) := by decide +kernel
theorem dX11_feed_9 : decode cX11_feed 9 = .ok (.ifCond .ne 6, 3) := by decide +kernel
theorem dX11_feed_12 : decode cX11_feed 12 = .ok (.ldc 85, 2) := by decide +kernel
theorem dX11_feed_14 : decode cX11_feed 14 = .ok (.ireturn, 1) := by decide +kernel
theorem dX11_feed_15 : decode cX11_feed 15 = .ok (.aload_n 0, 1) := by decide +kernel
theorem dX11_feed_16 : decode cX11_feed 16 = .ok (.getfield 86, 3) := by decide +kernel
theorem dX11_feed_19 : decode cX11_feed 19 = .ok (.bipush 60, 2) := by decide +kernel
theorem dX11_feed_21 : decode cX11_feed 21 = .ok (.if_icmp .ne 6, 3) := by decide +kernel
theorem dX11_feed_24 : decode cX11_feed 24 = .ok (.ldc 89, 2) := by decide +kernel
theorem dX11_feed_26 : decode cX11_feed 26 = .ok (.ireturn, 1) := by decide +kernel
theorem dX11_feed_27 : decode cX11_feed 27 = .ok (.aload_n 0, 1) := by decide +kernel
theorem dX11_feed_28 : decode cX11_feed 28 = .ok (.getfield 23, 3) := by decide +kernel
theorem dX11_feed_31 : decode cX11_feed 31 = .ok (.aload_n 0, 1) := by decide +kernel
theorem dX11_feed_32 : decode cX11_feed 32 = .ok (.getfield 86, 3) := by decide +kernel
theorem dX11_feed_35 : decode cX11_feed 35 = .ok (.iload_n 1, 1) := by decide +kernel
theorem dX11_feed_36 : decode cX11_feed 36 = .ok (.iastore, 1) := by decide +kernel
theorem dX11_feed_37 : decode cX11_feed 37 = .ok (.aload_n 0, 1) := by decide +kernel
theorem dX11_feed_38 : decode cX11_feed 38 = .ok (.dup, 1) := by decide +kernel
theorem dX11_feed_39 : decode cX11_feed 39 = .ok (.getfield 86, 3) := by decide +kernel
theorem dX11_feed_42 : decode cX11_feed 42 = .ok (.iconst 1, 1) := by decide +kernel
theorem dX11_feed_43 : decode cX11_feed 43 = .ok (.iadd, 1) := by decide +kernel
theorem dX11_feed_44 : decode cX11_feed 44 = .ok (.putfield 86, 3) := by decide +kernel
theorem dX11_feed_47 : decode cX11_feed 47 = .ok (.aload_n 0, 1) := by decide +kernel
theorem dX11_feed_48 : decode cX11_feed 48 = .ok (.getfield 86, 3) := by decide +kernel
theorem dX11_feed_51 : decode cX11_feed 51 = .ok (.ireturn, 1) := by decide +kernel
theorem dX11_notes_0 : decode cX11_notes 0 = .ok (.aload_n 0, 1) := by decide +kernel
theorem dX11_notes_1 : decode cX11_notes 1 = .ok (.getfield 90, 3) := by decide +kernel
theorem dX11_notes_4 : decode cX11_notes 4 = .ok (.bipush 20, 2) := by decide +kernel
theorem dX11_notes_6 : decode cX11_notes 6 = .ok (.if_icmp .ne 43, 3) := by decide +kernel
theorem dX11_notes_9 : decode cX11_notes 9 = .ok (.iconst 0, 1) := by decide +kernel
theorem dX11_notes_10 : decode cX11_notes 10 = .ok (.istore_n 1, 1) := by decide +kernel
theorem dX11_notes_11 : decode cX11_notes 11 = .ok (.iload_n 1, 1) := by decide +kernel
theorem dX11_notes_12 : decode cX11_notes 12 = .ok (.sipush 931, 3) := by decide +kernel
theorem dX11_notes_15 : decode cX11_notes 15 = .ok (.if_icmp .ge 24, 3) := by decide +kernel
theorem dX11_notes_18 : decode cX11_notes 18 = .ok (.aload_n 0, 1) := by decide +kernel
theorem dX11_notes_19 : decode cX11_notes 19 = .ok (.getfield 13, 3) := by decide +kernel
theorem dX11_notes_22 : decode cX11_notes 22 = .ok (.iload_n 1, 1) := by decide +kernel
theorem dX11_notes_23 : decode cX11_notes 23 = .ok (.aload_n 0, 1) := by decide +kernel
theorem dX11_notes_24 : decode cX11_notes 24 = .ok (.getfield 13, 3) := by decide +kernel
theorem dX11_notes_27 : decode cX11_notes 27 = .ok (.iload_n 1, 1) := by decide +kernel
theorem dX11_notes_28 : decode cX11_notes 28 = .ok (.bipush 49, 2) := by decide +kernel
theorem dX11_notes_30 : decode cX11_notes 30 = .ok (.iadd, 1) := by decide +kernel
theorem dX11_notes_31 : decode cX11_notes 31 = .ok (.iaload, 1) := by decide +kernel
theorem dX11_notes_32 : decode cX11_notes 32 = .ok (.iastore, 1) := by decide +kernel
theorem dX11_notes_33 : decode cX11_notes 33 = .ok (.iinc 1 1, 3) := by decide +kernel
theorem dX11_notes_36 : decode cX11_notes 36 = .ok (.goto (-25), 3) := by decide +kernel
theorem dX11_notes_39 : decode cX11_notes 39 = .ok (.aload_n 0, 1) := by decide +kernel
theorem dX11_notes_40 : decode cX11_notes 40 = .ok (.dup, 1) := by decide +kernel
theorem dX11_notes_41 : decode cX11_notes 41 = .ok (.getfield 90, 3) := by decide +kernel
theorem dX11_notes_44 : decode cX11_notes 44 = .ok (.iconst 1, 1) := by decide +kernel
theorem dX11_notes_45 : decode cX11_notes 45 = .ok (.isub, 1) := by decide +kernel
theorem dX11_notes_46 : decode cX11_notes 46 = .ok (.putfield 90, 3) := by decide +kernel
theorem dX11_notes_49 : decode cX11_notes 49 = .ok (.iconst 0, 1) := by decide +kernel
theorem dX11_notes_50 : decode cX11_notes 50 = .ok (.istore_n 1, 1) := by decide +kernel
theorem dX11_notes_51 : decode cX11_notes 51 = .ok (.iload_n 1, 1) := by decide +kernel
theorem dX11_notes_52 : decode cX11_notes 52 = .ok (.bipush 49, 2) := by decide +kernel
theorem dX11_notes_54 : decode cX11_notes 54 = .ok (.if_icmp .ge 29, 3) := by decide +kernel
theorem dX11_notes_57 : decode cX11_notes 57 = .ok (.aload_n 0, 1) := by decide +kernel
theorem dX11_notes_58 : decode cX11_notes 58 = .ok (.getfield 13, 3) := by decide +kernel
theorem dX11_notes_61 : decode cX11_notes 61 = .ok (.bipush 49, 2) := by decide +kernel
theorem dX11_notes_63 : decode cX11_notes 63 = .ok (.aload_n 0, 1) := by decide +kernel
theorem dX11_notes_64 : decode cX11_notes 64 = .ok (.getfield 90, 3) := by decide +kernel
theorem dX11_notes_67 : decode cX11_notes 67 = .ok (.imul, 1) := by decide +kernel
theorem dX11_notes_68 : decode cX11_notes 68 = .ok (.iload_n 1, 1) := by decide +kernel
theorem dX11_notes_69 : decode cX11_notes 69 = .ok (.iadd, 1) := by decide +kernel
theorem dX11_notes_70 : decode cX11_notes 70 = .ok (.aload_n 0, 1) := by decide +kernel
theorem dX11_notes_71 : decode cX11_notes 71 = .ok (.getfield 7, 3) := by decide +kernel
theorem dX11_notes_74 : decode cX11_notes 74 = .ok (.iload_n 1, 1) := by decide +kernel
theorem dX11_notes_75 : decode cX11_notes 75 = .ok (.iaload, 1) := by decide +kernel
theorem dX11_notes_76 : decode cX11_notes 76 = .ok (.iastore, 1) := by decide +kernel
theorem dX11_notes_77 : decode cX11_notes 77 = .ok (.iinc 1 1, 3) := by decide +kernel
theorem dX11_notes_80 : decode cX11_notes 80 = .ok (.goto (-29), 3) := by decide +kernel
theorem dX11_notes_83 : decode cX11_notes 83 = .ok (.aload_n 0, 1) := by decide +kernel
theorem dX11_notes_84 : decode cX11_notes 84 = .ok (.dup, 1) := by decide +kernel
theorem dX11_notes_85 : decode cX11_notes 85 = .ok (.getfield 90, 3) := by decide +kernel
theorem dX11_notes_88 : decode cX11_notes 88 = .ok (.iconst 1, 1) := by decide +kernel
theorem dX11_notes_89 : decode cX11_notes 89 = .ok (.iadd, 1) := by decide +kernel
theorem dX11_notes_90 : decode cX11_notes 90 = .ok (.putfield 90, 3) := by decide +kernel
theorem dX11_notes_93 : decode cX11_notes 93 = .ok (.return_, 1) := by decide +kernel
theorem dX11_puts_0 : decode cX11_puts 0 = .ok (.aload_n 0, 1) := by decide +kernel
theorem dX11_puts_1 : decode cX11_puts 1 = .ok (.invokevirtual 93, 3) := by decide +kernel
theorem dX11_puts_4 : decode cX11_puts 4 = .ok (.aload_n 0, 1) := by decide +kernel
theorem dX11_puts_5 : decode cX11_puts 5 = .ok (.aload_n 0, 1) := by decide +kernel
theorem dX11_puts_6 : decode cX11_puts 6 = .ok (.getfield 7, 3) := by decide +kernel
theorem dX11_puts_9 : decode cX11_puts 9 = .ok (.iconst 0, 1) := by decide +kernel
theorem dX11_puts_10 : decode cX11_puts 10 = .ok (.iaload, 1) := by decide +kernel
theorem dX11_puts_11 : decode cX11_puts 11 = .ok (.invokevirtual 96, 3) := by decide +kernel
theorem dX11_puts_14 : decode cX11_puts 14 = .ok (.aload_n 0, 1) := by decide +kernel
theorem dX11_puts_15 : decode cX11_puts 15 = .ok (.getfield 7, 3) := by decide +kernel
theorem dX11_puts_18 : decode cX11_puts 18 = .ok (.iconst 0, 1) := by decide +kernel
theorem dX11_puts_19 : decode cX11_puts 19 = .ok (.dup2, 1) := by decide +kernel
theorem dX11_puts_20 : decode cX11_puts 20 = .ok (.iaload, 1) := by decide +kernel
theorem dX11_puts_21 : decode cX11_puts 21 = .ok (.iconst 1, 1) := by decide +kernel
theorem dX11_puts_22 : decode cX11_puts 22 = .ok (.iadd, 1) := by decide +kernel
theorem dX11_puts_23 : decode cX11_puts 23 = .ok (.iastore, 1) := by decide +kernel
theorem dX11_puts_24 : decode cX11_puts 24 = .ok (.aload_n 0, 1) := by decide +kernel
theorem dX11_puts_25 : decode cX11_puts 25 = .ok (.getfield 7, 3) := by decide +kernel
theorem dX11_puts_28 : decode cX11_puts 28 = .ok (.iconst 0, 1) := by decide +kernel
theorem dX11_puts_29 : decode cX11_puts 29 = .ok (.iaload, 1) := by decide +kernel
theorem dX11_puts_30 : decode cX11_puts 30 = .ok (.iconst 1, 1) := by decide +kernel
theorem dX11_puts_31 : decode cX11_puts 31 = .ok (.isub, 1) := by decide +kernel
theorem dX11_puts_32 : decode cX11_puts 32 = .ok (.ireturn, 1) := by decide +kernel
theorem dX11_write_0 : decode cX11_write 0 = .ok (.aload_n 0, 1) := by decide +kernel
theorem dX11_write_1 : decode cX11_write 1 = .ok (.getfield 7, 3) := by decide +kernel
theorem dX11_write_4 : decode cX11_write 4 = .ok (.iconst 0, 1) := by decide +kernel
theorem dX11_write_5 : decode cX11_write 5 = .ok (.iaload, 1) := by decide +kernel
theorem dX11_write_6 : decode cX11_write 6 = .ok (.bipush 12, 2) := by decide +kernel
theorem dX11_write_8 : decode cX11_write 8 = .ok (.if_icmp .ne 6, 3) := by decide +kernel
theorem dX11_write_11 : decode cX11_write 11 = .ok (.ldc 89, 2) := by decide +kernel
theorem dX11_write_13 : decode cX11_write 13 = .ok (.ireturn, 1) := by decide +kernel
theorem dX11_write_14 : decode cX11_write 14 = .ok (.aload_n 0, 1) := by decide +kernel
theorem dX11_write_15 : decode cX11_write 15 = .ok (.lconst 1, 1) := by decide +kernel
theorem dX11_write_16 : decode cX11_write 16 = .ok (.lconst 0, 1) := by decide +kernel
theorem dX11_write_17 : decode cX11_write 17 = .ok (.lconst 0, 1) := by decide +kernel
theorem dX11_write_18 : decode cX11_write 18 = .ok (.lconst 1, 1) := by decide +kernel
theorem dX11_write_19 : decode cX11_write 19 = .ok (.invokevirtual 70, 3) := by decide +kernel
theorem dX11_write_22 : decode cX11_write 22 = .ok (.aload_n 0, 1) := by decide +kernel
theorem dX11_write_23 : decode cX11_write 23 = .ok (.getfield 86, 3) := by decide +kernel
theorem dX11_write_26 : decode cX11_write 26 = .ok (.istore_n 1, 1) := by decide +kernel
theorem dX11_write_27 : decode cX11_write 27 = .ok (.aload_n 0, 1) := by decide +kernel
theorem dX11_write_28 : decode cX11_write 28 = .ok (.iconst 0, 1) := by decide +kernel
theorem dX11_write_29 : decode cX11_write 29 = .ok (.putfield 86, 3) := by decide +kernel
theorem dX11_write_32 : decode cX11_write 32 = .ok (.iconst 0, 1) := by decide +kernel
theorem dX11_write_33 : decode cX11_write 33 = .ok (.istore_n 2, 1) := by decide +kernel
theorem dX11_write_34 : decode cX11_write 34 = .ok (.iload_n 2, 1) := by decide +kernel
theorem dX11_write_35 : decode cX11_write 35 = .ok (.iload_n 1, 1) := by decide +kernel
theorem dX11_write_36 : decode cX11_write 36 = .ok (.if_icmp .ge 52, 3) := by decide +kernel
theorem dX11_write_39 : decode cX11_write 39 = .ok (.aload_n 0, 1) := by decide +kernel
theorem dX11_write_40 : decode cX11_write 40 = .ok (.getfield 23, 3) := by decide +kernel
theorem dX11_write_43 : decode cX11_write 43 = .ok (.iload_n 2, 1) := by decide +kernel
theorem dX11_write_44 : decode cX11_write 44 = .ok (.iaload, 1) := by decide +kernel
theorem dX11_write_45 : decode cX11_write 45 = .ok (.invokestatic 100, 3) := by decide +kernel
theorem dX11_write_48 : decode cX11_write 48 = .ok (.istore_n 3, 1) := by decide +kernel
theorem dX11_write_49 : decode cX11_write 49 = .ok (.iload_n 3, 1) := by decide +kernel
theorem dX11_write_50 : decode cX11_write 50 = .ok (.iconst (-1), 1) := by decide +kernel
theorem dX11_write_51 : decode cX11_write 51 = .ok (.if_icmp .ne 11, 3) := by decide +kernel
theorem dX11_write_54 : decode cX11_write 54 = .ok (.aload_n 0, 1) := by decide +kernel
theorem dX11_write_55 : decode cX11_write 55 = .ok (.iload_n 2, 1) := by decide +kernel
theorem dX11_write_56 : decode cX11_write 56 = .ok (.putfield 26, 3) := by decide +kernel
theorem dX11_write_59 : decode cX11_write 59 = .ok (.bipush (-11), 2) := by decide +kernel
theorem dX11_write_61 : decode cX11_write 61 = .ok (.ireturn, 1) := by decide +kernel
theorem dX11_write_62 : decode cX11_write 62 = .ok (.aload_n 0, 1) := by decide +kernel
theorem dX11_write_63 : decode cX11_write 63 = .ok (.iload_n 3, 1) := by decide +kernel
theorem dX11_write_64 : decode cX11_write 64 = .ok (.invokevirtual 104, 3) := by decide +kernel
theorem dX11_write_67 : decode cX11_write 67 = .ok (.aload_n 0, 1) := by decide +kernel
theorem dX11_write_68 : decode cX11_write 68 = .ok (.invokevirtual 107, 3) := by decide +kernel
theorem dX11_write_71 : decode cX11_write 71 = .ok (.ifCond .ne 11, 3) := by decide +kernel
theorem dX11_write_74 : decode cX11_write 74 = .ok (.aload_n 0, 1) := by decide +kernel
theorem dX11_write_75 : decode cX11_write 75 = .ok (.iload_n 2, 1) := by decide +kernel
theorem dX11_write_76 : decode cX11_write 76 = .ok (.putfield 26, 3) := by decide +kernel
theorem dX11_write_79 : decode cX11_write 79 = .ok (.bipush (-12), 2) := by decide +kernel
theorem dX11_write_81 : decode cX11_write 81 = .ok (.ireturn, 1) := by decide +kernel
theorem dX11_write_82 : decode cX11_write 82 = .ok (.iinc 2 1, 3) := by decide +kernel
theorem dX11_write_85 : decode cX11_write 85 = .ok (.goto (-51), 3) := by decide +kernel
theorem dX11_write_88 : decode cX11_write 88 = .ok (.aload_n 0, 1) := by decide +kernel
theorem dX11_write_89 : decode cX11_write 89 = .ok (.iconst (-1), 1) := by decide +kernel
theorem dX11_write_90 : decode cX11_write 90 = .ok (.putfield 26, 3) := by decide +kernel
theorem dX11_write_93 : decode cX11_write 93 = .ok (.aload_n 0, 1) := by decide +kernel
theorem dX11_write_94 : decode cX11_write 94 = .ok (.invokevirtual 111, 3) := by decide +kernel
theorem dX11_write_97 : decode cX11_write 97 = .ok (.ireturn, 1) := by decide +kernel
theorem dX11_fault_0 : decode cX11_fault 0 = .ok (.aload_n 0, 1) := by decide +kernel
theorem dX11_fault_1 : decode cX11_fault 1 = .ok (.getfield 26, 3) := by decide +kernel
theorem dX11_fault_4 : decode cX11_fault 4 = .ok (.ireturn, 1) := by decide +kernel
theorem dX11_put_0 : decode cX11_put 0 = .ok (.iload_n 1, 1) := by decide +kernel
theorem dX11_put_1 : decode cX11_put 1 = .ok (.i2l, 1) := by decide +kernel
theorem dX11_put_2 : decode cX11_put 2 = .ok (.invokestatic 74, 3) := by decide +kernel
theorem dX11_put_5 : decode cX11_put 5 = .ok (.ifCond .eq 28, 3) := by decide +kernel
theorem dX11_put_8 : decode cX11_put 8 = .ok (.iload_n 2, 1) := by decide +kernel
theorem dX11_put_9 : decode cX11_put 9 = .ok (.i2l, 1) := by decide +kernel
theorem dX11_put_10 : decode cX11_put 10 = .ok (.invokestatic 74, 3) := by decide +kernel
theorem dX11_put_13 : decode cX11_put 13 = .ok (.ifCond .eq 20, 3) := by decide +kernel
theorem dX11_put_16 : decode cX11_put 16 = .ok (.iload_n 3, 1) := by decide +kernel
theorem dX11_put_17 : decode cX11_put 17 = .ok (.i2l, 1) := by decide +kernel
theorem dX11_put_18 : decode cX11_put 18 = .ok (.invokestatic 74, 3) := by decide +kernel
theorem dX11_put_21 : decode cX11_put 21 = .ok (.ifCond .eq 12, 3) := by decide +kernel
theorem dX11_put_24 : decode cX11_put 24 = .ok (.iload 4, 2) := by decide +kernel
theorem dX11_put_26 : decode cX11_put 26 = .ok (.i2l, 1) := by decide +kernel
theorem dX11_put_27 : decode cX11_put 27 = .ok (.invokestatic 74, 3) := by decide +kernel
theorem dX11_put_30 : decode cX11_put 30 = .ok (.ifCond .ne 6, 3) := by decide +kernel
theorem dX11_put_33 : decode cX11_put 33 = .ok (.ldc 85, 2) := by decide +kernel
theorem dX11_put_35 : decode cX11_put 35 = .ok (.ireturn, 1) := by decide +kernel
theorem dX11_put_36 : decode cX11_put 36 = .ok (.iload_n 1, 1) := by decide +kernel
theorem dX11_put_37 : decode cX11_put 37 = .ok (.i2l, 1) := by decide +kernel
theorem dX11_put_38 : decode cX11_put 38 = .ok (.iload 4, 2) := by decide +kernel
theorem dX11_put_40 : decode cX11_put 40 = .ok (.i2l, 1) := by decide +kernel
theorem dX11_put_41 : decode cX11_put 41 = .ok (.lmul, 1) := by decide +kernel
theorem dX11_put_42 : decode cX11_put 42 = .ok (.iload_n 2, 1) := by decide +kernel
theorem dX11_put_43 : decode cX11_put 43 = .ok (.i2l, 1) := by decide +kernel
theorem dX11_put_44 : decode cX11_put 44 = .ok (.iload_n 3, 1) := by decide +kernel
theorem dX11_put_45 : decode cX11_put 45 = .ok (.i2l, 1) := by decide +kernel
theorem dX11_put_46 : decode cX11_put 46 = .ok (.lmul, 1) := by decide +kernel
theorem dX11_put_47 : decode cX11_put 47 = .ok (.lsub, 1) := by decide +kernel
theorem dX11_put_48 : decode cX11_put 48 = .ok (.lconst 1, 1) := by decide +kernel
theorem dX11_put_49 : decode cX11_put 49 = .ok (.lcmp, 1) := by decide +kernel
theorem dX11_put_50 : decode cX11_put 50 = .ok (.ifCond .eq 6, 3) := by decide +kernel
theorem dX11_put_53 : decode cX11_put 53 = .ok (.ldc 115, 2) := by decide +kernel
theorem dX11_put_55 : decode cX11_put 55 = .ok (.ireturn, 1) := by decide +kernel
theorem dX11_put_56 : decode cX11_put 56 = .ok (.aload_n 0, 1) := by decide +kernel
theorem dX11_put_57 : decode cX11_put 57 = .ok (.getfield 7, 3) := by decide +kernel
theorem dX11_put_60 : decode cX11_put 60 = .ok (.iconst 0, 1) := by decide +kernel
theorem dX11_put_61 : decode cX11_put 61 = .ok (.iaload, 1) := by decide +kernel
theorem dX11_put_62 : decode cX11_put 62 = .ok (.bipush 12, 2) := by decide +kernel
theorem dX11_put_64 : decode cX11_put 64 = .ok (.if_icmp .ne 6, 3) := by decide +kernel
theorem dX11_put_67 : decode cX11_put 67 = .ok (.ldc 89, 2) := by decide +kernel
theorem dX11_put_69 : decode cX11_put 69 = .ok (.ireturn, 1) := by decide +kernel
theorem dX11_put_70 : decode cX11_put 70 = .ok (.aload_n 0, 1) := by decide +kernel
theorem dX11_put_71 : decode cX11_put 71 = .ok (.iload_n 1, 1) := by decide +kernel
theorem dX11_put_72 : decode cX11_put 72 = .ok (.i2l, 1) := by decide +kernel
theorem dX11_put_73 : decode cX11_put 73 = .ok (.iload_n 2, 1) := by decide +kernel
theorem dX11_put_74 : decode cX11_put 74 = .ok (.i2l, 1) := by decide +kernel
theorem dX11_put_75 : decode cX11_put 75 = .ok (.iload_n 3, 1) := by decide +kernel
theorem dX11_put_76 : decode cX11_put 76 = .ok (.i2l, 1) := by decide +kernel
theorem dX11_put_77 : decode cX11_put 77 = .ok (.iload 4, 2) := by decide +kernel
theorem dX11_put_79 : decode cX11_put 79 = .ok (.i2l, 1) := by decide +kernel
theorem dX11_put_80 : decode cX11_put 80 = .ok (.invokevirtual 70, 3) := by decide +kernel
theorem dX11_put_83 : decode cX11_put 83 = .ok (.aload_n 0, 1) := by decide +kernel
theorem dX11_put_84 : decode cX11_put 84 = .ok (.invokevirtual 111, 3) := by decide +kernel
theorem dX11_put_87 : decode cX11_put 87 = .ok (.ireturn, 1) := by decide +kernel
theorem dX11_isSquare_0 : decode cX11_isSquare 0 = .ok (.iload_n 1, 1) := by decide +kernel
