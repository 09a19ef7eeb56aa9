theorem dX6_multiplyByLetter_188 : decode cX6_multiplyByLetter 188 = .ok (.aload_n 0, 1) := by decide +kernel
theorem dX6_multiplyByLetter_189 : decode cX6_multiplyByLetter 189 = .ok (.aload_n 0, 1) := by decide +kernel
theorem dX6_multiplyByLetter_190 : decode cX6_multiplyByLetter 190 = .ok (.getfield 15, 3) := by decide +kernel
theorem dX6_multiplyByLetter_193 : decode cX6_multiplyByLetter 193 = .ok (.aload_n 0, 1) := by decide +kernel
theorem dX6_multiplyByLetter_194 : decode cX6_multiplyByLetter 194 = .ok (.getfield 9, 3) := by decide +kernel
theorem dX6_multiplyByLetter_197 : decode cX6_multiplyByLetter 197 = .ok (.lneg, 1) := by decide +kernel
theorem dX6_multiplyByLetter_198 : decode cX6_multiplyByLetter 198 = .ok (.aload_n 0, 1) := by decide +kernel
theorem dX6_multiplyByLetter_199 : decode cX6_multiplyByLetter 199 = .ok (.getfield 21, 3) := by decide +kernel
theorem dX6_multiplyByLetter_202 : decode cX6_multiplyByLetter 202 = .ok (.aload_n 0, 1) := by decide +kernel
theorem dX6_multiplyByLetter_203 : decode cX6_multiplyByLetter 203 = .ok (.getfield 18, 3) := by decide +kernel
theorem dX6_multiplyByLetter_206 : decode cX6_multiplyByLetter 206 = .ok (.lneg, 1) := by decide +kernel
theorem dX6_multiplyByLetter_207 : decode cX6_multiplyByLetter 207 = .ok (.invokevirtual 24, 3) := by decide +kernel
theorem dX6_multiplyByLetter_210 : decode cX6_multiplyByLetter 210 = .ok (.iconst 1, 1) := by decide +kernel
theorem dX6_multiplyByLetter_211 : decode cX6_multiplyByLetter 211 = .ok (.ireturn, 1) := by decide +kernel
theorem dX6_multiplyByLetter_212 : decode cX6_multiplyByLetter 212 = .ok (.aload_n 0, 1) := by decide +kernel
theorem dX6_multiplyByLetter_213 : decode cX6_multiplyByLetter 213 = .ok (.aload_n 0, 1) := by decide +kernel
theorem dX6_multiplyByLetter_214 : decode cX6_multiplyByLetter 214 = .ok (.getfield 15, 3) := by decide +kernel
theorem dX6_multiplyByLetter_217 : decode cX6_multiplyByLetter 217 = .ok (.lneg, 1) := by decide +kernel
theorem dX6_multiplyByLetter_218 : decode cX6_multiplyByLetter 218 = .ok (.aload_n 0, 1) := by decide +kernel
theorem dX6_multiplyByLetter_219 : decode cX6_multiplyByLetter 219 = .ok (.getfield 9, 3) := by decide +kernel
theorem dX6_multiplyByLetter_222 : decode cX6_multiplyByLetter 222 = .ok (.aload_n 0, 1) := by decide +kernel
theorem dX6_multiplyByLetter_223 : decode cX6_multiplyByLetter 223 = .ok (.getfield 21, 3) := by decide +kernel
theorem dX6_multiplyByLetter_226 : decode cX6_multiplyByLetter 226 = .ok (.lneg, 1) := by decide +kernel
theorem dX6_multiplyByLetter_227 : decode cX6_multiplyByLetter 227 = .ok (.aload_n 0, 1) := by decide +kernel
theorem dX6_multiplyByLetter_228 : decode cX6_multiplyByLetter 228 = .ok (.getfield 18, 3) := by decide +kernel
theorem dX6_multiplyByLetter_231 : decode cX6_multiplyByLetter 231 = .ok (.invokevirtual 24, 3) := by decide +kernel
theorem dX6_multiplyByLetter_234 : decode cX6_multiplyByLetter 234 = .ok (.iconst 1, 1) := by decide +kernel
theorem dX6_multiplyByLetter_235 : decode cX6_multiplyByLetter 235 = .ok (.ireturn, 1) := by decide +kernel
theorem dX6_multiplyByLetter_236 : decode cX6_multiplyByLetter 236 = .ok (.iconst 0, 1) := by decide +kernel
theorem dX6_multiplyByLetter_237 : decode cX6_multiplyByLetter 237 = .ok (.ireturn, 1) := by decide +kernel
theorem dX6_carryByR_0 : decode cX6_carryByR 0 = .ok (.aload_n 0, 1) := by decide +kernel
theorem dX6_carryByR_1 : decode cX6_carryByR 1 = .ok (.dup, 1) := by decide +kernel
theorem dX6_carryByR_2 : decode cX6_carryByR 2 = .ok (.getfield 15, 3) := by decide +kernel
theorem dX6_carryByR_5 : decode cX6_carryByR 5 = .ok (.lload_n 1, 1) := by decide +kernel
theorem dX6_carryByR_6 : decode cX6_carryByR 6 = .ok (.aload_n 0, 1) := by decide +kernel
theorem dX6_carryByR_7 : decode cX6_carryByR 7 = .ok (.getfield 21, 3) := by decide +kernel
theorem dX6_carryByR_10 : decode cX6_carryByR 10 = .ok (.aload_n 0, 1) := by decide +kernel
theorem dX6_carryByR_11 : decode cX6_carryByR 11 = .ok (.getfield 9, 3) := by decide +kernel
theorem dX6_carryByR_14 : decode cX6_carryByR 14 = .ok (.lsub, 1) := by decide +kernel
theorem dX6_carryByR_15 : decode cX6_carryByR 15 = .ok (.lmul, 1) := by decide +kernel
theorem dX6_carryByR_16 : decode cX6_carryByR 16 = .ok (.lload_n 1, 1) := by decide +kernel
theorem dX6_carryByR_17 : decode cX6_carryByR 17 = .ok (.lload_n 1, 1) := by decide +kernel
theorem dX6_carryByR_18 : decode cX6_carryByR 18 = .ok (.lmul, 1) := by decide +kernel
theorem dX6_carryByR_19 : decode cX6_carryByR 19 = .ok (.aload_n 0, 1) := by decide +kernel
theorem dX6_carryByR_20 : decode cX6_carryByR 20 = .ok (.getfield 18, 3) := by decide +kernel
theorem dX6_carryByR_23 : decode cX6_carryByR 23 = .ok (.lmul, 1) := by decide +kernel
theorem dX6_carryByR_24 : decode cX6_carryByR 24 = .ok (.lsub, 1) := by decide +kernel
theorem dX6_carryByR_25 : decode cX6_carryByR 25 = .ok (.ladd, 1) := by decide +kernel
theorem dX6_carryByR_26 : decode cX6_carryByR 26 = .ok (.putfield 15, 3) := by decide +kernel
theorem dX6_carryByR_29 : decode cX6_carryByR 29 = .ok (.aload_n 0, 1) := by decide +kernel
theorem dX6_carryByR_30 : decode cX6_carryByR 30 = .ok (.dup, 1) := by decide +kernel
theorem dX6_carryByR_31 : decode cX6_carryByR 31 = .ok (.getfield 9, 3) := by decide +kernel
theorem dX6_carryByR_34 : decode cX6_carryByR 34 = .ok (.lload_n 1, 1) := by decide +kernel
theorem dX6_carryByR_35 : decode cX6_carryByR 35 = .ok (.aload_n 0, 1) := by decide +kernel
theorem dX6_carryByR_36 : decode cX6_carryByR 36 = .ok (.getfield 18, 3) := by decide +kernel
theorem dX6_carryByR_39 : decode cX6_carryByR 39 = .ok (.lmul, 1) := by decide +kernel
theorem dX6_carryByR_40 : decode cX6_carryByR 40 = .ok (.ladd, 1) := by decide +kernel
theorem dX6_carryByR_41 : decode cX6_carryByR 41 = .ok (.putfield 9, 3) := by decide +kernel
theorem dX6_carryByR_44 : decode cX6_carryByR 44 = .ok (.aload_n 0, 1) := by decide +kernel
theorem dX6_carryByR_45 : decode cX6_carryByR 45 = .ok (.dup, 1) := by decide +kernel
theorem dX6_carryByR_46 : decode cX6_carryByR 46 = .ok (.getfield 21, 3) := by decide +kernel
theorem dX6_carryByR_49 : decode cX6_carryByR 49 = .ok (.lload_n 1, 1) := by decide +kernel
theorem dX6_carryByR_50 : decode cX6_carryByR 50 = .ok (.aload_n 0, 1) := by decide +kernel
theorem dX6_carryByR_51 : decode cX6_carryByR 51 = .ok (.getfield 18, 3) := by decide +kernel
theorem dX6_carryByR_54 : decode cX6_carryByR 54 = .ok (.lmul, 1) := by decide +kernel
theorem dX6_carryByR_55 : decode cX6_carryByR 55 = .ok (.lsub, 1) := by decide +kernel
theorem dX6_carryByR_56 : decode cX6_carryByR 56 = .ok (.putfield 21, 3) := by decide +kernel
theorem dX6_carryByR_59 : decode cX6_carryByR 59 = .ok (.return_, 1) := by decide +kernel
theorem dX6_carryByL_0 : decode cX6_carryByL 0 = .ok (.aload_n 0, 1) := by decide +kernel
theorem dX6_carryByL_1 : decode cX6_carryByL 1 = .ok (.dup, 1) := by decide +kernel
theorem dX6_carryByL_2 : decode cX6_carryByL 2 = .ok (.getfield 18, 3) := by decide +kernel
theorem dX6_carryByL_5 : decode cX6_carryByL 5 = .ok (.lload_n 1, 1) := by decide +kernel
theorem dX6_carryByL_6 : decode cX6_carryByL 6 = .ok (.aload_n 0, 1) := by decide +kernel
theorem dX6_carryByL_7 : decode cX6_carryByL 7 = .ok (.getfield 9, 3) := by decide +kernel
theorem dX6_carryByL_10 : decode cX6_carryByL 10 = .ok (.aload_n 0, 1) := by decide +kernel
theorem dX6_carryByL_11 : decode cX6_carryByL 11 = .ok (.getfield 21, 3) := by decide +kernel
theorem dX6_carryByL_14 : decode cX6_carryByL 14 = .ok (.lsub, 1) := by decide +kernel
theorem dX6_carryByL_15 : decode cX6_carryByL 15 = .ok (.lmul, 1) := by decide +kernel
theorem dX6_carryByL_16 : decode cX6_carryByL 16 = .ok (.lload_n 1, 1) := by decide +kernel
theorem dX6_carryByL_17 : decode cX6_carryByL 17 = .ok (.lload_n 1, 1) := by decide +kernel
theorem dX6_carryByL_18 : decode cX6_carryByL 18 = .ok (.lmul, 1) := by decide +kernel
theorem dX6_carryByL_19 : decode cX6_carryByL 19 = .ok (.aload_n 0, 1) := by decide +kernel
theorem dX6_carryByL_20 : decode cX6_carryByL 20 = .ok (.getfield 15, 3) := by decide +kernel
theorem dX6_carryByL_23 : decode cX6_carryByL 23 = .ok (.lmul, 1) := by decide +kernel
theorem dX6_carryByL_24 : decode cX6_carryByL 24 = .ok (.lsub, 1) := by decide +kernel
theorem dX6_carryByL_25 : decode cX6_carryByL 25 = .ok (.ladd, 1) := by decide +kernel
theorem dX6_carryByL_26 : decode cX6_carryByL 26 = .ok (.putfield 18, 3) := by decide +kernel
theorem dX6_carryByL_29 : decode cX6_carryByL 29 = .ok (.aload_n 0, 1) := by decide +kernel
theorem dX6_carryByL_30 : decode cX6_carryByL 30 = .ok (.dup, 1) := by decide +kernel
theorem dX6_carryByL_31 : decode cX6_carryByL 31 = .ok (.getfield 9, 3) := by decide +kernel
theorem dX6_carryByL_34 : decode cX6_carryByL 34 = .ok (.lload_n 1, 1) := by decide +kernel
theorem dX6_carryByL_35 : decode cX6_carryByL 35 = .ok (.aload_n 0, 1) := by decide +kernel
theorem dX6_carryByL_36 : decode cX6_carryByL 36 = .ok (.getfield 15, 3) := by decide +kernel
theorem dX6_carryByL_39 : decode cX6_carryByL 39 = .ok (.lmul, 1) := by decide +kernel
theorem dX6_carryByL_40 : decode cX6_carryByL 40 = .ok (.lsub, 1) := by decide +kernel
theorem dX6_carryByL_41 : decode cX6_carryByL 41 = .ok (.putfield 9, 3) := by decide +kernel
theorem dX6_carryByL_44 : decode cX6_carryByL 44 = .ok (.aload_n 0, 1) := by decide +kernel
theorem dX6_carryByL_45 : decode cX6_carryByL 45 = .ok (.dup, 1) := by decide +kernel
theorem dX6_carryByL_46 : decode cX6_carryByL 46 = .ok (.getfield 21, 3) := by decide +kernel
theorem dX6_carryByL_49 : decode cX6_carryByL 49 = .ok (.lload_n 1, 1) := by decide +kernel
theorem dX6_carryByL_50 : decode cX6_carryByL 50 = .ok (.aload_n 0, 1) := by decide +kernel
theorem dX6_carryByL_51 : decode cX6_carryByL 51 = .ok (.getfield 15, 3) := by decide +kernel
theorem dX6_carryByL_54 : decode cX6_carryByL 54 = .ok (.lmul, 1) := by decide +kernel
theorem dX6_carryByL_55 : decode cX6_carryByL 55 = .ok (.ladd, 1) := by decide +kernel
theorem dX6_carryByL_56 : decode cX6_carryByL 56 = .ok (.putfield 21, 3) := by decide +kernel
theorem dX6_carryByL_59 : decode cX6_carryByL 59 = .ok (.return_, 1) := by decide +kernel
theorem dX6_carryByS_0 : decode cX6_carryByS 0 = .ok (.aload_n 0, 1) := by decide +kernel
theorem dX6_carryByS_1 : decode cX6_carryByS 1 = .ok (.getfield 9, 3) := by decide +kernel
theorem dX6_carryByS_4 : decode cX6_carryByS 4 = .ok (.lstore_n 1, 1) := by decide +kernel
theorem dX6_carryByS_5 : decode cX6_carryByS 5 = .ok (.aload_n 0, 1) := by decide +kernel
theorem dX6_carryByS_6 : decode cX6_carryByS 6 = .ok (.getfield 15, 3) := by decide +kernel
theorem dX6_carryByS_9 : decode cX6_carryByS 9 = .ok (.lstore_n 3, 1) := by decide +kernel
theorem dX6_carryByS_10 : decode cX6_carryByS 10 = .ok (.aload_n 0, 1) := by decide +kernel
theorem dX6_carryByS_11 : decode cX6_carryByS 11 = .ok (.aload_n 0, 1) := by decide +kernel
theorem dX6_carryByS_12 : decode cX6_carryByS 12 = .ok (.getfield 21, 3) := by decide +kernel
theorem dX6_carryByS_15 : decode cX6_carryByS 15 = .ok (.putfield 9, 3) := by decide +kernel
theorem dX6_carryByS_18 : decode cX6_carryByS 18 = .ok (.aload_n 0, 1) := by decide +kernel
theorem dX6_carryByS_19 : decode cX6_carryByS 19 = .ok (.aload_n 0, 1) := by decide +kernel
theorem dX6_carryByS_20 : decode cX6_carryByS 20 = .ok (.getfield 18, 3) := by decide +kernel
theorem dX6_carryByS_23 : decode cX6_carryByS 23 = .ok (.lneg, 1) := by decide +kernel
theorem dX6_carryByS_24 : decode cX6_carryByS 24 = .ok (.putfield 15, 3) := by decide +kernel
theorem dX6_carryByS_27 : decode cX6_carryByS 27 = .ok (.aload_n 0, 1) := by decide +kernel
theorem dX6_carryByS_28 : decode cX6_carryByS 28 = .ok (.lload_n 3, 1) := by decide +kernel
theorem dX6_carryByS_29 : decode cX6_carryByS 29 = .ok (.lneg, 1) := by decide +kernel
theorem dX6_carryByS_30 : decode cX6_carryByS 30 = .ok (.putfield 18, 3) := by decide +kernel
theorem dX6_carryByS_33 : decode cX6_carryByS 33 = .ok (.aload_n 0, 1) := by decide +kernel
theorem dX6_carryByS_34 : decode cX6_carryByS 34 = .ok (.lload_n 1, 1) := by decide +kernel
theorem dX6_carryByS_35 : decode cX6_carryByS 35 = .ok (.putfield 21, 3) := by decide +kernel
theorem dX6_carryByS_38 : decode cX6_carryByS 38 = .ok (.return_, 1) := by decide +kernel
theorem dX6_carryToProduct_0 : decode cX6_carryToProduct 0 = .ok (.iconst 0, 1) := by decide +kernel
theorem dX6_carryToProduct_1 : decode cX6_carryToProduct 1 = .ok (.istore_n 1, 1) := by decide +kernel
theorem dX6_carryToProduct_2 : decode cX6_carryToProduct 2 = .ok (.iload_n 1, 1) := by decide +kernel
theorem dX6_carryToProduct_3 : decode cX6_carryToProduct 3 = .ok (.bipush 64, 2) := by decide +kernel
theorem dX6_carryToProduct_5 : decode cX6_carryToProduct 5 = .ok (.if_icmp .ge 35, 3) := by decide +kernel
theorem dX6_carryToProduct_8 : decode cX6_carryToProduct 8 = .ok (.aload_n 0, 1) := by decide +kernel
theorem dX6_carryToProduct_9 : decode cX6_carryToProduct 9 = .ok (.invokevirtual 28, 3) := by decide +kernel
theorem dX6_carryToProduct_12 : decode cX6_carryToProduct 12 = .ok (.ifCond .ne 28, 3) := by decide +kernel
theorem dX6_carryToProduct_15 : decode cX6_carryToProduct 15 = .ok (.aload_n 0, 1) := by decide +kernel
theorem dX6_carryToProduct_16 : decode cX6_carryToProduct 16 = .ok (.aload_n 0, 1) := by decide +kernel
theorem dX6_carryToProduct_17 : decode cX6_carryToProduct 17 = .ok (.invokevirtual 32, 3) := by decide +kernel
theorem dX6_carryToProduct_20 : decode cX6_carryToProduct 20 = .ok (.invokevirtual 36, 3) := by decide +kernel
theorem dX6_carryToProduct_23 : decode cX6_carryToProduct 23 = .ok (.aload_n 0, 1) := by decide +kernel
theorem dX6_carryToProduct_24 : decode cX6_carryToProduct 24 = .ok (.invokevirtual 28, 3) := by decide +kernel
theorem dX6_carryToProduct_27 : decode cX6_carryToProduct 27 = .ok (.ifCond .ne 7, 3) := by decide +kernel
theorem dX6_carryToProduct_30 : decode cX6_carryToProduct 30 = .ok (.aload_n 0, 1) := by decide +kernel
theorem dX6_carryToProduct_31 : decode cX6_carryToProduct 31 = .ok (.invokevirtual 40, 3) := by decide +kernel
theorem dX6_carryToProduct_34 : decode cX6_carryToProduct 34 = .ok (.iinc 1 1, 3) := by decide +kernel
theorem dX6_carryToProduct_37 : decode cX6_carryToProduct 37 = .ok (.goto (-35), 3) := by decide +kernel
theorem dX6_carryToProduct_40 : decode cX6_carryToProduct 40 = .ok (.aload_n 0, 1) := by decide +kernel
theorem dX6_carryToProduct_41 : decode cX6_carryToProduct 41 = .ok (.getfield 15, 3) := by decide +kernel
theorem dX6_carryToProduct_44 : decode cX6_carryToProduct 44 = .ok (.lconst 0, 1) := by decide +kernel
theorem dX6_carryToProduct_45 : decode cX6_carryToProduct 45 = .ok (.lcmp, 1) := by decide +kernel
theorem dX6_carryToProduct_46 : decode cX6_carryToProduct 46 = .ok (.ifCond .ge 7, 3) := by decide +kernel
theorem dX6_carryToProduct_49 : decode cX6_carryToProduct 49 = .ok (.aload_n 0, 1) := by decide +kernel
theorem dX6_carryToProduct_50 : decode cX6_carryToProduct 50 = .ok (.invokevirtual 40, 3) := by decide +kernel
theorem dX6_carryToProduct_53 : decode cX6_carryToProduct 53 = .ok (.return_, 1) := by decide +kernel
theorem dX6_stepsToEvenOut_0 : decode cX6_stepsToEvenOut 0 = .ok (.ldc2_w 43, 3) := by decide +kernel
theorem dX6_stepsToEvenOut_3 : decode cX6_stepsToEvenOut 3 = .ok (.aload_n 0, 1) := by decide +kernel
theorem dX6_stepsToEvenOut_4 : decode cX6_stepsToEvenOut 4 = .ok (.getfield 18, 3) := by decide +kernel
theorem dX6_stepsToEvenOut_7 : decode cX6_stepsToEvenOut 7 = .ok (.invokestatic 45, 3) := by decide +kernel
theorem dX6_stepsToEvenOut_10 : decode cX6_stepsToEvenOut 10 = .ok (.lmul, 1) := by decide +kernel
theorem dX6_stepsToEvenOut_11 : decode cX6_stepsToEvenOut 11 = .ok (.lstore_n 1, 1) := by decide +kernel
theorem dX6_stepsToEvenOut_12 : decode cX6_stepsToEvenOut 12 = .ok (.lload_n 1, 1) := by decide +kernel
theorem dX6_stepsToEvenOut_13 : decode cX6_stepsToEvenOut 13 = .ok (.lconst 0, 1) := by decide +kernel
theorem dX6_stepsToEvenOut_14 : decode cX6_stepsToEvenOut 14 = .ok (.lcmp, 1) := by decide +kernel
theorem dX6_stepsToEvenOut_15 : decode cX6_stepsToEvenOut 15 = .ok (.ifCond .ne 5, 3) := by decide +kernel
theorem dX6_stepsToEvenOut_18 : decode cX6_stepsToEvenOut 18 = .ok (.lconst 0, 1) := by decide +kernel
theorem dX6_stepsToEvenOut_19 : decode cX6_stepsToEvenOut 19 = .ok (.lreturn, 1) := by decide +kernel
theorem dX6_stepsToEvenOut_20 : decode cX6_stepsToEvenOut 20 = .ok (.aload_n 0, 1) := by decide +kernel
theorem dX6_stepsToEvenOut_21 : decode cX6_stepsToEvenOut 21 = .ok (.getfield 21, 3) := by decide +kernel
theorem dX6_stepsToEvenOut_24 : decode cX6_stepsToEvenOut 24 = .ok (.aload_n 0, 1) := by decide +kernel
theorem dX6_stepsToEvenOut_25 : decode cX6_stepsToEvenOut 25 = .ok (.getfield 9, 3) := by decide +kernel
theorem dX6_stepsToEvenOut_28 : decode cX6_stepsToEvenOut 28 = .ok (.lsub, 1) := by decide +kernel
theorem dX6_stepsToEvenOut_29 : decode cX6_stepsToEvenOut 29 = .ok (.lload_n 1, 1) := by decide +kernel
theorem dX6_stepsToEvenOut_30 : decode cX6_stepsToEvenOut 30 = .ok (.ldc2_w 43, 3) := by decide +kernel
theorem dX6_stepsToEvenOut_33 : decode cX6_stepsToEvenOut 33 = .ok (.ldiv, 1) := by decide +kernel
theorem dX6_stepsToEvenOut_34 : decode cX6_stepsToEvenOut 34 = .ok (.ladd, 1) := by decide +kernel
theorem dX6_stepsToEvenOut_35 : decode cX6_stepsToEvenOut 35 = .ok (.lload_n 1, 1) := by decide +kernel
theorem dX6_stepsToEvenOut_36 : decode cX6_stepsToEvenOut 36 = .ok (.invokestatic 51, 3) := by decide +kernel
theorem dX6_stepsToEvenOut_39 : decode cX6_stepsToEvenOut 39 = .ok (.lstore_n 3, 1) := by decide +kernel
theorem dX6_stepsToEvenOut_40 : decode cX6_stepsToEvenOut 40 = .ok (.aload_n 0, 1) := by decide +kernel
theorem dX6_stepsToEvenOut_41 : decode cX6_stepsToEvenOut 41 = .ok (.getfield 18, 3) := by decide +kernel
theorem dX6_stepsToEvenOut_44 : decode cX6_stepsToEvenOut 44 = .ok (.lconst 0, 1) := by decide +kernel
theorem dX6_stepsToEvenOut_45 : decode cX6_stepsToEvenOut 45 = .ok (.lcmp, 1) := by decide +kernel
theorem dX6_stepsToEvenOut_46 : decode cX6_stepsToEvenOut 46 = .ok (.ifCond .le 7, 3) := by decide +kernel
theorem dX6_stepsToEvenOut_49 : decode cX6_stepsToEvenOut 49 = .ok (.lload_n 3, 1) := by decide +kernel
theorem dX6_stepsToEvenOut_50 : decode cX6_stepsToEvenOut 50 = .ok (.goto 5, 3) := by decide +kernel
theorem dX6_stepsToEvenOut_53 : decode cX6_stepsToEvenOut 53 = .ok (.lload_n 3, 1) := by decide +kernel
theorem dX6_stepsToEvenOut_54 : decode cX6_stepsToEvenOut 54 = .ok (.lneg, 1) := by decide +kernel
theorem dX6_stepsToEvenOut_55 : decode cX6_stepsToEvenOut 55 = .ok (.lreturn, 1) := by decide +kernel
theorem dX6_hasLikeSides_0 : decode cX6_hasLikeSides 0 = .ok (.aload_n 0, 1) := by decide +kernel
theorem dX6_hasLikeSides_1 : decode cX6_hasLikeSides 1 = .ok (.getfield 15, 3) := by decide +kernel
theorem dX6_hasLikeSides_4 : decode cX6_hasLikeSides 4 = .ok (.lconst 0, 1) := by decide +kernel
theorem dX6_hasLikeSides_5 : decode cX6_hasLikeSides 5 = .ok (.lcmp, 1) := by decide +kernel
theorem dX6_hasLikeSides_6 : decode cX6_hasLikeSides 6 = .ok (.ifCond .le 12, 3) := by decide +kernel
theorem dX6_hasLikeSides_9 : decode cX6_hasLikeSides 9 = .ok (.aload_n 0, 1) := by decide +kernel
theorem dX6_hasLikeSides_10 : decode cX6_hasLikeSides 10 = .ok (.getfield 18, 3) := by decide +kernel
theorem dX6_hasLikeSides_13 : decode cX6_hasLikeSides 13 = .ok (.lconst 0, 1) := by decide +kernel
theorem dX6_hasLikeSides_14 : decode cX6_hasLikeSides 14 = .ok (.lcmp, 1) := by decide +kernel
theorem dX6_hasLikeSides_15 : decode cX6_hasLikeSides 15 = .ok (.ifCond .gt 21, 3) := by decide +kernel
theorem dX6_hasLikeSides_18 : decode cX6_hasLikeSides 18 = .ok (.aload_n 0, 1) := by decide +kernel
theorem dX6_hasLikeSides_19 : decode cX6_hasLikeSides 19 = .ok (.getfield 15, 3) := by decide +kernel
theorem dX6_hasLikeSides_22 : decode cX6_hasLikeSides 22 = .ok (.lconst 0, 1) := by decide +kernel
theorem dX6_hasLikeSides_23 : decode cX6_hasLikeSides 23 = .ok (.lcmp, 1) := by decide +kernel
theorem dX6_hasLikeSides_24 : decode cX6_hasLikeSides 24 = .ok (.ifCond .ge 16, 3) := by decide +kernel
theorem dX6_hasLikeSides_27 : decode cX6_hasLikeSides 27 = .ok (.aload_n 0, 1) := by decide +kernel
theorem dX6_hasLikeSides_28 : decode cX6_hasLikeSides 28 = .ok (.getfield 18, 3) := by decide +kernel
theorem dX6_hasLikeSides_31 : decode cX6_hasLikeSides 31 = .ok (.lconst 0, 1) := by decide +kernel
theorem dX6_hasLikeSides_32 : decode cX6_hasLikeSides 32 = .ok (.lcmp, 1) := by decide +kernel
theorem dX6_hasLikeSides_33 : decode cX6_hasLikeSides 33 = .ok (.ifCond .ge 7, 3) := by decide +kernel
theorem dX6_hasLikeSides_36 : decode cX6_hasLikeSides 36 = .ok (.iconst 1, 1) := by decide +kernel
theorem dX6_hasLikeSides_37 : decode cX6_hasLikeSides 37 = .ok (.goto 4, 3) := by decide +kernel
theorem dX6_hasLikeSides_40 : decode cX6_hasLikeSides 40 = .ok (.iconst 0, 1) := by decide +kernel
theorem dX6_hasLikeSides_41 : decode cX6_hasLikeSides 41 = .ok (.ireturn, 1) := by decide +kernel
theorem dX6_trace_0 : decode cX6_trace 0 = .ok (.aload_n 0, 1) := by decide +kernel
theorem dX6_trace_1 : decode cX6_trace 1 = .ok (.getfield 9, 3) := by decide +kernel
theorem dX6_trace_4 : decode cX6_trace 4 = .ok (.aload_n 0, 1) := by decide +kernel
theorem dX6_trace_5 : decode cX6_trace 5 = .ok (.getfield 21, 3) := by decide +kernel
theorem dX6_trace_8 : decode cX6_trace 8 = .ok (.ladd, 1) := by decide +kernel
theorem dX6_trace_9 : decode cX6_trace 9 = .ok (.lreturn, 1) := by decide +kernel
theorem dX6_hasAreaOne_0 : decode cX6_hasAreaOne 0 = .ok (.aload_n 0, 1) := by decide +kernel
theorem dX6_hasAreaOne_1 : decode cX6_hasAreaOne 1 = .ok (.getfield 9, 3) := by decide +kernel
theorem dX6_hasAreaOne_4 : decode cX6_hasAreaOne 4 = .ok (.aload_n 0, 1) := by decide +kernel
theorem dX6_hasAreaOne_5 : decode cX6_hasAreaOne 5 = .ok (.getfield 21, 3) := by decide +kernel
theorem dX6_hasAreaOne_8 : decode cX6_hasAreaOne 8 = .ok (.lmul, 1) := by decide +kernel
theorem dX6_hasAreaOne_9 : decode cX6_hasAreaOne 9 = .ok (.aload_n 0, 1) := by decide +kernel
theorem dX6_hasAreaOne_10 : decode cX6_hasAreaOne 10 = .ok (.getfield 15, 3) := by decide +kernel
theorem dX6_hasAreaOne_13 : decode cX6_hasAreaOne 13 = .ok (.aload_n 0, 1) := by decide +kernel
theorem dX6_hasAreaOne_14 : decode cX6_hasAreaOne 14 = .ok (.getfield 18, 3) := by decide +kernel
theorem dX6_hasAreaOne_17 : decode cX6_hasAreaOne 17 = .ok (.lmul, 1) := by decide +kernel
theorem dX6_hasAreaOne_18 : decode cX6_hasAreaOne 18 = .ok (.lsub, 1) := by decide +kernel
theorem dX6_hasAreaOne_19 : decode cX6_hasAreaOne 19 = .ok (.lconst 1, 1) := by decide +kernel
theorem dX6_hasAreaOne_20 : decode cX6_hasAreaOne 20 = .ok (.lcmp, 1) := by decide +kernel
theorem dX6_hasAreaOne_21 : decode cX6_hasAreaOne 21 = .ok (.ifCond .ne 7, 3) := by decide +kernel
theorem dX6_hasAreaOne_24 : decode cX6_hasAreaOne 24 = .ok (.iconst 1, 1) := by decide +kernel
theorem dX6_hasAreaOne_25 : decode cX6_hasAreaOne 25 = .ok (.goto 4, 3) := by decide +kernel
theorem dX6_hasAreaOne_28 : decode cX6_hasAreaOne 28 = .ok (.iconst 0, 1) := by decide +kernel
theorem dX6_hasAreaOne_29 : decode cX6_hasAreaOne 29 = .ok (.ireturn, 1) := by decide +kernel
theorem dX6_isWithinBounds_0 : decode cX6_isWithinBounds 0 = .ok (.aload_n 0, 1) := by decide +kernel
theorem dX6_isWithinBounds_1 : decode cX6_isWithinBounds 1 = .ok (.getfield 9, 3) := by decide +kernel
theorem dX6_isWithinBounds_4 : decode cX6_isWithinBounds 4 = .ok (.invokestatic 55, 3) := by decide +kernel
theorem dX6_isWithinBounds_7 : decode cX6_isWithinBounds 7 = .ok (.ifCond .eq 37, 3) := by decide +kernel
theorem dX6_isWithinBounds_10 : decode cX6_isWithinBounds 10 = .ok (.aload_n 0, 1) := by decide +kernel
theorem dX6_isWithinBounds_11 : decode cX6_isWithinBounds 11 = .ok (.getfield 15, 3) := by decide +kernel
theorem dX6_isWithinBounds_14 : decode cX6_isWithinBounds 14 = .ok (.invokestatic 55, 3) := by decide +kernel
theorem dX6_isWithinBounds_17 : decode cX6_isWithinBounds 17 = .ok (.ifCond .eq 27, 3) := by decide +kernel
theorem dX6_isWithinBounds_20 : decode cX6_isWithinBounds 20 = .ok (.aload_n 0, 1) := by decide +kernel
theorem dX6_isWithinBounds_21 : decode cX6_isWithinBounds 21 = .ok (.getfield 18, 3) := by decide +kernel
theorem dX6_isWithinBounds_24 : decode cX6_isWithinBounds 24 = .ok (.invokestatic 55, 3) := by decide +kernel
theorem dX6_isWithinBounds_27 : decode cX6_isWithinBounds 27 = .ok (.ifCond .eq 17, 3) := by decide +kernel
theorem dX6_isWithinBounds_30 : decode cX6_isWithinBounds 30 = .ok (.aload_n 0, 1) := by decide +kernel
theorem dX6_isWithinBounds_31 : decode cX6_isWithinBounds 31 = .ok (.getfield 21, 3) := by decide +kernel
theorem dX6_isWithinBounds_34 : decode cX6_isWithinBounds 34 = .ok (.invokestatic 55, 3) := by decide +kernel
theorem dX6_isWithinBounds_37 : decode cX6_isWithinBounds 37 = .ok (.ifCond .eq 7, 3) := by decide +kernel
theorem dX6_isWithinBounds_40 : decode cX6_isWithinBounds 40 = .ok (.iconst 1, 1) := by decide +kernel
theorem dX6_isWithinBounds_41 : decode cX6_isWithinBounds 41 = .ok (.goto 4, 3) := by decide +kernel
theorem dX6_isWithinBounds_44 : decode cX6_isWithinBounds 44 = .ok (.iconst 0, 1) := by decide +kernel
theorem dX6_isWithinBounds_45 : decode cX6_isWithinBounds 45 = .ok (.ireturn, 1) := by decide +kernel
theorem dX6_isNumber_0 : decode cX6_isNumber 0 = .ok (.lload_n 0, 1) := by decide +kernel
theorem dX6_isNumber_1 : decode cX6_isNumber 1 = .ok (.ldc2_w 59, 3) := by decide +kernel
theorem dX6_isNumber_4 : decode cX6_isNumber 4 = .ok (.lcmp, 1) := by decide +kernel
theorem dX6_isNumber_5 : decode cX6_isNumber 5 = .ok (.ifCond .lt 15, 3) := by decide +kernel
theorem dX6_isNumber_8 : decode cX6_isNumber 8 = .ok (.lload_n 0, 1) := by decide +kernel
theorem dX6_isNumber_9 : decode cX6_isNumber 9 = .ok (.ldc2_w 61, 3) := by decide +kernel
theorem dX6_isNumber_12 : decode cX6_isNumber 12 = .ok (.lcmp, 1) := by decide +kernel
theorem dX6_isNumber_13 : decode cX6_isNumber 13 = .ok (.ifCond .gt 7, 3) := by decide +kernel
theorem dX6_isNumber_16 : decode cX6_isNumber 16 = .ok (.iconst 1, 1) := by decide +kernel
theorem dX6_isNumber_17 : decode cX6_isNumber 17 = .ok (.goto 4, 3) := by decide +kernel
theorem dX6_isNumber_20 : decode cX6_isNumber 20 = .ok (.iconst 0, 1) := by decide +kernel
theorem dX6_isNumber_21 : decode cX6_isNumber 21 = .ok (.ireturn, 1) := by decide +kernel
theorem dX6_isOne_0 : decode cX6_isOne 0 = .ok (.aload_n 0, 1) := by decide +kernel
theorem dX6_isOne_1 : decode cX6_isOne 1 = .ok (.getfield 9, 3) := by decide +kernel
theorem dX6_isOne_4 : decode cX6_isOne 4 = .ok (.lconst 1, 1) := by decide +kernel
theorem dX6_isOne_5 : decode cX6_isOne 5 = .ok (.lcmp, 1) := by decide +kernel
theorem dX6_isOne_6 : decode cX6_isOne 6 = .ok (.ifCond .ne 34, 3) := by decide +kernel
theorem dX6_isOne_9 : decode cX6_isOne 9 = .ok (.aload_n 0, 1) := by decide +kernel
theorem dX6_isOne_10 : decode cX6_isOne 10 = .ok (.getfield 15, 3) := by decide +kernel
theorem dX6_isOne_13 : decode cX6_isOne 13 = .ok (.lconst 0, 1) := by decide +kernel
theorem dX6_isOne_14 : decode cX6_isOne 14 = .ok (.lcmp, 1) := by decide +kernel
theorem dX6_isOne_15 : decode cX6_isOne 15 = .ok (.ifCond .ne 25, 3) := by decide +kernel
theorem dX6_isOne_18 : decode cX6_isOne 18 = .ok (.aload_n 0, 1) := by decide +kernel
theorem dX6_isOne_19 : decode cX6_isOne 19 = .ok (.getfield 18, 3) := by decide +kernel
theorem dX6_isOne_22 : decode cX6_isOne 22 = .ok (.lconst 0, 1) := by decide +kernel
theorem dX6_isOne_23 : decode cX6_isOne 23 = .ok (.lcmp, 1) := by decide +kernel
theorem dX6_isOne_24 : decode cX6_isOne 24 = .ok (.ifCond .ne 16, 3) := by decide +kernel
theorem dX6_isOne_27 : decode cX6_isOne 27 = .ok (.aload_n 0, 1) := by decide +kernel
theorem dX6_isOne_28 : decode cX6_isOne 28 = .ok (.getfield 21, 3) := by decide +kernel
theorem dX6_isOne_31 : decode cX6_isOne 31 = .ok (.lconst 1, 1) := by decide +kernel
theorem dX6_isOne_32 : decode cX6_isOne 32 = .ok (.lcmp, 1) := by decide +kernel
theorem dX6_isOne_33 : decode cX6_isOne 33 = .ok (.ifCond .ne 7, 3) := by decide +kernel
theorem dX6_isOne_36 : decode cX6_isOne 36 = .ok (.iconst 1, 1) := by decide +kernel
theorem dX6_isOne_37 : decode cX6_isOne 37 = .ok (.goto 4, 3) := by decide +kernel
theorem dX6_isOne_40 : decode cX6_isOne 40 = .ok (.iconst 0, 1) := by decide +kernel
theorem dX6_isOne_41 : decode cX6_isOne 41 = .ok (.ireturn, 1) := by decide +kernel
theorem dX6_hasNoneBelowZero_0 : decode cX6_hasNoneBelowZero 0 = .ok (.aload_n 0, 1) := by decide +kernel
theorem dX6_hasNoneBelowZero_1 : decode cX6_hasNoneBelowZero 1 = .ok (.getfield 9, 3) := by decide +kernel
theorem dX6_hasNoneBelowZero_4 : decode cX6_hasNoneBelowZero 4 = .ok (.lconst 0, 1) := by decide +kernel
theorem dX6_hasNoneBelowZero_5 : decode cX6_hasNoneBelowZero 5 = .ok (.lcmp, 1) := by decide +kernel
theorem dX6_hasNoneBelowZero_6 : decode cX6_hasNoneBelowZero 6 = .ok (.ifCond .lt 34, 3) := by decide +kernel
theorem dX6_hasNoneBelowZero_9 : decode cX6_hasNoneBelowZero 9 = .ok (.aload_n 0, 1) := by decide +kernel
theorem dX6_hasNoneBelowZero_10 : decode cX6_hasNoneBelowZero 10 = .ok (.getfield 15, 3) := by decide +kernel
theorem dX6_hasNoneBelowZero_13 : decode cX6_hasNoneBelowZero 13 = .ok (.lconst 0, 1) := by decide +kernel
theorem dX6_hasNoneBelowZero_14 : decode cX6_hasNoneBelowZero 14 = .ok (.lcmp, 1) := by decide +kernel
theorem dX6_hasNoneBelowZero_15 : decode cX6_hasNoneBelowZero 15 = .ok (.ifCond .lt 25, 3) := by decide +kernel
theorem dX6_hasNoneBelowZero_18 : decode cX6_hasNoneBelowZero 18 = .ok (.aload_n 0, 1) := by decide +kernel
theorem dX6_hasNoneBelowZero_19 : decode cX6_hasNoneBelowZero 19 = .ok (.getfield 18, 3) := by decide +kernel
theorem dX6_hasNoneBelowZero_22 : decode cX6_hasNoneBelowZero 22 = .ok (.lconst 0, 1) := by decide +kernel
theorem dX6_hasNoneBelowZero_23 : decode cX6_hasNoneBelowZero 23 = .ok (.lcmp, 1) := by decide +kernel
theorem dX6_hasNoneBelowZero_24 : decode cX6_hasNoneBelowZero 24 = .ok (.ifCond .lt 16, 3) := by decide +kernel
theorem dX6_hasNoneBelowZero_27 : decode cX6_hasNoneBelowZero 27 = .ok (.aload_n 0, 1) := by decide +kernel
theorem dX6_hasNoneBelowZero_28 : decode cX6_hasNoneBelowZero 28 = .ok (.getfield 21, 3) := by decide +kernel
theorem dX6_hasNoneBelowZero_31 : decode cX6_hasNoneBelowZero 31 = .ok (.lconst 0, 1) := by decide +kernel
theorem dX6_hasNoneBelowZero_32 : decode cX6_hasNoneBelowZero 32 = .ok (.lcmp, 1) := by decide +kernel
theorem dX6_hasNoneBelowZero_33 : decode cX6_hasNoneBelowZero 33 = .ok (.ifCond .lt 7, 3) := by decide +kernel
theorem dX6_hasNoneBelowZero_36 : decode cX6_hasNoneBelowZero 36 = .ok (.iconst 1, 1) := by decide +kernel
theorem dX6_hasNoneBelowZero_37 : decode cX6_hasNoneBelowZero 37 = .ok (.goto 4, 3) := by decide +kernel
theorem dX6_hasNoneBelowZero_40 : decode cX6_hasNoneBelowZero 40 = .ok (.iconst 0, 1) := by decide +kernel
theorem dX6_hasNoneBelowZero_41 : decode cX6_hasNoneBelowZero 41 = .ok (.ireturn, 1) := by decide +kernel
theorem dX6_isSameAs_0 : decode cX6_isSameAs 0 = .ok (.aload_n 0, 1) := by decide +kernel
theorem dX6_isSameAs_1 : decode cX6_isSameAs 1 = .ok (.getfield 9, 3) := by decide +kernel
theorem dX6_isSameAs_4 : decode cX6_isSameAs 4 = .ok (.aload_n 1, 1) := by decide +kernel
theorem dX6_isSameAs_5 : decode cX6_isSameAs 5 = .ok (.getfield 9, 3) := by decide +kernel
theorem dX6_isSameAs_8 : decode cX6_isSameAs 8 = .ok (.lcmp, 1) := by decide +kernel
theorem dX6_isSameAs_9 : decode cX6_isSameAs 9 = .ok (.ifCond .ne 43, 3) := by decide +kernel
theorem dX6_isSameAs_12 : decode cX6_isSameAs 12 = .ok (.aload_n 0, 1) := by decide +kernel
theorem dX6_isSameAs_13 : decode cX6_isSameAs 13 = .ok (.getfield 15, 3) := by decide +kernel
theorem dX6_isSameAs_16 : decode cX6_isSameAs 16 = .ok (.aload_n 1, 1) := by decide +kernel
theorem dX6_isSameAs_17 : decode cX6_isSameAs 17 = .ok (.getfield 15, 3) := by decide +kernel
theorem dX6_isSameAs_20 : decode cX6_isSameAs 20 = .ok (.lcmp, 1) := by decide +kernel
theorem dX6_isSameAs_21 : decode cX6_isSameAs 21 = .ok (.ifCond .ne 31, 3) := by decide +kernel
theorem dX6_isSameAs_24 : decode cX6_isSameAs 24 = .ok (.aload_n 0, 1) := by decide +kernel
theorem dX6_isSameAs_25 : decode cX6_isSameAs 25 = .ok (.getfield 18, 3) := by decide +kernel
theorem dX6_isSameAs_28 : decode cX6_isSameAs 28 = .ok (.aload_n 1, 1) := by decide +kernel
theorem dX6_isSameAs_29 : decode cX6_isSameAs 29 = .ok (.getfield 18, 3) := by decide +kernel
theorem dX6_isSameAs_32 : decode cX6_isSameAs 32 = .ok (.lcmp, 1) := by decide +kernel
theorem dX6_isSameAs_33 : decode cX6_isSameAs 33 = .ok (.ifCond .ne 19, 3) := by decide +kernel
theorem dX6_isSameAs_36 : decode cX6_isSameAs 36 = .ok (.aload_n 0, 1) := by decide +kernel
theorem dX6_isSameAs_37 : decode cX6_isSameAs 37 = .ok (.getfield 21, 3) := by decide +kernel
theorem dX6_isSameAs_40 : decode cX6_isSameAs 40 = .ok (.aload_n 1, 1) := by decide +kernel
theorem dX6_isSameAs_41 : decode cX6_isSameAs 41 = .ok (.getfield 21, 3) := by decide +kernel
theorem dX6_isSameAs_44 : decode cX6_isSameAs 44 = .ok (.lcmp, 1) := by decide +kernel
theorem dX6_isSameAs_45 : decode cX6_isSameAs 45 = .ok (.ifCond .ne 7, 3) := by decide +kernel
theorem dX6_isSameAs_48 : decode cX6_isSameAs 48 = .ok (.iconst 1, 1) := by decide +kernel
theorem dX6_isSameAs_49 : decode cX6_isSameAs 49 = .ok (.goto 4, 3) := by decide +kernel
theorem dX6_isSameAs_52 : decode cX6_isSameAs 52 = .ok (.iconst 0, 1) := by decide +kernel
theorem dX6_isSameAs_53 : decode cX6_isSameAs 53 = .ok (.ireturn, 1) := by decide +kernel
theorem dX7_init_0 : decode cX7_init 0 = .ok (.aload_n 0, 1) := by decide +kernel
theorem dX7_init_1 : decode cX7_init 1 = .ok (.invokespecial 3, 3) := by decide +kernel
theorem dX7_init_4 : decode cX7_init 4 = .ok (.aload_n 0, 1) := by decide +kernel
theorem dX7_init_5 : decode cX7_init 5 = .ok (.bipush 60, 2) := by decide +kernel
theorem dX7_init_7 : decode cX7_init 7 = .ok (.newarray .int, 2) := by decide +kernel
theorem dX7_init_9 : decode cX7_init 9 = .ok (.putfield 9, 3) := by decide +kernel
theorem dX7_init_12 : decode cX7_init 12 = .ok (.aload_n 0, 1) := by decide +kernel
theorem dX7_init_13 : decode cX7_init 13 = .ok (.iconst 0, 1) := by decide +kernel
theorem dX7_init_14 : decode cX7_init 14 = .ok (.putfield 15, 3) := by decide +kernel
theorem dX7_init_17 : decode cX7_init 17 = .ok (.aload_n 0, 1) := by decide +kernel
theorem dX7_init_18 : decode cX7_init 18 = .ok (.iconst (-1), 1) := by decide +kernel
theorem dX7_init_19 : decode cX7_init 19 = .ok (.putfield 19, 3) := by decide +kernel
theorem dX7_init_22 : decode cX7_init 22 = .ok (.return_, 1) := by decide +kernel
theorem dX7_length_0 : decode cX7_length 0 = .ok (.aload_n 0, 1) := by decide +kernel
theorem dX7_length_1 : decode cX7_length 1 = .ok (.getfield 15, 3) := by decide +kernel
theorem dX7_length_4 : decode cX7_length 4 = .ok (.ireturn, 1) := by decide +kernel
theorem dX7_isFull_0 : decode cX7_isFull 0 = .ok (.aload_n 0, 1) := by decide +kernel
theorem dX7_isFull_1 : decode cX7_isFull 1 = .ok (.getfield 15, 3) := by decide +kernel
theorem dX7_isFull_4 : decode cX7_isFull 4 = .ok (.bipush 60, 2) := by decide +kernel
theorem dX7_isFull_6 : decode cX7_isFull 6 = .ok (.if_icmp .lt 7, 3) := by decide +kernel
theorem dX7_isFull_9 : decode cX7_isFull 9 = .ok (.iconst 1, 1) := by decide +kernel
theorem dX7_isFull_10 : decode cX7_isFull 10 = .ok (.goto 4, 3) := by decide +kernel
theorem dX7_isFull_13 : decode cX7_isFull 13 = .ok (.iconst 0, 1) := by decide +kernel
theorem dX7_isFull_14 : decode cX7_isFull 14 = .ok (.ireturn, 1) := by decide +kernel
theorem dX7_append_0 : decode cX7_append 0 = .ok (.aload_n 0, 1) := by decide +kernel
theorem dX7_append_1 : decode cX7_append 1 = .ok (.invokevirtual 22, 3) := by decide +kernel
theorem dX7_append_4 : decode cX7_append 4 = .ok (.ifCond .ne 23, 3) := by decide +kernel
theorem dX7_append_7 : decode cX7_append 7 = .ok (.aload_n 0, 1) := by decide +kernel
theorem dX7_append_8 : decode cX7_append 8 = .ok (.getfield 9, 3) := by decide +kernel
theorem dX7_append_11 : decode cX7_append 11 = .ok (.aload_n 0, 1) := by decide +kernel
theorem dX7_append_12 : decode cX7_append 12 = .ok (.getfield 15, 3) := by decide +kernel
theorem dX7_append_15 : decode cX7_append 15 = .ok (.iload_n 1, 1) := by decide +kernel
theorem dX7_append_16 : decode cX7_append 16 = .ok (.iastore, 1) := by decide +kernel
theorem dX7_append_17 : decode cX7_append 17 = .ok (.aload_n 0, 1) := by decide +kernel
theorem dX7_append_18 : decode cX7_append 18 = .ok (.dup, 1) := by decide +kernel
theorem dX7_append_19 : decode cX7_append 19 = .ok (.getfield 15, 3) := by decide +kernel
theorem dX7_append_22 : decode cX7_append 22 = .ok (.iconst 1, 1) := by decide +kernel
theorem dX7_append_23 : decode cX7_append 23 = .ok (.iadd, 1) := by decide +kernel
theorem dX7_append_24 : decode cX7_append 24 = .ok (.putfield 15, 3) := by decide +kernel
theorem dX7_append_27 : decode cX7_append 27 = .ok (.return_, 1) := by decide +kernel
theorem dX7_clear_0 : decode cX7_clear 0 = .ok (.aload_n 0, 1) := by decide +kernel
theorem dX7_clear_1 : decode cX7_clear 1 = .ok (.iconst 0, 1) := by decide +kernel
theorem dX7_clear_2 : decode cX7_clear 2 = .ok (.putfield 15, 3) := by decide +kernel
theorem dX7_clear_5 : decode cX7_clear 5 = .ok (.return_, 1) := by decide +kernel
theorem dX7_faultPlace_0 : decode cX7_faultPlace 0 = .ok (.aload_n 0, 1) := by decide +kernel
theorem dX7_faultPlace_1 : decode cX7_faultPlace 1 = .ok (.getfield 19, 3) := by decide +kernel
theorem dX7_faultPlace_4 : decode cX7_faultPlace 4 = .ok (.ireturn, 1) := by decide +kernel
theorem dX7_spell_0 : decode cX7_spell 0 = .ok (.aload_n 1, 1) := by decide +kernel
theorem dX7_spell_1 : decode cX7_spell 1 = .ok (.invokevirtual 26, 3) := by decide +kernel
theorem dX7_spell_4 : decode cX7_spell 4 = .ok (.aload_n 0, 1) := by decide +kernel
theorem dX7_spell_5 : decode cX7_spell 5 = .ok (.iconst (-1), 1) := by decide +kernel
theorem dX7_spell_6 : decode cX7_spell 6 = .ok (.putfield 19, 3) := by decide +kernel
theorem dX7_spell_9 : decode cX7_spell 9 = .ok (.iconst 0, 1) := by decide +kernel
theorem dX7_spell_10 : decode cX7_spell 10 = .ok (.istore_n 2, 1) := by decide +kernel
theorem dX7_spell_11 : decode cX7_spell 11 = .ok (.iload_n 2, 1) := by decide +kernel
theorem dX7_spell_12 : decode cX7_spell 12 = .ok (.aload_n 0, 1) := by decide +kernel
theorem dX7_spell_13 : decode cX7_spell 13 = .ok (.getfield 15, 3) := by decide +kernel
theorem dX7_spell_16 : decode cX7_spell 16 = .ok (.if_icmp .ge 43, 3) := by decide +kernel
theorem dX7_spell_19 : decode cX7_spell 19 = .ok (.aload_n 1, 1) := by decide +kernel
theorem dX7_spell_20 : decode cX7_spell 20 = .ok (.aload_n 0, 1) := by decide +kernel
theorem dX7_spell_21 : decode cX7_spell 21 = .ok (.getfield 9, 3) := by decide +kernel
theorem dX7_spell_24 : decode cX7_spell 24 = .ok (.iload_n 2, 1) := by decide +kernel
theorem dX7_spell_25 : decode cX7_spell 25 = .ok (.iaload, 1) := by decide +kernel
theorem dX7_spell_26 : decode cX7_spell 26 = .ok (.invokevirtual 31, 3) := by decide +kernel
theorem dX7_spell_29 : decode cX7_spell 29 = .ok (.ifCond .ne 10, 3) := by decide +kernel
theorem dX7_spell_32 : decode cX7_spell 32 = .ok (.aload_n 0, 1) := by decide +kernel
theorem dX7_spell_33 : decode cX7_spell 33 = .ok (.iload_n 2, 1) := by decide +kernel
theorem dX7_spell_34 : decode cX7_spell 34 = .ok (.putfield 19, 3) := by decide +kernel
theorem dX7_spell_37 : decode cX7_spell 37 = .ok (.iconst 1, 1) := by decide +kernel
theorem dX7_spell_38 : decode cX7_spell 38 = .ok (.ireturn, 1) := by decide +kernel
theorem dX7_spell_39 : decode cX7_spell 39 = .ok (.aload_n 1, 1) := by decide +kernel
theorem dX7_spell_40 : decode cX7_spell 40 = .ok (.invokevirtual 35, 3) := by decide +kernel
theorem dX7_spell_43 : decode cX7_spell 43 = .ok (.ifCond .ne 10, 3) := by decide +kernel
theorem dX7_spell_46 : decode cX7_spell 46 = .ok (.aload_n 0, 1) := by decide +kernel
theorem dX7_spell_47 : decode cX7_spell 47 = .ok (.iload_n 2, 1) := by decide +kernel
theorem dX7_spell_48 : decode cX7_spell 48 = .ok (.putfield 19, 3) := by decide +kernel
theorem dX7_spell_51 : decode cX7_spell 51 = .ok (.iconst 2, 1) := by decide +kernel
theorem dX7_spell_52 : decode cX7_spell 52 = .ok (.ireturn, 1) := by decide +kernel
theorem dX7_spell_53 : decode cX7_spell 53 = .ok (.iinc 2 1, 3) := by decide +kernel
theorem dX7_spell_56 : decode cX7_spell 56 = .ok (.goto (-45), 3) := by decide +kernel
theorem dX7_spell_59 : decode cX7_spell 59 = .ok (.iconst 0, 1) := by decide +kernel
theorem dX7_spell_60 : decode cX7_spell 60 = .ok (.ireturn, 1) := by decide +kernel
theorem dX8_init_0 : decode cX8_init 0 = .ok (.aload_n 0, 1) := by decide +kernel
theorem dX8_init_1 : decode cX8_init 1 = .ok (.invokespecial 3, 3) := by decide +kernel
theorem dX8_init_4 : decode cX8_init 4 = .ok (.aload_n 0, 1) := by decide +kernel
theorem dX8_init_5 : decode cX8_init 5 = .ok (.bipush 40, 2) := by decide +kernel
theorem dX8_init_7 : decode cX8_init 7 = .ok (.newarray .int, 2) := by decide +kernel
theorem dX8_init_9 : decode cX8_init 9 = .ok (.putfield 9, 3) := by decide +kernel
theorem dX8_init_12 : decode cX8_init 12 = .ok (.aload_n 0, 1) := by decide +kernel
theorem dX8_init_13 : decode cX8_init 13 = .ok (.new 15, 3) := by decide +kernel
theorem dX8_init_16 : decode cX8_init 16 = .ok (.dup, 1) := by decide +kernel
theorem dX8_init_17 : decode cX8_init 17 = .ok (.invokespecial 17, 3) := by decide +kernel
theorem dX8_init_20 : decode cX8_init 20 = .ok (.putfield 18, 3) := by decide +kernel
theorem dX8_init_23 : decode cX8_init 23 = .ok (.aload_n 0, 1) := by decide +kernel
theorem dX8_init_24 : decode cX8_init 24 = .ok (.new 22, 3) := by decide +kernel
theorem dX8_init_27 : decode cX8_init 27 = .ok (.dup, 1) := by decide +kernel
theorem dX8_init_28 : decode cX8_init 28 = .ok (.invokespecial 24, 3) := by decide +kernel
theorem dX8_init_31 : decode cX8_init 31 = .ok (.putfield 25, 3) := by decide +kernel
theorem dX8_init_34 : decode cX8_init 34 = .ok (.aload_n 0, 1) := by decide +kernel
theorem dX8_init_35 : decode cX8_init 35 = .ok (.iconst 0, 1) := by decide +kernel
theorem dX8_init_36 : decode cX8_init 36 = .ok (.putfield 29, 3) := by decide +kernel
theorem dX8_init_39 : decode cX8_init 39 = .ok (.aload_n 0, 1) := by decide +kernel
theorem dX8_init_40 : decode cX8_init 40 = .ok (.iconst 0, 1) := by decide +kernel
theorem dX8_init_41 : decode cX8_init 41 = .ok (.putfield 33, 3) := by decide +kernel
theorem dX8_init_44 : decode cX8_init 44 = .ok (.return_, 1) := by decide +kernel
theorem dX8_clear_0 : decode cX8_clear 0 = .ok (.aload_n 0, 1) := by decide +kernel
theorem dX8_clear_1 : decode cX8_clear 1 = .ok (.iconst 0, 1) := by decide +kernel
theorem dX8_clear_2 : decode cX8_clear 2 = .ok (.putfield 29, 3) := by decide +kernel
theorem dX8_clear_5 : decode cX8_clear 5 = .ok (.aload_n 0, 1) := by decide +kernel
theorem dX8_clear_6 : decode cX8_clear 6 = .ok (.iconst 0, 1) := by decide +kernel
theorem dX8_clear_7 : decode cX8_clear 7 = .ok (.putfield 33, 3) := by decide +kernel
theorem dX8_clear_10 : decode cX8_clear 10 = .ok (.return_, 1) := by decide +kernel
theorem dX8_read_0 : decode cX8_read 0 = .ok (.aload_n 0, 1) := by decide +kernel
theorem dX8_read_1 : decode cX8_read 1 = .ok (.getfield 18, 3) := by decide +kernel
theorem dX8_read_4 : decode cX8_read 4 = .ok (.aload_n 1, 1) := by decide +kernel
theorem dX8_read_5 : decode cX8_read 5 = .ok (.invokevirtual 36, 3) := by decide +kernel
theorem dX8_read_8 : decode cX8_read 8 = .ok (.aload_n 0, 1) := by decide +kernel
theorem dX8_read_9 : decode cX8_read 9 = .ok (.getfield 18, 3) := by decide +kernel
theorem dX8_read_12 : decode cX8_read 12 = .ok (.invokevirtual 40, 3) := by decide +kernel
theorem dX8_read_15 : decode cX8_read 15 = .ok (.lconst 0, 1) := by decide +kernel
theorem dX8_read_16 : decode cX8_read 16 = .ok (.lcmp, 1) := by decide +kernel
theorem dX8_read_17 : decode cX8_read 17 = .ok (.ifCond .ge 10, 3) := by decide +kernel
theorem dX8_read_20 : decode cX8_read 20 = .ok (.aload_n 0, 1) := by decide +kernel
theorem dX8_read_21 : decode cX8_read 21 = .ok (.getfield 18, 3) := by decide +kernel
theorem dX8_read_24 : decode cX8_read 24 = .ok (.invokevirtual 44, 3) := by decide +kernel
theorem dX8_read_27 : decode cX8_read 27 = .ok (.aload_n 0, 1) := by decide +kernel
theorem dX8_read_28 : decode cX8_read 28 = .ok (.getfield 18, 3) := by decide +kernel
theorem dX8_read_31 : decode cX8_read 31 = .ok (.invokevirtual 47, 3) := by decide +kernel
theorem dX8_read_34 : decode cX8_read 34 = .ok (.aload_n 0, 1) := by decide +kernel
theorem dX8_read_35 : decode cX8_read 35 = .ok (.getfield 25, 3) := by decide +kernel
theorem dX8_read_38 : decode cX8_read 38 = .ok (.aload_n 0, 1) := by decide +kernel
theorem dX8_read_39 : decode cX8_read 39 = .ok (.getfield 18, 3) := by decide +kernel
theorem dX8_read_42 : decode cX8_read 42 = .ok (.invokevirtual 50, 3) := by decide +kernel
theorem dX8_read_45 : decode cX8_read 45 = .ok (.aload_n 0, 1) := by decide +kernel
theorem dX8_read_46 : decode cX8_read 46 = .ok (.getfield 25, 3) := by decide +kernel
theorem dX8_read_49 : decode cX8_read 49 = .ok (.invokevirtual 51, 3) := by decide +kernel
theorem dX8_read_52 : decode cX8_read 52 = .ok (.pop2, 1) := by decide +kernel
theorem dX8_read_53 : decode cX8_read 53 = .ok (.aload_n 0, 1) := by decide +kernel
theorem dX8_read_54 : decode cX8_read 54 = .ok (.getfield 25, 3) := by decide +kernel
theorem dX8_read_57 : decode cX8_read 57 = .ok (.invokevirtual 54, 3) := by decide +kernel
theorem dX8_read_60 : decode cX8_read 60 = .ok (.ifCond .ne 11, 3) := by decide +kernel
theorem dX8_read_63 : decode cX8_read 63 = .ok (.aload_n 0, 1) := by decide +kernel
theorem dX8_read_64 : decode cX8_read 64 = .ok (.getfield 25, 3) := by decide +kernel
theorem dX8_read_67 : decode cX8_read 67 = .ok (.invokevirtual 51, 3) := by decide +kernel
theorem dX8_read_70 : decode cX8_read 70 = .ok (.pop2, 1) := by decide +kernel
theorem dX8_read_71 : decode cX8_read 71 = .ok (.aload_n 0, 1) := by decide +kernel
theorem dX8_read_72 : decode cX8_read 72 = .ok (.invokevirtual 58, 3) := by decide +kernel
theorem dX8_read_75 : decode cX8_read 75 = .ok (.aload_n 0, 1) := by decide +kernel
theorem dX8_read_76 : decode cX8_read 76 = .ok (.getfield 29, 3) := by decide +kernel
theorem dX8_read_79 : decode cX8_read 79 = .ok (.bipush 40, 2) := by decide +kernel
theorem dX8_read_81 : decode cX8_read 81 = .ok (.if_icmp .ge 43, 3) := by decide +kernel
theorem dX8_read_84 : decode cX8_read 84 = .ok (.aload_n 0, 1) := by decide +kernel
theorem dX8_read_85 : decode cX8_read 85 = .ok (.getfield 25, 3) := by decide +kernel
theorem dX8_read_88 : decode cX8_read 88 = .ok (.invokevirtual 61, 3) := by decide +kernel
theorem dX8_read_91 : decode cX8_read 91 = .ok (.ifCond .ne 33, 3) := by decide +kernel
theorem dX8_read_94 : decode cX8_read 94 = .ok (.aload_n 0, 1) := by decide +kernel
theorem dX8_read_95 : decode cX8_read 95 = .ok (.getfield 9, 3) := by decide +kernel
theorem dX8_read_98 : decode cX8_read 98 = .ok (.aload_n 0, 1) := by decide +kernel
theorem dX8_read_99 : decode cX8_read 99 = .ok (.getfield 29, 3) := by decide +kernel
theorem dX8_read_102 : decode cX8_read 102 = .ok (.aload_n 0, 1) := by decide +kernel
theorem dX8_read_103 : decode cX8_read 103 = .ok (.getfield 25, 3) := by decide +kernel
theorem dX8_read_106 : decode cX8_read 106 = .ok (.invokevirtual 64, 3) := by decide +kernel
theorem dX8_read_109 : decode cX8_read 109 = .ok (.l2i, 1) := by decide +kernel
theorem dX8_read_110 : decode cX8_read 110 = .ok (.iastore, 1) := by decide +kernel
theorem dX8_read_111 : decode cX8_read 111 = .ok (.aload_n 0, 1) := by decide +kernel
theorem dX8_read_112 : decode cX8_read 112 = .ok (.dup, 1) := by decide +kernel
theorem dX8_read_113 : decode cX8_read 113 = .ok (.getfield 29, 3) := by decide +kernel
theorem dX8_read_116 : decode cX8_read 116 = .ok (.iconst 1, 1) := by decide +kernel
theorem dX8_read_117 : decode cX8_read 117 = .ok (.iadd, 1) := by decide +kernel
theorem dX8_read_118 : decode cX8_read 118 = .ok (.putfield 29, 3) := by decide +kernel
theorem dX8_read_121 : decode cX8_read 121 = .ok (.goto (-46), 3) := by decide +kernel
theorem dX8_read_124 : decode cX8_read 124 = .ok (.aload_n 0, 1) := by decide +kernel
theorem dX8_read_125 : decode cX8_read 125 = .ok (.invokevirtual 67, 3) := by decide +kernel
theorem dX8_read_128 : decode cX8_read 128 = .ok (.return_, 1) := by decide +kernel
theorem dX8_findLeastStart_0 : decode cX8_findLeastStart 0 = .ok (.iconst 2, 1) := by decide +kernel
theorem dX8_findLeastStart_1 : decode cX8_findLeastStart 1 = .ok (.istore_n 1, 1) := by decide +kernel
theorem dX8_findLeastStart_2 : decode cX8_findLeastStart 2 = .ok (.iload_n 1, 1) := by decide +kernel
theorem dX8_findLeastStart_3 : decode cX8_findLeastStart 3 = .ok (.aload_n 0, 1) := by decide +kernel
theorem dX8_findLeastStart_4 : decode cX8_findLeastStart 4 = .ok (.getfield 29, 3) := by decide +kernel
theorem dX8_findLeastStart_7 : decode cX8_findLeastStart 7 = .ok (.if_icmp .ge 26, 3) := by decide +kernel
theorem dX8_findLeastStart_10 : decode cX8_findLeastStart 10 = .ok (.aload_n 0, 1) := by decide +kernel
theorem dX8_findLeastStart_11 : decode cX8_findLeastStart 11 = .ok (.iload_n 1, 1) := by decide +kernel
theorem dX8_findLeastStart_12 : decode cX8_findLeastStart 12 = .ok (.aload_n 0, 1) := by decide +kernel
theorem dX8_findLeastStart_13 : decode cX8_findLeastStart 13 = .ok (.getfield 33, 3) := by decide +kernel
theorem dX8_findLeastStart_16 : decode cX8_findLeastStart 16 = .ok (.invokevirtual 70, 3) := by decide +kernel
theorem dX8_findLeastStart_19 : decode cX8_findLeastStart 19 = .ok (.ifCond .eq 8, 3) := by decide +kernel
theorem dX8_findLeastStart_22 : decode cX8_findLeastStart 22 = .ok (.aload_n 0, 1) := by decide +kernel
theorem dX8_findLeastStart_23 : decode cX8_findLeastStart 23 = .ok (.iload_n 1, 1) := by decide +kernel
theorem dX8_findLeastStart_24 : decode cX8_findLeastStart 24 = .ok (.putfield 33, 3) := by decide +kernel
theorem dX8_findLeastStart_27 : decode cX8_findLeastStart 27 = .ok (.iinc 1 2, 3) := by decide +kernel
theorem dX8_findLeastStart_30 : decode cX8_findLeastStart 30 = .ok (.goto (-28), 3) := by decide +kernel
theorem dX8_findLeastStart_33 : decode cX8_findLeastStart 33 = .ok (.return_, 1) := by decide +kernel
theorem dX8_isLessFrom_0 : decode cX8_isLessFrom 0 = .ok (.iconst 0, 1) := by decide +kernel
theorem dX8_isLessFrom_1 : decode cX8_isLessFrom 1 = .ok (.istore_n 3, 1) := by decide +kernel
theorem dX8_isLessFrom_2 : decode cX8_isLessFrom 2 = .ok (.iload_n 3, 1) := by decide +kernel
theorem dX8_isLessFrom_3 : decode cX8_isLessFrom 3 = .ok (.aload_n 0, 1) := by decide +kernel
theorem dX8_isLessFrom_4 : decode cX8_isLessFrom 4 = .ok (.getfield 29, 3) := by decide +kernel
theorem dX8_isLessFrom_7 : decode cX8_isLessFrom 7 = .ok (.if_icmp .ge 59, 3) := by decide +kernel
theorem dX8_isLessFrom_10 : decode cX8_isLessFrom 10 = .ok (.aload_n 0, 1) := by decide +kernel
theorem dX8_isLessFrom_11 : decode cX8_isLessFrom 11 = .ok (.getfield 9, 3) := by decide +kernel
theorem dX8_isLessFrom_14 : decode cX8_isLessFrom 14 = .ok (.iload_n 1, 1) := by decide +kernel
theorem dX8_isLessFrom_15 : decode cX8_isLessFrom 15 = .ok (.iload_n 3, 1) := by decide +kernel
theorem dX8_isLessFrom_16 : decode cX8_isLessFrom 16 = .ok (.iadd, 1) := by decide +kernel
theorem dX8_isLessFrom_17 : decode cX8_isLessFrom 17 = .ok (.aload_n 0, 1) := by decide +kernel
theorem dX8_isLessFrom_18 : decode cX8_isLessFrom 18 = .ok (.getfield 29, 3) := by decide +kernel
theorem dX8_isLessFrom_21 : decode cX8_isLessFrom 21 = .ok (.irem, 1) := by decide +kernel
theorem dX8_isLessFrom_22 : decode cX8_isLessFrom 22 = .ok (.iaload, 1) := by decide +kernel
theorem dX8_isLessFrom_23 : decode cX8_isLessFrom 23 = .ok (.istore 4, 2) := by decide +kernel
theorem dX8_isLessFrom_25 : decode cX8_isLessFrom 25 = .ok (.aload_n 0, 1) := by decide +kernel
theorem dX8_isLessFrom_26 : decode cX8_isLessFrom 26 = .ok (.getfield 9, 3) := by decide +kernel
theorem dX8_isLessFrom_29 : decode cX8_isLessFrom 29 = .ok (.iload_n 2, 1) := by decide +kernel
theorem dX8_isLessFrom_30 : decode cX8_isLessFrom 30 = .ok (.iload_n 3, 1) := by decide +kernel
theorem dX8_isLessFrom_31 : decode cX8_isLessFrom 31 = .ok (.iadd, 1) := by decide +kernel
theorem dX8_isLessFrom_32 : decode cX8_isLessFrom 32 = .ok (.aload_n 0, 1) := by decide +kernel
theorem dX8_isLessFrom_33 : decode cX8_isLessFrom 33 = .ok (.getfield 29, 3) := by decide +kernel
theorem dX8_isLessFrom_36 : decode cX8_isLessFrom 36 = .ok (.irem, 1) := by decide +kernel
theorem dX8_isLessFrom_37 : decode cX8_isLessFrom 37 = .ok (.iaload, 1) := by decide +kernel
theorem dX8_isLessFrom_38 : decode cX8_isLessFrom 38 = .ok (.istore 5, 2) := by decide +kernel
theorem dX8_isLessFrom_40 : decode cX8_isLessFrom 40 = .ok (.iload 4, 2) := by decide +kernel
theorem dX8_isLessFrom_42 : decode cX8_isLessFrom 42 = .ok (.iload 5, 2) := by decide +kernel
theorem dX8_isLessFrom_44 : decode cX8_isLessFrom 44 = .ok (.if_icmp .eq 16, 3) := by decide +kernel
theorem dX8_isLessFrom_47 : decode cX8_isLessFrom 47 = .ok (.iload 4, 2) := by decide +kernel
theorem dX8_isLessFrom_49 : decode cX8_isLessFrom 49 = .ok (.iload 5, 2) := by decide +kernel
theorem dX8_isLessFrom_51 : decode cX8_isLessFrom 51 = .ok (.if_icmp .ge 7, 3) := by decide +kernel
theorem dX8_isLessFrom_54 : decode cX8_isLessFrom 54 = .ok (.iconst 1, 1) := by decide +kernel
theorem dX8_isLessFrom_55 : decode cX8_isLessFrom 55 = .ok (.goto 4, 3) := by decide +kernel
theorem dX8_isLessFrom_58 : decode cX8_isLessFrom 58 = .ok (.iconst 0, 1) := by decide +kernel
theorem dX8_isLessFrom_59 : decode cX8_isLessFrom 59 = .ok (.ireturn, 1) := by decide +kernel
theorem dX8_isLessFrom_60 : decode cX8_isLessFrom 60 = .ok (.iinc 3 1, 3) := by decide +kernel
theorem dX8_isLessFrom_63 : decode cX8_isLessFrom 63 = .ok (.goto (-61), 3) := by decide +kernel
theorem dX8_isLessFrom_66 : decode cX8_isLessFrom 66 = .ok (.iconst 0, 1) := by decide +kernel
theorem dX8_isLessFrom_67 : decode cX8_isLessFrom 67 = .ok (.ireturn, 1) := by decide +kernel
theorem dX8_count_0 : decode cX8_count 0 = .ok (.aload_n 0, 1) := by decide +kernel
theorem dX8_count_1 : decode cX8_count 1 = .ok (.getfield 29, 3) := by decide +kernel
theorem dX8_count_4 : decode cX8_count 4 = .ok (.ireturn, 1) := by decide +kernel
theorem dX8_runAt_0 : decode cX8_runAt 0 = .ok (.iload_n 1, 1) := by decide +kernel
theorem dX8_runAt_1 : decode cX8_runAt 1 = .ok (.ifCond .lt 30, 3) := by decide +kernel
theorem dX8_runAt_4 : decode cX8_runAt 4 = .ok (.iload_n 1, 1) := by decide +kernel
theorem dX8_runAt_5 : decode cX8_runAt 5 = .ok (.aload_n 0, 1) := by decide +kernel
theorem dX8_runAt_6 : decode cX8_runAt 6 = .ok (.getfield 29, 3) := by decide +kernel
theorem dX8_runAt_9 : decode cX8_runAt 9 = .ok (.if_icmp .ge 22, 3) := by decide +kernel
theorem dX8_runAt_12 : decode cX8_runAt 12 = .ok (.aload_n 0, 1) := by decide +kernel
theorem dX8_runAt_13 : decode cX8_runAt 13 = .ok (.getfield 9, 3) := by decide +kernel
theorem dX8_runAt_16 : decode cX8_runAt 16 = .ok (.aload_n 0, 1) := by decide +kernel
theorem dX8_runAt_17 : decode cX8_runAt 17 = .ok (.getfield 33, 3) := by decide +kernel
theorem dX8_runAt_20 : decode cX8_runAt 20 = .ok (.iload_n 1, 1) := by decide +kernel
theorem dX8_runAt_21 : decode cX8_runAt 21 = .ok (.iadd, 1) := by decide +kernel
theorem dX8_runAt_22 : decode cX8_runAt 22 = .ok (.aload_n 0, 1) := by decide +kernel
theorem dX8_runAt_23 : decode cX8_runAt 23 = .ok (.getfield 29, 3) := by decide +kernel
theorem dX8_runAt_26 : decode cX8_runAt 26 = .ok (.irem, 1) := by decide +kernel
theorem dX8_runAt_27 : decode cX8_runAt 27 = .ok (.iaload, 1) := by decide +kernel
theorem dX8_runAt_28 : decode cX8_runAt 28 = .ok (.goto 4, 3) := by decide +kernel
theorem dX8_runAt_31 : decode cX8_runAt 31 = .ok (.iconst (-1), 1) := by decide +kernel
theorem dX8_runAt_32 : decode cX8_runAt 32 = .ok (.ireturn, 1) := by decide +kernel
theorem dX8_letters_0 : decode cX8_letters 0 = .ok (.iconst 0, 1) := by decide +kernel
theorem dX8_letters_1 : decode cX8_letters 1 = .ok (.istore_n 1, 1) := by decide +kernel
theorem dX8_letters_2 : decode cX8_letters 2 = .ok (.iconst 0, 1) := by decide +kernel
theorem dX8_letters_3 : decode cX8_letters 3 = .ok (.istore_n 2, 1) := by decide +kernel
theorem dX8_letters_4 : decode cX8_letters 4 = .ok (.iload_n 2, 1) := by decide +kernel
theorem dX8_letters_5 : decode cX8_letters 5 = .ok (.aload_n 0, 1) := by decide +kernel
theorem dX8_letters_6 : decode cX8_letters 6 = .ok (.getfield 29, 3) := by decide +kernel
theorem dX8_letters_9 : decode cX8_letters 9 = .ok (.if_icmp .ge 18, 3) := by decide +kernel
theorem dX8_letters_12 : decode cX8_letters 12 = .ok (.iload_n 1, 1) := by decide +kernel
theorem dX8_letters_13 : decode cX8_letters 13 = .ok (.aload_n 0, 1) := by decide +kernel
theorem dX8_letters_14 : decode cX8_letters 14 = .ok (.getfield 9, 3) := by decide +kernel
theorem dX8_letters_17 : decode cX8_letters 17 = .ok (.iload_n 2, 1) := by decide +kernel
theorem dX8_letters_18 : decode cX8_letters 18 = .ok (.iaload, 1) := by decide +kernel
theorem dX8_letters_19 : decode cX8_letters 19 = .ok (.iadd, 1) := by decide +kernel
theorem dX8_letters_20 : decode cX8_letters 20 = .ok (.istore_n 1, 1) := by decide +kernel
theorem dX8_letters_21 : decode cX8_letters 21 = .ok (.iinc 2 1, 3) := by decide +kernel
theorem dX8_letters_24 : decode cX8_letters 24 = .ok (.goto (-20), 3) := by decide +kernel
theorem dX8_letters_27 : decode cX8_letters 27 = .ok (.iload_n 1, 1) := by decide +kernel
theorem dX8_letters_28 : decode cX8_letters 28 = .ok (.ireturn, 1) := by decide +kernel
theorem dX8_times_0 : decode cX8_times 0 = .ok (.iconst 2, 1) := by decide +kernel
theorem dX8_times_1 : decode cX8_times 1 = .ok (.istore_n 1, 1) := by decide +kernel
theorem dX8_times_2 : decode cX8_times 2 = .ok (.iload_n 1, 1) := by decide +kernel
theorem dX8_times_3 : decode cX8_times 3 = .ok (.aload_n 0, 1) := by decide +kernel
theorem dX8_times_4 : decode cX8_times 4 = .ok (.getfield 29, 3) := by decide +kernel
theorem dX8_times_7 : decode cX8_times 7 = .ok (.if_icmp .gt 33, 3) := by decide +kernel
theorem dX8_times_10 : decode cX8_times 10 = .ok (.aload_n 0, 1) := by decide +kernel
theorem dX8_times_11 : decode cX8_times 11 = .ok (.getfield 29, 3) := by decide +kernel
theorem dX8_times_14 : decode cX8_times 14 = .ok (.iload_n 1, 1) := by decide +kernel
theorem dX8_times_15 : decode cX8_times 15 = .ok (.irem, 1) := by decide +kernel
theorem dX8_times_16 : decode cX8_times 16 = .ok (.ifCond .ne 18, 3) := by decide +kernel
theorem dX8_times_19 : decode cX8_times 19 = .ok (.aload_n 0, 1) := by decide +kernel
theorem dX8_times_20 : decode cX8_times 20 = .ok (.iload_n 1, 1) := by decide +kernel
theorem dX8_times_21 : decode cX8_times 21 = .ok (.invokevirtual 74, 3) := by decide +kernel
theorem dX8_times_24 : decode cX8_times 24 = .ok (.ifCond .eq 10, 3) := by decide +kernel
theorem dX8_times_27 : decode cX8_times 27 = .ok (.aload_n 0, 1) := by decide +kernel
theorem dX8_times_28 : decode cX8_times 28 = .ok (.getfield 29, 3) := by decide +kernel
theorem dX8_times_31 : decode cX8_times 31 = .ok (.iload_n 1, 1) := by decide +kernel
theorem dX8_times_32 : decode cX8_times 32 = .ok (.idiv, 1) := by decide +kernel
theorem dX8_times_33 : decode cX8_times 33 = .ok (.ireturn, 1) := by decide +kernel
theorem dX8_times_34 : decode cX8_times 34 = .ok (.iinc 1 2, 3) := by decide +kernel
theorem dX8_times_37 : decode cX8_times 37 = .ok (.goto (-35), 3) := by decide +kernel
theorem dX8_times_40 : decode cX8_times 40 = .ok (.iconst 0, 1) := by decide +kernel
theorem dX8_times_41 : decode cX8_times 41 = .ok (.ireturn, 1) := by decide +kernel
theorem dX8_comesAgainAfter_0 : decode cX8_comesAgainAfter 0 = .ok (.iload_n 1, 1) := by decide +kernel
theorem dX8_comesAgainAfter_1 : decode cX8_comesAgainAfter 1 = .ok (.istore_n 2, 1) := by decide +kernel
theorem dX8_comesAgainAfter_2 : decode cX8_comesAgainAfter 2 = .ok (.iload_n 2, 1) := by decide +kernel
theorem dX8_comesAgainAfter_3 : decode cX8_comesAgainAfter 3 = .ok (.aload_n 0, 1) := by decide +kernel
theorem dX8_comesAgainAfter_4 : decode cX8_comesAgainAfter 4 = .ok (.getfield 29, 3) := by decide +kernel
theorem dX8_comesAgainAfter_7 : decode cX8_comesAgainAfter 7 = .ok (.if_icmp .ge 28, 3) := by decide +kernel
theorem dX8_comesAgainAfter_10 : decode cX8_comesAgainAfter 10 = .ok (.aload_n 0, 1) := by decide +kernel
theorem dX8_comesAgainAfter_11 : decode cX8_comesAgainAfter 11 = .ok (.getfield 9, 3) := by decide +kernel
theorem dX8_comesAgainAfter_14 : decode cX8_comesAgainAfter 14 = .ok (.iload_n 2, 1) := by decide +kernel
theorem dX8_comesAgainAfter_15 : decode cX8_comesAgainAfter 15 = .ok (.iaload, 1) := by decide +kernel
theorem dX8_comesAgainAfter_16 : decode cX8_comesAgainAfter 16 = .ok (.aload_n 0, 1) := by decide +kernel
theorem dX8_comesAgainAfter_17 : decode cX8_comesAgainAfter 17 = .ok (.getfield 9, 3) := by decide +kernel
theorem dX8_comesAgainAfter_20 : decode cX8_comesAgainAfter 20 = .ok (.iload_n 2, 1) := by decide +kernel
theorem dX8_comesAgainAfter_21 : decode cX8_comesAgainAfter 21 = .ok (.iload_n 1, 1) := by decide +kernel
theorem dX8_comesAgainAfter_22 : decode cX8_comesAgainAfter 22 = .ok (.isub, 1) := by decide +kernel
theorem dX8_comesAgainAfter_23 : decode cX8_comesAgainAfter 23 = .ok (.iaload, 1) := by decide +kernel
theorem dX8_comesAgainAfter_24 : decode cX8_comesAgainAfter 24 = .ok (.if_icmp .eq 5, 3) := by decide +kernel
theorem dX8_comesAgainAfter_27 : decode cX8_comesAgainAfter 27 = .ok (.iconst 0, 1) := by decide +kernel
theorem dX8_comesAgainAfter_28 : decode cX8_comesAgainAfter 28 = .ok (.ireturn, 1) := by decide +kernel
theorem dX8_comesAgainAfter_29 : decode cX8_comesAgainAfter 29 = .ok (.iinc 2 1, 3) := by decide +kernel
theorem dX8_comesAgainAfter_32 : decode cX8_comesAgainAfter 32 = .ok (.goto (-30), 3) := by decide +kernel
theorem dX8_comesAgainAfter_35 : decode cX8_comesAgainAfter 35 = .ok (.iconst 1, 1) := by decide +kernel
theorem dX8_comesAgainAfter_36 : decode cX8_comesAgainAfter 36 = .ok (.ireturn, 1) := by decide +kernel
theorem dX8_isSameAs_0 : decode cX8_isSameAs 0 = .ok (.aload_n 0, 1) := by decide +kernel
theorem dX8_isSameAs_1 : decode cX8_isSameAs 1 = .ok (.getfield 29, 3) := by decide +kernel
theorem dX8_isSameAs_4 : decode cX8_isSameAs 4 = .ok (.aload_n 1, 1) := by decide +kernel
theorem dX8_isSameAs_5 : decode cX8_isSameAs 5 = .ok (.getfield 29, 3) := by decide +kernel
theorem dX8_isSameAs_8 : decode cX8_isSameAs 8 = .ok (.if_icmp .eq 5, 3) := by decide +kernel
theorem dX8_isSameAs_11 : decode cX8_isSameAs 11 = .ok (.iconst 0, 1) := by decide +kernel
theorem dX8_isSameAs_12 : decode cX8_isSameAs 12 = .ok (.ireturn, 1) := by decide +kernel
theorem dX8_isSameAs_13 : decode cX8_isSameAs 13 = .ok (.iconst 0, 1) := by decide +kernel
theorem dX8_isSameAs_14 : decode cX8_isSameAs 14 = .ok (.istore_n 2, 1) := by decide +kernel
theorem dX8_isSameAs_15 : decode cX8_isSameAs 15 = .ok (.iload_n 2, 1) := by decide +kernel
theorem dX8_isSameAs_16 : decode cX8_isSameAs 16 = .ok (.aload_n 0, 1) := by decide +kernel
theorem dX8_isSameAs_17 : decode cX8_isSameAs 17 = .ok (.getfield 29, 3) := by decide +kernel
theorem dX8_isSameAs_20 : decode cX8_isSameAs 20 = .ok (.if_icmp .ge 24, 3) := by decide +kernel
theorem dX8_isSameAs_23 : decode cX8_isSameAs 23 = .ok (.aload_n 0, 1) := by decide +kernel
theorem dX8_isSameAs_24 : decode cX8_isSameAs 24 = .ok (.iload_n 2, 1) := by decide +kernel
theorem dX8_isSameAs_25 : decode cX8_isSameAs 25 = .ok (.invokevirtual 78, 3) := by decide +kernel
theorem dX8_isSameAs_28 : decode cX8_isSameAs 28 = .ok (.aload_n 1, 1) := by decide +kernel
theorem dX8_isSameAs_29 : decode cX8_isSameAs 29 = .ok (.iload_n 2, 1) := by decide +kernel
theorem dX8_isSameAs_30 : decode cX8_isSameAs 30 = .ok (.invokevirtual 78, 3) := by decide +kernel
theorem dX8_isSameAs_33 : decode cX8_isSameAs 33 = .ok (.if_icmp .eq 5, 3) := by decide +kernel
theorem dX8_isSameAs_36 : decode cX8_isSameAs 36 = .ok (.iconst 0, 1) := by decide +kernel
theorem dX8_isSameAs_37 : decode cX8_isSameAs 37 = .ok (.ireturn, 1) := by decide +kernel
theorem dX8_isSameAs_38 : decode cX8_isSameAs 38 = .ok (.iinc 2 1, 3) := by decide +kernel
theorem dX8_isSameAs_41 : decode cX8_isSameAs 41 = .ok (.goto (-26), 3) := by decide +kernel
theorem dX8_isSameAs_44 : decode cX8_isSameAs 44 = .ok (.iconst 1, 1) := by decide +kernel
theorem dX8_isSameAs_45 : decode cX8_isSameAs 45 = .ok (.ireturn, 1) := by decide +kernel
theorem dX9_init_0 : decode cX9_init 0 = .ok (.aload_n 0, 1) := by decide +kernel
theorem dX9_init_1 : decode cX9_init 1 = .ok (.invokespecial 3, 3) := by decide +kernel
theorem dX9_init_4 : decode cX9_init 4 = .ok (.aload_n 0, 1) := by decide +kernel
theorem dX9_init_5 : decode cX9_init 5 = .ok (.new 9, 3) := by decide +kernel
theorem dX9_init_8 : decode cX9_init 8 = .ok (.dup, 1) := by decide +kernel
theorem dX9_init_9 : decode cX9_init 9 = .ok (.invokespecial 11, 3) := by decide +kernel
theorem dX9_init_12 : decode cX9_init 12 = .ok (.putfield 12, 3) := by decide +kernel
theorem dX9_init_15 : decode cX9_init 15 = .ok (.return_, 1) := by decide +kernel
theorem dX9_copyFrom_0 : decode cX9_copyFrom 0 = .ok (.aload_n 0, 1) := by decide +kernel
theorem dX9_copyFrom_1 : decode cX9_copyFrom 1 = .ok (.getfield 12, 3) := by decide +kernel
theorem dX9_copyFrom_4 : decode cX9_copyFrom 4 = .ok (.aload_n 1, 1) := by decide +kernel
theorem dX9_copyFrom_5 : decode cX9_copyFrom 5 = .ok (.invokevirtual 18, 3) := by decide +kernel
theorem dX9_copyFrom_8 : decode cX9_copyFrom 8 = .ok (.return_, 1) := by decide +kernel
theorem dX9_isEmpty_0 : decode cX9_isEmpty 0 = .ok (.aload_n 0, 1) := by decide +kernel
theorem dX9_isEmpty_1 : decode cX9_isEmpty 1 = .ok (.getfield 12, 3) := by decide +kernel
theorem dX9_isEmpty_4 : decode cX9_isEmpty 4 = .ok (.invokevirtual 22, 3) := by decide +kernel
theorem dX9_isEmpty_7 : decode cX9_isEmpty 7 = .ok (.ireturn, 1) := by decide +kernel
theorem dX9_beginsWithR_0 : decode cX9_beginsWithR 0 = .ok (.aload_n 0, 1) := by decide +kernel
theorem dX9_beginsWithR_1 : decode cX9_beginsWithR 1 = .ok (.getfield 12, 3) := by decide +kernel
theorem dX9_beginsWithR_4 : decode cX9_beginsWithR 4 = .ok (.getfield 26, 3) := by decide +kernel
theorem dX9_beginsWithR_7 : decode cX9_beginsWithR 7 = .ok (.aload_n 0, 1) := by decide +kernel
theorem dX9_beginsWithR_8 : decode cX9_beginsWithR 8 = .ok (.getfield 12, 3) := by decide +kernel
theorem dX9_beginsWithR_11 : decode cX9_beginsWithR 11 = .ok (.getfield 30, 3) := by decide +kernel
theorem dX9_beginsWithR_14 : decode cX9_beginsWithR 14 = .ok (.lcmp, 1) := by decide +kernel
theorem dX9_beginsWithR_15 : decode cX9_beginsWithR 15 = .ok (.ifCond .lt 25, 3) := by decide +kernel
theorem dX9_beginsWithR_18 : decode cX9_beginsWithR 18 = .ok (.aload_n 0, 1) := by decide +kernel
theorem dX9_beginsWithR_19 : decode cX9_beginsWithR 19 = .ok (.getfield 12, 3) := by decide +kernel
theorem dX9_beginsWithR_22 : decode cX9_beginsWithR 22 = .ok (.getfield 33, 3) := by decide +kernel
theorem dX9_beginsWithR_25 : decode cX9_beginsWithR 25 = .ok (.aload_n 0, 1) := by decide +kernel
theorem dX9_beginsWithR_26 : decode cX9_beginsWithR 26 = .ok (.getfield 12, 3) := by decide +kernel
theorem dX9_beginsWithR_29 : decode cX9_beginsWithR 29 = .ok (.getfield 36, 3) := by decide +kernel
theorem dX9_beginsWithR_32 : decode cX9_beginsWithR 32 = .ok (.lcmp, 1) := by decide +kernel
theorem dX9_beginsWithR_33 : decode cX9_beginsWithR 33 = .ok (.ifCond .lt 7, 3) := by decide +kernel
theorem dX9_beginsWithR_36 : decode cX9_beginsWithR 36 = .ok (.iconst 1, 1) := by decide +kernel
theorem dX9_beginsWithR_37 : decode cX9_beginsWithR 37 = .ok (.goto 4, 3) := by decide +kernel
theorem dX9_beginsWithR_40 : decode cX9_beginsWithR 40 = .ok (.iconst 0, 1) := by decide +kernel
theorem dX9_beginsWithR_41 : decode cX9_beginsWithR 41 = .ok (.ireturn, 1) := by decide +kernel
theorem dX9_firstRun_0 : decode cX9_firstRun 0 = .ok (.iload_n 1, 1) := by decide +kernel
theorem dX9_firstRun_1 : decode cX9_firstRun 1 = .ok (.ifCond .eq 13, 3) := by decide +kernel
theorem dX9_firstRun_4 : decode cX9_firstRun 4 = .ok (.aload_n 0, 1) := by decide +kernel
theorem dX9_firstRun_5 : decode cX9_firstRun 5 = .ok (.getfield 12, 3) := by decide +kernel
theorem dX9_firstRun_8 : decode cX9_firstRun 8 = .ok (.getfield 26, 3) := by decide +kernel
theorem dX9_firstRun_11 : decode cX9_firstRun 11 = .ok (.goto 10, 3) := by decide +kernel
theorem dX9_firstRun_14 : decode cX9_firstRun 14 = .ok (.aload_n 0, 1) := by decide +kernel
theorem dX9_firstRun_15 : decode cX9_firstRun 15 = .ok (.getfield 12, 3) := by decide +kernel
theorem dX9_firstRun_18 : decode cX9_firstRun 18 = .ok (.getfield 30, 3) := by decide +kernel
theorem dX9_firstRun_21 : decode cX9_firstRun 21 = .ok (.lstore_n 2, 1) := by decide +kernel
theorem dX9_firstRun_22 : decode cX9_firstRun 22 = .ok (.iload_n 1, 1) := by decide +kernel
theorem dX9_firstRun_23 : decode cX9_firstRun 23 = .ok (.ifCond .eq 13, 3) := by decide +kernel
theorem dX9_firstRun_26 : decode cX9_firstRun 26 = .ok (.aload_n 0, 1) := by decide +kernel
theorem dX9_firstRun_27 : decode cX9_firstRun 27 = .ok (.getfield 12, 3) := by decide +kernel
theorem dX9_firstRun_30 : decode cX9_firstRun 30 = .ok (.getfield 33, 3) := by decide +kernel
theorem dX9_firstRun_33 : decode cX9_firstRun 33 = .ok (.goto 10, 3) := by decide +kernel
theorem dX9_firstRun_36 : decode cX9_firstRun 36 = .ok (.aload_n 0, 1) := by decide +kernel
theorem dX9_firstRun_37 : decode cX9_firstRun 37 = .ok (.getfield 12, 3) := by decide +kernel
theorem dX9_firstRun_40 : decode cX9_firstRun 40 = .ok (.getfield 36, 3) := by decide +kernel
theorem dX9_firstRun_43 : decode cX9_firstRun 43 = .ok (.lstore 4, 2) := by decide +kernel
theorem dX9_firstRun_45 : decode cX9_firstRun 45 = .ok (.iload_n 1, 1) := by decide +kernel
theorem dX9_firstRun_46 : decode cX9_firstRun 46 = .ok (.ifCond .eq 13, 3) := by decide +kernel
theorem dX9_firstRun_49 : decode cX9_firstRun 49 = .ok (.aload_n 0, 1) := by decide +kernel
theorem dX9_firstRun_50 : decode cX9_firstRun 50 = .ok (.getfield 12, 3) := by decide +kernel
theorem dX9_firstRun_53 : decode cX9_firstRun 53 = .ok (.getfield 30, 3) := by decide +kernel
theorem dX9_firstRun_56 : decode cX9_firstRun 56 = .ok (.goto 10, 3) := by decide +kernel
theorem dX9_firstRun_59 : decode cX9_firstRun 59 = .ok (.aload_n 0, 1) := by decide +kernel
theorem dX9_firstRun_60 : decode cX9_firstRun 60 = .ok (.getfield 12, 3) := by decide +kernel
theorem dX9_firstRun_63 : decode cX9_firstRun 63 = .ok (.getfield 26, 3) := by decide +kernel
theorem dX9_firstRun_66 : decode cX9_firstRun 66 = .ok (.lstore 6, 2) := by decide +kernel
theorem dX9_firstRun_68 : decode cX9_firstRun 68 = .ok (.iload_n 1, 1) := by decide +kernel
theorem dX9_firstRun_69 : decode cX9_firstRun 69 = .ok (.ifCond .eq 13, 3) := by decide +kernel
theorem dX9_firstRun_72 : decode cX9_firstRun 72 = .ok (.aload_n 0, 1) := by decide +kernel
theorem dX9_firstRun_73 : decode cX9_firstRun 73 = .ok (.getfield 12, 3) := by decide +kernel
theorem dX9_firstRun_76 : decode cX9_firstRun 76 = .ok (.getfield 36, 3) := by decide +kernel
theorem dX9_firstRun_79 : decode cX9_firstRun 79 = .ok (.goto 10, 3) := by decide +kernel
theorem dX9_firstRun_82 : decode cX9_firstRun 82 = .ok (.aload_n 0, 1) := by decide +kernel
theorem dX9_firstRun_83 : decode cX9_firstRun 83 = .ok (.getfield 12, 3) := by decide +kernel
theorem dX9_firstRun_86 : decode cX9_firstRun 86 = .ok (.getfield 33, 3) := by decide +kernel
theorem dX9_firstRun_89 : decode cX9_firstRun 89 = .ok (.lstore 8, 2) := by decide +kernel
theorem dX9_firstRun_91 : decode cX9_firstRun 91 = .ok (.lload 6, 2) := by decide +kernel
theorem dX9_firstRun_93 : decode cX9_firstRun 93 = .ok (.lconst 0, 1) := by decide +kernel
theorem dX9_firstRun_94 : decode cX9_firstRun 94 = .ok (.lcmp, 1) := by decide +kernel
theorem dX9_firstRun_95 : decode cX9_firstRun 95 = .ok (.ifCond .le 10, 3) := by decide +kernel
theorem dX9_firstRun_98 : decode cX9_firstRun 98 = .ok (.lload_n 2, 1) := by decide +kernel
theorem dX9_firstRun_99 : decode cX9_firstRun 99 = .ok (.lload 6, 2) := by decide +kernel
theorem dX9_firstRun_101 : decode cX9_firstRun 101 = .ok (.ldiv, 1) := by decide +kernel
theorem dX9_firstRun_102 : decode cX9_firstRun 102 = .ok (.goto 6, 3) := by decide +kernel
theorem dX9_firstRun_105 : decode cX9_firstRun 105 = .ok (.ldc2_w 41, 3) := by decide +kernel
theorem dX9_firstRun_108 : decode cX9_firstRun 108 = .ok (.lstore 10, 2) := by decide +kernel
theorem dX9_firstRun_110 : decode cX9_firstRun 110 = .ok (.lload 8, 2) := by decide +kernel
theorem dX9_firstRun_112 : decode cX9_firstRun 112 = .ok (.lconst 0, 1) := by decide +kernel
theorem dX9_firstRun_113 : decode cX9_firstRun 113 = .ok (.lcmp, 1) := by decide +kernel
theorem dX9_firstRun_114 : decode cX9_firstRun 114 = .ok (.ifCond .le 16, 3) := by decide +kernel
theorem dX9_firstRun_117 : decode cX9_firstRun 117 = .ok (.lload 10, 2) := by decide +kernel
theorem dX9_firstRun_119 : decode cX9_firstRun 119 = .ok (.lload 4, 2) := by decide +kernel
theorem dX9_firstRun_121 : decode cX9_firstRun 121 = .ok (.lload 8, 2) := by decide +kernel
theorem dX9_firstRun_123 : decode cX9_firstRun 123 = .ok (.ldiv, 1) := by decide +kernel
theorem dX9_firstRun_124 : decode cX9_firstRun 124 = .ok (.invokestatic 43, 3) := by decide +kernel
theorem dX9_firstRun_127 : decode cX9_firstRun 127 = .ok (.goto 5, 3) := by decide +kernel
theorem dX9_firstRun_130 : decode cX9_firstRun 130 = .ok (.lload 10, 2) := by decide +kernel
theorem dX9_firstRun_132 : decode cX9_firstRun 132 = .ok (.lreturn, 1) := by decide +kernel
theorem dX9_dropFirstRun_0 : decode cX9_dropFirstRun 0 = .ok (.aload_n 0, 1) := by decide +kernel
theorem dX9_dropFirstRun_1 : decode cX9_dropFirstRun 1 = .ok (.invokevirtual 49, 3) := by decide +kernel
theorem dX9_dropFirstRun_4 : decode cX9_dropFirstRun 4 = .ok (.istore_n 1, 1) := by decide +kernel
theorem dX9_dropFirstRun_5 : decode cX9_dropFirstRun 5 = .ok (.aload_n 0, 1) := by decide +kernel
theorem dX9_dropFirstRun_6 : decode cX9_dropFirstRun 6 = .ok (.iload_n 1, 1) := by decide +kernel
theorem dX9_dropFirstRun_7 : decode cX9_dropFirstRun 7 = .ok (.invokevirtual 52, 3) := by decide +kernel
theorem dX9_dropFirstRun_10 : decode cX9_dropFirstRun 10 = .ok (.lstore_n 2, 1) := by decide +kernel
theorem dX9_dropFirstRun_11 : decode cX9_dropFirstRun 11 = .ok (.iload_n 1, 1) := by decide +kernel
theorem dX9_dropFirstRun_12 : decode cX9_dropFirstRun 12 = .ok (.ifCond .eq 48, 3) := by decide +kernel
theorem dX9_dropFirstRun_15 : decode cX9_dropFirstRun 15 = .ok (.aload_n 0, 1) := by decide +kernel
theorem dX9_dropFirstRun_16 : decode cX9_dropFirstRun 16 = .ok (.getfield 12, 3) := by decide +kernel
theorem dX9_dropFirstRun_19 : decode cX9_dropFirstRun 19 = .ok (.dup, 1) := by decide +kernel
theorem dX9_dropFirstRun_20 : decode cX9_dropFirstRun 20 = .ok (.getfield 26, 3) := by decide +kernel
theorem dX9_dropFirstRun_23 : decode cX9_dropFirstRun 23 = .ok (.lload_n 2, 1) := by decide +kernel
theorem dX9_dropFirstRun_24 : decode cX9_dropFirstRun 24 = .ok (.aload_n 0, 1) := by decide +kernel
theorem dX9_dropFirstRun_25 : decode cX9_dropFirstRun 25 = .ok (.getfield 12, 3) := by decide +kernel
theorem dX9_dropFirstRun_28 : decode cX9_dropFirstRun 28 = .ok (.getfield 30, 3) := by decide +kernel
theorem dX9_dropFirstRun_31 : decode cX9_dropFirstRun 31 = .ok (.lmul, 1) := by decide +kernel
theorem dX9_dropFirstRun_32 : decode cX9_dropFirstRun 32 = .ok (.lsub, 1) := by decide +kernel
theorem dX9_dropFirstRun_33 : decode cX9_dropFirstRun 33 = .ok (.putfield 26, 3) := by decide +kernel
theorem dX9_dropFirstRun_36 : decode cX9_dropFirstRun 36 = .ok (.aload_n 0, 1) := by decide +kernel
theorem dX9_dropFirstRun_37 : decode cX9_dropFirstRun 37 = .ok (.getfield 12, 3) := by decide +kernel
theorem dX9_dropFirstRun_40 : decode cX9_dropFirstRun 40 = .ok (.dup, 1) := by decide +kernel
theorem dX9_dropFirstRun_41 : decode cX9_dropFirstRun 41 = .ok (.getfield 33, 3) := by decide +kernel
theorem dX9_dropFirstRun_44 : decode cX9_dropFirstRun 44 = .ok (.lload_n 2, 1) := by decide +kernel
theorem dX9_dropFirstRun_45 : decode cX9_dropFirstRun 45 = .ok (.aload_n 0, 1) := by decide +kernel
theorem dX9_dropFirstRun_46 : decode cX9_dropFirstRun 46 = .ok (.getfield 12, 3) := by decide +kernel
theorem dX9_dropFirstRun_49 : decode cX9_dropFirstRun 49 = .ok (.getfield 36, 3) := by decide +kernel
theorem dX9_dropFirstRun_52 : decode cX9_dropFirstRun 52 = .ok (.lmul, 1) := by decide +kernel
theorem dX9_dropFirstRun_53 : decode cX9_dropFirstRun 53 = .ok (.lsub, 1) := by decide +kernel
theorem dX9_dropFirstRun_54 : decode cX9_dropFirstRun 54 = .ok (.putfield 33, 3) := by decide +kernel
theorem dX9_dropFirstRun_57 : decode cX9_dropFirstRun 57 = .ok (.goto 45, 3) := by decide +kernel
theorem dX9_dropFirstRun_60 : decode cX9_dropFirstRun 60 = .ok (.aload_n 0, 1) := by decide +kernel
theorem dX9_dropFirstRun_61 : decode cX9_dropFirstRun 61 = .ok (.getfield 12, 3) := by decide +kernel
theorem dX9_dropFirstRun_64 : decode cX9_dropFirstRun 64 = .ok (.dup, 1) := by decide +kernel
theorem dX9_dropFirstRun_65 : decode cX9_dropFirstRun 65 = .ok (.getfield 30, 3) := by decide +kernel
theorem dX9_dropFirstRun_68 : decode cX9_dropFirstRun 68 = .ok (.lload_n 2, 1) := by decide +kernel
theorem dX9_dropFirstRun_69 : decode cX9_dropFirstRun 69 = .ok (.aload_n 0, 1) := by decide +kernel
theorem dX9_dropFirstRun_70 : decode cX9_dropFirstRun 70 = .ok (.getfield 12, 3) := by decide +kernel
theorem dX9_dropFirstRun_73 : decode cX9_dropFirstRun 73 = .ok (.getfield 26, 3) := by decide +kernel
theorem dX9_dropFirstRun_76 : decode cX9_dropFirstRun 76 = .ok (.lmul, 1) := by decide +kernel
theorem dX9_dropFirstRun_77 : decode cX9_dropFirstRun 77 = .ok (.lsub, 1) := by decide +kernel
theorem dX9_dropFirstRun_78 : decode cX9_dropFirstRun 78 = .ok (.putfield 30, 3) := by decide +kernel
theorem dX9_dropFirstRun_81 : decode cX9_dropFirstRun 81 = .ok (.aload_n 0, 1) := by decide +kernel
theorem dX9_dropFirstRun_82 : decode cX9_dropFirstRun 82 = .ok (.getfield 12, 3) := by decide +kernel
theorem dX9_dropFirstRun_85 : decode cX9_dropFirstRun 85 = .ok (.dup, 1) := by decide +kernel
theorem dX9_dropFirstRun_86 : decode cX9_dropFirstRun 86 = .ok (.getfield 36, 3) := by decide +kernel
theorem dX9_dropFirstRun_89 : decode cX9_dropFirstRun 89 = .ok (.lload_n 2, 1) := by decide +kernel
theorem dX9_dropFirstRun_90 : decode cX9_dropFirstRun 90 = .ok (.aload_n 0, 1) := by decide +kernel
theorem dX9_dropFirstRun_91 : decode cX9_dropFirstRun 91 = .ok (.getfield 12, 3) := by decide +kernel
theorem dX9_dropFirstRun_94 : decode cX9_dropFirstRun 94 = .ok (.getfield 33, 3) := by decide +kernel
theorem dX9_dropFirstRun_97 : decode cX9_dropFirstRun 97 = .ok (.lmul, 1) := by decide +kernel
theorem dX9_dropFirstRun_98 : decode cX9_dropFirstRun 98 = .ok (.lsub, 1) := by decide +kernel
theorem dX9_dropFirstRun_99 : decode cX9_dropFirstRun 99 = .ok (.putfield 36, 3) := by decide +kernel
theorem dX9_dropFirstRun_102 : decode cX9_dropFirstRun 102 = .ok (.lload_n 2, 1) := by decide +kernel
theorem dX9_dropFirstRun_103 : decode cX9_dropFirstRun 103 = .ok (.lreturn, 1) := by decide +kernel
theorem dX9_turnFirstRun_0 : decode cX9_turnFirstRun 0 = .ok (.aload_n 0, 1) := by decide +kernel
theorem dX9_turnFirstRun_1 : decode cX9_turnFirstRun 1 = .ok (.invokevirtual 49, 3) := by decide +kernel
theorem dX9_turnFirstRun_4 : decode cX9_turnFirstRun 4 = .ok (.istore_n 1, 1) := by decide +kernel
theorem dX9_turnFirstRun_5 : decode cX9_turnFirstRun 5 = .ok (.aload_n 0, 1) := by decide +kernel
theorem dX9_turnFirstRun_6 : decode cX9_turnFirstRun 6 = .ok (.iload_n 1, 1) := by decide +kernel
theorem dX9_turnFirstRun_7 : decode cX9_turnFirstRun 7 = .ok (.invokevirtual 52, 3) := by decide +kernel
theorem dX9_turnFirstRun_10 : decode cX9_turnFirstRun 10 = .ok (.lstore_n 2, 1) := by decide +kernel
theorem dX9_turnFirstRun_11 : decode cX9_turnFirstRun 11 = .ok (.iload_n 1, 1) := by decide +kernel
theorem dX9_turnFirstRun_12 : decode cX9_turnFirstRun 12 = .ok (.ifCond .eq 15, 3) := by decide +kernel
theorem dX9_turnFirstRun_15 : decode cX9_turnFirstRun 15 = .ok (.aload_n 0, 1) := by decide +kernel
theorem dX9_turnFirstRun_16 : decode cX9_turnFirstRun 16 = .ok (.getfield 12, 3) := by decide +kernel
theorem dX9_turnFirstRun_19 : decode cX9_turnFirstRun 19 = .ok (.lload_n 2, 1) := by decide +kernel
theorem dX9_turnFirstRun_20 : decode cX9_turnFirstRun 20 = .ok (.lneg, 1) := by decide +kernel
theorem dX9_turnFirstRun_21 : decode cX9_turnFirstRun 21 = .ok (.invokevirtual 56, 3) := by decide +kernel
theorem dX9_turnFirstRun_24 : decode cX9_turnFirstRun 24 = .ok (.goto 12, 3) := by decide +kernel
theorem dX9_turnFirstRun_27 : decode cX9_turnFirstRun 27 = .ok (.aload_n 0, 1) := by decide +kernel
theorem dX9_turnFirstRun_28 : decode cX9_turnFirstRun 28 = .ok (.getfield 12, 3) := by decide +kernel
theorem dX9_turnFirstRun_31 : decode cX9_turnFirstRun 31 = .ok (.lload_n 2, 1) := by decide +kernel
theorem dX9_turnFirstRun_32 : decode cX9_turnFirstRun 32 = .ok (.lneg, 1) := by decide +kernel
theorem dX9_turnFirstRun_33 : decode cX9_turnFirstRun 33 = .ok (.invokevirtual 60, 3) := by decide +kernel
theorem dX9_turnFirstRun_36 : decode cX9_turnFirstRun 36 = .ok (.lload_n 2, 1) := by decide +kernel
theorem dX9_turnFirstRun_37 : decode cX9_turnFirstRun 37 = .ok (.lreturn, 1) := by decide +kernel
theorem dX9_turnsInFirstRun_0 : decode cX9_turnsInFirstRun 0 = .ok (.aload_n 1, 1) := by decide +kernel
theorem dX9_turnsInFirstRun_1 : decode cX9_turnsInFirstRun 1 = .ok (.invokevirtual 63, 3) := by decide +kernel
theorem dX9_turnsInFirstRun_4 : decode cX9_turnsInFirstRun 4 = .ok (.aload_n 0, 1) := by decide +kernel
theorem dX9_turnsInFirstRun_5 : decode cX9_turnsInFirstRun 5 = .ok (.getfield 12, 3) := by decide +kernel
theorem dX9_turnsInFirstRun_8 : decode cX9_turnsInFirstRun 8 = .ok (.invokevirtual 63, 3) := by decide +kernel
theorem dX9_turnsInFirstRun_11 : decode cX9_turnsInFirstRun 11 = .ok (.lcmp, 1) := by decide +kernel
theorem dX9_turnsInFirstRun_12 : decode cX9_turnsInFirstRun 12 = .ok (.ifCond .eq 7, 3) := by decide +kernel
theorem dX9_turnsInFirstRun_15 : decode cX9_turnsInFirstRun 15 = .ok (.ldc2_w 67, 3) := by decide +kernel
theorem dX9_turnsInFirstRun_18 : decode cX9_turnsInFirstRun 18 = .ok (.lreturn, 1) := by decide +kernel
theorem dX9_turnsInFirstRun_19 : decode cX9_turnsInFirstRun 19 = .ok (.aload_n 0, 1) := by decide +kernel
theorem dX9_turnsInFirstRun_20 : decode cX9_turnsInFirstRun 20 = .ok (.invokevirtual 49, 3) := by decide +kernel
theorem dX9_turnsInFirstRun_23 : decode cX9_turnsInFirstRun 23 = .ok (.ifCond .eq 52, 3) := by decide +kernel
theorem dX9_turnsInFirstRun_26 : decode cX9_turnsInFirstRun 26 = .ok (.aload_n 1, 1) := by decide +kernel
theorem dX9_turnsInFirstRun_27 : decode cX9_turnsInFirstRun 27 = .ok (.getfield 30, 3) := by decide +kernel
theorem dX9_turnsInFirstRun_30 : decode cX9_turnsInFirstRun 30 = .ok (.aload_n 0, 1) := by decide +kernel
theorem dX9_turnsInFirstRun_31 : decode cX9_turnsInFirstRun 31 = .ok (.getfield 12, 3) := by decide +kernel
theorem dX9_turnsInFirstRun_34 : decode cX9_turnsInFirstRun 34 = .ok (.getfield 30, 3) := by decide +kernel
theorem dX9_turnsInFirstRun_37 : decode cX9_turnsInFirstRun 37 = .ok (.lcmp, 1) := by decide +kernel
theorem dX9_turnsInFirstRun_38 : decode cX9_turnsInFirstRun 38 = .ok (.ifCond .ne 33, 3) := by decide +kernel
theorem dX9_turnsInFirstRun_41 : decode cX9_turnsInFirstRun 41 = .ok (.aload_n 0, 1) := by decide +kernel
theorem dX9_turnsInFirstRun_42 : decode cX9_turnsInFirstRun 42 = .ok (.iconst 1, 1) := by decide +kernel
theorem dX9_turnsInFirstRun_43 : decode cX9_turnsInFirstRun 43 = .ok (.invokevirtual 52, 3) := by decide +kernel
theorem dX9_turnsInFirstRun_46 : decode cX9_turnsInFirstRun 46 = .ok (.aload_n 1, 1) := by decide +kernel
theorem dX9_turnsInFirstRun_47 : decode cX9_turnsInFirstRun 47 = .ok (.getfield 36, 3) := by decide +kernel
theorem dX9_turnsInFirstRun_50 : decode cX9_turnsInFirstRun 50 = .ok (.aload_n 0, 1) := by decide +kernel
theorem dX9_turnsInFirstRun_51 : decode cX9_turnsInFirstRun 51 = .ok (.getfield 12, 3) := by decide +kernel
theorem dX9_turnsInFirstRun_54 : decode cX9_turnsInFirstRun 54 = .ok (.getfield 36, 3) := by decide +kernel
theorem dX9_turnsInFirstRun_57 : decode cX9_turnsInFirstRun 57 = .ok (.lsub, 1) := by decide +kernel
theorem dX9_turnsInFirstRun_58 : decode cX9_turnsInFirstRun 58 = .ok (.aload_n 0, 1) := by decide +kernel
theorem dX9_turnsInFirstRun_59 : decode cX9_turnsInFirstRun 59 = .ok (.getfield 12, 3) := by decide +kernel
theorem dX9_turnsInFirstRun_62 : decode cX9_turnsInFirstRun 62 = .ok (.getfield 30, 3) := by decide +kernel
theorem dX9_turnsInFirstRun_65 : decode cX9_turnsInFirstRun 65 = .ok (.invokestatic 69, 3) := by decide +kernel
theorem dX9_turnsInFirstRun_68 : decode cX9_turnsInFirstRun 68 = .ok (.goto 6, 3) := by decide +kernel
theorem dX9_turnsInFirstRun_71 : decode cX9_turnsInFirstRun 71 = .ok (.ldc2_w 67, 3) := by decide +kernel
theorem dX9_turnsInFirstRun_74 : decode cX9_turnsInFirstRun 74 = .ok (.lreturn, 1) := by decide +kernel
theorem dX9_turnsInFirstRun_75 : decode cX9_turnsInFirstRun 75 = .ok (.aload_n 1, 1) := by decide +kernel
theorem dX9_turnsInFirstRun_76 : decode cX9_turnsInFirstRun 76 = .ok (.getfield 33, 3) := by decide +kernel
theorem dX9_turnsInFirstRun_79 : decode cX9_turnsInFirstRun 79 = .ok (.aload_n 0, 1) := by decide +kernel
theorem dX9_turnsInFirstRun_80 : decode cX9_turnsInFirstRun 80 = .ok (.getfield 12, 3) := by decide +kernel
theorem dX9_turnsInFirstRun_83 : decode cX9_turnsInFirstRun 83 = .ok (.getfield 33, 3) := by decide +kernel
theorem dX9_turnsInFirstRun_86 : decode cX9_turnsInFirstRun 86 = .ok (.lcmp, 1) := by decide +kernel
theorem dX9_turnsInFirstRun_87 : decode cX9_turnsInFirstRun 87 = .ok (.ifCond .ne 33, 3) := by decide +kernel
theorem dX9_turnsInFirstRun_90 : decode cX9_turnsInFirstRun 90 = .ok (.aload_n 0, 1) := by decide +kernel
theorem dX9_turnsInFirstRun_91 : decode cX9_turnsInFirstRun 91 = .ok (.iconst 0, 1) := by decide +kernel
theorem dX9_turnsInFirstRun_92 : decode cX9_turnsInFirstRun 92 = .ok (.invokevirtual 52, 3) := by decide +kernel
theorem dX9_turnsInFirstRun_95 : decode cX9_turnsInFirstRun 95 = .ok (.aload_n 1, 1) := by decide +kernel
theorem dX9_turnsInFirstRun_96 : decode cX9_turnsInFirstRun 96 = .ok (.getfield 26, 3) := by decide +kernel
theorem dX9_turnsInFirstRun_99 : decode cX9_turnsInFirstRun 99 = .ok (.aload_n 0, 1) := by decide +kernel
theorem dX9_turnsInFirstRun_100 : decode cX9_turnsInFirstRun 100 = .ok (.getfield 12, 3) := by decide +kernel
theorem dX9_turnsInFirstRun_103 : decode cX9_turnsInFirstRun 103 = .ok (.getfield 26, 3) := by decide +kernel
theorem dX9_turnsInFirstRun_106 : decode cX9_turnsInFirstRun 106 = .ok (.lsub, 1) := by decide +kernel
theorem dX9_turnsInFirstRun_107 : decode cX9_turnsInFirstRun 107 = .ok (.aload_n 0, 1) := by decide +kernel
theorem dX9_turnsInFirstRun_108 : decode cX9_turnsInFirstRun 108 = .ok (.getfield 12, 3) := by decide +kernel
theorem dX9_turnsInFirstRun_111 : decode cX9_turnsInFirstRun 111 = .ok (.getfield 33, 3) := by decide +kernel
theorem dX9_turnsInFirstRun_114 : decode cX9_turnsInFirstRun 114 = .ok (.invokestatic 69, 3) := by decide +kernel
theorem dX9_turnsInFirstRun_117 : decode cX9_turnsInFirstRun 117 = .ok (.goto 6, 3) := by decide +kernel
theorem dX9_turnsInFirstRun_120 : decode cX9_turnsInFirstRun 120 = .ok (.ldc2_w 67, 3) := by decide +kernel
theorem dX9_turnsInFirstRun_123 : decode cX9_turnsInFirstRun 123 = .ok (.lreturn, 1) := by decide +kernel
theorem dX9_stepsUpTo_0 : decode cX9_stepsUpTo 0 = .ok (.lload 4, 2) := by decide +kernel
theorem dX9_stepsUpTo_2 : decode cX9_stepsUpTo 2 = .ok (.lconst 0, 1) := by decide +kernel
theorem dX9_stepsUpTo_3 : decode cX9_stepsUpTo 3 = .ok (.lcmp, 1) := by decide +kernel
theorem dX9_stepsUpTo_4 : decode cX9_stepsUpTo 4 = .ok (.ifCond .le 27, 3) := by decide +kernel
theorem dX9_stepsUpTo_7 : decode cX9_stepsUpTo 7 = .ok (.lload_n 2, 1) := by decide +kernel
theorem dX9_stepsUpTo_8 : decode cX9_stepsUpTo 8 = .ok (.lconst 0, 1) := by decide +kernel
theorem dX9_stepsUpTo_9 : decode cX9_stepsUpTo 9 = .ok (.lcmp, 1) := by decide +kernel
theorem dX9_stepsUpTo_10 : decode cX9_stepsUpTo 10 = .ok (.ifCond .lt 21, 3) := by decide +kernel
theorem dX9_stepsUpTo_13 : decode cX9_stepsUpTo 13 = .ok (.lload_n 2, 1) := by decide +kernel
theorem dX9_stepsUpTo_14 : decode cX9_stepsUpTo 14 = .ok (.lload 4, 2) := by decide +kernel
theorem dX9_stepsUpTo_16 : decode cX9_stepsUpTo 16 = .ok (.lrem, 1) := by decide +kernel
theorem dX9_stepsUpTo_17 : decode cX9_stepsUpTo 17 = .ok (.lconst 0, 1) := by decide +kernel
theorem dX9_stepsUpTo_18 : decode cX9_stepsUpTo 18 = .ok (.lcmp, 1) := by decide +kernel
theorem dX9_stepsUpTo_19 : decode cX9_stepsUpTo 19 = .ok (.ifCond .ne 12, 3) := by decide +kernel
theorem dX9_stepsUpTo_22 : decode cX9_stepsUpTo 22 = .ok (.lload_n 2, 1) := by decide +kernel
theorem dX9_stepsUpTo_23 : decode cX9_stepsUpTo 23 = .ok (.lload 4, 2) := by decide +kernel
theorem dX9_stepsUpTo_25 : decode cX9_stepsUpTo 25 = .ok (.ldiv, 1) := by decide +kernel
theorem dX9_stepsUpTo_26 : decode cX9_stepsUpTo 26 = .ok (.lload_n 0, 1) := by decide +kernel
theorem dX9_stepsUpTo_27 : decode cX9_stepsUpTo 27 = .ok (.lcmp, 1) := by decide +kernel
theorem dX9_stepsUpTo_28 : decode cX9_stepsUpTo 28 = .ok (.ifCond .le 7, 3) := by decide +kernel
theorem dX9_stepsUpTo_31 : decode cX9_stepsUpTo 31 = .ok (.ldc2_w 67, 3) := by decide +kernel
theorem dX9_stepsUpTo_34 : decode cX9_stepsUpTo 34 = .ok (.lreturn, 1) := by decide +kernel
theorem dX9_stepsUpTo_35 : decode cX9_stepsUpTo 35 = .ok (.lload_n 2, 1) := by decide +kernel
theorem dX9_stepsUpTo_36 : decode cX9_stepsUpTo 36 = .ok (.lload 4, 2) := by decide +kernel
theorem dX9_stepsUpTo_38 : decode cX9_stepsUpTo 38 = .ok (.ldiv, 1) := by decide +kernel
theorem dX9_stepsUpTo_39 : decode cX9_stepsUpTo 39 = .ok (.lreturn, 1) := by decide +kernel
theorem dX10_init_0 : decode cX10_init 0 = .ok (.aload_n 0, 1) := by decide +kernel
theorem dX10_init_1 : decode cX10_init 1 = .ok (.invokespecial 1, 3) := by decide +kernel
theorem dX10_init_4 : decode cX10_init 4 = .ok (.aload_n 0, 1) := by decide +kernel
theorem dX10_init_5 : decode cX10_init 5 = .ok (.new 7, 3) := by decide +kernel
theorem dX10_init_8 : decode cX10_init 8 = .ok (.dup, 1) := by decide +kernel
theorem dX10_init_9 : decode cX10_init 9 = .ok (.invokespecial 9, 3) := by decide +kernel
theorem dX10_init_12 : decode cX10_init 12 = .ok (.putfield 10, 3) := by decide +kernel
theorem dX10_init_15 : decode cX10_init 15 = .ok (.aload_n 0, 1) := by decide +kernel
theorem dX10_init_16 : decode cX10_init 16 = .ok (.new 16, 3) := by decide +kernel
theorem dX10_init_19 : decode cX10_init 19 = .ok (.dup, 1) := by decide +kernel
theorem dX10_init_20 : decode cX10_init 20 = .ok (.invokespecial 18, 3) := by decide +kernel
theorem dX10_init_23 : decode cX10_init 23 = .ok (.putfield 19, 3) := by decide +kernel
theorem dX10_init_26 : decode cX10_init 26 = .ok (.aload_n 0, 1) := by decide +kernel
theorem dX10_init_27 : decode cX10_init 27 = .ok (.new 23, 3) := by decide +kernel
theorem dX10_init_30 : decode cX10_init 30 = .ok (.dup, 1) := by decide +kernel
theorem dX10_init_31 : decode cX10_init 31 = .ok (.invokespecial 25, 3) := by decide +kernel
theorem dX10_init_34 : decode cX10_init 34 = .ok (.putfield 26, 3) := by decide +kernel
theorem dX10_init_37 : decode cX10_init 37 = .ok (.aload_n 0, 1) := by decide +kernel
theorem dX10_init_38 : decode cX10_init 38 = .ok (.new 30, 3) := by decide +kernel
theorem dX10_init_41 : decode cX10_init 41 = .ok (.dup, 1) := by decide +kernel
theorem dX10_init_42 : decode cX10_init 42 = .ok (.invokespecial 32, 3) := by decide +kernel
theorem dX10_init_45 : decode cX10_init 45 = .ok (.putfield 33, 3) := by decide +kernel
theorem dX10_init_48 : decode cX10_init 48 = .ok (.aload_n 0, 1) := by decide +kernel
theorem dX10_init_49 : decode cX10_init 49 = .ok (.new 37, 3) := by decide +kernel
theorem dX10_init_52 : decode cX10_init 52 = .ok (.dup, 1) := by decide +kernel
theorem dX10_init_53 : decode cX10_init 53 = .ok (.invokespecial 39, 3) := by decide +kernel
theorem dX10_init_56 : decode cX10_init 56 = .ok (.putfield 40, 3) := by decide +kernel
theorem dX10_init_59 : decode cX10_init 59 = .ok (.aload_n 0, 1) := by decide +kernel
theorem dX10_init_60 : decode cX10_init 60 = .ok (.iconst 2, 1) := by decide +kernel
theorem dX10_init_61 : decode cX10_init 61 = .ok (.anewarray 44, 3) := by decide +kernel
theorem dX10_init_64 : decode cX10_init 64 = .ok (.putfield 46, 3) := by decide +kernel
theorem dX10_init_67 : decode cX10_init 67 = .ok (.aload_n 0, 1) := by decide +kernel
theorem dX10_init_68 : decode cX10_init 68 = .ok (.new 50, 3) := by decide +kernel
theorem dX10_init_71 : decode cX10_init 71 = .ok (.dup, 1) := by decide +kernel
theorem dX10_init_72 : decode cX10_init 72 = .ok (.invokespecial 52, 3) := by decide +kernel
theorem dX10_init_75 : decode cX10_init 75 = .ok (.putfield 53, 3) := by decide +kernel
theorem dX10_init_78 : decode cX10_init 78 = .ok (.aload_n 0, 1) := by decide +kernel
theorem dX10_init_79 : decode cX10_init 79 = .ok (.new 50, 3) := by decide +kernel
theorem dX10_init_82 : decode cX10_init 82 = .ok (.dup, 1) := by decide +kernel
theorem dX10_init_83 : decode cX10_init 83 = .ok (.invokespecial 52, 3) := by decide +kernel
theorem dX10_init_86 : decode cX10_init 86 = .ok (.putfield 57, 3) := by decide +kernel
theorem dX10_init_89 : decode cX10_init 89 = .ok (.aload_n 0, 1) := by decide +kernel
theorem dX10_init_90 : decode cX10_init 90 = .ok (.new 50, 3) := by decide +kernel
theorem dX10_init_93 : decode cX10_init 93 = .ok (.dup, 1) := by decide +kernel
theorem dX10_init_94 : decode cX10_init 94 = .ok (.invokespecial 52, 3) := by decide +kernel
theorem dX10_init_97 : decode cX10_init 97 = .ok (.putfield 60, 3) := by decide +kernel
theorem dX10_init_100 : decode cX10_init 100 = .ok (.aload_n 0, 1) := by decide +kernel
theorem dX10_init_101 : decode cX10_init 101 = .ok (.iconst 0, 1) := by decide +kernel
theorem dX10_init_102 : decode cX10_init 102 = .ok (.putfield 63, 3) := by decide +kernel
theorem dX10_init_105 : decode cX10_init 105 = .ok (.iconst 0, 1) := by decide +kernel
theorem dX10_init_106 : decode cX10_init 106 = .ok (.istore_n 1, 1) := by decide +kernel
theorem dX10_init_107 : decode cX10_init 107 = .ok (.iload_n 1, 1) := by decide +kernel
theorem dX10_init_108 : decode cX10_init 108 = .ok (.iconst 2, 1) := by decide +kernel
theorem dX10_init_109 : decode cX10_init 109 = .ok (.if_icmp .ge 22, 3) := by decide +kernel
theorem dX10_init_112 : decode cX10_init 112 = .ok (.aload_n 0, 1) := by decide +kernel
theorem dX10_init_113 : decode cX10_init 113 = .ok (.getfield 46, 3) := by decide +kernel
theorem dX10_init_116 : decode cX10_init 116 = .ok (.iload_n 1, 1) := by decide +kernel
theorem dX10_init_117 : decode cX10_init 117 = .ok (.new 44, 3) := by decide +kernel
theorem dX10_init_120 : decode cX10_init 120 = .ok (.dup, 1) := by decide +kernel
theorem dX10_init_121 : decode cX10_init 121 = .ok (.invokespecial 67, 3) := by decide +kernel
theorem dX10_init_124 : decode cX10_init 124 = .ok (.aastore, 1) := by decide +kernel
theorem dX10_init_125 : decode cX10_init 125 = .ok (.iinc 1 1, 3) := by decide +kernel
theorem dX10_init_128 : decode cX10_init 128 = .ok (.goto (-21), 3) := by decide +kernel
theorem dX10_init_131 : decode cX10_init 131 = .ok (.return_, 1) := by decide +kernel
theorem dX10_feed_0 : decode cX10_feed 0 = .ok (.iload_n 1, 1) := by decide +kernel
theorem dX10_feed_1 : decode cX10_feed 1 = .ok (.ifCond .lt 10, 3) := by decide +kernel
theorem dX10_feed_4 : decode cX10_feed 4 = .ok (.iload_n 1, 1) := by decide +kernel
theorem dX10_feed_5 : decode cX10_feed 5 = .ok (.sipush 255, 3) := by decide +kernel
theorem dX10_feed_8 : decode cX10_feed 8 = .ok (.if_icmp .le 6, 3) := by decide +kernel
theorem dX10_feed_11 : decode cX10_feed 11 = .ok (.ldc 68, 2) := by decide +kernel
theorem dX10_feed_13 : decode cX10_feed 13 = .ok (.ireturn, 1) := by decide +kernel
theorem dX10_feed_14 : decode cX10_feed 14 = .ok (.aload_n 0, 1) := by decide +kernel
theorem dX10_feed_15 : decode cX10_feed 15 = .ok (.getfield 26, 3) := by decide +kernel
theorem dX10_feed_18 : decode cX10_feed 18 = .ok (.invokevirtual 69, 3) := by decide +kernel
theorem dX10_feed_21 : decode cX10_feed 21 = .ok (.ifCond .eq 6, 3) := by decide +kernel
theorem dX10_feed_24 : decode cX10_feed 24 = .ok (.ldc 73, 2) := by decide +kernel
theorem dX10_feed_26 : decode cX10_feed 26 = .ok (.ireturn, 1) := by decide +kernel
theorem dX10_feed_27 : decode cX10_feed 27 = .ok (.aload_n 0, 1) := by decide +kernel
theorem dX10_feed_28 : decode cX10_feed 28 = .ok (.getfield 26, 3) := by decide +kernel
theorem dX10_feed_31 : decode cX10_feed 31 = .ok (.iload_n 1, 1) := by decide +kernel
theorem dX10_feed_32 : decode cX10_feed 32 = .ok (.invokevirtual 74, 3) := by decide +kernel
theorem dX10_feed_35 : decode cX10_feed 35 = .ok (.aload_n 0, 1) := by decide +kernel
theorem dX10_feed_36 : decode cX10_feed 36 = .ok (.getfield 26, 3) := by decide +kernel
theorem dX10_feed_39 : decode cX10_feed 39 = .ok (.invokevirtual 78, 3) := by decide +kernel
theorem dX10_feed_42 : decode cX10_feed 42 = .ok (.ireturn, 1) := by decide +kernel
theorem dX10_write_0 : decode cX10_write 0 = .ok (.aload_n 0, 1) := by decide +kernel
theorem dX10_write_1 : decode cX10_write 1 = .ok (.getfield 10, 3) := by decide +kernel
theorem dX10_write_4 : decode cX10_write 4 = .ok (.invokevirtual 82, 3) := by decide +kernel
theorem dX10_write_7 : decode cX10_write 7 = .ok (.ifCond .eq 6, 3) := by decide +kernel
theorem dX10_write_10 : decode cX10_write 10 = .ok (.ldc 73, 2) := by decide +kernel
theorem dX10_write_12 : decode cX10_write 12 = .ok (.ireturn, 1) := by decide +kernel
theorem dX10_write_13 : decode cX10_write 13 = .ok (.aload_n 0, 1) := by decide +kernel
theorem dX10_write_14 : decode cX10_write 14 = .ok (.getfield 26, 3) := by decide +kernel
theorem dX10_write_17 : decode cX10_write 17 = .ok (.aload_n 0, 1) := by decide +kernel
theorem dX10_write_18 : decode cX10_write 18 = .ok (.getfield 60, 3) := by decide +kernel
theorem dX10_write_21 : decode cX10_write 21 = .ok (.invokevirtual 83, 3) := by decide +kernel
theorem dX10_write_24 : decode cX10_write 24 = .ok (.istore_n 1, 1) := by decide +kernel
theorem dX10_write_25 : decode cX10_write 25 = .ok (.aload_n 0, 1) := by decide +kernel
theorem dX10_write_26 : decode cX10_write 26 = .ok (.getfield 26, 3) := by decide +kernel
theorem dX10_write_29 : decode cX10_write 29 = .ok (.invokevirtual 87, 3) := by decide +kernel
theorem dX10_write_32 : decode cX10_write 32 = .ok (.iload_n 1, 1) := by decide +kernel
theorem dX10_write_33 : decode cX10_write 33 = .ok (.ifCond .eq 8, 3) := by decide +kernel
theorem dX10_write_36 : decode cX10_write 36 = .ok (.bipush (-10), 2) := by decide +kernel
theorem dX10_write_38 : decode cX10_write 38 = .ok (.iload_n 1, 1) := by decide +kernel
theorem dX10_write_39 : decode cX10_write 39 = .ok (.isub, 1) := by decide +kernel
theorem dX10_write_40 : decode cX10_write 40 = .ok (.ireturn, 1) := by decide +kernel
theorem dX10_write_41 : decode cX10_write 41 = .ok (.aload_n 0, 1) := by decide +kernel
theorem dX10_write_42 : decode cX10_write 42 = .ok (.aload_n 0, 1) := by decide +kernel
theorem dX10_write_43 : decode cX10_write 43 = .ok (.getfield 60, 3) := by decide +kernel
theorem dX10_write_46 : decode cX10_write 46 = .ok (.invokevirtual 90, 3) := by decide +kernel
theorem dX10_write_49 : decode cX10_write 49 = .ok (.ireturn, 1) := by decide +kernel
theorem dX10_fault_0 : decode cX10_fault 0 = .ok (.aload_n 0, 1) := by decide +kernel
theorem dX10_fault_1 : decode cX10_fault 1 = .ok (.getfield 26, 3) := by decide +kernel
theorem dX10_fault_4 : decode cX10_fault 4 = .ok (.invokevirtual 93, 3) := by decide +kernel
theorem dX10_fault_7 : decode cX10_fault 7 = .ok (.ireturn, 1) := by decide +kernel
theorem dX10_put_0 : decode cX10_put 0 = .ok (.aload_n 0, 1) := by decide +kernel
theorem dX10_put_1 : decode cX10_put 1 = .ok (.getfield 60, 3) := by decide +kernel
theorem dX10_put_4 : decode cX10_put 4 = .ok (.iload_n 1, 1) := by decide +kernel
theorem dX10_put_5 : decode cX10_put 5 = .ok (.i2l, 1) := by decide +kernel
theorem dX10_put_6 : decode cX10_put 6 = .ok (.iload_n 2, 1) := by decide +kernel
theorem dX10_put_7 : decode cX10_put 7 = .ok (.i2l, 1) := by decide +kernel
theorem dX10_put_8 : decode cX10_put 8 = .ok (.iload_n 3, 1) := by decide +kernel
theorem dX10_put_9 : decode cX10_put 9 = .ok (.i2l, 1) := by decide +kernel
theorem dX10_put_10 : decode cX10_put 10 = .ok (.iload 4, 2) := by decide +kernel
theorem dX10_put_12 : decode cX10_put 12 = .ok (.i2l, 1) := by decide +kernel
theorem dX10_put_13 : decode cX10_put 13 = .ok (.invokevirtual 96, 3) := by decide +kernel
theorem dX10_put_16 : decode cX10_put 16 = .ok (.aload_n 0, 1) := by decide +kernel
theorem dX10_put_17 : decode cX10_put 17 = .ok (.getfield 60, 3) := by decide +kernel
theorem dX10_put_20 : decode cX10_put 20 = .ok (.invokevirtual 100, 3) := by decide +kernel
theorem dX10_put_23 : decode cX10_put 23 = .ok (.ifCond .ne 6, 3) := by decide +kernel
theorem dX10_put_26 : decode cX10_put 26 = .ok (.ldc 68, 2) := by decide +kernel
theorem dX10_put_28 : decode cX10_put 28 = .ok (.ireturn, 1) := by decide +kernel
theorem dX10_put_29 : decode cX10_put 29 = .ok (.aload_n 0, 1) := by decide +kernel
theorem dX10_put_30 : decode cX10_put 30 = .ok (.getfield 60, 3) := by decide +kernel
theorem dX10_put_33 : decode cX10_put 33 = .ok (.invokevirtual 103, 3) := by decide +kernel
theorem dX10_put_36 : decode cX10_put 36 = .ok (.ifCond .ne 6, 3) := by decide +kernel
theorem dX10_put_39 : decode cX10_put 39 = .ok (.ldc 106, 2) := by decide +kernel
theorem dX10_put_41 : decode cX10_put 41 = .ok (.ireturn, 1) := by decide +kernel
theorem dX10_put_42 : decode cX10_put 42 = .ok (.aload_n 0, 1) := by decide +kernel
theorem dX10_put_43 : decode cX10_put 43 = .ok (.getfield 10, 3) := by decide +kernel
theorem dX10_put_46 : decode cX10_put 46 = .ok (.invokevirtual 82, 3) := by decide +kernel
theorem dX10_put_49 : decode cX10_put 49 = .ok (.ifCond .eq 6, 3) := by decide +kernel
theorem dX10_put_52 : decode cX10_put 52 = .ok (.ldc 73, 2) := by decide +kernel
theorem dX10_put_54 : decode cX10_put 54 = .ok (.ireturn, 1) := by decide +kernel
theorem dX10_put_55 : decode cX10_put 55 = .ok (.aload_n 0, 1) := by decide +kernel
theorem dX10_put_56 : decode cX10_put 56 = .ok (.aload_n 0, 1) := by decide +kernel
theorem dX10_put_57 : decode cX10_put 57 = .ok (.getfield 60, 3) := by decide +kernel
theorem dX10_put_60 : decode cX10_put 60 = .ok (.invokevirtual 90, 3) := by decide +kernel
theorem dX10_put_63 : decode cX10_put 63 = .ok (.ireturn, 1) := by decide +kernel
theorem dX10_told_0 : decode cX10_told 0 = .ok (.iload_n 1, 1) := by decide +kernel
theorem dX10_told_1 : decode cX10_told 1 = .ok (.tableswitch 152 0 7 #[47, 55, 63, 82, 101, 120, 128, 144], 47) := by decide +kernel
theorem dX10_told_48 : decode cX10_told 48 = .ok (.aload_n 0, 1) := by decide +kernel
theorem dX10_told_49 : decode cX10_told 49 = .ok (.getfield 10, 3) := by decide +kernel
theorem dX10_told_52 : decode cX10_told 52 = .ok (.invokevirtual 107, 3) := by decide +kernel
theorem dX10_told_55 : decode cX10_told 55 = .ok (.ireturn, 1) := by decide +kernel
theorem dX10_told_56 : decode cX10_told 56 = .ok (.aload_n 0, 1) := by decide +kernel
theorem dX10_told_57 : decode cX10_told 57 = .ok (.getfield 26, 3) := by decide +kernel
theorem dX10_told_60 : decode cX10_told 60 = .ok (.invokevirtual 78, 3) := by decide +kernel
theorem dX10_told_63 : decode cX10_told 63 = .ok (.ireturn, 1) := by decide +kernel
theorem dX10_told_64 : decode cX10_told 64 = .ok (.aload_n 0, 1) := by decide +kernel
theorem dX10_told_65 : decode cX10_told 65 = .ok (.getfield 40, 3) := by decide +kernel
theorem dX10_told_68 : decode cX10_told 68 = .ok (.aload_n 0, 1) := by decide +kernel
theorem dX10_told_69 : decode cX10_told 69 = .ok (.getfield 10, 3) := by decide +kernel
theorem dX10_told_72 : decode cX10_told 72 = .ok (.invokevirtual 110, 3) := by decide +kernel
theorem dX10_told_75 : decode cX10_told 75 = .ok (.aload_n 0, 1) := by decide +kernel
theorem dX10_told_76 : decode cX10_told 76 = .ok (.getfield 40, 3) := by decide +kernel
theorem dX10_told_79 : decode cX10_told 79 = .ok (.invokevirtual 114, 3) := by decide +kernel
theorem dX10_told_82 : decode cX10_told 82 = .ok (.ireturn, 1) := by decide +kernel
theorem dX10_told_83 : decode cX10_told 83 = .ok (.aload_n 0, 1) := by decide +kernel
theorem dX10_told_84 : decode cX10_told 84 = .ok (.getfield 40, 3) := by decide +kernel
theorem dX10_told_87 : decode cX10_told 87 = .ok (.aload_n 0, 1) := by decide +kernel
theorem dX10_told_88 : decode cX10_told 88 = .ok (.getfield 10, 3) := by decide +kernel
theorem dX10_told_91 : decode cX10_told 91 = .ok (.invokevirtual 110, 3) := by decide +kernel
theorem dX10_told_94 : decode cX10_told 94 = .ok (.aload_n 0, 1) := by decide +kernel
theorem dX10_told_95 : decode cX10_told 95 = .ok (.getfield 40, 3) := by decide +kernel
theorem dX10_told_98 : decode cX10_told 98 = .ok (.invokevirtual 117, 3) := by decide +kernel
theorem dX10_told_101 : decode cX10_told 101 = .ok (.ireturn, 1) := by decide +kernel
theorem dX10_told_102 : decode cX10_told 102 = .ok (.aload_n 0, 1) := by decide +kernel
theorem dX10_told_103 : decode cX10_told 103 = .ok (.getfield 40, 3) := by decide +kernel
theorem dX10_told_106 : decode cX10_told 106 = .ok (.aload_n 0, 1) := by decide +kernel
theorem dX10_told_107 : decode cX10_told 107 = .ok (.getfield 10, 3) := by decide +kernel
theorem dX10_told_110 : decode cX10_told 110 = .ok (.invokevirtual 110, 3) := by decide +kernel
theorem dX10_told_113 : decode cX10_told 113 = .ok (.aload_n 0, 1) := by decide +kernel
theorem dX10_told_114 : decode cX10_told 114 = .ok (.getfield 40, 3) := by decide +kernel
theorem dX10_told_117 : decode cX10_told 117 = .ok (.invokevirtual 120, 3) := by decide +kernel
theorem dX10_told_120 : decode cX10_told 120 = .ok (.ireturn, 1) := by decide +kernel
theorem dX10_told_121 : decode cX10_told 121 = .ok (.aload_n 0, 1) := by decide +kernel
theorem dX10_told_122 : decode cX10_told 122 = .ok (.getfield 33, 3) := by decide +kernel
theorem dX10_told_125 : decode cX10_told 125 = .ok (.invokevirtual 123, 3) := by decide +kernel
theorem dX10_told_128 : decode cX10_told 128 = .ok (.ireturn, 1) := by decide +kernel
theorem dX10_told_129 : decode cX10_told 129 = .ok (.aload_n 0, 1) := by decide +kernel
theorem dX10_told_130 : decode cX10_told 130 = .ok (.getfield 40, 3) := by decide +kernel
theorem dX10_told_133 : decode cX10_told 133 = .ok (.aload_n 0, 1) := by decide +kernel
theorem dX10_told_134 : decode cX10_told 134 = .ok (.getfield 10, 3) := by decide +kernel
theorem dX10_told_137 : decode cX10_told 137 = .ok (.invokevirtual 110, 3) := by decide +kernel
theorem dX10_told_140 : decode cX10_told 140 = .ok (.aload_n 0, 1) := by decide +kernel
theorem dX10_told_141 : decode cX10_told 141 = .ok (.invokevirtual 124, 3) := by decide +kernel
theorem dX10_told_144 : decode cX10_told 144 = .ok (.ireturn, 1) := by decide +kernel
theorem dX10_told_145 : decode cX10_told 145 = .ok (.aload_n 0, 1) := by decide +kernel
theorem dX10_told_146 : decode cX10_told 146 = .ok (.getfield 19, 3) := by decide +kernel
theorem dX10_told_149 : decode cX10_told 149 = .ok (.invokevirtual 127, 3) := by decide +kernel
theorem dX10_told_152 : decode cX10_told 152 = .ok (.ireturn, 1) := by decide +kernel
theorem dX10_told_153 : decode cX10_told 153 = .ok (.ldc 68, 2) := by decide +kernel
theorem dX10_told_155 : decode cX10_told 155 = .ok (.ireturn, 1) := by decide +kernel
theorem dX10_firstWrong_0 : decode cX10_firstWrong 0 = .ok (.iconst 0, 1) := by decide +kernel
theorem dX10_firstWrong_1 : decode cX10_firstWrong 1 = .ok (.istore_n 1, 1) := by decide +kernel
theorem dX10_firstWrong_2 : decode cX10_firstWrong 2 = .ok (.iload_n 1, 1) := by decide +kernel
theorem dX10_firstWrong_3 : decode cX10_firstWrong 3 = .ok (.aload_n 0, 1) := by decide +kernel
theorem dX10_firstWrong_4 : decode cX10_firstWrong 4 = .ok (.getfield 33, 3) := by decide +kernel
theorem dX10_firstWrong_7 : decode cX10_firstWrong 7 = .ok (.invokevirtual 123, 3) := by decide +kernel
theorem dX10_firstWrong_10 : decode cX10_firstWrong 10 = .ok (.if_icmp .ge 83, 3) := by decide +kernel
theorem dX10_firstWrong_13 : decode cX10_firstWrong 13 = .ok (.aload_n 0, 1) := by decide +kernel
theorem dX10_firstWrong_14 : decode cX10_firstWrong 14 = .ok (.getfield 33, 3) := by decide +kernel
theorem dX10_firstWrong_17 : decode cX10_firstWrong 17 = .ok (.iload_n 1, 1) := by decide +kernel
theorem dX10_firstWrong_18 : decode cX10_firstWrong 18 = .ok (.invokevirtual 128, 3) := by decide +kernel
theorem dX10_firstWrong_21 : decode cX10_firstWrong 21 = .ok (.istore_n 2, 1) := by decide +kernel
theorem dX10_firstWrong_22 : decode cX10_firstWrong 22 = .ok (.aload_n 0, 1) := by decide +kernel
theorem dX10_firstWrong_23 : decode cX10_firstWrong 23 = .ok (.getfield 33, 3) := by decide +kernel
theorem dX10_firstWrong_26 : decode cX10_firstWrong 26 = .ok (.iload_n 1, 1) := by decide +kernel
theorem dX10_firstWrong_27 : decode cX10_firstWrong 27 = .ok (.invokevirtual 132, 3) := by decide +kernel
theorem dX10_firstWrong_30 : decode cX10_firstWrong 30 = .ok (.istore_n 3, 1) := by decide +kernel
theorem dX10_firstWrong_31 : decode cX10_firstWrong 31 = .ok (.aload_n 0, 1) := by decide +kernel
theorem dX10_firstWrong_32 : decode cX10_firstWrong 32 = .ok (.getfield 10, 3) := by decide +kernel
theorem dX10_firstWrong_35 : decode cX10_firstWrong 35 = .ok (.iload_n 2, 1) := by decide +kernel
theorem dX10_firstWrong_36 : decode cX10_firstWrong 36 = .ok (.invokevirtual 135, 3) := by decide +kernel
theorem dX10_firstWrong_39 : decode cX10_firstWrong 39 = .ok (.ifCond .eq 18, 3) := by decide +kernel
theorem dX10_firstWrong_42 : decode cX10_firstWrong 42 = .ok (.aload_n 0, 1) := by decide +kernel
theorem dX10_firstWrong_43 : decode cX10_firstWrong 43 = .ok (.getfield 10, 3) := by decide +kernel
theorem dX10_firstWrong_46 : decode cX10_firstWrong 46 = .ok (.iload_n 3, 1) := by decide +kernel
theorem dX10_firstWrong_47 : decode cX10_firstWrong 47 = .ok (.invokevirtual 135, 3) := by decide +kernel
theorem dX10_firstWrong_50 : decode cX10_firstWrong 50 = .ok (.ifCond .eq 7, 3) := by decide +kernel
theorem dX10_firstWrong_53 : decode cX10_firstWrong 53 = .ok (.iconst 1, 1) := by decide +kernel
theorem dX10_firstWrong_54 : decode cX10_firstWrong 54 = .ok (.goto 4, 3) := by decide +kernel
theorem dX10_firstWrong_57 : decode cX10_firstWrong 57 = .ok (.iconst 0, 1) := by decide +kernel
theorem dX10_firstWrong_58 : decode cX10_firstWrong 58 = .ok (.istore 4, 2) := by decide +kernel
theorem dX10_firstWrong_60 : decode cX10_firstWrong 60 = .ok (.iload 4, 2) := by decide +kernel
theorem dX10_firstWrong_62 : decode cX10_firstWrong 62 = .ok (.ifCond .eq 23, 3) := by decide +kernel
theorem dX10_firstWrong_65 : decode cX10_firstWrong 65 = .ok (.aload_n 0, 1) := by decide +kernel
theorem dX10_firstWrong_66 : decode cX10_firstWrong 66 = .ok (.getfield 40, 3) := by decide +kernel
theorem dX10_firstWrong_69 : decode cX10_firstWrong 69 = .ok (.iload_n 2, 1) := by decide +kernel
theorem dX10_firstWrong_70 : decode cX10_firstWrong 70 = .ok (.iload_n 3, 1) := by decide +kernel
theorem dX10_firstWrong_71 : decode cX10_firstWrong 71 = .ok (.invokevirtual 139, 3) := by decide +kernel
theorem dX10_firstWrong_74 : decode cX10_firstWrong 74 = .ok (.aload_n 0, 1) := by decide +kernel
theorem dX10_firstWrong_75 : decode cX10_firstWrong 75 = .ok (.getfield 33, 3) := by decide +kernel
theorem dX10_firstWrong_78 : decode cX10_firstWrong 78 = .ok (.iload_n 1, 1) := by decide +kernel
theorem dX10_firstWrong_79 : decode cX10_firstWrong 79 = .ok (.invokevirtual 143, 3) := by decide +kernel
theorem dX10_firstWrong_82 : decode cX10_firstWrong 82 = .ok (.if_icmp .eq 5, 3) := by decide +kernel
