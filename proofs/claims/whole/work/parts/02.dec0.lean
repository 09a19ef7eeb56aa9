theorem dX0_init_0 : decode cX0_init 0 = .ok (.aload_n 0, 1) := by decide +kernel
theorem dX0_init_1 : decode cX0_init 1 = .ok (.invokespecial 3, 3) := by decide +kernel
theorem dX0_init_4 : decode cX0_init 4 = .ok (.aload_n 0, 1) := by decide +kernel
theorem dX0_init_5 : decode cX0_init 5 = .ok (.bipush 20, 2) := by decide +kernel
theorem dX0_init_7 : decode cX0_init 7 = .ok (.newarray .int, 2) := by decide +kernel
theorem dX0_init_9 : decode cX0_init 9 = .ok (.putfield 9, 3) := by decide +kernel
theorem dX0_init_12 : decode cX0_init 12 = .ok (.aload_n 0, 1) := by decide +kernel
theorem dX0_init_13 : decode cX0_init 13 = .ok (.bipush 20, 2) := by decide +kernel
theorem dX0_init_15 : decode cX0_init 15 = .ok (.newarray .int, 2) := by decide +kernel
theorem dX0_init_17 : decode cX0_init 17 = .ok (.putfield 15, 3) := by decide +kernel
theorem dX0_init_20 : decode cX0_init 20 = .ok (.aload_n 0, 1) := by decide +kernel
theorem dX0_init_21 : decode cX0_init 21 = .ok (.bipush 20, 2) := by decide +kernel
theorem dX0_init_23 : decode cX0_init 23 = .ok (.newarray .boolean, 2) := by decide +kernel
theorem dX0_init_25 : decode cX0_init 25 = .ok (.putfield 18, 3) := by decide +kernel
theorem dX0_init_28 : decode cX0_init 28 = .ok (.aload_n 0, 1) := by decide +kernel
theorem dX0_init_29 : decode cX0_init 29 = .ok (.iconst 0, 1) := by decide +kernel
theorem dX0_init_30 : decode cX0_init 30 = .ok (.putfield 22, 3) := by decide +kernel
theorem dX0_init_33 : decode cX0_init 33 = .ok (.return_, 1) := by decide +kernel
theorem dX0_length_0 : decode cX0_length 0 = .ok (.aload_n 0, 1) := by decide +kernel
theorem dX0_length_1 : decode cX0_length 1 = .ok (.getfield 22, 3) := by decide +kernel
theorem dX0_length_4 : decode cX0_length 4 = .ok (.ireturn, 1) := by decide +kernel
theorem dX0_isFull_0 : decode cX0_isFull 0 = .ok (.aload_n 0, 1) := by decide +kernel
theorem dX0_isFull_1 : decode cX0_isFull 1 = .ok (.getfield 22, 3) := by decide +kernel
theorem dX0_isFull_4 : decode cX0_isFull 4 = .ok (.bipush 20, 2) := by decide +kernel
theorem dX0_isFull_6 : decode cX0_isFull 6 = .ok (.if_icmp .lt 7, 3) := by decide +kernel
theorem dX0_isFull_9 : decode cX0_isFull 9 = .ok (.iconst 1, 1) := by decide +kernel
theorem dX0_isFull_10 : decode cX0_isFull 10 = .ok (.goto 4, 3) := by decide +kernel
theorem dX0_isFull_13 : decode cX0_isFull 13 = .ok (.iconst 0, 1) := by decide +kernel
theorem dX0_isFull_14 : decode cX0_isFull 14 = .ok (.ireturn, 1) := by decide +kernel
theorem dX0_append_0 : decode cX0_append 0 = .ok (.aload_n 0, 1) := by decide +kernel
theorem dX0_append_1 : decode cX0_append 1 = .ok (.invokevirtual 26, 3) := by decide +kernel
theorem dX0_append_4 : decode cX0_append 4 = .ok (.ifCond .ne 43, 3) := by decide +kernel
theorem dX0_append_7 : decode cX0_append 7 = .ok (.aload_n 0, 1) := by decide +kernel
theorem dX0_append_8 : decode cX0_append 8 = .ok (.getfield 9, 3) := by decide +kernel
theorem dX0_append_11 : decode cX0_append 11 = .ok (.aload_n 0, 1) := by decide +kernel
theorem dX0_append_12 : decode cX0_append 12 = .ok (.getfield 22, 3) := by decide +kernel
theorem dX0_append_15 : decode cX0_append 15 = .ok (.iload_n 1, 1) := by decide +kernel
theorem dX0_append_16 : decode cX0_append 16 = .ok (.iastore, 1) := by decide +kernel
theorem dX0_append_17 : decode cX0_append 17 = .ok (.aload_n 0, 1) := by decide +kernel
theorem dX0_append_18 : decode cX0_append 18 = .ok (.getfield 15, 3) := by decide +kernel
theorem dX0_append_21 : decode cX0_append 21 = .ok (.aload_n 0, 1) := by decide +kernel
theorem dX0_append_22 : decode cX0_append 22 = .ok (.getfield 22, 3) := by decide +kernel
theorem dX0_append_25 : decode cX0_append 25 = .ok (.iload_n 2, 1) := by decide +kernel
theorem dX0_append_26 : decode cX0_append 26 = .ok (.iastore, 1) := by decide +kernel
theorem dX0_append_27 : decode cX0_append 27 = .ok (.aload_n 0, 1) := by decide +kernel
theorem dX0_append_28 : decode cX0_append 28 = .ok (.getfield 18, 3) := by decide +kernel
theorem dX0_append_31 : decode cX0_append 31 = .ok (.aload_n 0, 1) := by decide +kernel
theorem dX0_append_32 : decode cX0_append 32 = .ok (.getfield 22, 3) := by decide +kernel
theorem dX0_append_35 : decode cX0_append 35 = .ok (.iload_n 3, 1) := by decide +kernel
theorem dX0_append_36 : decode cX0_append 36 = .ok (.bastore, 1) := by decide +kernel
theorem dX0_append_37 : decode cX0_append 37 = .ok (.aload_n 0, 1) := by decide +kernel
theorem dX0_append_38 : decode cX0_append 38 = .ok (.dup, 1) := by decide +kernel
theorem dX0_append_39 : decode cX0_append 39 = .ok (.getfield 22, 3) := by decide +kernel
theorem dX0_append_42 : decode cX0_append 42 = .ok (.iconst 1, 1) := by decide +kernel
theorem dX0_append_43 : decode cX0_append 43 = .ok (.iadd, 1) := by decide +kernel
theorem dX0_append_44 : decode cX0_append 44 = .ok (.putfield 22, 3) := by decide +kernel
theorem dX0_append_47 : decode cX0_append 47 = .ok (.return_, 1) := by decide +kernel
theorem dX0_clear_0 : decode cX0_clear 0 = .ok (.aload_n 0, 1) := by decide +kernel
theorem dX0_clear_1 : decode cX0_clear 1 = .ok (.iconst 0, 1) := by decide +kernel
theorem dX0_clear_2 : decode cX0_clear 2 = .ok (.putfield 22, 3) := by decide +kernel
theorem dX0_clear_5 : decode cX0_clear 5 = .ok (.return_, 1) := by decide +kernel
theorem dX0_one_0 : decode cX0_one 0 = .ok (.iload_n 1, 1) := by decide +kernel
theorem dX0_one_1 : decode cX0_one 1 = .ok (.ifCond .lt 20, 3) := by decide +kernel
theorem dX0_one_4 : decode cX0_one 4 = .ok (.iload_n 1, 1) := by decide +kernel
theorem dX0_one_5 : decode cX0_one 5 = .ok (.aload_n 0, 1) := by decide +kernel
theorem dX0_one_6 : decode cX0_one 6 = .ok (.getfield 22, 3) := by decide +kernel
theorem dX0_one_9 : decode cX0_one 9 = .ok (.if_icmp .ge 12, 3) := by decide +kernel
theorem dX0_one_12 : decode cX0_one 12 = .ok (.aload_n 0, 1) := by decide +kernel
theorem dX0_one_13 : decode cX0_one 13 = .ok (.getfield 9, 3) := by decide +kernel
theorem dX0_one_16 : decode cX0_one 16 = .ok (.iload_n 1, 1) := by decide +kernel
theorem dX0_one_17 : decode cX0_one 17 = .ok (.iaload, 1) := by decide +kernel
theorem dX0_one_18 : decode cX0_one 18 = .ok (.goto 4, 3) := by decide +kernel
theorem dX0_one_21 : decode cX0_one 21 = .ok (.iconst (-1), 1) := by decide +kernel
theorem dX0_one_22 : decode cX0_one 22 = .ok (.ireturn, 1) := by decide +kernel
theorem dX0_other_0 : decode cX0_other 0 = .ok (.iload_n 1, 1) := by decide +kernel
theorem dX0_other_1 : decode cX0_other 1 = .ok (.ifCond .lt 20, 3) := by decide +kernel
theorem dX0_other_4 : decode cX0_other 4 = .ok (.iload_n 1, 1) := by decide +kernel
theorem dX0_other_5 : decode cX0_other 5 = .ok (.aload_n 0, 1) := by decide +kernel
theorem dX0_other_6 : decode cX0_other 6 = .ok (.getfield 22, 3) := by decide +kernel
theorem dX0_other_9 : decode cX0_other 9 = .ok (.if_icmp .ge 12, 3) := by decide +kernel
theorem dX0_other_12 : decode cX0_other 12 = .ok (.aload_n 0, 1) := by decide +kernel
theorem dX0_other_13 : decode cX0_other 13 = .ok (.getfield 15, 3) := by decide +kernel
theorem dX0_other_16 : decode cX0_other 16 = .ok (.iload_n 1, 1) := by decide +kernel
theorem dX0_other_17 : decode cX0_other 17 = .ok (.iaload, 1) := by decide +kernel
theorem dX0_other_18 : decode cX0_other 18 = .ok (.goto 4, 3) := by decide +kernel
theorem dX0_other_21 : decode cX0_other 21 = .ok (.iconst (-1), 1) := by decide +kernel
theorem dX0_other_22 : decode cX0_other 22 = .ok (.ireturn, 1) := by decide +kernel
theorem dX0_saidAlike_0 : decode cX0_saidAlike 0 = .ok (.iload_n 1, 1) := by decide +kernel
theorem dX0_saidAlike_1 : decode cX0_saidAlike 1 = .ok (.ifCond .lt 24, 3) := by decide +kernel
theorem dX0_saidAlike_4 : decode cX0_saidAlike 4 = .ok (.iload_n 1, 1) := by decide +kernel
theorem dX0_saidAlike_5 : decode cX0_saidAlike 5 = .ok (.aload_n 0, 1) := by decide +kernel
theorem dX0_saidAlike_6 : decode cX0_saidAlike 6 = .ok (.getfield 22, 3) := by decide +kernel
theorem dX0_saidAlike_9 : decode cX0_saidAlike 9 = .ok (.if_icmp .ge 16, 3) := by decide +kernel
theorem dX0_saidAlike_12 : decode cX0_saidAlike 12 = .ok (.aload_n 0, 1) := by decide +kernel
theorem dX0_saidAlike_13 : decode cX0_saidAlike 13 = .ok (.getfield 18, 3) := by decide +kernel
theorem dX0_saidAlike_16 : decode cX0_saidAlike 16 = .ok (.iload_n 1, 1) := by decide +kernel
theorem dX0_saidAlike_17 : decode cX0_saidAlike 17 = .ok (.baload, 1) := by decide +kernel
theorem dX0_saidAlike_18 : decode cX0_saidAlike 18 = .ok (.ifCond .eq 7, 3) := by decide +kernel
theorem dX0_saidAlike_21 : decode cX0_saidAlike 21 = .ok (.iconst 1, 1) := by decide +kernel
theorem dX0_saidAlike_22 : decode cX0_saidAlike 22 = .ok (.goto 4, 3) := by decide +kernel
theorem dX0_saidAlike_25 : decode cX0_saidAlike 25 = .ok (.iconst 0, 1) := by decide +kernel
theorem dX0_saidAlike_26 : decode cX0_saidAlike 26 = .ok (.ireturn, 1) := by decide +kernel
theorem dX1_init_0 : decode cX1_init 0 = .ok (.aload_n 0, 1) := by decide +kernel
theorem dX1_init_1 : decode cX1_init 1 = .ok (.invokespecial 1, 3) := by decide +kernel
theorem dX1_init_4 : decode cX1_init 4 = .ok (.aload_n 0, 1) := by decide +kernel
theorem dX1_init_5 : decode cX1_init 5 = .ok (.new 7, 3) := by decide +kernel
theorem dX1_init_8 : decode cX1_init 8 = .ok (.dup, 1) := by decide +kernel
theorem dX1_init_9 : decode cX1_init 9 = .ok (.invokespecial 9, 3) := by decide +kernel
theorem dX1_init_12 : decode cX1_init 12 = .ok (.putfield 10, 3) := by decide +kernel
theorem dX1_init_15 : decode cX1_init 15 = .ok (.aload_n 0, 1) := by decide +kernel
theorem dX1_init_16 : decode cX1_init 16 = .ok (.iconst 0, 1) := by decide +kernel
theorem dX1_init_17 : decode cX1_init 17 = .ok (.putfield 16, 3) := by decide +kernel
theorem dX1_init_20 : decode cX1_init 20 = .ok (.aload_n 0, 1) := by decide +kernel
theorem dX1_init_21 : decode cX1_init 21 = .ok (.iconst 0, 1) := by decide +kernel
theorem dX1_init_22 : decode cX1_init 22 = .ok (.putfield 20, 3) := by decide +kernel
theorem dX1_init_25 : decode cX1_init 25 = .ok (.return_, 1) := by decide +kernel
theorem dX1_fill_0 : decode cX1_fill 0 = .ok (.aload_n 0, 1) := by decide +kernel
theorem dX1_fill_1 : decode cX1_fill 1 = .ok (.getfield 10, 3) := by decide +kernel
theorem dX1_fill_4 : decode cX1_fill 4 = .ok (.aload_n 1, 1) := by decide +kernel
theorem dX1_fill_5 : decode cX1_fill 5 = .ok (.invokevirtual 24, 3) := by decide +kernel
theorem dX1_fill_8 : decode cX1_fill 8 = .ok (.aload_n 0, 1) := by decide +kernel
theorem dX1_fill_9 : decode cX1_fill 9 = .ok (.iload_n 2, 1) := by decide +kernel
theorem dX1_fill_10 : decode cX1_fill 10 = .ok (.putfield 16, 3) := by decide +kernel
theorem dX1_fill_13 : decode cX1_fill 13 = .ok (.aload_n 0, 1) := by decide +kernel
theorem dX1_fill_14 : decode cX1_fill 14 = .ok (.iconst 1, 1) := by decide +kernel
theorem dX1_fill_15 : decode cX1_fill 15 = .ok (.putfield 20, 3) := by decide +kernel
theorem dX1_fill_18 : decode cX1_fill 18 = .ok (.return_, 1) := by decide +kernel
theorem dX1_isKept_0 : decode cX1_isKept 0 = .ok (.aload_n 0, 1) := by decide +kernel
theorem dX1_isKept_1 : decode cX1_isKept 1 = .ok (.getfield 20, 3) := by decide +kernel
theorem dX1_isKept_4 : decode cX1_isKept 4 = .ok (.ireturn, 1) := by decide +kernel
theorem dX1_shelf_0 : decode cX1_shelf 0 = .ok (.aload_n 0, 1) := by decide +kernel
theorem dX1_shelf_1 : decode cX1_shelf 1 = .ok (.getfield 10, 3) := by decide +kernel
theorem dX1_shelf_4 : decode cX1_shelf 4 = .ok (.areturn, 1) := by decide +kernel
theorem dX1_seedThen_0 : decode cX1_seedThen 0 = .ok (.aload_n 0, 1) := by decide +kernel
theorem dX1_seedThen_1 : decode cX1_seedThen 1 = .ok (.getfield 16, 3) := by decide +kernel
theorem dX1_seedThen_4 : decode cX1_seedThen 4 = .ok (.ireturn, 1) := by decide +kernel
theorem dX2_init_0 : decode cX2_init 0 = .ok (.aload_n 0, 1) := by decide +kernel
theorem dX2_init_1 : decode cX2_init 1 = .ok (.invokespecial 3, 3) := by decide +kernel
theorem dX2_init_4 : decode cX2_init 4 = .ok (.aload_n 0, 1) := by decide +kernel
theorem dX2_init_5 : decode cX2_init 5 = .ok (.bipush 12, 2) := by decide +kernel
theorem dX2_init_7 : decode cX2_init 7 = .ok (.anewarray 9, 3) := by decide +kernel
theorem dX2_init_10 : decode cX2_init 10 = .ok (.putfield 11, 3) := by decide +kernel
theorem dX2_init_13 : decode cX2_init 13 = .ok (.aload_n 0, 1) := by decide +kernel
theorem dX2_init_14 : decode cX2_init 14 = .ok (.new 9, 3) := by decide +kernel
theorem dX2_init_17 : decode cX2_init 17 = .ok (.dup, 1) := by decide +kernel
theorem dX2_init_18 : decode cX2_init 18 = .ok (.invokespecial 17, 3) := by decide +kernel
theorem dX2_init_21 : decode cX2_init 21 = .ok (.putfield 18, 3) := by decide +kernel
theorem dX2_init_24 : decode cX2_init 24 = .ok (.aload_n 0, 1) := by decide +kernel
theorem dX2_init_25 : decode cX2_init 25 = .ok (.new 22, 3) := by decide +kernel
theorem dX2_init_28 : decode cX2_init 28 = .ok (.dup, 1) := by decide +kernel
theorem dX2_init_29 : decode cX2_init 29 = .ok (.invokespecial 24, 3) := by decide +kernel
theorem dX2_init_32 : decode cX2_init 32 = .ok (.putfield 25, 3) := by decide +kernel
theorem dX2_init_35 : decode cX2_init 35 = .ok (.aload_n 0, 1) := by decide +kernel
theorem dX2_init_36 : decode cX2_init 36 = .ok (.new 22, 3) := by decide +kernel
theorem dX2_init_39 : decode cX2_init 39 = .ok (.dup, 1) := by decide +kernel
theorem dX2_init_40 : decode cX2_init 40 = .ok (.invokespecial 24, 3) := by decide +kernel
theorem dX2_init_43 : decode cX2_init 43 = .ok (.putfield 29, 3) := by decide +kernel
theorem dX2_init_46 : decode cX2_init 46 = .ok (.aload_n 0, 1) := by decide +kernel
theorem dX2_init_47 : decode cX2_init 47 = .ok (.new 22, 3) := by decide +kernel
theorem dX2_init_50 : decode cX2_init 50 = .ok (.dup, 1) := by decide +kernel
theorem dX2_init_51 : decode cX2_init 51 = .ok (.invokespecial 24, 3) := by decide +kernel
theorem dX2_init_54 : decode cX2_init 54 = .ok (.putfield 32, 3) := by decide +kernel
theorem dX2_init_57 : decode cX2_init 57 = .ok (.aload_n 0, 1) := by decide +kernel
theorem dX2_init_58 : decode cX2_init 58 = .ok (.new 35, 3) := by decide +kernel
theorem dX2_init_61 : decode cX2_init 61 = .ok (.dup, 1) := by decide +kernel
theorem dX2_init_62 : decode cX2_init 62 = .ok (.invokespecial 37, 3) := by decide +kernel
theorem dX2_init_65 : decode cX2_init 65 = .ok (.putfield 38, 3) := by decide +kernel
theorem dX2_init_68 : decode cX2_init 68 = .ok (.aload_n 0, 1) := by decide +kernel
theorem dX2_init_69 : decode cX2_init 69 = .ok (.iconst 0, 1) := by decide +kernel
theorem dX2_init_70 : decode cX2_init 70 = .ok (.putfield 42, 3) := by decide +kernel
theorem dX2_init_73 : decode cX2_init 73 = .ok (.iconst 0, 1) := by decide +kernel
theorem dX2_init_74 : decode cX2_init 74 = .ok (.istore_n 1, 1) := by decide +kernel
theorem dX2_init_75 : decode cX2_init 75 = .ok (.iload_n 1, 1) := by decide +kernel
theorem dX2_init_76 : decode cX2_init 76 = .ok (.bipush 12, 2) := by decide +kernel
theorem dX2_init_78 : decode cX2_init 78 = .ok (.if_icmp .ge 22, 3) := by decide +kernel
theorem dX2_init_81 : decode cX2_init 81 = .ok (.aload_n 0, 1) := by decide +kernel
theorem dX2_init_82 : decode cX2_init 82 = .ok (.getfield 11, 3) := by decide +kernel
theorem dX2_init_85 : decode cX2_init 85 = .ok (.iload_n 1, 1) := by decide +kernel
theorem dX2_init_86 : decode cX2_init 86 = .ok (.new 9, 3) := by decide +kernel
theorem dX2_init_89 : decode cX2_init 89 = .ok (.dup, 1) := by decide +kernel
theorem dX2_init_90 : decode cX2_init 90 = .ok (.invokespecial 17, 3) := by decide +kernel
theorem dX2_init_93 : decode cX2_init 93 = .ok (.aastore, 1) := by decide +kernel
theorem dX2_init_94 : decode cX2_init 94 = .ok (.iinc 1 1, 3) := by decide +kernel
theorem dX2_init_97 : decode cX2_init 97 = .ok (.goto (-22), 3) := by decide +kernel
theorem dX2_init_100 : decode cX2_init 100 = .ok (.return_, 1) := by decide +kernel
theorem dX2_lookAround_0 : decode cX2_lookAround 0 = .ok (.aload_n 0, 1) := by decide +kernel
theorem dX2_lookAround_1 : decode cX2_lookAround 1 = .ok (.aload_n 1, 1) := by decide +kernel
theorem dX2_lookAround_2 : decode cX2_lookAround 2 = .ok (.invokevirtual 46, 3) := by decide +kernel
theorem dX2_lookAround_5 : decode cX2_lookAround 5 = .ok (.putfield 42, 3) := by decide +kernel
theorem dX2_lookAround_8 : decode cX2_lookAround 8 = .ok (.iconst 0, 1) := by decide +kernel
theorem dX2_lookAround_9 : decode cX2_lookAround 9 = .ok (.istore_n 2, 1) := by decide +kernel
theorem dX2_lookAround_10 : decode cX2_lookAround 10 = .ok (.iload_n 2, 1) := by decide +kernel
theorem dX2_lookAround_11 : decode cX2_lookAround 11 = .ok (.aload_n 0, 1) := by decide +kernel
theorem dX2_lookAround_12 : decode cX2_lookAround 12 = .ok (.getfield 42, 3) := by decide +kernel
theorem dX2_lookAround_15 : decode cX2_lookAround 15 = .ok (.if_icmp .ge 31, 3) := by decide +kernel
theorem dX2_lookAround_18 : decode cX2_lookAround 18 = .ok (.aload_n 1, 1) := by decide +kernel
theorem dX2_lookAround_19 : decode cX2_lookAround 19 = .ok (.iload_n 2, 1) := by decide +kernel
theorem dX2_lookAround_20 : decode cX2_lookAround 20 = .ok (.aload_n 0, 1) := by decide +kernel
theorem dX2_lookAround_21 : decode cX2_lookAround 21 = .ok (.getfield 25, 3) := by decide +kernel
theorem dX2_lookAround_24 : decode cX2_lookAround 24 = .ok (.invokevirtual 51, 3) := by decide +kernel
theorem dX2_lookAround_27 : decode cX2_lookAround 27 = .ok (.aload_n 0, 1) := by decide +kernel
theorem dX2_lookAround_28 : decode cX2_lookAround 28 = .ok (.getfield 11, 3) := by decide +kernel
theorem dX2_lookAround_31 : decode cX2_lookAround 31 = .ok (.iload_n 2, 1) := by decide +kernel
theorem dX2_lookAround_32 : decode cX2_lookAround 32 = .ok (.aaload, 1) := by decide +kernel
theorem dX2_lookAround_33 : decode cX2_lookAround 33 = .ok (.aload_n 0, 1) := by decide +kernel
theorem dX2_lookAround_34 : decode cX2_lookAround 34 = .ok (.getfield 25, 3) := by decide +kernel
theorem dX2_lookAround_37 : decode cX2_lookAround 37 = .ok (.invokevirtual 55, 3) := by decide +kernel
theorem dX2_lookAround_40 : decode cX2_lookAround 40 = .ok (.iinc 2 1, 3) := by decide +kernel
theorem dX2_lookAround_43 : decode cX2_lookAround 43 = .ok (.goto (-33), 3) := by decide +kernel
theorem dX2_lookAround_46 : decode cX2_lookAround 46 = .ok (.return_, 1) := by decide +kernel
theorem dX2_kinOf_0 : decode cX2_kinOf 0 = .ok (.aload_n 0, 1) := by decide +kernel
theorem dX2_kinOf_1 : decode cX2_kinOf 1 = .ok (.getfield 11, 3) := by decide +kernel
theorem dX2_kinOf_4 : decode cX2_kinOf 4 = .ok (.iload_n 1, 1) := by decide +kernel
theorem dX2_kinOf_5 : decode cX2_kinOf 5 = .ok (.aaload, 1) := by decide +kernel
theorem dX2_kinOf_6 : decode cX2_kinOf 6 = .ok (.areturn, 1) := by decide +kernel
theorem dX2_areAlike_0 : decode cX2_areAlike 0 = .ok (.aload_n 0, 1) := by decide +kernel
theorem dX2_areAlike_1 : decode cX2_areAlike 1 = .ok (.getfield 11, 3) := by decide +kernel
theorem dX2_areAlike_4 : decode cX2_areAlike 4 = .ok (.iload_n 1, 1) := by decide +kernel
theorem dX2_areAlike_5 : decode cX2_areAlike 5 = .ok (.aaload, 1) := by decide +kernel
theorem dX2_areAlike_6 : decode cX2_areAlike 6 = .ok (.aload_n 0, 1) := by decide +kernel
theorem dX2_areAlike_7 : decode cX2_areAlike 7 = .ok (.getfield 11, 3) := by decide +kernel
theorem dX2_areAlike_10 : decode cX2_areAlike 10 = .ok (.iload_n 2, 1) := by decide +kernel
theorem dX2_areAlike_11 : decode cX2_areAlike 11 = .ok (.aaload, 1) := by decide +kernel
theorem dX2_areAlike_12 : decode cX2_areAlike 12 = .ok (.invokevirtual 59, 3) := by decide +kernel
theorem dX2_areAlike_15 : decode cX2_areAlike 15 = .ok (.ireturn, 1) := by decide +kernel
theorem dX2_isTwin_0 : decode cX2_isTwin 0 = .ok (.aload_n 0, 1) := by decide +kernel
theorem dX2_isTwin_1 : decode cX2_isTwin 1 = .ok (.getfield 25, 3) := by decide +kernel
theorem dX2_isTwin_4 : decode cX2_isTwin 4 = .ok (.aload_n 0, 1) := by decide +kernel
theorem dX2_isTwin_5 : decode cX2_isTwin 5 = .ok (.getfield 11, 3) := by decide +kernel
theorem dX2_isTwin_8 : decode cX2_isTwin 8 = .ok (.iload_n 1, 1) := by decide +kernel
theorem dX2_isTwin_9 : decode cX2_isTwin 9 = .ok (.aaload, 1) := by decide +kernel
theorem dX2_isTwin_10 : decode cX2_isTwin 10 = .ok (.getfield 63, 3) := by decide +kernel
theorem dX2_isTwin_13 : decode cX2_isTwin 13 = .ok (.invokevirtual 66, 3) := by decide +kernel
theorem dX2_isTwin_16 : decode cX2_isTwin 16 = .ok (.aload_n 0, 1) := by decide +kernel
theorem dX2_isTwin_17 : decode cX2_isTwin 17 = .ok (.getfield 25, 3) := by decide +kernel
theorem dX2_isTwin_20 : decode cX2_isTwin 20 = .ok (.invokevirtual 69, 3) := by decide +kernel
theorem dX2_isTwin_23 : decode cX2_isTwin 23 = .ok (.aload_n 0, 1) := by decide +kernel
theorem dX2_isTwin_24 : decode cX2_isTwin 24 = .ok (.getfield 18, 3) := by decide +kernel
theorem dX2_isTwin_27 : decode cX2_isTwin 27 = .ok (.aload_n 0, 1) := by decide +kernel
theorem dX2_isTwin_28 : decode cX2_isTwin 28 = .ok (.getfield 25, 3) := by decide +kernel
theorem dX2_isTwin_31 : decode cX2_isTwin 31 = .ok (.invokevirtual 55, 3) := by decide +kernel
theorem dX2_isTwin_34 : decode cX2_isTwin 34 = .ok (.aload_n 0, 1) := by decide +kernel
theorem dX2_isTwin_35 : decode cX2_isTwin 35 = .ok (.getfield 11, 3) := by decide +kernel
theorem dX2_isTwin_38 : decode cX2_isTwin 38 = .ok (.iload_n 1, 1) := by decide +kernel
theorem dX2_isTwin_39 : decode cX2_isTwin 39 = .ok (.aaload, 1) := by decide +kernel
theorem dX2_isTwin_40 : decode cX2_isTwin 40 = .ok (.aload_n 0, 1) := by decide +kernel
theorem dX2_isTwin_41 : decode cX2_isTwin 41 = .ok (.getfield 18, 3) := by decide +kernel
theorem dX2_isTwin_44 : decode cX2_isTwin 44 = .ok (.invokevirtual 59, 3) := by decide +kernel
theorem dX2_isTwin_47 : decode cX2_isTwin 47 = .ok (.ireturn, 1) := by decide +kernel
theorem dX2_isLikeMirrored_0 : decode cX2_isLikeMirrored 0 = .ok (.aload_n 0, 1) := by decide +kernel
theorem dX2_isLikeMirrored_1 : decode cX2_isLikeMirrored 1 = .ok (.getfield 25, 3) := by decide +kernel
theorem dX2_isLikeMirrored_4 : decode cX2_isLikeMirrored 4 = .ok (.aload_n 0, 1) := by decide +kernel
theorem dX2_isLikeMirrored_5 : decode cX2_isLikeMirrored 5 = .ok (.getfield 11, 3) := by decide +kernel
theorem dX2_isLikeMirrored_8 : decode cX2_isLikeMirrored 8 = .ok (.iload_n 1, 1) := by decide +kernel
theorem dX2_isLikeMirrored_9 : decode cX2_isLikeMirrored 9 = .ok (.aaload, 1) := by decide +kernel
theorem dX2_isLikeMirrored_10 : decode cX2_isLikeMirrored 10 = .ok (.getfield 63, 3) := by decide +kernel
theorem dX2_isLikeMirrored_13 : decode cX2_isLikeMirrored 13 = .ok (.invokevirtual 66, 3) := by decide +kernel
theorem dX2_isLikeMirrored_16 : decode cX2_isLikeMirrored 16 = .ok (.aload_n 0, 1) := by decide +kernel
theorem dX2_isLikeMirrored_17 : decode cX2_isLikeMirrored 17 = .ok (.getfield 25, 3) := by decide +kernel
theorem dX2_isLikeMirrored_20 : decode cX2_isLikeMirrored 20 = .ok (.invokevirtual 72, 3) := by decide +kernel
theorem dX2_isLikeMirrored_23 : decode cX2_isLikeMirrored 23 = .ok (.aload_n 0, 1) := by decide +kernel
theorem dX2_isLikeMirrored_24 : decode cX2_isLikeMirrored 24 = .ok (.getfield 18, 3) := by decide +kernel
theorem dX2_isLikeMirrored_27 : decode cX2_isLikeMirrored 27 = .ok (.aload_n 0, 1) := by decide +kernel
theorem dX2_isLikeMirrored_28 : decode cX2_isLikeMirrored 28 = .ok (.getfield 25, 3) := by decide +kernel
theorem dX2_isLikeMirrored_31 : decode cX2_isLikeMirrored 31 = .ok (.invokevirtual 55, 3) := by decide +kernel
theorem dX2_isLikeMirrored_34 : decode cX2_isLikeMirrored 34 = .ok (.aload_n 0, 1) := by decide +kernel
theorem dX2_isLikeMirrored_35 : decode cX2_isLikeMirrored 35 = .ok (.getfield 11, 3) := by decide +kernel
theorem dX2_isLikeMirrored_38 : decode cX2_isLikeMirrored 38 = .ok (.iload_n 1, 1) := by decide +kernel
theorem dX2_isLikeMirrored_39 : decode cX2_isLikeMirrored 39 = .ok (.aaload, 1) := by decide +kernel
theorem dX2_isLikeMirrored_40 : decode cX2_isLikeMirrored 40 = .ok (.aload_n 0, 1) := by decide +kernel
theorem dX2_isLikeMirrored_41 : decode cX2_isLikeMirrored 41 = .ok (.getfield 18, 3) := by decide +kernel
theorem dX2_isLikeMirrored_44 : decode cX2_isLikeMirrored 44 = .ok (.invokevirtual 59, 3) := by decide +kernel
theorem dX2_isLikeMirrored_47 : decode cX2_isLikeMirrored 47 = .ok (.ireturn, 1) := by decide +kernel
theorem dX2_countTwins_0 : decode cX2_countTwins 0 = .ok (.iconst 0, 1) := by decide +kernel
theorem dX2_countTwins_1 : decode cX2_countTwins 1 = .ok (.istore_n 1, 1) := by decide +kernel
theorem dX2_countTwins_2 : decode cX2_countTwins 2 = .ok (.iconst 0, 1) := by decide +kernel
theorem dX2_countTwins_3 : decode cX2_countTwins 3 = .ok (.istore_n 2, 1) := by decide +kernel
theorem dX2_countTwins_4 : decode cX2_countTwins 4 = .ok (.iload_n 2, 1) := by decide +kernel
theorem dX2_countTwins_5 : decode cX2_countTwins 5 = .ok (.aload_n 0, 1) := by decide +kernel
theorem dX2_countTwins_6 : decode cX2_countTwins 6 = .ok (.getfield 42, 3) := by decide +kernel
theorem dX2_countTwins_9 : decode cX2_countTwins 9 = .ok (.if_icmp .ge 20, 3) := by decide +kernel
theorem dX2_countTwins_12 : decode cX2_countTwins 12 = .ok (.aload_n 0, 1) := by decide +kernel
theorem dX2_countTwins_13 : decode cX2_countTwins 13 = .ok (.iload_n 2, 1) := by decide +kernel
theorem dX2_countTwins_14 : decode cX2_countTwins 14 = .ok (.invokevirtual 75, 3) := by decide +kernel
theorem dX2_countTwins_17 : decode cX2_countTwins 17 = .ok (.ifCond .eq 6, 3) := by decide +kernel
theorem dX2_countTwins_20 : decode cX2_countTwins 20 = .ok (.iinc 1 1, 3) := by decide +kernel
theorem dX2_countTwins_23 : decode cX2_countTwins 23 = .ok (.iinc 2 1, 3) := by decide +kernel
theorem dX2_countTwins_26 : decode cX2_countTwins 26 = .ok (.goto (-22), 3) := by decide +kernel
theorem dX2_countTwins_29 : decode cX2_countTwins 29 = .ok (.iload_n 1, 1) := by decide +kernel
theorem dX2_countTwins_30 : decode cX2_countTwins 30 = .ok (.ireturn, 1) := by decide +kernel
theorem dX2_familyOf_0 : decode cX2_familyOf 0 = .ok (.iconst 0, 1) := by decide +kernel
theorem dX2_familyOf_1 : decode cX2_familyOf 1 = .ok (.istore_n 2, 1) := by decide +kernel
theorem dX2_familyOf_2 : decode cX2_familyOf 2 = .ok (.iconst 0, 1) := by decide +kernel
theorem dX2_familyOf_3 : decode cX2_familyOf 3 = .ok (.istore_n 3, 1) := by decide +kernel
theorem dX2_familyOf_4 : decode cX2_familyOf 4 = .ok (.iload_n 3, 1) := by decide +kernel
theorem dX2_familyOf_5 : decode cX2_familyOf 5 = .ok (.aload_n 0, 1) := by decide +kernel
theorem dX2_familyOf_6 : decode cX2_familyOf 6 = .ok (.getfield 42, 3) := by decide +kernel
theorem dX2_familyOf_9 : decode cX2_familyOf 9 = .ok (.if_icmp .ge 24, 3) := by decide +kernel
theorem dX2_familyOf_12 : decode cX2_familyOf 12 = .ok (.aload_n 0, 1) := by decide +kernel
theorem dX2_familyOf_13 : decode cX2_familyOf 13 = .ok (.iload_n 1, 1) := by decide +kernel
theorem dX2_familyOf_14 : decode cX2_familyOf 14 = .ok (.iload_n 3, 1) := by decide +kernel
theorem dX2_familyOf_15 : decode cX2_familyOf 15 = .ok (.invokevirtual 79, 3) := by decide +kernel
theorem dX2_familyOf_18 : decode cX2_familyOf 18 = .ok (.ifCond .eq 9, 3) := by decide +kernel
theorem dX2_familyOf_21 : decode cX2_familyOf 21 = .ok (.iload_n 2, 1) := by decide +kernel
theorem dX2_familyOf_22 : decode cX2_familyOf 22 = .ok (.iconst 1, 1) := by decide +kernel
theorem dX2_familyOf_23 : decode cX2_familyOf 23 = .ok (.iload_n 3, 1) := by decide +kernel
theorem dX2_familyOf_24 : decode cX2_familyOf 24 = .ok (.ishl, 1) := by decide +kernel
theorem dX2_familyOf_25 : decode cX2_familyOf 25 = .ok (.ior, 1) := by decide +kernel
theorem dX2_familyOf_26 : decode cX2_familyOf 26 = .ok (.istore_n 2, 1) := by decide +kernel
theorem dX2_familyOf_27 : decode cX2_familyOf 27 = .ok (.iinc 3 1, 3) := by decide +kernel
theorem dX2_familyOf_30 : decode cX2_familyOf 30 = .ok (.goto (-26), 3) := by decide +kernel
theorem dX2_familyOf_33 : decode cX2_familyOf 33 = .ok (.iload_n 2, 1) := by decide +kernel
theorem dX2_familyOf_34 : decode cX2_familyOf 34 = .ok (.ireturn, 1) := by decide +kernel
theorem dX2_countFamilies_0 : decode cX2_countFamilies 0 = .ok (.iconst 0, 1) := by decide +kernel
theorem dX2_countFamilies_1 : decode cX2_countFamilies 1 = .ok (.istore_n 1, 1) := by decide +kernel
theorem dX2_countFamilies_2 : decode cX2_countFamilies 2 = .ok (.iconst 0, 1) := by decide +kernel
theorem dX2_countFamilies_3 : decode cX2_countFamilies 3 = .ok (.istore_n 2, 1) := by decide +kernel
theorem dX2_countFamilies_4 : decode cX2_countFamilies 4 = .ok (.iload_n 2, 1) := by decide +kernel
theorem dX2_countFamilies_5 : decode cX2_countFamilies 5 = .ok (.aload_n 0, 1) := by decide +kernel
theorem dX2_countFamilies_6 : decode cX2_countFamilies 6 = .ok (.getfield 42, 3) := by decide +kernel
theorem dX2_countFamilies_9 : decode cX2_countFamilies 9 = .ok (.if_icmp .ge 24, 3) := by decide +kernel
theorem dX2_countFamilies_12 : decode cX2_countFamilies 12 = .ok (.aload_n 0, 1) := by decide +kernel
theorem dX2_countFamilies_13 : decode cX2_countFamilies 13 = .ok (.iload_n 2, 1) := by decide +kernel
theorem dX2_countFamilies_14 : decode cX2_countFamilies 14 = .ok (.invokevirtual 83, 3) := by decide +kernel
theorem dX2_countFamilies_17 : decode cX2_countFamilies 17 = .ok (.invokestatic 87, 3) := by decide +kernel
theorem dX2_countFamilies_20 : decode cX2_countFamilies 20 = .ok (.iload_n 2, 1) := by decide +kernel
theorem dX2_countFamilies_21 : decode cX2_countFamilies 21 = .ok (.if_icmp .ne 6, 3) := by decide +kernel
theorem dX2_countFamilies_24 : decode cX2_countFamilies 24 = .ok (.iinc 1 1, 3) := by decide +kernel
theorem dX2_countFamilies_27 : decode cX2_countFamilies 27 = .ok (.iinc 2 1, 3) := by decide +kernel
theorem dX2_countFamilies_30 : decode cX2_countFamilies 30 = .ok (.goto (-26), 3) := by decide +kernel
theorem dX2_countFamilies_33 : decode cX2_countFamilies 33 = .ok (.iload_n 1, 1) := by decide +kernel
theorem dX2_countFamilies_34 : decode cX2_countFamilies 34 = .ok (.ireturn, 1) := by decide +kernel
theorem dX2_greatestFamily_0 : decode cX2_greatestFamily 0 = .ok (.iconst 0, 1) := by decide +kernel
theorem dX2_greatestFamily_1 : decode cX2_greatestFamily 1 = .ok (.istore_n 1, 1) := by decide +kernel
theorem dX2_greatestFamily_2 : decode cX2_greatestFamily 2 = .ok (.iconst 0, 1) := by decide +kernel
theorem dX2_greatestFamily_3 : decode cX2_greatestFamily 3 = .ok (.istore_n 2, 1) := by decide +kernel
theorem dX2_greatestFamily_4 : decode cX2_greatestFamily 4 = .ok (.iload_n 2, 1) := by decide +kernel
theorem dX2_greatestFamily_5 : decode cX2_greatestFamily 5 = .ok (.aload_n 0, 1) := by decide +kernel
theorem dX2_greatestFamily_6 : decode cX2_greatestFamily 6 = .ok (.getfield 42, 3) := by decide +kernel
theorem dX2_greatestFamily_9 : decode cX2_greatestFamily 9 = .ok (.if_icmp .ge 28, 3) := by decide +kernel
theorem dX2_greatestFamily_12 : decode cX2_greatestFamily 12 = .ok (.aload_n 0, 1) := by decide +kernel
theorem dX2_greatestFamily_13 : decode cX2_greatestFamily 13 = .ok (.iload_n 2, 1) := by decide +kernel
theorem dX2_greatestFamily_14 : decode cX2_greatestFamily 14 = .ok (.invokevirtual 83, 3) := by decide +kernel
theorem dX2_greatestFamily_17 : decode cX2_greatestFamily 17 = .ok (.istore_n 3, 1) := by decide +kernel
theorem dX2_greatestFamily_18 : decode cX2_greatestFamily 18 = .ok (.iload_n 3, 1) := by decide +kernel
theorem dX2_greatestFamily_19 : decode cX2_greatestFamily 19 = .ok (.invokestatic 92, 3) := by decide +kernel
theorem dX2_greatestFamily_22 : decode cX2_greatestFamily 22 = .ok (.iload_n 1, 1) := by decide +kernel
theorem dX2_greatestFamily_23 : decode cX2_greatestFamily 23 = .ok (.invokestatic 92, 3) := by decide +kernel
theorem dX2_greatestFamily_26 : decode cX2_greatestFamily 26 = .ok (.if_icmp .le 5, 3) := by decide +kernel
theorem dX2_greatestFamily_29 : decode cX2_greatestFamily 29 = .ok (.iload_n 3, 1) := by decide +kernel
theorem dX2_greatestFamily_30 : decode cX2_greatestFamily 30 = .ok (.istore_n 1, 1) := by decide +kernel
theorem dX2_greatestFamily_31 : decode cX2_greatestFamily 31 = .ok (.iinc 2 1, 3) := by decide +kernel
theorem dX2_greatestFamily_34 : decode cX2_greatestFamily 34 = .ok (.goto (-30), 3) := by decide +kernel
theorem dX2_greatestFamily_37 : decode cX2_greatestFamily 37 = .ok (.iload_n 1, 1) := by decide +kernel
theorem dX2_greatestFamily_38 : decode cX2_greatestFamily 38 = .ok (.ireturn, 1) := by decide +kernel
theorem dX2_goTogether_0 : decode cX2_goTogether 0 = .ok (.aload_n 0, 1) := by decide +kernel
theorem dX2_goTogether_1 : decode cX2_goTogether 1 = .ok (.getfield 29, 3) := by decide +kernel
theorem dX2_goTogether_4 : decode cX2_goTogether 4 = .ok (.aload_n 0, 1) := by decide +kernel
theorem dX2_goTogether_5 : decode cX2_goTogether 5 = .ok (.getfield 11, 3) := by decide +kernel
theorem dX2_goTogether_8 : decode cX2_goTogether 8 = .ok (.iload_n 1, 1) := by decide +kernel
theorem dX2_goTogether_9 : decode cX2_goTogether 9 = .ok (.aaload, 1) := by decide +kernel
theorem dX2_goTogether_10 : decode cX2_goTogether 10 = .ok (.getfield 63, 3) := by decide +kernel
theorem dX2_goTogether_13 : decode cX2_goTogether 13 = .ok (.aload_n 0, 1) := by decide +kernel
theorem dX2_goTogether_14 : decode cX2_goTogether 14 = .ok (.getfield 11, 3) := by decide +kernel
theorem dX2_goTogether_17 : decode cX2_goTogether 17 = .ok (.iload_n 2, 1) := by decide +kernel
theorem dX2_goTogether_18 : decode cX2_goTogether 18 = .ok (.aaload, 1) := by decide +kernel
theorem dX2_goTogether_19 : decode cX2_goTogether 19 = .ok (.getfield 63, 3) := by decide +kernel
theorem dX2_goTogether_22 : decode cX2_goTogether 22 = .ok (.invokevirtual 95, 3) := by decide +kernel
theorem dX2_goTogether_25 : decode cX2_goTogether 25 = .ok (.aload_n 0, 1) := by decide +kernel
theorem dX2_goTogether_26 : decode cX2_goTogether 26 = .ok (.getfield 32, 3) := by decide +kernel
theorem dX2_goTogether_29 : decode cX2_goTogether 29 = .ok (.aload_n 0, 1) := by decide +kernel
theorem dX2_goTogether_30 : decode cX2_goTogether 30 = .ok (.getfield 11, 3) := by decide +kernel
theorem dX2_goTogether_33 : decode cX2_goTogether 33 = .ok (.iload_n 2, 1) := by decide +kernel
theorem dX2_goTogether_34 : decode cX2_goTogether 34 = .ok (.aaload, 1) := by decide +kernel
theorem dX2_goTogether_35 : decode cX2_goTogether 35 = .ok (.getfield 63, 3) := by decide +kernel
theorem dX2_goTogether_38 : decode cX2_goTogether 38 = .ok (.aload_n 0, 1) := by decide +kernel
theorem dX2_goTogether_39 : decode cX2_goTogether 39 = .ok (.getfield 11, 3) := by decide +kernel
theorem dX2_goTogether_42 : decode cX2_goTogether 42 = .ok (.iload_n 1, 1) := by decide +kernel
theorem dX2_goTogether_43 : decode cX2_goTogether 43 = .ok (.aaload, 1) := by decide +kernel
theorem dX2_goTogether_44 : decode cX2_goTogether 44 = .ok (.getfield 63, 3) := by decide +kernel
theorem dX2_goTogether_47 : decode cX2_goTogether 47 = .ok (.invokevirtual 95, 3) := by decide +kernel
theorem dX2_goTogether_50 : decode cX2_goTogether 50 = .ok (.aload_n 0, 1) := by decide +kernel
theorem dX2_goTogether_51 : decode cX2_goTogether 51 = .ok (.getfield 29, 3) := by decide +kernel
theorem dX2_goTogether_54 : decode cX2_goTogether 54 = .ok (.aload_n 0, 1) := by decide +kernel
theorem dX2_goTogether_55 : decode cX2_goTogether 55 = .ok (.getfield 32, 3) := by decide +kernel
theorem dX2_goTogether_58 : decode cX2_goTogether 58 = .ok (.invokevirtual 99, 3) := by decide +kernel
theorem dX2_goTogether_61 : decode cX2_goTogether 61 = .ok (.ireturn, 1) := by decide +kernel
theorem dX2_begins_0 : decode cX2_begins 0 = .ok (.aload_n 0, 1) := by decide +kernel
theorem dX2_begins_1 : decode cX2_begins 1 = .ok (.getfield 11, 3) := by decide +kernel
theorem dX2_begins_4 : decode cX2_begins 4 = .ok (.iload_n 1, 1) := by decide +kernel
theorem dX2_begins_5 : decode cX2_begins 5 = .ok (.aaload, 1) := by decide +kernel
theorem dX2_begins_6 : decode cX2_begins 6 = .ok (.getfield 63, 3) := by decide +kernel
theorem dX2_begins_9 : decode cX2_begins 9 = .ok (.astore_n 3, 1) := by decide +kernel
theorem dX2_begins_10 : decode cX2_begins 10 = .ok (.aload_n 0, 1) := by decide +kernel
theorem dX2_begins_11 : decode cX2_begins 11 = .ok (.getfield 11, 3) := by decide +kernel
theorem dX2_begins_14 : decode cX2_begins 14 = .ok (.iload_n 2, 1) := by decide +kernel
theorem dX2_begins_15 : decode cX2_begins 15 = .ok (.aaload, 1) := by decide +kernel
theorem dX2_begins_16 : decode cX2_begins 16 = .ok (.getfield 63, 3) := by decide +kernel
theorem dX2_begins_19 : decode cX2_begins 19 = .ok (.astore 4, 2) := by decide +kernel
theorem dX2_begins_21 : decode cX2_begins 21 = .ok (.aload_n 0, 1) := by decide +kernel
theorem dX2_begins_22 : decode cX2_begins 22 = .ok (.getfield 11, 3) := by decide +kernel
theorem dX2_begins_25 : decode cX2_begins 25 = .ok (.iload_n 1, 1) := by decide +kernel
theorem dX2_begins_26 : decode cX2_begins 26 = .ok (.aaload, 1) := by decide +kernel
theorem dX2_begins_27 : decode cX2_begins 27 = .ok (.invokevirtual 103, 3) := by decide +kernel
theorem dX2_begins_30 : decode cX2_begins 30 = .ok (.iconst 3, 1) := by decide +kernel
theorem dX2_begins_31 : decode cX2_begins 31 = .ok (.if_icmp .ne 20, 3) := by decide +kernel
theorem dX2_begins_34 : decode cX2_begins 34 = .ok (.aload_n 0, 1) := by decide +kernel
theorem dX2_begins_35 : decode cX2_begins 35 = .ok (.getfield 11, 3) := by decide +kernel
theorem dX2_begins_38 : decode cX2_begins 38 = .ok (.iload_n 2, 1) := by decide +kernel
theorem dX2_begins_39 : decode cX2_begins 39 = .ok (.aaload, 1) := by decide +kernel
theorem dX2_begins_40 : decode cX2_begins 40 = .ok (.invokevirtual 103, 3) := by decide +kernel
theorem dX2_begins_43 : decode cX2_begins 43 = .ok (.iconst 3, 1) := by decide +kernel
theorem dX2_begins_44 : decode cX2_begins 44 = .ok (.if_icmp .ne 7, 3) := by decide +kernel
theorem dX2_begins_47 : decode cX2_begins 47 = .ok (.iconst 1, 1) := by decide +kernel
theorem dX2_begins_48 : decode cX2_begins 48 = .ok (.goto 4, 3) := by decide +kernel
theorem dX2_begins_51 : decode cX2_begins 51 = .ok (.iconst 0, 1) := by decide +kernel
theorem dX2_begins_52 : decode cX2_begins 52 = .ok (.istore 5, 2) := by decide +kernel
theorem dX2_begins_54 : decode cX2_begins 54 = .ok (.iload 5, 2) := by decide +kernel
theorem dX2_begins_56 : decode cX2_begins 56 = .ok (.ifCond .eq 18, 3) := by decide +kernel
theorem dX2_begins_59 : decode cX2_begins 59 = .ok (.aload_n 3, 1) := by decide +kernel
theorem dX2_begins_60 : decode cX2_begins 60 = .ok (.invokevirtual 106, 3) := by decide +kernel
theorem dX2_begins_63 : decode cX2_begins 63 = .ok (.ifCond .eq 11, 3) := by decide +kernel
theorem dX2_begins_66 : decode cX2_begins 66 = .ok (.aload 4, 2) := by decide +kernel
theorem dX2_begins_68 : decode cX2_begins 68 = .ok (.invokevirtual 106, 3) := by decide +kernel
theorem dX2_begins_71 : decode cX2_begins 71 = .ok (.ifCond .ne 5, 3) := by decide +kernel
theorem dX2_begins_74 : decode cX2_begins 74 = .ok (.iconst (-1), 1) := by decide +kernel
theorem dX2_begins_75 : decode cX2_begins 75 = .ok (.ireturn, 1) := by decide +kernel
theorem dX2_begins_76 : decode cX2_begins 76 = .ok (.aload_n 0, 1) := by decide +kernel
theorem dX2_begins_77 : decode cX2_begins 77 = .ok (.getfield 38, 3) := by decide +kernel
theorem dX2_begins_80 : decode cX2_begins 80 = .ok (.aload_n 3, 1) := by decide +kernel
theorem dX2_begins_81 : decode cX2_begins 81 = .ok (.invokevirtual 110, 3) := by decide +kernel
theorem dX2_begins_84 : decode cX2_begins 84 = .ok (.lconst 0, 1) := by decide +kernel
theorem dX2_begins_85 : decode cX2_begins 85 = .ok (.lstore 6, 2) := by decide +kernel
theorem dX2_begins_87 : decode cX2_begins 87 = .ok (.iconst 0, 1) := by decide +kernel
theorem dX2_begins_88 : decode cX2_begins 88 = .ok (.istore 8, 2) := by decide +kernel
theorem dX2_begins_90 : decode cX2_begins 90 = .ok (.iload 8, 2) := by decide +kernel
theorem dX2_begins_92 : decode cX2_begins 92 = .ok (.bipush 40, 2) := by decide +kernel
theorem dX2_begins_94 : decode cX2_begins 94 = .ok (.if_icmp .gt 48, 3) := by decide +kernel
theorem dX2_begins_97 : decode cX2_begins 97 = .ok (.aload_n 0, 1) := by decide +kernel
theorem dX2_begins_98 : decode cX2_begins 98 = .ok (.getfield 38, 3) := by decide +kernel
theorem dX2_begins_101 : decode cX2_begins 101 = .ok (.aload 4, 2) := by decide +kernel
theorem dX2_begins_103 : decode cX2_begins 103 = .ok (.invokevirtual 111, 3) := by decide +kernel
theorem dX2_begins_106 : decode cX2_begins 106 = .ok (.lstore 9, 2) := by decide +kernel
theorem dX2_begins_108 : decode cX2_begins 108 = .ok (.lload 9, 2) := by decide +kernel
theorem dX2_begins_110 : decode cX2_begins 110 = .ok (.ldc2_w 115, 3) := by decide +kernel
theorem dX2_begins_113 : decode cX2_begins 113 = .ok (.lcmp, 1) := by decide +kernel
theorem dX2_begins_114 : decode cX2_begins 114 = .ok (.ifCond .eq 10, 3) := by decide +kernel
theorem dX2_begins_117 : decode cX2_begins 117 = .ok (.lload 6, 2) := by decide +kernel
theorem dX2_begins_119 : decode cX2_begins 119 = .ok (.lload 9, 2) := by decide +kernel
theorem dX2_begins_121 : decode cX2_begins 121 = .ok (.ladd, 1) := by decide +kernel
theorem dX2_begins_122 : decode cX2_begins 122 = .ok (.l2i, 1) := by decide +kernel
theorem dX2_begins_123 : decode cX2_begins 123 = .ok (.ireturn, 1) := by decide +kernel
theorem dX2_begins_124 : decode cX2_begins 124 = .ok (.lload 6, 2) := by decide +kernel
theorem dX2_begins_126 : decode cX2_begins 126 = .ok (.aload_n 0, 1) := by decide +kernel
theorem dX2_begins_127 : decode cX2_begins 127 = .ok (.getfield 38, 3) := by decide +kernel
theorem dX2_begins_130 : decode cX2_begins 130 = .ok (.invokevirtual 117, 3) := by decide +kernel
theorem dX2_begins_133 : decode cX2_begins 133 = .ok (.ladd, 1) := by decide +kernel
theorem dX2_begins_134 : decode cX2_begins 134 = .ok (.lstore 6, 2) := by decide +kernel
theorem dX2_begins_136 : decode cX2_begins 136 = .ok (.iinc 8 1, 3) := by decide +kernel
theorem dX2_begins_139 : decode cX2_begins 139 = .ok (.goto (-49), 3) := by decide +kernel
theorem dX2_begins_142 : decode cX2_begins 142 = .ok (.iconst (-1), 1) := by decide +kernel
theorem dX2_begins_143 : decode cX2_begins 143 = .ok (.ireturn, 1) := by decide +kernel
theorem dX3_init_0 : decode cX3_init 0 = .ok (.aload_n 0, 1) := by decide +kernel
theorem dX3_init_1 : decode cX3_init 1 = .ok (.invokespecial 3, 3) := by decide +kernel
theorem dX3_init_4 : decode cX3_init 4 = .ok (.aload_n 0, 1) := by decide +kernel
theorem dX3_init_5 : decode cX3_init 5 = .ok (.new 9, 3) := by decide +kernel
theorem dX3_init_8 : decode cX3_init 8 = .ok (.dup, 1) := by decide +kernel
theorem dX3_init_9 : decode cX3_init 9 = .ok (.invokespecial 11, 3) := by decide +kernel
theorem dX3_init_12 : decode cX3_init 12 = .ok (.putfield 12, 3) := by decide +kernel
theorem dX3_init_15 : decode cX3_init 15 = .ok (.aload_n 0, 1) := by decide +kernel
theorem dX3_init_16 : decode cX3_init 16 = .ok (.new 18, 3) := by decide +kernel
theorem dX3_init_19 : decode cX3_init 19 = .ok (.dup, 1) := by decide +kernel
theorem dX3_init_20 : decode cX3_init 20 = .ok (.invokespecial 20, 3) := by decide +kernel
theorem dX3_init_23 : decode cX3_init 23 = .ok (.putfield 21, 3) := by decide +kernel
theorem dX3_init_26 : decode cX3_init 26 = .ok (.aload_n 0, 1) := by decide +kernel
theorem dX3_init_27 : decode cX3_init 27 = .ok (.iconst 0, 1) := by decide +kernel
theorem dX3_init_28 : decode cX3_init 28 = .ok (.putfield 25, 3) := by decide +kernel
theorem dX3_init_31 : decode cX3_init 31 = .ok (.aload_n 0, 1) := by decide +kernel
theorem dX3_init_32 : decode cX3_init 32 = .ok (.iconst 0, 1) := by decide +kernel
theorem dX3_init_33 : decode cX3_init 33 = .ok (.putfield 29, 3) := by decide +kernel
theorem dX3_init_36 : decode cX3_init 36 = .ok (.return_, 1) := by decide +kernel
theorem dX3_lookAt_0 : decode cX3_lookAt 0 = .ok (.aload_n 0, 1) := by decide +kernel
theorem dX3_lookAt_1 : decode cX3_lookAt 1 = .ok (.getfield 12, 3) := by decide +kernel
theorem dX3_lookAt_4 : decode cX3_lookAt 4 = .ok (.aload_n 1, 1) := by decide +kernel
theorem dX3_lookAt_5 : decode cX3_lookAt 5 = .ok (.invokevirtual 32, 3) := by decide +kernel
theorem dX3_lookAt_8 : decode cX3_lookAt 8 = .ok (.ifCond .eq 4, 3) := by decide +kernel
theorem dX3_lookAt_11 : decode cX3_lookAt 11 = .ok (.return_, 1) := by decide +kernel
theorem dX3_lookAt_12 : decode cX3_lookAt 12 = .ok (.aload_n 0, 1) := by decide +kernel
theorem dX3_lookAt_13 : decode cX3_lookAt 13 = .ok (.getfield 12, 3) := by decide +kernel
theorem dX3_lookAt_16 : decode cX3_lookAt 16 = .ok (.aload_n 1, 1) := by decide +kernel
theorem dX3_lookAt_17 : decode cX3_lookAt 17 = .ok (.invokevirtual 36, 3) := by decide +kernel
theorem dX3_lookAt_20 : decode cX3_lookAt 20 = .ok (.aload_n 0, 1) := by decide +kernel
theorem dX3_lookAt_21 : decode cX3_lookAt 21 = .ok (.aload_n 1, 1) := by decide +kernel
theorem dX3_lookAt_22 : decode cX3_lookAt 22 = .ok (.invokestatic 40, 3) := by decide +kernel
theorem dX3_lookAt_25 : decode cX3_lookAt 25 = .ok (.putfield 25, 3) := by decide +kernel
theorem dX3_lookAt_28 : decode cX3_lookAt 28 = .ok (.aload_n 0, 1) := by decide +kernel
theorem dX3_lookAt_29 : decode cX3_lookAt 29 = .ok (.aload_n 0, 1) := by decide +kernel
theorem dX3_lookAt_30 : decode cX3_lookAt 30 = .ok (.aload_n 1, 1) := by decide +kernel
theorem dX3_lookAt_31 : decode cX3_lookAt 31 = .ok (.invokevirtual 44, 3) := by decide +kernel
theorem dX3_lookAt_34 : decode cX3_lookAt 34 = .ok (.putfield 29, 3) := by decide +kernel
theorem dX3_lookAt_37 : decode cX3_lookAt 37 = .ok (.aload_n 0, 1) := by decide +kernel
theorem dX3_lookAt_38 : decode cX3_lookAt 38 = .ok (.getfield 25, 3) := by decide +kernel
theorem dX3_lookAt_41 : decode cX3_lookAt 41 = .ok (.iconst 3, 1) := by decide +kernel
theorem dX3_lookAt_42 : decode cX3_lookAt 42 = .ok (.if_icmp .ne 14, 3) := by decide +kernel
theorem dX3_lookAt_45 : decode cX3_lookAt 45 = .ok (.aload_n 0, 1) := by decide +kernel
theorem dX3_lookAt_46 : decode cX3_lookAt 46 = .ok (.getfield 21, 3) := by decide +kernel
theorem dX3_lookAt_49 : decode cX3_lookAt 49 = .ok (.aload_n 1, 1) := by decide +kernel
theorem dX3_lookAt_50 : decode cX3_lookAt 50 = .ok (.invokevirtual 47, 3) := by decide +kernel
theorem dX3_lookAt_53 : decode cX3_lookAt 53 = .ok (.goto 10, 3) := by decide +kernel
theorem dX3_lookAt_56 : decode cX3_lookAt 56 = .ok (.aload_n 0, 1) := by decide +kernel
theorem dX3_lookAt_57 : decode cX3_lookAt 57 = .ok (.getfield 21, 3) := by decide +kernel
theorem dX3_lookAt_60 : decode cX3_lookAt 60 = .ok (.invokevirtual 50, 3) := by decide +kernel
theorem dX3_lookAt_63 : decode cX3_lookAt 63 = .ok (.return_, 1) := by decide +kernel
theorem dX3_kindOf_0 : decode cX3_kindOf 0 = .ok (.aload_n 0, 1) := by decide +kernel
theorem dX3_kindOf_1 : decode cX3_kindOf 1 = .ok (.invokevirtual 53, 3) := by decide +kernel
theorem dX3_kindOf_4 : decode cX3_kindOf 4 = .ok (.invokestatic 57, 3) := by decide +kernel
theorem dX3_kindOf_7 : decode cX3_kindOf 7 = .ok (.lstore_n 1, 1) := by decide +kernel
theorem dX3_kindOf_8 : decode cX3_kindOf 8 = .ok (.lload_n 1, 1) := by decide +kernel
theorem dX3_kindOf_9 : decode cX3_kindOf 9 = .ok (.ldc2_w 63, 3) := by decide +kernel
theorem dX3_kindOf_12 : decode cX3_kindOf 12 = .ok (.lcmp, 1) := by decide +kernel
theorem dX3_kindOf_13 : decode cX3_kindOf 13 = .ok (.ifCond .ge 5, 3) := by decide +kernel
theorem dX3_kindOf_16 : decode cX3_kindOf 16 = .ok (.iconst 1, 1) := by decide +kernel
theorem dX3_kindOf_17 : decode cX3_kindOf 17 = .ok (.ireturn, 1) := by decide +kernel
theorem dX3_kindOf_18 : decode cX3_kindOf 18 = .ok (.lload_n 1, 1) := by decide +kernel
theorem dX3_kindOf_19 : decode cX3_kindOf 19 = .ok (.ldc2_w 63, 3) := by decide +kernel
theorem dX3_kindOf_22 : decode cX3_kindOf 22 = .ok (.lcmp, 1) := by decide +kernel
theorem dX3_kindOf_23 : decode cX3_kindOf 23 = .ok (.ifCond .le 5, 3) := by decide +kernel
theorem dX3_kindOf_26 : decode cX3_kindOf 26 = .ok (.iconst 3, 1) := by decide +kernel
theorem dX3_kindOf_27 : decode cX3_kindOf 27 = .ok (.ireturn, 1) := by decide +kernel
theorem dX3_kindOf_28 : decode cX3_kindOf 28 = .ok (.aload_n 0, 1) := by decide +kernel
theorem dX3_kindOf_29 : decode cX3_kindOf 29 = .ok (.getfield 65, 3) := by decide +kernel
theorem dX3_kindOf_32 : decode cX3_kindOf 32 = .ok (.lconst 0, 1) := by decide +kernel
theorem dX3_kindOf_33 : decode cX3_kindOf 33 = .ok (.lcmp, 1) := by decide +kernel
theorem dX3_kindOf_34 : decode cX3_kindOf 34 = .ok (.ifCond .ne 16, 3) := by decide +kernel
theorem dX3_kindOf_37 : decode cX3_kindOf 37 = .ok (.aload_n 0, 1) := by decide +kernel
theorem dX3_kindOf_38 : decode cX3_kindOf 38 = .ok (.getfield 69, 3) := by decide +kernel
theorem dX3_kindOf_41 : decode cX3_kindOf 41 = .ok (.lconst 0, 1) := by decide +kernel
theorem dX3_kindOf_42 : decode cX3_kindOf 42 = .ok (.lcmp, 1) := by decide +kernel
theorem dX3_kindOf_43 : decode cX3_kindOf 43 = .ok (.ifCond .ne 7, 3) := by decide +kernel
theorem dX3_kindOf_46 : decode cX3_kindOf 46 = .ok (.iconst 0, 1) := by decide +kernel
theorem dX3_kindOf_47 : decode cX3_kindOf 47 = .ok (.goto 4, 3) := by decide +kernel
theorem dX3_kindOf_50 : decode cX3_kindOf 50 = .ok (.iconst 2, 1) := by decide +kernel
theorem dX3_kindOf_51 : decode cX3_kindOf 51 = .ok (.ireturn, 1) := by decide +kernel
theorem dX3_markOf_0 : decode cX3_markOf 0 = .ok (.aload_n 0, 1) := by decide +kernel
theorem dX3_markOf_1 : decode cX3_markOf 1 = .ok (.getfield 25, 3) := by decide +kernel
theorem dX3_markOf_4 : decode cX3_markOf 4 = .ok (.iconst 1, 1) := by decide +kernel
theorem dX3_markOf_5 : decode cX3_markOf 5 = .ok (.if_icmp .ne 11, 3) := by decide +kernel
theorem dX3_markOf_8 : decode cX3_markOf 8 = .ok (.aload_n 1, 1) := by decide +kernel
theorem dX3_markOf_9 : decode cX3_markOf 9 = .ok (.getfield 69, 3) := by decide +kernel
theorem dX3_markOf_12 : decode cX3_markOf 12 = .ok (.invokestatic 72, 3) := by decide +kernel
theorem dX3_markOf_15 : decode cX3_markOf 15 = .ok (.ireturn, 1) := by decide +kernel
theorem dX3_markOf_16 : decode cX3_markOf 16 = .ok (.aload_n 0, 1) := by decide +kernel
theorem dX3_markOf_17 : decode cX3_markOf 17 = .ok (.getfield 25, 3) := by decide +kernel
theorem dX3_markOf_20 : decode cX3_markOf 20 = .ok (.iconst 2, 1) := by decide +kernel
theorem dX3_markOf_21 : decode cX3_markOf 21 = .ok (.if_icmp .ne 10, 3) := by decide +kernel
theorem dX3_markOf_24 : decode cX3_markOf 24 = .ok (.aload_n 1, 1) := by decide +kernel
theorem dX3_markOf_25 : decode cX3_markOf 25 = .ok (.invokestatic 78, 3) := by decide +kernel
theorem dX3_markOf_28 : decode cX3_markOf 28 = .ok (.goto 4, 3) := by decide +kernel
theorem dX3_markOf_31 : decode cX3_markOf 31 = .ok (.iconst 0, 1) := by decide +kernel
theorem dX3_markOf_32 : decode cX3_markOf 32 = .ok (.ireturn, 1) := by decide +kernel
theorem dX3_measureShift_0 : decode cX3_measureShift 0 = .ok (.aload_n 0, 1) := by decide +kernel
theorem dX3_measureShift_1 : decode cX3_measureShift 1 = .ok (.getfield 65, 3) := by decide +kernel
theorem dX3_measureShift_4 : decode cX3_measureShift 4 = .ok (.invokestatic 57, 3) := by decide +kernel
theorem dX3_measureShift_7 : decode cX3_measureShift 7 = .ok (.aload_n 0, 1) := by decide +kernel
theorem dX3_measureShift_8 : decode cX3_measureShift 8 = .ok (.getfield 69, 3) := by decide +kernel
theorem dX3_measureShift_11 : decode cX3_measureShift 11 = .ok (.invokestatic 57, 3) := by decide +kernel
theorem dX3_measureShift_14 : decode cX3_measureShift 14 = .ok (.invokestatic 81, 3) := by decide +kernel
theorem dX3_measureShift_17 : decode cX3_measureShift 17 = .ok (.lstore_n 1, 1) := by decide +kernel
theorem dX3_measureShift_18 : decode cX3_measureShift 18 = .ok (.aload_n 0, 1) := by decide +kernel
theorem dX3_measureShift_19 : decode cX3_measureShift 19 = .ok (.getfield 65, 3) := by decide +kernel
theorem dX3_measureShift_22 : decode cX3_measureShift 22 = .ok (.lconst 0, 1) := by decide +kernel
theorem dX3_measureShift_23 : decode cX3_measureShift 23 = .ok (.lcmp, 1) := by decide +kernel
theorem dX3_measureShift_24 : decode cX3_measureShift 24 = .ok (.ifCond .gt 12, 3) := by decide +kernel
theorem dX3_measureShift_27 : decode cX3_measureShift 27 = .ok (.aload_n 0, 1) := by decide +kernel
theorem dX3_measureShift_28 : decode cX3_measureShift 28 = .ok (.getfield 69, 3) := by decide +kernel
theorem dX3_measureShift_31 : decode cX3_measureShift 31 = .ok (.lconst 0, 1) := by decide +kernel
theorem dX3_measureShift_32 : decode cX3_measureShift 32 = .ok (.lcmp, 1) := by decide +kernel
theorem dX3_measureShift_33 : decode cX3_measureShift 33 = .ok (.ifCond .ge 7, 3) := by decide +kernel
theorem dX3_measureShift_36 : decode cX3_measureShift 36 = .ok (.iconst 1, 1) := by decide +kernel
theorem dX3_measureShift_37 : decode cX3_measureShift 37 = .ok (.goto 4, 3) := by decide +kernel
theorem dX3_measureShift_40 : decode cX3_measureShift 40 = .ok (.iconst 0, 1) := by decide +kernel
theorem dX3_measureShift_41 : decode cX3_measureShift 41 = .ok (.istore_n 3, 1) := by decide +kernel
theorem dX3_measureShift_42 : decode cX3_measureShift 42 = .ok (.aload_n 0, 1) := by decide +kernel
theorem dX3_measureShift_43 : decode cX3_measureShift 43 = .ok (.invokevirtual 53, 3) := by decide +kernel
theorem dX3_measureShift_46 : decode cX3_measureShift 46 = .ok (.lconst 0, 1) := by decide +kernel
theorem dX3_measureShift_47 : decode cX3_measureShift 47 = .ok (.lcmp, 1) := by decide +kernel
theorem dX3_measureShift_48 : decode cX3_measureShift 48 = .ok (.ifCond .ge 7, 3) := by decide +kernel
theorem dX3_measureShift_51 : decode cX3_measureShift 51 = .ok (.iconst 1, 1) := by decide +kernel
theorem dX3_measureShift_52 : decode cX3_measureShift 52 = .ok (.goto 4, 3) := by decide +kernel
theorem dX3_measureShift_55 : decode cX3_measureShift 55 = .ok (.iconst 0, 1) := by decide +kernel
theorem dX3_measureShift_56 : decode cX3_measureShift 56 = .ok (.istore 4, 2) := by decide +kernel
theorem dX3_measureShift_58 : decode cX3_measureShift 58 = .ok (.iload_n 3, 1) := by decide +kernel
theorem dX3_measureShift_59 : decode cX3_measureShift 59 = .ok (.iload 4, 2) := by decide +kernel
theorem dX3_measureShift_61 : decode cX3_measureShift 61 = .ok (.if_icmp .ne 8, 3) := by decide +kernel
theorem dX3_measureShift_64 : decode cX3_measureShift 64 = .ok (.lload_n 1, 1) := by decide +kernel
theorem dX3_measureShift_65 : decode cX3_measureShift 65 = .ok (.lneg, 1) := by decide +kernel
theorem dX3_measureShift_66 : decode cX3_measureShift 66 = .ok (.goto 4, 3) := by decide +kernel
theorem dX3_measureShift_69 : decode cX3_measureShift 69 = .ok (.lload_n 1, 1) := by decide +kernel
theorem dX3_measureShift_70 : decode cX3_measureShift 70 = .ok (.l2i, 1) := by decide +kernel
theorem dX3_measureShift_71 : decode cX3_measureShift 71 = .ok (.ireturn, 1) := by decide +kernel
theorem dX3_commonPart_0 : decode cX3_commonPart 0 = .ok (.lload_n 0, 1) := by decide +kernel
theorem dX3_commonPart_1 : decode cX3_commonPart 1 = .ok (.lstore 4, 2) := by decide +kernel
theorem dX3_commonPart_3 : decode cX3_commonPart 3 = .ok (.lload_n 2, 1) := by decide +kernel
theorem dX3_commonPart_4 : decode cX3_commonPart 4 = .ok (.lstore 6, 2) := by decide +kernel
theorem dX3_commonPart_6 : decode cX3_commonPart 6 = .ok (.iconst 0, 1) := by decide +kernel
theorem dX3_commonPart_7 : decode cX3_commonPart 7 = .ok (.istore 8, 2) := by decide +kernel
theorem dX3_commonPart_9 : decode cX3_commonPart 9 = .ok (.iload 8, 2) := by decide +kernel
theorem dX3_commonPart_11 : decode cX3_commonPart 11 = .ok (.bipush 64, 2) := by decide +kernel
theorem dX3_commonPart_13 : decode cX3_commonPart 13 = .ok (.if_icmp .ge 31, 3) := by decide +kernel
theorem dX3_commonPart_16 : decode cX3_commonPart 16 = .ok (.lload 6, 2) := by decide +kernel
theorem dX3_commonPart_18 : decode cX3_commonPart 18 = .ok (.lconst 0, 1) := by decide +kernel
theorem dX3_commonPart_19 : decode cX3_commonPart 19 = .ok (.lcmp, 1) := by decide +kernel
theorem dX3_commonPart_20 : decode cX3_commonPart 20 = .ok (.ifCond .eq 24, 3) := by decide +kernel
theorem dX3_commonPart_23 : decode cX3_commonPart 23 = .ok (.lload 4, 2) := by decide +kernel
theorem dX3_commonPart_25 : decode cX3_commonPart 25 = .ok (.lload 6, 2) := by decide +kernel
theorem dX3_commonPart_27 : decode cX3_commonPart 27 = .ok (.lrem, 1) := by decide +kernel
theorem dX3_commonPart_28 : decode cX3_commonPart 28 = .ok (.lstore 9, 2) := by decide +kernel
theorem dX3_commonPart_30 : decode cX3_commonPart 30 = .ok (.lload 6, 2) := by decide +kernel
theorem dX3_commonPart_32 : decode cX3_commonPart 32 = .ok (.lstore 4, 2) := by decide +kernel
theorem dX3_commonPart_34 : decode cX3_commonPart 34 = .ok (.lload 9, 2) := by decide +kernel
theorem dX3_commonPart_36 : decode cX3_commonPart 36 = .ok (.lstore 6, 2) := by decide +kernel
theorem dX3_commonPart_38 : decode cX3_commonPart 38 = .ok (.iinc 8 1, 3) := by decide +kernel
theorem dX3_commonPart_41 : decode cX3_commonPart 41 = .ok (.goto (-32), 3) := by decide +kernel
theorem dX3_commonPart_44 : decode cX3_commonPart 44 = .ok (.lload 4, 2) := by decide +kernel
theorem dX3_commonPart_46 : decode cX3_commonPart 46 = .ok (.lreturn, 1) := by decide +kernel
theorem dX3_isLike_0 : decode cX3_isLike 0 = .ok (.aload_n 0, 1) := by decide +kernel
theorem dX3_isLike_1 : decode cX3_isLike 1 = .ok (.getfield 25, 3) := by decide +kernel
theorem dX3_isLike_4 : decode cX3_isLike 4 = .ok (.aload_n 1, 1) := by decide +kernel
theorem dX3_isLike_5 : decode cX3_isLike 5 = .ok (.getfield 25, 3) := by decide +kernel
theorem dX3_isLike_8 : decode cX3_isLike 8 = .ok (.if_icmp .ne 43, 3) := by decide +kernel
theorem dX3_isLike_11 : decode cX3_isLike 11 = .ok (.aload_n 0, 1) := by decide +kernel
theorem dX3_isLike_12 : decode cX3_isLike 12 = .ok (.getfield 29, 3) := by decide +kernel
theorem dX3_isLike_15 : decode cX3_isLike 15 = .ok (.aload_n 1, 1) := by decide +kernel
theorem dX3_isLike_16 : decode cX3_isLike 16 = .ok (.getfield 29, 3) := by decide +kernel
theorem dX3_isLike_19 : decode cX3_isLike 19 = .ok (.if_icmp .ne 32, 3) := by decide +kernel
theorem dX3_isLike_22 : decode cX3_isLike 22 = .ok (.aload_n 0, 1) := by decide +kernel
theorem dX3_isLike_23 : decode cX3_isLike 23 = .ok (.invokevirtual 85, 3) := by decide +kernel
theorem dX3_isLike_26 : decode cX3_isLike 26 = .ok (.aload_n 1, 1) := by decide +kernel
theorem dX3_isLike_27 : decode cX3_isLike 27 = .ok (.invokevirtual 85, 3) := by decide +kernel
theorem dX3_isLike_30 : decode cX3_isLike 30 = .ok (.if_icmp .ne 21, 3) := by decide +kernel
theorem dX3_isLike_33 : decode cX3_isLike 33 = .ok (.aload_n 0, 1) := by decide +kernel
theorem dX3_isLike_34 : decode cX3_isLike 34 = .ok (.getfield 21, 3) := by decide +kernel
theorem dX3_isLike_37 : decode cX3_isLike 37 = .ok (.aload_n 1, 1) := by decide +kernel
theorem dX3_isLike_38 : decode cX3_isLike 38 = .ok (.getfield 21, 3) := by decide +kernel
theorem dX3_isLike_41 : decode cX3_isLike 41 = .ok (.invokevirtual 88, 3) := by decide +kernel
theorem dX3_isLike_44 : decode cX3_isLike 44 = .ok (.ifCond .eq 7, 3) := by decide +kernel
theorem dX3_isLike_47 : decode cX3_isLike 47 = .ok (.iconst 1, 1) := by decide +kernel
theorem dX3_isLike_48 : decode cX3_isLike 48 = .ok (.goto 4, 3) := by decide +kernel
theorem dX3_isLike_51 : decode cX3_isLike 51 = .ok (.iconst 0, 1) := by decide +kernel
theorem dX3_isLike_52 : decode cX3_isLike 52 = .ok (.ireturn, 1) := by decide +kernel
theorem dX3_kind_0 : decode cX3_kind 0 = .ok (.aload_n 0, 1) := by decide +kernel
theorem dX3_kind_1 : decode cX3_kind 1 = .ok (.getfield 25, 3) := by decide +kernel
theorem dX3_kind_4 : decode cX3_kind 4 = .ok (.ireturn, 1) := by decide +kernel
theorem dX3_trace_0 : decode cX3_trace 0 = .ok (.aload_n 0, 1) := by decide +kernel
theorem dX3_trace_1 : decode cX3_trace 1 = .ok (.getfield 12, 3) := by decide +kernel
theorem dX3_trace_4 : decode cX3_trace 4 = .ok (.invokevirtual 53, 3) := by decide +kernel
theorem dX3_trace_7 : decode cX3_trace 7 = .ok (.l2i, 1) := by decide +kernel
theorem dX3_trace_8 : decode cX3_trace 8 = .ok (.ireturn, 1) := by decide +kernel
theorem dX3_sign_0 : decode cX3_sign 0 = .ok (.aload_n 0, 1) := by decide +kernel
theorem dX3_sign_1 : decode cX3_sign 1 = .ok (.invokevirtual 85, 3) := by decide +kernel
theorem dX3_sign_4 : decode cX3_sign 4 = .ok (.ifCond .ge 7, 3) := by decide +kernel
theorem dX3_sign_7 : decode cX3_sign 7 = .ok (.iconst (-1), 1) := by decide +kernel
theorem dX3_sign_8 : decode cX3_sign 8 = .ok (.goto 4, 3) := by decide +kernel
theorem dX3_sign_11 : decode cX3_sign 11 = .ok (.iconst 1, 1) := by decide +kernel
theorem dX3_sign_12 : decode cX3_sign 12 = .ok (.ireturn, 1) := by decide +kernel
theorem dX3_order_0 : decode cX3_order 0 = .ok (.aload_n 0, 1) := by decide +kernel
theorem dX3_order_1 : decode cX3_order 1 = .ok (.getfield 25, 3) := by decide +kernel
theorem dX3_order_4 : decode cX3_order 4 = .ok (.ifCond .ne 16, 3) := by decide +kernel
theorem dX3_order_7 : decode cX3_order 7 = .ok (.aload_n 0, 1) := by decide +kernel
theorem dX3_order_8 : decode cX3_order 8 = .ok (.invokevirtual 85, 3) := by decide +kernel
theorem dX3_order_11 : decode cX3_order 11 = .ok (.ifCond .le 7, 3) := by decide +kernel
theorem dX3_order_14 : decode cX3_order 14 = .ok (.iconst 1, 1) := by decide +kernel
theorem dX3_order_15 : decode cX3_order 15 = .ok (.goto 4, 3) := by decide +kernel
theorem dX3_order_18 : decode cX3_order 18 = .ok (.iconst 2, 1) := by decide +kernel
theorem dX3_order_19 : decode cX3_order 19 = .ok (.ireturn, 1) := by decide +kernel
theorem dX3_order_20 : decode cX3_order 20 = .ok (.aload_n 0, 1) := by decide +kernel
theorem dX3_order_21 : decode cX3_order 21 = .ok (.getfield 25, 3) := by decide +kernel
theorem dX3_order_24 : decode cX3_order 24 = .ok (.iconst 1, 1) := by decide +kernel
theorem dX3_order_25 : decode cX3_order 25 = .ok (.if_icmp .ne 28, 3) := by decide +kernel
theorem dX3_order_28 : decode cX3_order 28 = .ok (.aload_n 0, 1) := by decide +kernel
theorem dX3_order_29 : decode cX3_order 29 = .ok (.invokevirtual 85, 3) := by decide +kernel
theorem dX3_order_32 : decode cX3_order 32 = .ok (.ifCond .ne 7, 3) := by decide +kernel
theorem dX3_order_35 : decode cX3_order 35 = .ok (.iconst 4, 1) := by decide +kernel
theorem dX3_order_36 : decode cX3_order 36 = .ok (.goto 16, 3) := by decide +kernel
theorem dX3_order_39 : decode cX3_order 39 = .ok (.aload_n 0, 1) := by decide +kernel
theorem dX3_order_40 : decode cX3_order 40 = .ok (.invokevirtual 85, 3) := by decide +kernel
theorem dX3_order_43 : decode cX3_order 43 = .ok (.ifCond .le 8, 3) := by decide +kernel
theorem dX3_order_46 : decode cX3_order 46 = .ok (.bipush 6, 2) := by decide +kernel
theorem dX3_order_48 : decode cX3_order 48 = .ok (.goto 4, 3) := by decide +kernel
theorem dX3_order_51 : decode cX3_order 51 = .ok (.iconst 3, 1) := by decide +kernel
theorem dX3_order_52 : decode cX3_order 52 = .ok (.ireturn, 1) := by decide +kernel
theorem dX3_order_53 : decode cX3_order 53 = .ok (.iconst (-1), 1) := by decide +kernel
theorem dX3_order_54 : decode cX3_order 54 = .ok (.ireturn, 1) := by decide +kernel
theorem dX3_mark_0 : decode cX3_mark 0 = .ok (.aload_n 0, 1) := by decide +kernel
theorem dX3_mark_1 : decode cX3_mark 1 = .ok (.getfield 29, 3) := by decide +kernel
theorem dX3_mark_4 : decode cX3_mark 4 = .ok (.ireturn, 1) := by decide +kernel
theorem dX3_wheel_0 : decode cX3_wheel 0 = .ok (.aload_n 0, 1) := by decide +kernel
theorem dX3_wheel_1 : decode cX3_wheel 1 = .ok (.getfield 21, 3) := by decide +kernel
theorem dX3_wheel_4 : decode cX3_wheel 4 = .ok (.areturn, 1) := by decide +kernel
theorem dX4_init_0 : decode cX4_init 0 = .ok (.aload_n 0, 1) := by decide +kernel
theorem dX4_init_1 : decode cX4_init 1 = .ok (.invokespecial 3, 3) := by decide +kernel
theorem dX4_init_4 : decode cX4_init 4 = .ok (.aload_n 0, 1) := by decide +kernel
theorem dX4_init_5 : decode cX4_init 5 = .ok (.bipush 20, 2) := by decide +kernel
theorem dX4_init_7 : decode cX4_init 7 = .ok (.anewarray 9, 3) := by decide +kernel
theorem dX4_init_10 : decode cX4_init 10 = .ok (.putfield 11, 3) := by decide +kernel
theorem dX4_init_13 : decode cX4_init 13 = .ok (.aload_n 0, 1) := by decide +kernel
theorem dX4_init_14 : decode cX4_init 14 = .ok (.iconst 0, 1) := by decide +kernel
theorem dX4_init_15 : decode cX4_init 15 = .ok (.putfield 17, 3) := by decide +kernel
theorem dX4_init_18 : decode cX4_init 18 = .ok (.aload_n 0, 1) := by decide +kernel
theorem dX4_init_19 : decode cX4_init 19 = .ok (.iconst 0, 1) := by decide +kernel
theorem dX4_init_20 : decode cX4_init 20 = .ok (.putfield 21, 3) := by decide +kernel
theorem dX4_init_23 : decode cX4_init 23 = .ok (.iconst 0, 1) := by decide +kernel
theorem dX4_init_24 : decode cX4_init 24 = .ok (.istore_n 1, 1) := by decide +kernel
theorem dX4_init_25 : decode cX4_init 25 = .ok (.iload_n 1, 1) := by decide +kernel
theorem dX4_init_26 : decode cX4_init 26 = .ok (.bipush 20, 2) := by decide +kernel
theorem dX4_init_28 : decode cX4_init 28 = .ok (.if_icmp .ge 22, 3) := by decide +kernel
theorem dX4_init_31 : decode cX4_init 31 = .ok (.aload_n 0, 1) := by decide +kernel
theorem dX4_init_32 : decode cX4_init 32 = .ok (.getfield 11, 3) := by decide +kernel
theorem dX4_init_35 : decode cX4_init 35 = .ok (.iload_n 1, 1) := by decide +kernel
theorem dX4_init_36 : decode cX4_init 36 = .ok (.new 9, 3) := by decide +kernel
theorem dX4_init_39 : decode cX4_init 39 = .ok (.dup, 1) := by decide +kernel
theorem dX4_init_40 : decode cX4_init 40 = .ok (.invokespecial 24, 3) := by decide +kernel
theorem dX4_init_43 : decode cX4_init 43 = .ok (.aastore, 1) := by decide +kernel
theorem dX4_init_44 : decode cX4_init 44 = .ok (.iinc 1 1, 3) := by decide +kernel
theorem dX4_init_47 : decode cX4_init 47 = .ok (.goto (-22), 3) := by decide +kernel
theorem dX4_init_50 : decode cX4_init 50 = .ok (.return_, 1) := by decide +kernel
theorem dX4_length_0 : decode cX4_length 0 = .ok (.aload_n 0, 1) := by decide +kernel
theorem dX4_length_1 : decode cX4_length 1 = .ok (.getfield 21, 3) := by decide +kernel
theorem dX4_length_4 : decode cX4_length 4 = .ok (.ireturn, 1) := by decide +kernel
theorem dX4_remember_0 : decode cX4_remember 0 = .ok (.aload_n 0, 1) := by decide +kernel
theorem dX4_remember_1 : decode cX4_remember 1 = .ok (.getfield 11, 3) := by decide +kernel
theorem dX4_remember_4 : decode cX4_remember 4 = .ok (.aload_n 0, 1) := by decide +kernel
theorem dX4_remember_5 : decode cX4_remember 5 = .ok (.getfield 17, 3) := by decide +kernel
theorem dX4_remember_8 : decode cX4_remember 8 = .ok (.aaload, 1) := by decide +kernel
theorem dX4_remember_9 : decode cX4_remember 9 = .ok (.aload_n 1, 1) := by decide +kernel
theorem dX4_remember_10 : decode cX4_remember 10 = .ok (.invokevirtual 25, 3) := by decide +kernel
theorem dX4_remember_13 : decode cX4_remember 13 = .ok (.aload_n 0, 1) := by decide +kernel
theorem dX4_remember_14 : decode cX4_remember 14 = .ok (.aload_n 0, 1) := by decide +kernel
theorem dX4_remember_15 : decode cX4_remember 15 = .ok (.getfield 17, 3) := by decide +kernel
theorem dX4_remember_18 : decode cX4_remember 18 = .ok (.iconst 1, 1) := by decide +kernel
theorem dX4_remember_19 : decode cX4_remember 19 = .ok (.iadd, 1) := by decide +kernel
theorem dX4_remember_20 : decode cX4_remember 20 = .ok (.bipush 20, 2) := by decide +kernel
theorem dX4_remember_22 : decode cX4_remember 22 = .ok (.irem, 1) := by decide +kernel
theorem dX4_remember_23 : decode cX4_remember 23 = .ok (.putfield 17, 3) := by decide +kernel
theorem dX4_remember_26 : decode cX4_remember 26 = .ok (.aload_n 0, 1) := by decide +kernel
theorem dX4_remember_27 : decode cX4_remember 27 = .ok (.aload_n 0, 1) := by decide +kernel
theorem dX4_remember_28 : decode cX4_remember 28 = .ok (.getfield 21, 3) := by decide +kernel
theorem dX4_remember_31 : decode cX4_remember 31 = .ok (.iconst 1, 1) := by decide +kernel
theorem dX4_remember_32 : decode cX4_remember 32 = .ok (.iadd, 1) := by decide +kernel
theorem dX4_remember_33 : decode cX4_remember 33 = .ok (.bipush 20, 2) := by decide +kernel
theorem dX4_remember_35 : decode cX4_remember 35 = .ok (.invokestatic 29, 3) := by decide +kernel
theorem dX4_remember_38 : decode cX4_remember 38 = .ok (.putfield 21, 3) := by decide +kernel
theorem dX4_remember_41 : decode cX4_remember 41 = .ok (.return_, 1) := by decide +kernel
theorem dX4_restore_0 : decode cX4_restore 0 = .ok (.aload_n 0, 1) := by decide +kernel
theorem dX4_restore_1 : decode cX4_restore 1 = .ok (.aload_n 0, 1) := by decide +kernel
theorem dX4_restore_2 : decode cX4_restore 2 = .ok (.getfield 17, 3) := by decide +kernel
theorem dX4_restore_5 : decode cX4_restore 5 = .ok (.iload_n 1, 1) := by decide +kernel
theorem dX4_restore_6 : decode cX4_restore 6 = .ok (.isub, 1) := by decide +kernel
theorem dX4_restore_7 : decode cX4_restore 7 = .ok (.bipush 20, 2) := by decide +kernel
theorem dX4_restore_9 : decode cX4_restore 9 = .ok (.invokestatic 35, 3) := by decide +kernel
theorem dX4_restore_12 : decode cX4_restore 12 = .ok (.putfield 17, 3) := by decide +kernel
theorem dX4_restore_15 : decode cX4_restore 15 = .ok (.aload_n 0, 1) := by decide +kernel
theorem dX4_restore_16 : decode cX4_restore 16 = .ok (.dup, 1) := by decide +kernel
theorem dX4_restore_17 : decode cX4_restore 17 = .ok (.getfield 21, 3) := by decide +kernel
theorem dX4_restore_20 : decode cX4_restore 20 = .ok (.iload_n 1, 1) := by decide +kernel
theorem dX4_restore_21 : decode cX4_restore 21 = .ok (.isub, 1) := by decide +kernel
theorem dX4_restore_22 : decode cX4_restore 22 = .ok (.putfield 21, 3) := by decide +kernel
theorem dX4_restore_25 : decode cX4_restore 25 = .ok (.aload_n 2, 1) := by decide +kernel
theorem dX4_restore_26 : decode cX4_restore 26 = .ok (.aload_n 0, 1) := by decide +kernel
theorem dX4_restore_27 : decode cX4_restore 27 = .ok (.getfield 11, 3) := by decide +kernel
theorem dX4_restore_30 : decode cX4_restore 30 = .ok (.aload_n 0, 1) := by decide +kernel
theorem dX4_restore_31 : decode cX4_restore 31 = .ok (.getfield 17, 3) := by decide +kernel
theorem dX4_restore_34 : decode cX4_restore 34 = .ok (.aaload, 1) := by decide +kernel
theorem dX4_restore_35 : decode cX4_restore 35 = .ok (.invokevirtual 25, 3) := by decide +kernel
theorem dX4_restore_38 : decode cX4_restore 38 = .ok (.return_, 1) := by decide +kernel
theorem dX4_forget_0 : decode cX4_forget 0 = .ok (.aload_n 0, 1) := by decide +kernel
theorem dX4_forget_1 : decode cX4_forget 1 = .ok (.iconst 0, 1) := by decide +kernel
theorem dX4_forget_2 : decode cX4_forget 2 = .ok (.putfield 21, 3) := by decide +kernel
theorem dX4_forget_5 : decode cX4_forget 5 = .ok (.return_, 1) := by decide +kernel
theorem dX5_init_0 : decode cX5_init 0 = .ok (.aload_n 0, 1) := by decide +kernel
theorem dX5_init_1 : decode cX5_init 1 = .ok (.invokespecial 3, 3) := by decide +kernel
theorem dX5_init_4 : decode cX5_init 4 = .ok (.aload_n 0, 1) := by decide +kernel
theorem dX5_init_5 : decode cX5_init 5 = .ok (.bipush 48, 2) := by decide +kernel
theorem dX5_init_7 : decode cX5_init 7 = .ok (.newarray .int, 2) := by decide +kernel
theorem dX5_init_9 : decode cX5_init 9 = .ok (.putfield 11, 3) := by decide +kernel
theorem dX5_init_12 : decode cX5_init 12 = .ok (.aload_n 0, 1) := by decide +kernel
theorem dX5_init_13 : decode cX5_init 13 = .ok (.iconst 0, 1) := by decide +kernel
theorem dX5_init_14 : decode cX5_init 14 = .ok (.putfield 15, 3) := by decide +kernel
theorem dX5_init_17 : decode cX5_init 17 = .ok (.return_, 1) := by decide +kernel
theorem dX5_size_0 : decode cX5_size 0 = .ok (.aload_n 0, 1) := by decide +kernel
theorem dX5_size_1 : decode cX5_size 1 = .ok (.getfield 15, 3) := by decide +kernel
theorem dX5_size_4 : decode cX5_size 4 = .ok (.ireturn, 1) := by decide +kernel
theorem dX5_isFull_0 : decode cX5_isFull 0 = .ok (.aload_n 0, 1) := by decide +kernel
theorem dX5_isFull_1 : decode cX5_isFull 1 = .ok (.getfield 15, 3) := by decide +kernel
theorem dX5_isFull_4 : decode cX5_isFull 4 = .ok (.bipush 12, 2) := by decide +kernel
theorem dX5_isFull_6 : decode cX5_isFull 6 = .ok (.if_icmp .lt 7, 3) := by decide +kernel
theorem dX5_isFull_9 : decode cX5_isFull 9 = .ok (.iconst 1, 1) := by decide +kernel
theorem dX5_isFull_10 : decode cX5_isFull 10 = .ok (.goto 4, 3) := by decide +kernel
theorem dX5_isFull_13 : decode cX5_isFull 13 = .ok (.iconst 0, 1) := by decide +kernel
theorem dX5_isFull_14 : decode cX5_isFull 14 = .ok (.ireturn, 1) := by decide +kernel
theorem dX5_has_0 : decode cX5_has 0 = .ok (.iload_n 1, 1) := by decide +kernel
theorem dX5_has_1 : decode cX5_has 1 = .ok (.ifCond .lt 15, 3) := by decide +kernel
theorem dX5_has_4 : decode cX5_has 4 = .ok (.iload_n 1, 1) := by decide +kernel
theorem dX5_has_5 : decode cX5_has 5 = .ok (.aload_n 0, 1) := by decide +kernel
theorem dX5_has_6 : decode cX5_has 6 = .ok (.getfield 15, 3) := by decide +kernel
theorem dX5_has_9 : decode cX5_has 9 = .ok (.if_icmp .ge 7, 3) := by decide +kernel
theorem dX5_has_12 : decode cX5_has 12 = .ok (.iconst 1, 1) := by decide +kernel
theorem dX5_has_13 : decode cX5_has 13 = .ok (.goto 4, 3) := by decide +kernel
theorem dX5_has_16 : decode cX5_has 16 = .ok (.iconst 0, 1) := by decide +kernel
theorem dX5_has_17 : decode cX5_has 17 = .ok (.ireturn, 1) := by decide +kernel
theorem dX5_cell_0 : decode cX5_cell 0 = .ok (.aload_n 0, 1) := by decide +kernel
theorem dX5_cell_1 : decode cX5_cell 1 = .ok (.getfield 11, 3) := by decide +kernel
theorem dX5_cell_4 : decode cX5_cell 4 = .ok (.iload_n 1, 1) := by decide +kernel
theorem dX5_cell_5 : decode cX5_cell 5 = .ok (.iconst 4, 1) := by decide +kernel
theorem dX5_cell_6 : decode cX5_cell 6 = .ok (.imul, 1) := by decide +kernel
theorem dX5_cell_7 : decode cX5_cell 7 = .ok (.iload_n 2, 1) := by decide +kernel
theorem dX5_cell_8 : decode cX5_cell 8 = .ok (.iadd, 1) := by decide +kernel
theorem dX5_cell_9 : decode cX5_cell 9 = .ok (.iaload, 1) := by decide +kernel
theorem dX5_cell_10 : decode cX5_cell 10 = .ok (.ireturn, 1) := by decide +kernel
theorem dX5_load_0 : decode cX5_load 0 = .ok (.iload_n 1, 1) := by decide +kernel
theorem dX5_load_1 : decode cX5_load 1 = .ok (.iconst 4, 1) := by decide +kernel
theorem dX5_load_2 : decode cX5_load 2 = .ok (.imul, 1) := by decide +kernel
theorem dX5_load_3 : decode cX5_load 3 = .ok (.istore_n 3, 1) := by decide +kernel
theorem dX5_load_4 : decode cX5_load 4 = .ok (.aload_n 2, 1) := by decide +kernel
theorem dX5_load_5 : decode cX5_load 5 = .ok (.aload_n 0, 1) := by decide +kernel
theorem dX5_load_6 : decode cX5_load 6 = .ok (.getfield 11, 3) := by decide +kernel
theorem dX5_load_9 : decode cX5_load 9 = .ok (.iload_n 3, 1) := by decide +kernel
theorem dX5_load_10 : decode cX5_load 10 = .ok (.iaload, 1) := by decide +kernel
theorem dX5_load_11 : decode cX5_load 11 = .ok (.i2l, 1) := by decide +kernel
theorem dX5_load_12 : decode cX5_load 12 = .ok (.aload_n 0, 1) := by decide +kernel
theorem dX5_load_13 : decode cX5_load 13 = .ok (.getfield 11, 3) := by decide +kernel
theorem dX5_load_16 : decode cX5_load 16 = .ok (.iload_n 3, 1) := by decide +kernel
theorem dX5_load_17 : decode cX5_load 17 = .ok (.iconst 1, 1) := by decide +kernel
theorem dX5_load_18 : decode cX5_load 18 = .ok (.iadd, 1) := by decide +kernel
theorem dX5_load_19 : decode cX5_load 19 = .ok (.iaload, 1) := by decide +kernel
theorem dX5_load_20 : decode cX5_load 20 = .ok (.i2l, 1) := by decide +kernel
theorem dX5_load_21 : decode cX5_load 21 = .ok (.aload_n 0, 1) := by decide +kernel
theorem dX5_load_22 : decode cX5_load 22 = .ok (.getfield 11, 3) := by decide +kernel
theorem dX5_load_25 : decode cX5_load 25 = .ok (.iload_n 3, 1) := by decide +kernel
theorem dX5_load_26 : decode cX5_load 26 = .ok (.iconst 2, 1) := by decide +kernel
theorem dX5_load_27 : decode cX5_load 27 = .ok (.iadd, 1) := by decide +kernel
theorem dX5_load_28 : decode cX5_load 28 = .ok (.iaload, 1) := by decide +kernel
theorem dX5_load_29 : decode cX5_load 29 = .ok (.i2l, 1) := by decide +kernel
theorem dX5_load_30 : decode cX5_load 30 = .ok (.aload_n 0, 1) := by decide +kernel
theorem dX5_load_31 : decode cX5_load 31 = .ok (.getfield 11, 3) := by decide +kernel
theorem dX5_load_34 : decode cX5_load 34 = .ok (.iload_n 3, 1) := by decide +kernel
theorem dX5_load_35 : decode cX5_load 35 = .ok (.iconst 3, 1) := by decide +kernel
theorem dX5_load_36 : decode cX5_load 36 = .ok (.iadd, 1) := by decide +kernel
theorem dX5_load_37 : decode cX5_load 37 = .ok (.iaload, 1) := by decide +kernel
theorem dX5_load_38 : decode cX5_load 38 = .ok (.i2l, 1) := by decide +kernel
theorem dX5_load_39 : decode cX5_load 39 = .ok (.invokevirtual 19, 3) := by decide +kernel
theorem dX5_load_42 : decode cX5_load 42 = .ok (.return_, 1) := by decide +kernel
theorem dX5_store_0 : decode cX5_store 0 = .ok (.aload_n 0, 1) := by decide +kernel
theorem dX5_store_1 : decode cX5_store 1 = .ok (.iload_n 1, 1) := by decide +kernel
theorem dX5_store_2 : decode cX5_store 2 = .ok (.iconst 0, 1) := by decide +kernel
theorem dX5_store_3 : decode cX5_store 3 = .ok (.invokevirtual 25, 3) := by decide +kernel
theorem dX5_store_6 : decode cX5_store 6 = .ok (.i2l, 1) := by decide +kernel
theorem dX5_store_7 : decode cX5_store 7 = .ok (.aload_n 2, 1) := by decide +kernel
theorem dX5_store_8 : decode cX5_store 8 = .ok (.getfield 29, 3) := by decide +kernel
theorem dX5_store_11 : decode cX5_store 11 = .ok (.lcmp, 1) := by decide +kernel
theorem dX5_store_12 : decode cX5_store 12 = .ok (.ifCond .ne 48, 3) := by decide +kernel
theorem dX5_store_15 : decode cX5_store 15 = .ok (.aload_n 0, 1) := by decide +kernel
theorem dX5_store_16 : decode cX5_store 16 = .ok (.iload_n 1, 1) := by decide +kernel
theorem dX5_store_17 : decode cX5_store 17 = .ok (.iconst 1, 1) := by decide +kernel
theorem dX5_store_18 : decode cX5_store 18 = .ok (.invokevirtual 25, 3) := by decide +kernel
theorem dX5_store_21 : decode cX5_store 21 = .ok (.i2l, 1) := by decide +kernel
theorem dX5_store_22 : decode cX5_store 22 = .ok (.aload_n 2, 1) := by decide +kernel
theorem dX5_store_23 : decode cX5_store 23 = .ok (.getfield 33, 3) := by decide +kernel
theorem dX5_store_26 : decode cX5_store 26 = .ok (.lcmp, 1) := by decide +kernel
theorem dX5_store_27 : decode cX5_store 27 = .ok (.ifCond .ne 33, 3) := by decide +kernel
theorem dX5_store_30 : decode cX5_store 30 = .ok (.aload_n 0, 1) := by decide +kernel
theorem dX5_store_31 : decode cX5_store 31 = .ok (.iload_n 1, 1) := by decide +kernel
theorem dX5_store_32 : decode cX5_store 32 = .ok (.iconst 2, 1) := by decide +kernel
theorem dX5_store_33 : decode cX5_store 33 = .ok (.invokevirtual 25, 3) := by decide +kernel
theorem dX5_store_36 : decode cX5_store 36 = .ok (.i2l, 1) := by decide +kernel
theorem dX5_store_37 : decode cX5_store 37 = .ok (.aload_n 2, 1) := by decide +kernel
theorem dX5_store_38 : decode cX5_store 38 = .ok (.getfield 36, 3) := by decide +kernel
theorem dX5_store_41 : decode cX5_store 41 = .ok (.lcmp, 1) := by decide +kernel
theorem dX5_store_42 : decode cX5_store 42 = .ok (.ifCond .ne 18, 3) := by decide +kernel
theorem dX5_store_45 : decode cX5_store 45 = .ok (.aload_n 0, 1) := by decide +kernel
theorem dX5_store_46 : decode cX5_store 46 = .ok (.iload_n 1, 1) := by decide +kernel
theorem dX5_store_47 : decode cX5_store 47 = .ok (.iconst 3, 1) := by decide +kernel
theorem dX5_store_48 : decode cX5_store 48 = .ok (.invokevirtual 25, 3) := by decide +kernel
theorem dX5_store_51 : decode cX5_store 51 = .ok (.i2l, 1) := by decide +kernel
theorem dX5_store_52 : decode cX5_store 52 = .ok (.aload_n 2, 1) := by decide +kernel
theorem dX5_store_53 : decode cX5_store 53 = .ok (.getfield 39, 3) := by decide +kernel
theorem dX5_store_56 : decode cX5_store 56 = .ok (.lcmp, 1) := by decide +kernel
theorem dX5_store_57 : decode cX5_store 57 = .ok (.ifCond .eq 7, 3) := by decide +kernel
theorem dX5_store_60 : decode cX5_store 60 = .ok (.iconst 1, 1) := by decide +kernel
theorem dX5_store_61 : decode cX5_store 61 = .ok (.goto 4, 3) := by decide +kernel
theorem dX5_store_64 : decode cX5_store 64 = .ok (.iconst 0, 1) := by decide +kernel
theorem dX5_store_65 : decode cX5_store 65 = .ok (.istore_n 3, 1) := by decide +kernel
theorem dX5_store_66 : decode cX5_store 66 = .ok (.iload_n 1, 1) := by decide +kernel
theorem dX5_store_67 : decode cX5_store 67 = .ok (.iconst 4, 1) := by decide +kernel
theorem dX5_store_68 : decode cX5_store 68 = .ok (.imul, 1) := by decide +kernel
theorem dX5_store_69 : decode cX5_store 69 = .ok (.istore 4, 2) := by decide +kernel
theorem dX5_store_71 : decode cX5_store 71 = .ok (.aload_n 0, 1) := by decide +kernel
theorem dX5_store_72 : decode cX5_store 72 = .ok (.getfield 11, 3) := by decide +kernel
theorem dX5_store_75 : decode cX5_store 75 = .ok (.iload 4, 2) := by decide +kernel
theorem dX5_store_77 : decode cX5_store 77 = .ok (.aload_n 2, 1) := by decide +kernel
theorem dX5_store_78 : decode cX5_store 78 = .ok (.getfield 29, 3) := by decide +kernel
theorem dX5_store_81 : decode cX5_store 81 = .ok (.l2i, 1) := by decide +kernel
theorem dX5_store_82 : decode cX5_store 82 = .ok (.iastore, 1) := by decide +kernel
theorem dX5_store_83 : decode cX5_store 83 = .ok (.aload_n 0, 1) := by decide +kernel
theorem dX5_store_84 : decode cX5_store 84 = .ok (.getfield 11, 3) := by decide +kernel
theorem dX5_store_87 : decode cX5_store 87 = .ok (.iload 4, 2) := by decide +kernel
theorem dX5_store_89 : decode cX5_store 89 = .ok (.iconst 1, 1) := by decide +kernel
theorem dX5_store_90 : decode cX5_store 90 = .ok (.iadd, 1) := by decide +kernel
theorem dX5_store_91 : decode cX5_store 91 = .ok (.aload_n 2, 1) := by decide +kernel
theorem dX5_store_92 : decode cX5_store 92 = .ok (.getfield 33, 3) := by decide +kernel
theorem dX5_store_95 : decode cX5_store 95 = .ok (.l2i, 1) := by decide +kernel
theorem dX5_store_96 : decode cX5_store 96 = .ok (.iastore, 1) := by decide +kernel
theorem dX5_store_97 : decode cX5_store 97 = .ok (.aload_n 0, 1) := by decide +kernel
theorem dX5_store_98 : decode cX5_store 98 = .ok (.getfield 11, 3) := by decide +kernel
theorem dX5_store_101 : decode cX5_store 101 = .ok (.iload 4, 2) := by decide +kernel
theorem dX5_store_103 : decode cX5_store 103 = .ok (.iconst 2, 1) := by decide +kernel
theorem dX5_store_104 : decode cX5_store 104 = .ok (.iadd, 1) := by decide +kernel
theorem dX5_store_105 : decode cX5_store 105 = .ok (.aload_n 2, 1) := by decide +kernel
theorem dX5_store_106 : decode cX5_store 106 = .ok (.getfield 36, 3) := by decide +kernel
theorem dX5_store_109 : decode cX5_store 109 = .ok (.l2i, 1) := by decide +kernel
theorem dX5_store_110 : decode cX5_store 110 = .ok (.iastore, 1) := by decide +kernel
theorem dX5_store_111 : decode cX5_store 111 = .ok (.aload_n 0, 1) := by decide +kernel
theorem dX5_store_112 : decode cX5_store 112 = .ok (.getfield 11, 3) := by decide +kernel
theorem dX5_store_115 : decode cX5_store 115 = .ok (.iload 4, 2) := by decide +kernel
theorem dX5_store_117 : decode cX5_store 117 = .ok (.iconst 3, 1) := by decide +kernel
theorem dX5_store_118 : decode cX5_store 118 = .ok (.iadd, 1) := by decide +kernel
theorem dX5_store_119 : decode cX5_store 119 = .ok (.aload_n 2, 1) := by decide +kernel
theorem dX5_store_120 : decode cX5_store 120 = .ok (.getfield 39, 3) := by decide +kernel
theorem dX5_store_123 : decode cX5_store 123 = .ok (.l2i, 1) := by decide +kernel
theorem dX5_store_124 : decode cX5_store 124 = .ok (.iastore, 1) := by decide +kernel
theorem dX5_store_125 : decode cX5_store 125 = .ok (.iload_n 3, 1) := by decide +kernel
theorem dX5_store_126 : decode cX5_store 126 = .ok (.ireturn, 1) := by decide +kernel
theorem dX5_add_0 : decode cX5_add 0 = .ok (.aload_n 0, 1) := by decide +kernel
theorem dX5_add_1 : decode cX5_add 1 = .ok (.invokevirtual 42, 3) := by decide +kernel
theorem dX5_add_4 : decode cX5_add 4 = .ok (.ifCond .eq 6, 3) := by decide +kernel
theorem dX5_add_7 : decode cX5_add 7 = .ok (.ldc 46, 2) := by decide +kernel
theorem dX5_add_9 : decode cX5_add 9 = .ok (.ireturn, 1) := by decide +kernel
theorem dX5_add_10 : decode cX5_add 10 = .ok (.aload_n 0, 1) := by decide +kernel
theorem dX5_add_11 : decode cX5_add 11 = .ok (.aload_n 0, 1) := by decide +kernel
theorem dX5_add_12 : decode cX5_add 12 = .ok (.getfield 15, 3) := by decide +kernel
theorem dX5_add_15 : decode cX5_add 15 = .ok (.aload_n 1, 1) := by decide +kernel
theorem dX5_add_16 : decode cX5_add 16 = .ok (.invokevirtual 47, 3) := by decide +kernel
theorem dX5_add_19 : decode cX5_add 19 = .ok (.pop, 1) := by decide +kernel
theorem dX5_add_20 : decode cX5_add 20 = .ok (.aload_n 0, 1) := by decide +kernel
theorem dX5_add_21 : decode cX5_add 21 = .ok (.dup, 1) := by decide +kernel
theorem dX5_add_22 : decode cX5_add 22 = .ok (.getfield 15, 3) := by decide +kernel
theorem dX5_add_25 : decode cX5_add 25 = .ok (.iconst 1, 1) := by decide +kernel
theorem dX5_add_26 : decode cX5_add 26 = .ok (.iadd, 1) := by decide +kernel
theorem dX5_add_27 : decode cX5_add 27 = .ok (.putfield 15, 3) := by decide +kernel
theorem dX5_add_30 : decode cX5_add 30 = .ok (.aload_n 0, 1) := by decide +kernel
theorem dX5_add_31 : decode cX5_add 31 = .ok (.getfield 15, 3) := by decide +kernel
theorem dX5_add_34 : decode cX5_add 34 = .ok (.iconst 1, 1) := by decide +kernel
theorem dX5_add_35 : decode cX5_add 35 = .ok (.isub, 1) := by decide +kernel
theorem dX5_add_36 : decode cX5_add 36 = .ok (.ireturn, 1) := by decide +kernel
theorem dX5_remove_0 : decode cX5_remove 0 = .ok (.iload_n 1, 1) := by decide +kernel
theorem dX5_remove_1 : decode cX5_remove 1 = .ok (.iconst 4, 1) := by decide +kernel
theorem dX5_remove_2 : decode cX5_remove 2 = .ok (.imul, 1) := by decide +kernel
theorem dX5_remove_3 : decode cX5_remove 3 = .ok (.istore_n 2, 1) := by decide +kernel
theorem dX5_remove_4 : decode cX5_remove 4 = .ok (.aload_n 0, 1) := by decide +kernel
theorem dX5_remove_5 : decode cX5_remove 5 = .ok (.getfield 11, 3) := by decide +kernel
theorem dX5_remove_8 : decode cX5_remove 8 = .ok (.iload_n 2, 1) := by decide +kernel
theorem dX5_remove_9 : decode cX5_remove 9 = .ok (.iconst 4, 1) := by decide +kernel
theorem dX5_remove_10 : decode cX5_remove 10 = .ok (.iadd, 1) := by decide +kernel
theorem dX5_remove_11 : decode cX5_remove 11 = .ok (.aload_n 0, 1) := by decide +kernel
theorem dX5_remove_12 : decode cX5_remove 12 = .ok (.getfield 11, 3) := by decide +kernel
theorem dX5_remove_15 : decode cX5_remove 15 = .ok (.iload_n 2, 1) := by decide +kernel
theorem dX5_remove_16 : decode cX5_remove 16 = .ok (.aload_n 0, 1) := by decide +kernel
theorem dX5_remove_17 : decode cX5_remove 17 = .ok (.getfield 15, 3) := by decide +kernel
theorem dX5_remove_20 : decode cX5_remove 20 = .ok (.iload_n 1, 1) := by decide +kernel
theorem dX5_remove_21 : decode cX5_remove 21 = .ok (.isub, 1) := by decide +kernel
theorem dX5_remove_22 : decode cX5_remove 22 = .ok (.iconst 1, 1) := by decide +kernel
theorem dX5_remove_23 : decode cX5_remove 23 = .ok (.isub, 1) := by decide +kernel
theorem dX5_remove_24 : decode cX5_remove 24 = .ok (.iconst 4, 1) := by decide +kernel
theorem dX5_remove_25 : decode cX5_remove 25 = .ok (.imul, 1) := by decide +kernel
theorem dX5_remove_26 : decode cX5_remove 26 = .ok (.invokestatic 51, 3) := by decide +kernel
theorem dX5_remove_29 : decode cX5_remove 29 = .ok (.aload_n 0, 1) := by decide +kernel
theorem dX5_remove_30 : decode cX5_remove 30 = .ok (.dup, 1) := by decide +kernel
theorem dX5_remove_31 : decode cX5_remove 31 = .ok (.getfield 15, 3) := by decide +kernel
theorem dX5_remove_34 : decode cX5_remove 34 = .ok (.iconst 1, 1) := by decide +kernel
theorem dX5_remove_35 : decode cX5_remove 35 = .ok (.isub, 1) := by decide +kernel
theorem dX5_remove_36 : decode cX5_remove 36 = .ok (.putfield 15, 3) := by decide +kernel
theorem dX5_remove_39 : decode cX5_remove 39 = .ok (.return_, 1) := by decide +kernel
theorem dX5_copyFrom_0 : decode cX5_copyFrom 0 = .ok (.aload_n 1, 1) := by decide +kernel
theorem dX5_copyFrom_1 : decode cX5_copyFrom 1 = .ok (.getfield 11, 3) := by decide +kernel
theorem dX5_copyFrom_4 : decode cX5_copyFrom 4 = .ok (.iconst 0, 1) := by decide +kernel
theorem dX5_copyFrom_5 : decode cX5_copyFrom 5 = .ok (.aload_n 0, 1) := by decide +kernel
theorem dX5_copyFrom_6 : decode cX5_copyFrom 6 = .ok (.getfield 11, 3) := by decide +kernel
theorem dX5_copyFrom_9 : decode cX5_copyFrom 9 = .ok (.iconst 0, 1) := by decide +kernel
theorem dX5_copyFrom_10 : decode cX5_copyFrom 10 = .ok (.aload_n 1, 1) := by decide +kernel
theorem dX5_copyFrom_11 : decode cX5_copyFrom 11 = .ok (.getfield 15, 3) := by decide +kernel
theorem dX5_copyFrom_14 : decode cX5_copyFrom 14 = .ok (.iconst 4, 1) := by decide +kernel
theorem dX5_copyFrom_15 : decode cX5_copyFrom 15 = .ok (.imul, 1) := by decide +kernel
theorem dX5_copyFrom_16 : decode cX5_copyFrom 16 = .ok (.invokestatic 51, 3) := by decide +kernel
theorem dX5_copyFrom_19 : decode cX5_copyFrom 19 = .ok (.aload_n 0, 1) := by decide +kernel
theorem dX5_copyFrom_20 : decode cX5_copyFrom 20 = .ok (.aload_n 1, 1) := by decide +kernel
theorem dX5_copyFrom_21 : decode cX5_copyFrom 21 = .ok (.getfield 15, 3) := by decide +kernel
theorem dX5_copyFrom_24 : decode cX5_copyFrom 24 = .ok (.putfield 15, 3) := by decide +kernel
theorem dX5_copyFrom_27 : decode cX5_copyFrom 27 = .ok (.return_, 1) := by decide +kernel
theorem dX6_init_0 : decode cX6_init 0 = .ok (.aload_n 0, 1) := by decide +kernel
theorem dX6_init_1 : decode cX6_init 1 = .ok (.invokespecial 3, 3) := by decide +kernel
theorem dX6_init_4 : decode cX6_init 4 = .ok (.return_, 1) := by decide +kernel
theorem dX6_set_0 : decode cX6_set 0 = .ok (.aload_n 0, 1) := by decide +kernel
theorem dX6_set_1 : decode cX6_set 1 = .ok (.lload_n 1, 1) := by decide +kernel
theorem dX6_set_2 : decode cX6_set 2 = .ok (.putfield 9, 3) := by decide +kernel
theorem dX6_set_5 : decode cX6_set 5 = .ok (.aload_n 0, 1) := by decide +kernel
theorem dX6_set_6 : decode cX6_set 6 = .ok (.lload_n 3, 1) := by decide +kernel
theorem dX6_set_7 : decode cX6_set 7 = .ok (.putfield 15, 3) := by decide +kernel
theorem dX6_set_10 : decode cX6_set 10 = .ok (.aload_n 0, 1) := by decide +kernel
theorem dX6_set_11 : decode cX6_set 11 = .ok (.lload 5, 2) := by decide +kernel
theorem dX6_set_13 : decode cX6_set 13 = .ok (.putfield 18, 3) := by decide +kernel
theorem dX6_set_16 : decode cX6_set 16 = .ok (.aload_n 0, 1) := by decide +kernel
theorem dX6_set_17 : decode cX6_set 17 = .ok (.lload 7, 2) := by decide +kernel
theorem dX6_set_19 : decode cX6_set 19 = .ok (.putfield 21, 3) := by decide +kernel
theorem dX6_set_22 : decode cX6_set 22 = .ok (.return_, 1) := by decide +kernel
theorem dX6_setOne_0 : decode cX6_setOne 0 = .ok (.aload_n 0, 1) := by decide +kernel
theorem dX6_setOne_1 : decode cX6_setOne 1 = .ok (.lconst 1, 1) := by decide +kernel
theorem dX6_setOne_2 : decode cX6_setOne 2 = .ok (.lconst 0, 1) := by decide +kernel
theorem dX6_setOne_3 : decode cX6_setOne 3 = .ok (.lconst 0, 1) := by decide +kernel
theorem dX6_setOne_4 : decode cX6_setOne 4 = .ok (.lconst 1, 1) := by decide +kernel
theorem dX6_setOne_5 : decode cX6_setOne 5 = .ok (.invokevirtual 24, 3) := by decide +kernel
theorem dX6_setOne_8 : decode cX6_setOne 8 = .ok (.return_, 1) := by decide +kernel
theorem dX6_copyFrom_0 : decode cX6_copyFrom 0 = .ok (.aload_n 0, 1) := by decide +kernel
theorem dX6_copyFrom_1 : decode cX6_copyFrom 1 = .ok (.aload_n 1, 1) := by decide +kernel
theorem dX6_copyFrom_2 : decode cX6_copyFrom 2 = .ok (.getfield 9, 3) := by decide +kernel
theorem dX6_copyFrom_5 : decode cX6_copyFrom 5 = .ok (.putfield 9, 3) := by decide +kernel
theorem dX6_copyFrom_8 : decode cX6_copyFrom 8 = .ok (.aload_n 0, 1) := by decide +kernel
theorem dX6_copyFrom_9 : decode cX6_copyFrom 9 = .ok (.aload_n 1, 1) := by decide +kernel
theorem dX6_copyFrom_10 : decode cX6_copyFrom 10 = .ok (.getfield 15, 3) := by decide +kernel
theorem dX6_copyFrom_13 : decode cX6_copyFrom 13 = .ok (.putfield 15, 3) := by decide +kernel
theorem dX6_copyFrom_16 : decode cX6_copyFrom 16 = .ok (.aload_n 0, 1) := by decide +kernel
theorem dX6_copyFrom_17 : decode cX6_copyFrom 17 = .ok (.aload_n 1, 1) := by decide +kernel
theorem dX6_copyFrom_18 : decode cX6_copyFrom 18 = .ok (.getfield 18, 3) := by decide +kernel
theorem dX6_copyFrom_21 : decode cX6_copyFrom 21 = .ok (.putfield 18, 3) := by decide +kernel
theorem dX6_copyFrom_24 : decode cX6_copyFrom 24 = .ok (.aload_n 0, 1) := by decide +kernel
theorem dX6_copyFrom_25 : decode cX6_copyFrom 25 = .ok (.aload_n 1, 1) := by decide +kernel
theorem dX6_copyFrom_26 : decode cX6_copyFrom 26 = .ok (.getfield 21, 3) := by decide +kernel
theorem dX6_copyFrom_29 : decode cX6_copyFrom 29 = .ok (.putfield 21, 3) := by decide +kernel
theorem dX6_copyFrom_32 : decode cX6_copyFrom 32 = .ok (.return_, 1) := by decide +kernel
theorem dX6_setProduct_0 : decode cX6_setProduct 0 = .ok (.aload_n 0, 1) := by decide +kernel
theorem dX6_setProduct_1 : decode cX6_setProduct 1 = .ok (.aload_n 1, 1) := by decide +kernel
theorem dX6_setProduct_2 : decode cX6_setProduct 2 = .ok (.getfield 9, 3) := by decide +kernel
theorem dX6_setProduct_5 : decode cX6_setProduct 5 = .ok (.aload_n 2, 1) := by decide +kernel
theorem dX6_setProduct_6 : decode cX6_setProduct 6 = .ok (.getfield 9, 3) := by decide +kernel
theorem dX6_setProduct_9 : decode cX6_setProduct 9 = .ok (.lmul, 1) := by decide +kernel
theorem dX6_setProduct_10 : decode cX6_setProduct 10 = .ok (.aload_n 1, 1) := by decide +kernel
theorem dX6_setProduct_11 : decode cX6_setProduct 11 = .ok (.getfield 15, 3) := by decide +kernel
theorem dX6_setProduct_14 : decode cX6_setProduct 14 = .ok (.aload_n 2, 1) := by decide +kernel
theorem dX6_setProduct_15 : decode cX6_setProduct 15 = .ok (.getfield 18, 3) := by decide +kernel
theorem dX6_setProduct_18 : decode cX6_setProduct 18 = .ok (.lmul, 1) := by decide +kernel
theorem dX6_setProduct_19 : decode cX6_setProduct 19 = .ok (.ladd, 1) := by decide +kernel
theorem dX6_setProduct_20 : decode cX6_setProduct 20 = .ok (.aload_n 1, 1) := by decide +kernel
theorem dX6_setProduct_21 : decode cX6_setProduct 21 = .ok (.getfield 9, 3) := by decide +kernel
theorem dX6_setProduct_24 : decode cX6_setProduct 24 = .ok (.aload_n 2, 1) := by decide +kernel
theorem dX6_setProduct_25 : decode cX6_setProduct 25 = .ok (.getfield 15, 3) := by decide +kernel
theorem dX6_setProduct_28 : decode cX6_setProduct 28 = .ok (.lmul, 1) := by decide +kernel
theorem dX6_setProduct_29 : decode cX6_setProduct 29 = .ok (.aload_n 1, 1) := by decide +kernel
theorem dX6_setProduct_30 : decode cX6_setProduct 30 = .ok (.getfield 15, 3) := by decide +kernel
theorem dX6_setProduct_33 : decode cX6_setProduct 33 = .ok (.aload_n 2, 1) := by decide +kernel
theorem dX6_setProduct_34 : decode cX6_setProduct 34 = .ok (.getfield 21, 3) := by decide +kernel
theorem dX6_setProduct_37 : decode cX6_setProduct 37 = .ok (.lmul, 1) := by decide +kernel
theorem dX6_setProduct_38 : decode cX6_setProduct 38 = .ok (.ladd, 1) := by decide +kernel
theorem dX6_setProduct_39 : decode cX6_setProduct 39 = .ok (.aload_n 1, 1) := by decide +kernel
theorem dX6_setProduct_40 : decode cX6_setProduct 40 = .ok (.getfield 18, 3) := by decide +kernel
theorem dX6_setProduct_43 : decode cX6_setProduct 43 = .ok (.aload_n 2, 1) := by decide +kernel
theorem dX6_setProduct_44 : decode cX6_setProduct 44 = .ok (.getfield 9, 3) := by decide +kernel
theorem dX6_setProduct_47 : decode cX6_setProduct 47 = .ok (.lmul, 1) := by decide +kernel
theorem dX6_setProduct_48 : decode cX6_setProduct 48 = .ok (.aload_n 1, 1) := by decide +kernel
theorem dX6_setProduct_49 : decode cX6_setProduct 49 = .ok (.getfield 21, 3) := by decide +kernel
theorem dX6_setProduct_52 : decode cX6_setProduct 52 = .ok (.aload_n 2, 1) := by decide +kernel
theorem dX6_setProduct_53 : decode cX6_setProduct 53 = .ok (.getfield 18, 3) := by decide +kernel
theorem dX6_setProduct_56 : decode cX6_setProduct 56 = .ok (.lmul, 1) := by decide +kernel
theorem dX6_setProduct_57 : decode cX6_setProduct 57 = .ok (.ladd, 1) := by decide +kernel
theorem dX6_setProduct_58 : decode cX6_setProduct 58 = .ok (.aload_n 1, 1) := by decide +kernel
theorem dX6_setProduct_59 : decode cX6_setProduct 59 = .ok (.getfield 18, 3) := by decide +kernel
theorem dX6_setProduct_62 : decode cX6_setProduct 62 = .ok (.aload_n 2, 1) := by decide +kernel
theorem dX6_setProduct_63 : decode cX6_setProduct 63 = .ok (.getfield 15, 3) := by decide +kernel
theorem dX6_setProduct_66 : decode cX6_setProduct 66 = .ok (.lmul, 1) := by decide +kernel
theorem dX6_setProduct_67 : decode cX6_setProduct 67 = .ok (.aload_n 1, 1) := by decide +kernel
theorem dX6_setProduct_68 : decode cX6_setProduct 68 = .ok (.getfield 21, 3) := by decide +kernel
theorem dX6_setProduct_71 : decode cX6_setProduct 71 = .ok (.aload_n 2, 1) := by decide +kernel
theorem dX6_setProduct_72 : decode cX6_setProduct 72 = .ok (.getfield 21, 3) := by decide +kernel
theorem dX6_setProduct_75 : decode cX6_setProduct 75 = .ok (.lmul, 1) := by decide +kernel
theorem dX6_setProduct_76 : decode cX6_setProduct 76 = .ok (.ladd, 1) := by decide +kernel
theorem dX6_setProduct_77 : decode cX6_setProduct 77 = .ok (.invokevirtual 24, 3) := by decide +kernel
theorem dX6_setProduct_80 : decode cX6_setProduct 80 = .ok (.return_, 1) := by decide +kernel
theorem dX6_turnBack_0 : decode cX6_turnBack 0 = .ok (.aload_n 0, 1) := by decide +kernel
theorem dX6_turnBack_1 : decode cX6_turnBack 1 = .ok (.aload_n 0, 1) := by decide +kernel
theorem dX6_turnBack_2 : decode cX6_turnBack 2 = .ok (.getfield 21, 3) := by decide +kernel
theorem dX6_turnBack_5 : decode cX6_turnBack 5 = .ok (.aload_n 0, 1) := by decide +kernel
theorem dX6_turnBack_6 : decode cX6_turnBack 6 = .ok (.getfield 15, 3) := by decide +kernel
theorem dX6_turnBack_9 : decode cX6_turnBack 9 = .ok (.lneg, 1) := by decide +kernel
theorem dX6_turnBack_10 : decode cX6_turnBack 10 = .ok (.aload_n 0, 1) := by decide +kernel
theorem dX6_turnBack_11 : decode cX6_turnBack 11 = .ok (.getfield 18, 3) := by decide +kernel
theorem dX6_turnBack_14 : decode cX6_turnBack 14 = .ok (.lneg, 1) := by decide +kernel
theorem dX6_turnBack_15 : decode cX6_turnBack 15 = .ok (.aload_n 0, 1) := by decide +kernel
theorem dX6_turnBack_16 : decode cX6_turnBack 16 = .ok (.getfield 9, 3) := by decide +kernel
theorem dX6_turnBack_19 : decode cX6_turnBack 19 = .ok (.invokevirtual 24, 3) := by decide +kernel
theorem dX6_turnBack_22 : decode cX6_turnBack 22 = .ok (.return_, 1) := by decide +kernel
theorem dX6_changeSigns_0 : decode cX6_changeSigns 0 = .ok (.aload_n 0, 1) := by decide +kernel
theorem dX6_changeSigns_1 : decode cX6_changeSigns 1 = .ok (.aload_n 0, 1) := by decide +kernel
theorem dX6_changeSigns_2 : decode cX6_changeSigns 2 = .ok (.getfield 9, 3) := by decide +kernel
theorem dX6_changeSigns_5 : decode cX6_changeSigns 5 = .ok (.lneg, 1) := by decide +kernel
theorem dX6_changeSigns_6 : decode cX6_changeSigns 6 = .ok (.aload_n 0, 1) := by decide +kernel
theorem dX6_changeSigns_7 : decode cX6_changeSigns 7 = .ok (.getfield 15, 3) := by decide +kernel
theorem dX6_changeSigns_10 : decode cX6_changeSigns 10 = .ok (.lneg, 1) := by decide +kernel
theorem dX6_changeSigns_11 : decode cX6_changeSigns 11 = .ok (.aload_n 0, 1) := by decide +kernel
theorem dX6_changeSigns_12 : decode cX6_changeSigns 12 = .ok (.getfield 18, 3) := by decide +kernel
theorem dX6_changeSigns_15 : decode cX6_changeSigns 15 = .ok (.lneg, 1) := by decide +kernel
theorem dX6_changeSigns_16 : decode cX6_changeSigns 16 = .ok (.aload_n 0, 1) := by decide +kernel
theorem dX6_changeSigns_17 : decode cX6_changeSigns 17 = .ok (.getfield 21, 3) := by decide +kernel
theorem dX6_changeSigns_20 : decode cX6_changeSigns 20 = .ok (.lneg, 1) := by decide +kernel
theorem dX6_changeSigns_21 : decode cX6_changeSigns 21 = .ok (.invokevirtual 24, 3) := by decide +kernel
theorem dX6_changeSigns_24 : decode cX6_changeSigns 24 = .ok (.return_, 1) := by decide +kernel
theorem dX6_mirror_0 : decode cX6_mirror 0 = .ok (.aload_n 0, 1) := by decide +kernel
theorem dX6_mirror_1 : decode cX6_mirror 1 = .ok (.aload_n 0, 1) := by decide +kernel
theorem dX6_mirror_2 : decode cX6_mirror 2 = .ok (.getfield 9, 3) := by decide +kernel
theorem dX6_mirror_5 : decode cX6_mirror 5 = .ok (.aload_n 0, 1) := by decide +kernel
theorem dX6_mirror_6 : decode cX6_mirror 6 = .ok (.getfield 15, 3) := by decide +kernel
theorem dX6_mirror_9 : decode cX6_mirror 9 = .ok (.lneg, 1) := by decide +kernel
theorem dX6_mirror_10 : decode cX6_mirror 10 = .ok (.aload_n 0, 1) := by decide +kernel
theorem dX6_mirror_11 : decode cX6_mirror 11 = .ok (.getfield 18, 3) := by decide +kernel
theorem dX6_mirror_14 : decode cX6_mirror 14 = .ok (.lneg, 1) := by decide +kernel
theorem dX6_mirror_15 : decode cX6_mirror 15 = .ok (.aload_n 0, 1) := by decide +kernel
theorem dX6_mirror_16 : decode cX6_mirror 16 = .ok (.getfield 21, 3) := by decide +kernel
theorem dX6_mirror_19 : decode cX6_mirror 19 = .ok (.invokevirtual 24, 3) := by decide +kernel
theorem dX6_mirror_22 : decode cX6_mirror 22 = .ok (.return_, 1) := by decide +kernel
theorem dX6_multiplyByLetter_0 : decode cX6_multiplyByLetter 0 = .ok (.iload_n 1, 1) := by decide +kernel
theorem dX6_multiplyByLetter_1 : decode cX6_multiplyByLetter 1 = .ok (.lookupswitch 235 #[(76, 91), (82, 59), (83, 187), (108, 155), (114, 123), (115, 211)], 59) := by decide +kernel
theorem dX6_multiplyByLetter_60 : decode cX6_multiplyByLetter 60 = .ok (.aload_n 0, 1) := by decide +kernel
theorem dX6_multiplyByLetter_61 : decode cX6_multiplyByLetter 61 = .ok (.aload_n 0, 1) := by decide +kernel
theorem dX6_multiplyByLetter_62 : decode cX6_multiplyByLetter 62 = .ok (.getfield 9, 3) := by decide +kernel
theorem dX6_multiplyByLetter_65 : decode cX6_multiplyByLetter 65 = .ok (.aload_n 0, 1) := by decide +kernel
theorem dX6_multiplyByLetter_66 : decode cX6_multiplyByLetter 66 = .ok (.getfield 9, 3) := by decide +kernel
theorem dX6_multiplyByLetter_69 : decode cX6_multiplyByLetter 69 = .ok (.aload_n 0, 1) := by decide +kernel
theorem dX6_multiplyByLetter_70 : decode cX6_multiplyByLetter 70 = .ok (.getfield 15, 3) := by decide +kernel
theorem dX6_multiplyByLetter_73 : decode cX6_multiplyByLetter 73 = .ok (.ladd, 1) := by decide +kernel
theorem dX6_multiplyByLetter_74 : decode cX6_multiplyByLetter 74 = .ok (.aload_n 0, 1) := by decide +kernel
theorem dX6_multiplyByLetter_75 : decode cX6_multiplyByLetter 75 = .ok (.getfield 18, 3) := by decide +kernel
theorem dX6_multiplyByLetter_78 : decode cX6_multiplyByLetter 78 = .ok (.aload_n 0, 1) := by decide +kernel
theorem dX6_multiplyByLetter_79 : decode cX6_multiplyByLetter 79 = .ok (.getfield 18, 3) := by decide +kernel
theorem dX6_multiplyByLetter_82 : decode cX6_multiplyByLetter 82 = .ok (.aload_n 0, 1) := by decide +kernel
theorem dX6_multiplyByLetter_83 : decode cX6_multiplyByLetter 83 = .ok (.getfield 21, 3) := by decide +kernel
theorem dX6_multiplyByLetter_86 : decode cX6_multiplyByLetter 86 = .ok (.ladd, 1) := by decide +kernel
theorem dX6_multiplyByLetter_87 : decode cX6_multiplyByLetter 87 = .ok (.invokevirtual 24, 3) := by decide +kernel
theorem dX6_multiplyByLetter_90 : decode cX6_multiplyByLetter 90 = .ok (.iconst 1, 1) := by decide +kernel
theorem dX6_multiplyByLetter_91 : decode cX6_multiplyByLetter 91 = .ok (.ireturn, 1) := by decide +kernel
theorem dX6_multiplyByLetter_92 : decode cX6_multiplyByLetter 92 = .ok (.aload_n 0, 1) := by decide +kernel
theorem dX6_multiplyByLetter_93 : decode cX6_multiplyByLetter 93 = .ok (.aload_n 0, 1) := by decide +kernel
theorem dX6_multiplyByLetter_94 : decode cX6_multiplyByLetter 94 = .ok (.getfield 9, 3) := by decide +kernel
theorem dX6_multiplyByLetter_97 : decode cX6_multiplyByLetter 97 = .ok (.aload_n 0, 1) := by decide +kernel
theorem dX6_multiplyByLetter_98 : decode cX6_multiplyByLetter 98 = .ok (.getfield 15, 3) := by decide +kernel
theorem dX6_multiplyByLetter_101 : decode cX6_multiplyByLetter 101 = .ok (.ladd, 1) := by decide +kernel
theorem dX6_multiplyByLetter_102 : decode cX6_multiplyByLetter 102 = .ok (.aload_n 0, 1) := by decide +kernel
theorem dX6_multiplyByLetter_103 : decode cX6_multiplyByLetter 103 = .ok (.getfield 15, 3) := by decide +kernel
theorem dX6_multiplyByLetter_106 : decode cX6_multiplyByLetter 106 = .ok (.aload_n 0, 1) := by decide +kernel
theorem dX6_multiplyByLetter_107 : decode cX6_multiplyByLetter 107 = .ok (.getfield 18, 3) := by decide +kernel
theorem dX6_multiplyByLetter_110 : decode cX6_multiplyByLetter 110 = .ok (.aload_n 0, 1) := by decide +kernel
theorem dX6_multiplyByLetter_111 : decode cX6_multiplyByLetter 111 = .ok (.getfield 21, 3) := by decide +kernel
theorem dX6_multiplyByLetter_114 : decode cX6_multiplyByLetter 114 = .ok (.ladd, 1) := by decide +kernel
theorem dX6_multiplyByLetter_115 : decode cX6_multiplyByLetter 115 = .ok (.aload_n 0, 1) := by decide +kernel
theorem dX6_multiplyByLetter_116 : decode cX6_multiplyByLetter 116 = .ok (.getfield 21, 3) := by decide +kernel
theorem dX6_multiplyByLetter_119 : decode cX6_multiplyByLetter 119 = .ok (.invokevirtual 24, 3) := by decide +kernel
theorem dX6_multiplyByLetter_122 : decode cX6_multiplyByLetter 122 = .ok (.iconst 1, 1) := by decide +kernel
theorem dX6_multiplyByLetter_123 : decode cX6_multiplyByLetter 123 = .ok (.ireturn, 1) := by decide +kernel
theorem dX6_multiplyByLetter_124 : decode cX6_multiplyByLetter 124 = .ok (.aload_n 0, 1) := by decide +kernel
theorem dX6_multiplyByLetter_125 : decode cX6_multiplyByLetter 125 = .ok (.aload_n 0, 1) := by decide +kernel
theorem dX6_multiplyByLetter_126 : decode cX6_multiplyByLetter 126 = .ok (.getfield 9, 3) := by decide +kernel
theorem dX6_multiplyByLetter_129 : decode cX6_multiplyByLetter 129 = .ok (.aload_n 0, 1) := by decide +kernel
theorem dX6_multiplyByLetter_130 : decode cX6_multiplyByLetter 130 = .ok (.getfield 15, 3) := by decide +kernel
theorem dX6_multiplyByLetter_133 : decode cX6_multiplyByLetter 133 = .ok (.aload_n 0, 1) := by decide +kernel
theorem dX6_multiplyByLetter_134 : decode cX6_multiplyByLetter 134 = .ok (.getfield 9, 3) := by decide +kernel
theorem dX6_multiplyByLetter_137 : decode cX6_multiplyByLetter 137 = .ok (.lsub, 1) := by decide +kernel
theorem dX6_multiplyByLetter_138 : decode cX6_multiplyByLetter 138 = .ok (.aload_n 0, 1) := by decide +kernel
theorem dX6_multiplyByLetter_139 : decode cX6_multiplyByLetter 139 = .ok (.getfield 18, 3) := by decide +kernel
theorem dX6_multiplyByLetter_142 : decode cX6_multiplyByLetter 142 = .ok (.aload_n 0, 1) := by decide +kernel
theorem dX6_multiplyByLetter_143 : decode cX6_multiplyByLetter 143 = .ok (.getfield 21, 3) := by decide +kernel
theorem dX6_multiplyByLetter_146 : decode cX6_multiplyByLetter 146 = .ok (.aload_n 0, 1) := by decide +kernel
theorem dX6_multiplyByLetter_147 : decode cX6_multiplyByLetter 147 = .ok (.getfield 18, 3) := by decide +kernel
theorem dX6_multiplyByLetter_150 : decode cX6_multiplyByLetter 150 = .ok (.lsub, 1) := by decide +kernel
theorem dX6_multiplyByLetter_151 : decode cX6_multiplyByLetter 151 = .ok (.invokevirtual 24, 3) := by decide +kernel
theorem dX6_multiplyByLetter_154 : decode cX6_multiplyByLetter 154 = .ok (.iconst 1, 1) := by decide +kernel
theorem dX6_multiplyByLetter_155 : decode cX6_multiplyByLetter 155 = .ok (.ireturn, 1) := by decide +kernel
theorem dX6_multiplyByLetter_156 : decode cX6_multiplyByLetter 156 = .ok (.aload_n 0, 1) := by decide +kernel
theorem dX6_multiplyByLetter_157 : decode cX6_multiplyByLetter 157 = .ok (.aload_n 0, 1) := by decide +kernel
theorem dX6_multiplyByLetter_158 : decode cX6_multiplyByLetter 158 = .ok (.getfield 9, 3) := by decide +kernel
theorem dX6_multiplyByLetter_161 : decode cX6_multiplyByLetter 161 = .ok (.aload_n 0, 1) := by decide +kernel
theorem dX6_multiplyByLetter_162 : decode cX6_multiplyByLetter 162 = .ok (.getfield 15, 3) := by decide +kernel
theorem dX6_multiplyByLetter_165 : decode cX6_multiplyByLetter 165 = .ok (.lsub, 1) := by decide +kernel
theorem dX6_multiplyByLetter_166 : decode cX6_multiplyByLetter 166 = .ok (.aload_n 0, 1) := by decide +kernel
theorem dX6_multiplyByLetter_167 : decode cX6_multiplyByLetter 167 = .ok (.getfield 15, 3) := by decide +kernel
theorem dX6_multiplyByLetter_170 : decode cX6_multiplyByLetter 170 = .ok (.aload_n 0, 1) := by decide +kernel
theorem dX6_multiplyByLetter_171 : decode cX6_multiplyByLetter 171 = .ok (.getfield 18, 3) := by decide +kernel
theorem dX6_multiplyByLetter_174 : decode cX6_multiplyByLetter 174 = .ok (.aload_n 0, 1) := by decide +kernel
theorem dX6_multiplyByLetter_175 : decode cX6_multiplyByLetter 175 = .ok (.getfield 21, 3) := by decide +kernel
theorem dX6_multiplyByLetter_178 : decode cX6_multiplyByLetter 178 = .ok (.lsub, 1) := by decide +kernel
theorem dX6_multiplyByLetter_179 : decode cX6_multiplyByLetter 179 = .ok (.aload_n 0, 1) := by decide +kernel
theorem dX6_multiplyByLetter_180 : decode cX6_multiplyByLetter 180 = .ok (.getfield 21, 3) := by decide +kernel
theorem dX6_multiplyByLetter_183 : decode cX6_multiplyByLetter 183 = .ok (.invokevirtual 24, 3) := by decide +kernel
theorem dX6_multiplyByLetter_186 : decode cX6_multiplyByLetter 186 = .ok (.iconst 1, 1) := by decide +kernel
theorem dX6_multiplyByLetter_187 : decode cX6_multiplyByLetter 187 = .ok (.ireturn, 1) := by decide +kernel
