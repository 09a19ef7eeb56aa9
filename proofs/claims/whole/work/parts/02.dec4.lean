theorem dX11_wrong_29 : decode cX11_wrong 29 = .ok (.istore_n 3, 1) := by decide +kernel
theorem dX11_wrong_30 : decode cX11_wrong 30 = .ok (.aload_n 0, 1) := by decide +kernel
theorem dX11_wrong_31 : decode cX11_wrong 31 = .ok (.iload_n 2, 1) := by decide +kernel
theorem dX11_wrong_32 : decode cX11_wrong 32 = .ok (.invokevirtual 234, 3) := by decide +kernel
theorem dX11_wrong_35 : decode cX11_wrong 35 = .ok (.ifCond .eq 39, 3) := by decide +kernel
theorem dX11_wrong_38 : decode cX11_wrong 38 = .ok (.aload_n 0, 1) := by decide +kernel
theorem dX11_wrong_39 : decode cX11_wrong 39 = .ok (.iload_n 3, 1) := by decide +kernel
theorem dX11_wrong_40 : decode cX11_wrong 40 = .ok (.invokevirtual 234, 3) := by decide +kernel
theorem dX11_wrong_43 : decode cX11_wrong 43 = .ok (.ifCond .eq 31, 3) := by decide +kernel
theorem dX11_wrong_46 : decode cX11_wrong 46 = .ok (.aload_n 0, 1) := by decide +kernel
theorem dX11_wrong_47 : decode cX11_wrong 47 = .ok (.iload_n 2, 1) := by decide +kernel
theorem dX11_wrong_48 : decode cX11_wrong 48 = .ok (.iload_n 3, 1) := by decide +kernel
theorem dX11_wrong_49 : decode cX11_wrong 49 = .ok (.invokevirtual 237, 3) := by decide +kernel
theorem dX11_wrong_52 : decode cX11_wrong 52 = .ok (.aload_n 0, 1) := by decide +kernel
theorem dX11_wrong_53 : decode cX11_wrong 53 = .ok (.getfield 30, 3) := by decide +kernel
theorem dX11_wrong_56 : decode cX11_wrong 56 = .ok (.iconst 3, 1) := by decide +kernel
theorem dX11_wrong_57 : decode cX11_wrong 57 = .ok (.iload_n 1, 1) := by decide +kernel
theorem dX11_wrong_58 : decode cX11_wrong 58 = .ok (.imul, 1) := by decide +kernel
theorem dX11_wrong_59 : decode cX11_wrong 59 = .ok (.iconst 2, 1) := by decide +kernel
theorem dX11_wrong_60 : decode cX11_wrong 60 = .ok (.iadd, 1) := by decide +kernel
theorem dX11_wrong_61 : decode cX11_wrong 61 = .ok (.iaload, 1) := by decide +kernel
theorem dX11_wrong_62 : decode cX11_wrong 62 = .ok (.iconst 1, 1) := by decide +kernel
theorem dX11_wrong_63 : decode cX11_wrong 63 = .ok (.if_icmp .ne 7, 3) := by decide +kernel
theorem dX11_wrong_66 : decode cX11_wrong 66 = .ok (.iconst 1, 1) := by decide +kernel
theorem dX11_wrong_67 : decode cX11_wrong 67 = .ok (.goto 4, 3) := by decide +kernel
theorem dX11_wrong_70 : decode cX11_wrong 70 = .ok (.iconst 0, 1) := by decide +kernel
theorem dX11_wrong_71 : decode cX11_wrong 71 = .ok (.if_icmp .eq 5, 3) := by decide +kernel
theorem dX11_wrong_74 : decode cX11_wrong 74 = .ok (.iload_n 1, 1) := by decide +kernel
theorem dX11_wrong_75 : decode cX11_wrong 75 = .ok (.ireturn, 1) := by decide +kernel
theorem dX11_wrong_76 : decode cX11_wrong 76 = .ok (.iinc 1 1, 3) := by decide +kernel
theorem dX11_wrong_79 : decode cX11_wrong 79 = .ok (.goto (-77), 3) := by decide +kernel
theorem dX11_wrong_82 : decode cX11_wrong 82 = .ok (.iconst (-1), 1) := by decide +kernel
theorem dX11_wrong_83 : decode cX11_wrong 83 = .ok (.ireturn, 1) := by decide +kernel
theorem dX11_told_0 : decode cX11_told 0 = .ok (.iload_n 1, 1) := by decide +kernel
theorem dX11_told_1 : decode cX11_told 1 = .ok (.tableswitch 85 0 7 #[47, 54, 59, 59, 65, 70, 75, 80], 47) := by decide +kernel
theorem dX11_told_48 : decode cX11_told 48 = .ok (.aload_n 0, 1) := by decide +kernel
theorem dX11_told_49 : decode cX11_told 49 = .ok (.getfield 7, 3) := by decide +kernel
theorem dX11_told_52 : decode cX11_told 52 = .ok (.iconst 0, 1) := by decide +kernel
theorem dX11_told_53 : decode cX11_told 53 = .ok (.iaload, 1) := by decide +kernel
theorem dX11_told_54 : decode cX11_told 54 = .ok (.ireturn, 1) := by decide +kernel
theorem dX11_told_55 : decode cX11_told 55 = .ok (.aload_n 0, 1) := by decide +kernel
theorem dX11_told_56 : decode cX11_told 56 = .ok (.getfield 86, 3) := by decide +kernel
theorem dX11_told_59 : decode cX11_told 59 = .ok (.ireturn, 1) := by decide +kernel
theorem dX11_told_60 : decode cX11_told 60 = .ok (.aload_n 0, 1) := by decide +kernel
theorem dX11_told_61 : decode cX11_told 61 = .ok (.iload_n 1, 1) := by decide +kernel
theorem dX11_told_62 : decode cX11_told 62 = .ok (.invokevirtual 240, 3) := by decide +kernel
theorem dX11_told_65 : decode cX11_told 65 = .ok (.ireturn, 1) := by decide +kernel
theorem dX11_told_66 : decode cX11_told 66 = .ok (.aload_n 0, 1) := by decide +kernel
theorem dX11_told_67 : decode cX11_told 67 = .ok (.invokevirtual 243, 3) := by decide +kernel
theorem dX11_told_70 : decode cX11_told 70 = .ok (.ireturn, 1) := by decide +kernel
theorem dX11_told_71 : decode cX11_told 71 = .ok (.aload_n 0, 1) := by decide +kernel
theorem dX11_told_72 : decode cX11_told 72 = .ok (.getfield 231, 3) := by decide +kernel
theorem dX11_told_75 : decode cX11_told 75 = .ok (.ireturn, 1) := by decide +kernel
theorem dX11_told_76 : decode cX11_told 76 = .ok (.aload_n 0, 1) := by decide +kernel
theorem dX11_told_77 : decode cX11_told 77 = .ok (.invokevirtual 246, 3) := by decide +kernel
theorem dX11_told_80 : decode cX11_told 80 = .ok (.ireturn, 1) := by decide +kernel
theorem dX11_told_81 : decode cX11_told 81 = .ok (.aload_n 0, 1) := by decide +kernel
theorem dX11_told_82 : decode cX11_told 82 = .ok (.getfield 90, 3) := by decide +kernel
theorem dX11_told_85 : decode cX11_told 85 = .ok (.ireturn, 1) := by decide +kernel
theorem dX11_told_86 : decode cX11_told 86 = .ok (.ldc 85, 2) := by decide +kernel
theorem dX11_told_88 : decode cX11_told 88 = .ok (.ireturn, 1) := by decide +kernel
theorem dX11_number_0 : decode cX11_number 0 = .ok (.aload_n 0, 1) := by decide +kernel
theorem dX11_number_1 : decode cX11_number 1 = .ok (.iload_n 1, 1) := by decide +kernel
theorem dX11_number_2 : decode cX11_number 2 = .ok (.invokevirtual 234, 3) := by decide +kernel
theorem dX11_number_5 : decode cX11_number 5 = .ok (.ifCond .ne 6, 3) := by decide +kernel
theorem dX11_number_8 : decode cX11_number 8 = .ok (.ldc 249, 2) := by decide +kernel
theorem dX11_number_10 : decode cX11_number 10 = .ok (.ireturn, 1) := by decide +kernel
theorem dX11_number_11 : decode cX11_number 11 = .ok (.iload_n 2, 1) := by decide +kernel
theorem dX11_number_12 : decode cX11_number 12 = .ok (.i2l, 1) := by decide +kernel
theorem dX11_number_13 : decode cX11_number 13 = .ok (.lconst 0, 1) := by decide +kernel
theorem dX11_number_14 : decode cX11_number 14 = .ok (.ldc2_w 250, 3) := by decide +kernel
theorem dX11_number_17 : decode cX11_number 17 = .ok (.invokestatic 53, 3) := by decide +kernel
theorem dX11_number_20 : decode cX11_number 20 = .ok (.ifCond .eq 21, 3) := by decide +kernel
theorem dX11_number_23 : decode cX11_number 23 = .ok (.aload_n 0, 1) := by decide +kernel
theorem dX11_number_24 : decode cX11_number 24 = .ok (.getfield 7, 3) := by decide +kernel
theorem dX11_number_27 : decode cX11_number 27 = .ok (.iconst 1, 1) := by decide +kernel
theorem dX11_number_28 : decode cX11_number 28 = .ok (.iconst 4, 1) := by decide +kernel
theorem dX11_number_29 : decode cX11_number 29 = .ok (.iload_n 1, 1) := by decide +kernel
theorem dX11_number_30 : decode cX11_number 30 = .ok (.imul, 1) := by decide +kernel
theorem dX11_number_31 : decode cX11_number 31 = .ok (.iadd, 1) := by decide +kernel
theorem dX11_number_32 : decode cX11_number 32 = .ok (.iload_n 2, 1) := by decide +kernel
theorem dX11_number_33 : decode cX11_number 33 = .ok (.iadd, 1) := by decide +kernel
theorem dX11_number_34 : decode cX11_number 34 = .ok (.iaload, 1) := by decide +kernel
theorem dX11_number_35 : decode cX11_number 35 = .ok (.ldc 252, 2) := by decide +kernel
theorem dX11_number_37 : decode cX11_number 37 = .ok (.iadd, 1) := by decide +kernel
theorem dX11_number_38 : decode cX11_number 38 = .ok (.goto 5, 3) := by decide +kernel
theorem dX11_number_41 : decode cX11_number 41 = .ok (.ldc 85, 2) := by decide +kernel
theorem dX11_number_43 : decode cX11_number 43 = .ok (.ireturn, 1) := by decide +kernel
theorem dX11_order_0 : decode cX11_order 0 = .ok (.aload_n 0, 1) := by decide +kernel
theorem dX11_order_1 : decode cX11_order 1 = .ok (.getfield 168, 3) := by decide +kernel
theorem dX11_order_4 : decode cX11_order 4 = .ok (.ifCond .ne 18, 3) := by decide +kernel
theorem dX11_order_7 : decode cX11_order 7 = .ok (.aload_n 0, 1) := by decide +kernel
theorem dX11_order_8 : decode cX11_order 8 = .ok (.getfield 126, 3) := by decide +kernel
theorem dX11_order_11 : decode cX11_order 11 = .ok (.lconst 0, 1) := by decide +kernel
theorem dX11_order_12 : decode cX11_order 12 = .ok (.lcmp, 1) := by decide +kernel
theorem dX11_order_13 : decode cX11_order 13 = .ok (.ifCond .le 7, 3) := by decide +kernel
theorem dX11_order_16 : decode cX11_order 16 = .ok (.iconst 1, 1) := by decide +kernel
theorem dX11_order_17 : decode cX11_order 17 = .ok (.goto 4, 3) := by decide +kernel
theorem dX11_order_20 : decode cX11_order 20 = .ok (.iconst 2, 1) := by decide +kernel
theorem dX11_order_21 : decode cX11_order 21 = .ok (.ireturn, 1) := by decide +kernel
theorem dX11_order_22 : decode cX11_order 22 = .ok (.aload_n 0, 1) := by decide +kernel
theorem dX11_order_23 : decode cX11_order 23 = .ok (.getfield 168, 3) := by decide +kernel
theorem dX11_order_26 : decode cX11_order 26 = .ok (.iconst 1, 1) := by decide +kernel
theorem dX11_order_27 : decode cX11_order 27 = .ok (.if_icmp .eq 7, 3) := by decide +kernel
theorem dX11_order_30 : decode cX11_order 30 = .ok (.iconst (-1), 1) := by decide +kernel
theorem dX11_order_31 : decode cX11_order 31 = .ok (.goto 31, 3) := by decide +kernel
theorem dX11_order_34 : decode cX11_order 34 = .ok (.aload_n 0, 1) := by decide +kernel
theorem dX11_order_35 : decode cX11_order 35 = .ok (.getfield 126, 3) := by decide +kernel
theorem dX11_order_38 : decode cX11_order 38 = .ok (.lconst 0, 1) := by decide +kernel
theorem dX11_order_39 : decode cX11_order 39 = .ok (.lcmp, 1) := by decide +kernel
theorem dX11_order_40 : decode cX11_order 40 = .ok (.ifCond .ge 7, 3) := by decide +kernel
theorem dX11_order_43 : decode cX11_order 43 = .ok (.iconst 3, 1) := by decide +kernel
theorem dX11_order_44 : decode cX11_order 44 = .ok (.goto 18, 3) := by decide +kernel
theorem dX11_order_47 : decode cX11_order 47 = .ok (.aload_n 0, 1) := by decide +kernel
theorem dX11_order_48 : decode cX11_order 48 = .ok (.getfield 126, 3) := by decide +kernel
theorem dX11_order_51 : decode cX11_order 51 = .ok (.lconst 0, 1) := by decide +kernel
theorem dX11_order_52 : decode cX11_order 52 = .ok (.lcmp, 1) := by decide +kernel
theorem dX11_order_53 : decode cX11_order 53 = .ok (.ifCond .ne 7, 3) := by decide +kernel
theorem dX11_order_56 : decode cX11_order 56 = .ok (.iconst 4, 1) := by decide +kernel
theorem dX11_order_57 : decode cX11_order 57 = .ok (.goto 5, 3) := by decide +kernel
theorem dX11_order_60 : decode cX11_order 60 = .ok (.bipush 6, 2) := by decide +kernel
theorem dX11_order_62 : decode cX11_order 62 = .ok (.ireturn, 1) := by decide +kernel
theorem dX11_ofSquare_0 : decode cX11_ofSquare 0 = .ok (.aload_n 0, 1) := by decide +kernel
theorem dX11_ofSquare_1 : decode cX11_ofSquare 1 = .ok (.iload_n 1, 1) := by decide +kernel
theorem dX11_ofSquare_2 : decode cX11_ofSquare 2 = .ok (.invokevirtual 207, 3) := by decide +kernel
theorem dX11_ofSquare_5 : decode cX11_ofSquare 5 = .ok (.aload_n 0, 1) := by decide +kernel
theorem dX11_ofSquare_6 : decode cX11_ofSquare 6 = .ok (.invokevirtual 210, 3) := by decide +kernel
theorem dX11_ofSquare_9 : decode cX11_ofSquare 9 = .ok (.iload_n 2, 1) := by decide +kernel
theorem dX11_ofSquare_10 : decode cX11_ofSquare 10 = .ok (.tableswitch 108 0 6 #[42, 47, 56, 71, 76, 98, 103], 42) := by decide +kernel
theorem dX11_ofSquare_52 : decode cX11_ofSquare 52 = .ok (.aload_n 0, 1) := by decide +kernel
theorem dX11_ofSquare_53 : decode cX11_ofSquare 53 = .ok (.getfield 168, 3) := by decide +kernel
theorem dX11_ofSquare_56 : decode cX11_ofSquare 56 = .ok (.ireturn, 1) := by decide +kernel
theorem dX11_ofSquare_57 : decode cX11_ofSquare 57 = .ok (.aload_n 0, 1) := by decide +kernel
theorem dX11_ofSquare_58 : decode cX11_ofSquare 58 = .ok (.getfield 126, 3) := by decide +kernel
theorem dX11_ofSquare_61 : decode cX11_ofSquare 61 = .ok (.l2i, 1) := by decide +kernel
theorem dX11_ofSquare_62 : decode cX11_ofSquare 62 = .ok (.ldc 253, 2) := by decide +kernel
theorem dX11_ofSquare_64 : decode cX11_ofSquare 64 = .ok (.iadd, 1) := by decide +kernel
theorem dX11_ofSquare_65 : decode cX11_ofSquare 65 = .ok (.ireturn, 1) := by decide +kernel
theorem dX11_ofSquare_66 : decode cX11_ofSquare 66 = .ok (.aload_n 0, 1) := by decide +kernel
theorem dX11_ofSquare_67 : decode cX11_ofSquare 67 = .ok (.getfield 126, 3) := by decide +kernel
theorem dX11_ofSquare_70 : decode cX11_ofSquare 70 = .ok (.lconst 0, 1) := by decide +kernel
theorem dX11_ofSquare_71 : decode cX11_ofSquare 71 = .ok (.lcmp, 1) := by decide +kernel
theorem dX11_ofSquare_72 : decode cX11_ofSquare 72 = .ok (.ifCond .ge 7, 3) := by decide +kernel
theorem dX11_ofSquare_75 : decode cX11_ofSquare 75 = .ok (.iconst 0, 1) := by decide +kernel
theorem dX11_ofSquare_76 : decode cX11_ofSquare 76 = .ok (.goto 4, 3) := by decide +kernel
theorem dX11_ofSquare_79 : decode cX11_ofSquare 79 = .ok (.iconst 2, 1) := by decide +kernel
theorem dX11_ofSquare_80 : decode cX11_ofSquare 80 = .ok (.ireturn, 1) := by decide +kernel
theorem dX11_ofSquare_81 : decode cX11_ofSquare 81 = .ok (.aload_n 0, 1) := by decide +kernel
theorem dX11_ofSquare_82 : decode cX11_ofSquare 82 = .ok (.invokevirtual 254, 3) := by decide +kernel
theorem dX11_ofSquare_85 : decode cX11_ofSquare 85 = .ok (.ireturn, 1) := by decide +kernel
theorem dX11_ofSquare_86 : decode cX11_ofSquare 86 = .ok (.aload_n 0, 1) := by decide +kernel
theorem dX11_ofSquare_87 : decode cX11_ofSquare 87 = .ok (.getfield 168, 3) := by decide +kernel
theorem dX11_ofSquare_90 : decode cX11_ofSquare 90 = .ok (.iconst 2, 1) := by decide +kernel
theorem dX11_ofSquare_91 : decode cX11_ofSquare 91 = .ok (.if_icmp .ne 15, 3) := by decide +kernel
theorem dX11_ofSquare_94 : decode cX11_ofSquare 94 = .ok (.aload_n 0, 1) := by decide +kernel
theorem dX11_ofSquare_95 : decode cX11_ofSquare 95 = .ok (.getfield 160, 3) := by decide +kernel
theorem dX11_ofSquare_98 : decode cX11_ofSquare 98 = .ok (.l2i, 1) := by decide +kernel
theorem dX11_ofSquare_99 : decode cX11_ofSquare 99 = .ok (.ldc_w 257, 3) := by decide +kernel
theorem dX11_ofSquare_102 : decode cX11_ofSquare 102 = .ok (.iadd, 1) := by decide +kernel
theorem dX11_ofSquare_103 : decode cX11_ofSquare 103 = .ok (.goto 4, 3) := by decide +kernel
theorem dX11_ofSquare_106 : decode cX11_ofSquare 106 = .ok (.iconst 0, 1) := by decide +kernel
theorem dX11_ofSquare_107 : decode cX11_ofSquare 107 = .ok (.ireturn, 1) := by decide +kernel
theorem dX11_ofSquare_108 : decode cX11_ofSquare 108 = .ok (.aload_n 0, 1) := by decide +kernel
theorem dX11_ofSquare_109 : decode cX11_ofSquare 109 = .ok (.getfield 140, 3) := by decide +kernel
theorem dX11_ofSquare_112 : decode cX11_ofSquare 112 = .ok (.ireturn, 1) := by decide +kernel
theorem dX11_ofSquare_113 : decode cX11_ofSquare 113 = .ok (.aload_n 0, 1) := by decide +kernel
theorem dX11_ofSquare_114 : decode cX11_ofSquare 114 = .ok (.getfield 146, 3) := by decide +kernel
theorem dX11_ofSquare_117 : decode cX11_ofSquare 117 = .ok (.ireturn, 1) := by decide +kernel
theorem dX11_ofSquare_118 : decode cX11_ofSquare 118 = .ok (.aload_n 0, 1) := by decide +kernel
theorem dX11_ofSquare_119 : decode cX11_ofSquare 119 = .ok (.getfield 143, 3) := by decide +kernel
theorem dX11_ofSquare_122 : decode cX11_ofSquare 122 = .ok (.l2i, 1) := by decide +kernel
theorem dX11_ofSquare_123 : decode cX11_ofSquare 123 = .ok (.ireturn, 1) := by decide +kernel
theorem dX11_square_0 : decode cX11_square 0 = .ok (.aload_n 0, 1) := by decide +kernel
theorem dX11_square_1 : decode cX11_square 1 = .ok (.iload_n 1, 1) := by decide +kernel
theorem dX11_square_2 : decode cX11_square 2 = .ok (.invokevirtual 234, 3) := by decide +kernel
theorem dX11_square_5 : decode cX11_square 5 = .ok (.ifCond .ne 6, 3) := by decide +kernel
theorem dX11_square_8 : decode cX11_square 8 = .ok (.ldc 249, 2) := by decide +kernel
theorem dX11_square_10 : decode cX11_square 10 = .ok (.ireturn, 1) := by decide +kernel
theorem dX11_square_11 : decode cX11_square 11 = .ok (.iload_n 2, 1) := by decide +kernel
theorem dX11_square_12 : decode cX11_square 12 = .ok (.i2l, 1) := by decide +kernel
theorem dX11_square_13 : decode cX11_square 13 = .ok (.lconst 0, 1) := by decide +kernel
theorem dX11_square_14 : decode cX11_square 14 = .ok (.ldc2_w 258, 3) := by decide +kernel
theorem dX11_square_17 : decode cX11_square 17 = .ok (.invokestatic 53, 3) := by decide +kernel
theorem dX11_square_20 : decode cX11_square 20 = .ok (.ifCond .ne 6, 3) := by decide +kernel
theorem dX11_square_23 : decode cX11_square 23 = .ok (.ldc 85, 2) := by decide +kernel
theorem dX11_square_25 : decode cX11_square 25 = .ok (.ireturn, 1) := by decide +kernel
theorem dX11_square_26 : decode cX11_square 26 = .ok (.iload_n 2, 1) := by decide +kernel
theorem dX11_square_27 : decode cX11_square 27 = .ok (.bipush 7, 2) := by decide +kernel
theorem dX11_square_29 : decode cX11_square 29 = .ok (.if_icmp .eq 9, 3) := by decide +kernel
theorem dX11_square_32 : decode cX11_square 32 = .ok (.iload_n 2, 1) := by decide +kernel
theorem dX11_square_33 : decode cX11_square 33 = .ok (.bipush 9, 2) := by decide +kernel
theorem dX11_square_35 : decode cX11_square 35 = .ok (.if_icmp .ne 33, 3) := by decide +kernel
theorem dX11_square_38 : decode cX11_square 38 = .ok (.iload_n 2, 1) := by decide +kernel
theorem dX11_square_39 : decode cX11_square 39 = .ok (.bipush 7, 2) := by decide +kernel
theorem dX11_square_41 : decode cX11_square 41 = .ok (.if_icmp .ne 11, 3) := by decide +kernel
theorem dX11_square_44 : decode cX11_square 44 = .ok (.aload_n 0, 1) := by decide +kernel
theorem dX11_square_45 : decode cX11_square 45 = .ok (.iload_n 1, 1) := by decide +kernel
theorem dX11_square_46 : decode cX11_square 46 = .ok (.invokevirtual 228, 3) := by decide +kernel
theorem dX11_square_49 : decode cX11_square 49 = .ok (.goto 8, 3) := by decide +kernel
theorem dX11_square_52 : decode cX11_square 52 = .ok (.aload_n 0, 1) := by decide +kernel
theorem dX11_square_53 : decode cX11_square 53 = .ok (.iload_n 1, 1) := by decide +kernel
theorem dX11_square_54 : decode cX11_square 54 = .ok (.invokevirtual 260, 3) := by decide +kernel
theorem dX11_square_57 : decode cX11_square 57 = .ok (.istore_n 3, 1) := by decide +kernel
theorem dX11_square_58 : decode cX11_square 58 = .ok (.iload_n 3, 1) := by decide +kernel
theorem dX11_square_59 : decode cX11_square 59 = .ok (.ifCond .eq 7, 3) := by decide +kernel
theorem dX11_square_62 : decode cX11_square 62 = .ok (.iconst 1, 1) := by decide +kernel
theorem dX11_square_63 : decode cX11_square 63 = .ok (.goto 4, 3) := by decide +kernel
theorem dX11_square_66 : decode cX11_square 66 = .ok (.iconst 0, 1) := by decide +kernel
theorem dX11_square_67 : decode cX11_square 67 = .ok (.ireturn, 1) := by decide +kernel
theorem dX11_square_68 : decode cX11_square 68 = .ok (.iload_n 2, 1) := by decide +kernel
theorem dX11_square_69 : decode cX11_square 69 = .ok (.bipush 8, 2) := by decide +kernel
theorem dX11_square_71 : decode cX11_square 71 = .ok (.if_icmp .ne 11, 3) := by decide +kernel
theorem dX11_square_74 : decode cX11_square 74 = .ok (.aload_n 0, 1) := by decide +kernel
theorem dX11_square_75 : decode cX11_square 75 = .ok (.iload_n 1, 1) := by decide +kernel
theorem dX11_square_76 : decode cX11_square 76 = .ok (.invokevirtual 222, 3) := by decide +kernel
theorem dX11_square_79 : decode cX11_square 79 = .ok (.goto 9, 3) := by decide +kernel
theorem dX11_square_82 : decode cX11_square 82 = .ok (.aload_n 0, 1) := by decide +kernel
theorem dX11_square_83 : decode cX11_square 83 = .ok (.iload_n 1, 1) := by decide +kernel
theorem dX11_square_84 : decode cX11_square 84 = .ok (.iload_n 2, 1) := by decide +kernel
theorem dX11_square_85 : decode cX11_square 85 = .ok (.invokevirtual 263, 3) := by decide +kernel
theorem dX11_square_88 : decode cX11_square 88 = .ok (.ireturn, 1) := by decide +kernel
theorem dX11_run_0 : decode cX11_run 0 = .ok (.aload_n 0, 1) := by decide +kernel
theorem dX11_run_1 : decode cX11_run 1 = .ok (.iload_n 1, 1) := by decide +kernel
theorem dX11_run_2 : decode cX11_run 2 = .ok (.invokevirtual 234, 3) := by decide +kernel
theorem dX11_run_5 : decode cX11_run 5 = .ok (.ifCond .ne 6, 3) := by decide +kernel
theorem dX11_run_8 : decode cX11_run 8 = .ok (.ldc 249, 2) := by decide +kernel
theorem dX11_run_10 : decode cX11_run 10 = .ok (.ireturn, 1) := by decide +kernel
theorem dX11_run_11 : decode cX11_run 11 = .ok (.aload_n 0, 1) := by decide +kernel
theorem dX11_run_12 : decode cX11_run 12 = .ok (.iload_n 1, 1) := by decide +kernel
theorem dX11_run_13 : decode cX11_run 13 = .ok (.invokevirtual 207, 3) := by decide +kernel
theorem dX11_run_16 : decode cX11_run 16 = .ok (.aload_n 0, 1) := by decide +kernel
theorem dX11_run_17 : decode cX11_run 17 = .ok (.invokevirtual 210, 3) := by decide +kernel
theorem dX11_run_20 : decode cX11_run 20 = .ok (.iload_n 2, 1) := by decide +kernel
theorem dX11_run_21 : decode cX11_run 21 = .ok (.i2l, 1) := by decide +kernel
theorem dX11_run_22 : decode cX11_run 22 = .ok (.lconst 0, 1) := by decide +kernel
theorem dX11_run_23 : decode cX11_run 23 = .ok (.aload_n 0, 1) := by decide +kernel
theorem dX11_run_24 : decode cX11_run 24 = .ok (.getfield 140, 3) := by decide +kernel
theorem dX11_run_27 : decode cX11_run 27 = .ok (.iconst 1, 1) := by decide +kernel
theorem dX11_run_28 : decode cX11_run 28 = .ok (.isub, 1) := by decide +kernel
theorem dX11_run_29 : decode cX11_run 29 = .ok (.i2l, 1) := by decide +kernel
theorem dX11_run_30 : decode cX11_run 30 = .ok (.invokestatic 53, 3) := by decide +kernel
theorem dX11_run_33 : decode cX11_run 33 = .ok (.ifCond .eq 12, 3) := by decide +kernel
theorem dX11_run_36 : decode cX11_run 36 = .ok (.aload_n 0, 1) := by decide +kernel
theorem dX11_run_37 : decode cX11_run 37 = .ok (.getfield 33, 3) := by decide +kernel
theorem dX11_run_40 : decode cX11_run 40 = .ok (.iload_n 2, 1) := by decide +kernel
theorem dX11_run_41 : decode cX11_run 41 = .ok (.iaload, 1) := by decide +kernel
theorem dX11_run_42 : decode cX11_run 42 = .ok (.goto 4, 3) := by decide +kernel
theorem dX11_run_45 : decode cX11_run 45 = .ok (.iconst (-1), 1) := by decide +kernel
theorem dX11_run_46 : decode cX11_run 46 = .ok (.ireturn, 1) := by decide +kernel
theorem dX11_multiply_0 : decode cX11_multiply 0 = .ok (.aload_n 0, 1) := by decide +kernel
theorem dX11_multiply_1 : decode cX11_multiply 1 = .ok (.iload_n 1, 1) := by decide +kernel
theorem dX11_multiply_2 : decode cX11_multiply 2 = .ok (.invokevirtual 234, 3) := by decide +kernel
theorem dX11_multiply_5 : decode cX11_multiply 5 = .ok (.ifCond .eq 11, 3) := by decide +kernel
theorem dX11_multiply_8 : decode cX11_multiply 8 = .ok (.aload_n 0, 1) := by decide +kernel
theorem dX11_multiply_9 : decode cX11_multiply 9 = .ok (.iload_n 2, 1) := by decide +kernel
theorem dX11_multiply_10 : decode cX11_multiply 10 = .ok (.invokevirtual 234, 3) := by decide +kernel
theorem dX11_multiply_13 : decode cX11_multiply 13 = .ok (.ifCond .ne 6, 3) := by decide +kernel
theorem dX11_multiply_16 : decode cX11_multiply 16 = .ok (.ldc 249, 2) := by decide +kernel
theorem dX11_multiply_18 : decode cX11_multiply 18 = .ok (.ireturn, 1) := by decide +kernel
theorem dX11_multiply_19 : decode cX11_multiply 19 = .ok (.aload_n 0, 1) := by decide +kernel
theorem dX11_multiply_20 : decode cX11_multiply 20 = .ok (.getfield 7, 3) := by decide +kernel
theorem dX11_multiply_23 : decode cX11_multiply 23 = .ok (.iconst 0, 1) := by decide +kernel
theorem dX11_multiply_24 : decode cX11_multiply 24 = .ok (.iaload, 1) := by decide +kernel
theorem dX11_multiply_25 : decode cX11_multiply 25 = .ok (.bipush 12, 2) := by decide +kernel
theorem dX11_multiply_27 : decode cX11_multiply 27 = .ok (.if_icmp .ne 6, 3) := by decide +kernel
theorem dX11_multiply_30 : decode cX11_multiply 30 = .ok (.ldc 89, 2) := by decide +kernel
theorem dX11_multiply_32 : decode cX11_multiply 32 = .ok (.ireturn, 1) := by decide +kernel
theorem dX11_multiply_33 : decode cX11_multiply 33 = .ok (.aload_n 0, 1) := by decide +kernel
theorem dX11_multiply_34 : decode cX11_multiply 34 = .ok (.iload_n 1, 1) := by decide +kernel
theorem dX11_multiply_35 : decode cX11_multiply 35 = .ok (.invokevirtual 207, 3) := by decide +kernel
theorem dX11_multiply_38 : decode cX11_multiply 38 = .ok (.aload_n 0, 1) := by decide +kernel
theorem dX11_multiply_39 : decode cX11_multiply 39 = .ok (.aload_n 0, 1) := by decide +kernel
theorem dX11_multiply_40 : decode cX11_multiply 40 = .ok (.getfield 7, 3) := by decide +kernel
theorem dX11_multiply_43 : decode cX11_multiply 43 = .ok (.iconst 1, 1) := by decide +kernel
theorem dX11_multiply_44 : decode cX11_multiply 44 = .ok (.iconst 4, 1) := by decide +kernel
theorem dX11_multiply_45 : decode cX11_multiply 45 = .ok (.iload_n 2, 1) := by decide +kernel
theorem dX11_multiply_46 : decode cX11_multiply 46 = .ok (.imul, 1) := by decide +kernel
theorem dX11_multiply_47 : decode cX11_multiply 47 = .ok (.iadd, 1) := by decide +kernel
theorem dX11_multiply_48 : decode cX11_multiply 48 = .ok (.iaload, 1) := by decide +kernel
theorem dX11_multiply_49 : decode cX11_multiply 49 = .ok (.i2l, 1) := by decide +kernel
theorem dX11_multiply_50 : decode cX11_multiply 50 = .ok (.aload_n 0, 1) := by decide +kernel
theorem dX11_multiply_51 : decode cX11_multiply 51 = .ok (.getfield 7, 3) := by decide +kernel
theorem dX11_multiply_54 : decode cX11_multiply 54 = .ok (.iconst 2, 1) := by decide +kernel
theorem dX11_multiply_55 : decode cX11_multiply 55 = .ok (.iconst 4, 1) := by decide +kernel
theorem dX11_multiply_56 : decode cX11_multiply 56 = .ok (.iload_n 2, 1) := by decide +kernel
theorem dX11_multiply_57 : decode cX11_multiply 57 = .ok (.imul, 1) := by decide +kernel
theorem dX11_multiply_58 : decode cX11_multiply 58 = .ok (.iadd, 1) := by decide +kernel
theorem dX11_multiply_59 : decode cX11_multiply 59 = .ok (.iaload, 1) := by decide +kernel
theorem dX11_multiply_60 : decode cX11_multiply 60 = .ok (.i2l, 1) := by decide +kernel
theorem dX11_multiply_61 : decode cX11_multiply 61 = .ok (.aload_n 0, 1) := by decide +kernel
theorem dX11_multiply_62 : decode cX11_multiply 62 = .ok (.getfield 7, 3) := by decide +kernel
theorem dX11_multiply_65 : decode cX11_multiply 65 = .ok (.iconst 3, 1) := by decide +kernel
theorem dX11_multiply_66 : decode cX11_multiply 66 = .ok (.iconst 4, 1) := by decide +kernel
theorem dX11_multiply_67 : decode cX11_multiply 67 = .ok (.iload_n 2, 1) := by decide +kernel
theorem dX11_multiply_68 : decode cX11_multiply 68 = .ok (.imul, 1) := by decide +kernel
theorem dX11_multiply_69 : decode cX11_multiply 69 = .ok (.iadd, 1) := by decide +kernel
theorem dX11_multiply_70 : decode cX11_multiply 70 = .ok (.iaload, 1) := by decide +kernel
theorem dX11_multiply_71 : decode cX11_multiply 71 = .ok (.i2l, 1) := by decide +kernel
theorem dX11_multiply_72 : decode cX11_multiply 72 = .ok (.aload_n 0, 1) := by decide +kernel
theorem dX11_multiply_73 : decode cX11_multiply 73 = .ok (.getfield 7, 3) := by decide +kernel
theorem dX11_multiply_76 : decode cX11_multiply 76 = .ok (.iconst 4, 1) := by decide +kernel
theorem dX11_multiply_77 : decode cX11_multiply 77 = .ok (.iconst 4, 1) := by decide +kernel
theorem dX11_multiply_78 : decode cX11_multiply 78 = .ok (.iload_n 2, 1) := by decide +kernel
theorem dX11_multiply_79 : decode cX11_multiply 79 = .ok (.imul, 1) := by decide +kernel
theorem dX11_multiply_80 : decode cX11_multiply 80 = .ok (.iadd, 1) := by decide +kernel
theorem dX11_multiply_81 : decode cX11_multiply 81 = .ok (.iaload, 1) := by decide +kernel
theorem dX11_multiply_82 : decode cX11_multiply 82 = .ok (.i2l, 1) := by decide +kernel
theorem dX11_multiply_83 : decode cX11_multiply 83 = .ok (.invokevirtual 78, 3) := by decide +kernel
theorem dX11_multiply_86 : decode cX11_multiply 86 = .ok (.aload_n 0, 1) := by decide +kernel
theorem dX11_multiply_87 : decode cX11_multiply 87 = .ok (.invokevirtual 107, 3) := by decide +kernel
theorem dX11_multiply_90 : decode cX11_multiply 90 = .ok (.ifCond .eq 10, 3) := by decide +kernel
theorem dX11_multiply_93 : decode cX11_multiply 93 = .ok (.aload_n 0, 1) := by decide +kernel
theorem dX11_multiply_94 : decode cX11_multiply 94 = .ok (.invokevirtual 111, 3) := by decide +kernel
theorem dX11_multiply_97 : decode cX11_multiply 97 = .ok (.goto 5, 3) := by decide +kernel
theorem dX11_multiply_100 : decode cX11_multiply 100 = .ok (.ldc 115, 2) := by decide +kernel
theorem dX11_multiply_102 : decode cX11_multiply 102 = .ok (.ireturn, 1) := by decide +kernel
theorem dX11_becomes_0 : decode cX11_becomes 0 = .ok (.aload_n 0, 1) := by decide +kernel
theorem dX11_becomes_1 : decode cX11_becomes 1 = .ok (.invokevirtual 107, 3) := by decide +kernel
theorem dX11_becomes_4 : decode cX11_becomes 4 = .ok (.ifCond .ne 6, 3) := by decide +kernel
theorem dX11_becomes_7 : decode cX11_becomes 7 = .ok (.ldc 115, 2) := by decide +kernel
theorem dX11_becomes_9 : decode cX11_becomes 9 = .ok (.ireturn, 1) := by decide +kernel
theorem dX11_becomes_10 : decode cX11_becomes 10 = .ok (.aload_n 0, 1) := by decide +kernel
theorem dX11_becomes_11 : decode cX11_becomes 11 = .ok (.invokevirtual 93, 3) := by decide +kernel
theorem dX11_becomes_14 : decode cX11_becomes 14 = .ok (.aload_n 0, 1) := by decide +kernel
theorem dX11_becomes_15 : decode cX11_becomes 15 = .ok (.iload_n 1, 1) := by decide +kernel
theorem dX11_becomes_16 : decode cX11_becomes 16 = .ok (.invokevirtual 267, 3) := by decide +kernel
theorem dX11_becomes_19 : decode cX11_becomes 19 = .ok (.istore_n 2, 1) := by decide +kernel
theorem dX11_becomes_20 : decode cX11_becomes 20 = .ok (.aload_n 0, 1) := by decide +kernel
theorem dX11_becomes_21 : decode cX11_becomes 21 = .ok (.iload_n 1, 1) := by decide +kernel
theorem dX11_becomes_22 : decode cX11_becomes 22 = .ok (.invokevirtual 96, 3) := by decide +kernel
theorem dX11_becomes_25 : decode cX11_becomes 25 = .ok (.iload_n 2, 1) := by decide +kernel
theorem dX11_becomes_26 : decode cX11_becomes 26 = .ok (.ifCond .eq 7, 3) := by decide +kernel
theorem dX11_becomes_29 : decode cX11_becomes 29 = .ok (.iconst 0, 1) := by decide +kernel
theorem dX11_becomes_30 : decode cX11_becomes 30 = .ok (.goto 4, 3) := by decide +kernel
theorem dX11_becomes_33 : decode cX11_becomes 33 = .ok (.iconst 1, 1) := by decide +kernel
theorem dX11_becomes_34 : decode cX11_becomes 34 = .ok (.ireturn, 1) := by decide +kernel
theorem dX11_back_0 : decode cX11_back 0 = .ok (.aload_n 0, 1) := by decide +kernel
theorem dX11_back_1 : decode cX11_back 1 = .ok (.iload_n 1, 1) := by decide +kernel
theorem dX11_back_2 : decode cX11_back 2 = .ok (.invokevirtual 234, 3) := by decide +kernel
theorem dX11_back_5 : decode cX11_back 5 = .ok (.ifCond .ne 6, 3) := by decide +kernel
theorem dX11_back_8 : decode cX11_back 8 = .ok (.ldc 249, 2) := by decide +kernel
theorem dX11_back_10 : decode cX11_back 10 = .ok (.ireturn, 1) := by decide +kernel
theorem dX11_back_11 : decode cX11_back 11 = .ok (.aload_n 0, 1) := by decide +kernel
theorem dX11_back_12 : decode cX11_back 12 = .ok (.iload_n 1, 1) := by decide +kernel
theorem dX11_back_13 : decode cX11_back 13 = .ok (.invokevirtual 207, 3) := by decide +kernel
theorem dX11_back_16 : decode cX11_back 16 = .ok (.aload_n 0, 1) := by decide +kernel
theorem dX11_back_17 : decode cX11_back 17 = .ok (.aload_n 0, 1) := by decide +kernel
theorem dX11_back_18 : decode cX11_back 18 = .ok (.getfield 67, 3) := by decide +kernel
theorem dX11_back_21 : decode cX11_back 21 = .ok (.lconst 0, 1) := by decide +kernel
theorem dX11_back_22 : decode cX11_back 22 = .ok (.aload_n 0, 1) := by decide +kernel
theorem dX11_back_23 : decode cX11_back 23 = .ok (.getfield 61, 3) := by decide +kernel
theorem dX11_back_26 : decode cX11_back 26 = .ok (.lsub, 1) := by decide +kernel
theorem dX11_back_27 : decode cX11_back 27 = .ok (.lconst 0, 1) := by decide +kernel
theorem dX11_back_28 : decode cX11_back 28 = .ok (.aload_n 0, 1) := by decide +kernel
theorem dX11_back_29 : decode cX11_back 29 = .ok (.getfield 64, 3) := by decide +kernel
theorem dX11_back_32 : decode cX11_back 32 = .ok (.lsub, 1) := by decide +kernel
theorem dX11_back_33 : decode cX11_back 33 = .ok (.aload_n 0, 1) := by decide +kernel
theorem dX11_back_34 : decode cX11_back 34 = .ok (.getfield 57, 3) := by decide +kernel
theorem dX11_back_37 : decode cX11_back 37 = .ok (.invokevirtual 70, 3) := by decide +kernel
theorem dX11_back_40 : decode cX11_back 40 = .ok (.aload_n 0, 1) := by decide +kernel
theorem dX11_back_41 : decode cX11_back 41 = .ok (.iload_n 1, 1) := by decide +kernel
theorem dX11_back_42 : decode cX11_back 42 = .ok (.invokevirtual 270, 3) := by decide +kernel
theorem dX11_back_45 : decode cX11_back 45 = .ok (.ireturn, 1) := by decide +kernel
theorem dX11_carry_0 : decode cX11_carry 0 = .ok (.aload_n 0, 1) := by decide +kernel
theorem dX11_carry_1 : decode cX11_carry 1 = .ok (.iload_n 1, 1) := by decide +kernel
theorem dX11_carry_2 : decode cX11_carry 2 = .ok (.invokevirtual 234, 3) := by decide +kernel
theorem dX11_carry_5 : decode cX11_carry 5 = .ok (.ifCond .eq 11, 3) := by decide +kernel
theorem dX11_carry_8 : decode cX11_carry 8 = .ok (.aload_n 0, 1) := by decide +kernel
theorem dX11_carry_9 : decode cX11_carry 9 = .ok (.iload_n 2, 1) := by decide +kernel
theorem dX11_carry_10 : decode cX11_carry 10 = .ok (.invokevirtual 234, 3) := by decide +kernel
theorem dX11_carry_13 : decode cX11_carry 13 = .ok (.ifCond .ne 6, 3) := by decide +kernel
theorem dX11_carry_16 : decode cX11_carry 16 = .ok (.ldc 249, 2) := by decide +kernel
theorem dX11_carry_18 : decode cX11_carry 18 = .ok (.ireturn, 1) := by decide +kernel
theorem dX11_carry_19 : decode cX11_carry 19 = .ok (.aload_n 0, 1) := by decide +kernel
theorem dX11_carry_20 : decode cX11_carry 20 = .ok (.iload_n 2, 1) := by decide +kernel
theorem dX11_carry_21 : decode cX11_carry 21 = .ok (.invokevirtual 207, 3) := by decide +kernel
theorem dX11_carry_24 : decode cX11_carry 24 = .ok (.aload_n 0, 1) := by decide +kernel
theorem dX11_carry_25 : decode cX11_carry 25 = .ok (.aload_n 0, 1) := by decide +kernel
theorem dX11_carry_26 : decode cX11_carry 26 = .ok (.getfield 7, 3) := by decide +kernel
theorem dX11_carry_29 : decode cX11_carry 29 = .ok (.iconst 1, 1) := by decide +kernel
theorem dX11_carry_30 : decode cX11_carry 30 = .ok (.iconst 4, 1) := by decide +kernel
theorem dX11_carry_31 : decode cX11_carry 31 = .ok (.iload_n 1, 1) := by decide +kernel
theorem dX11_carry_32 : decode cX11_carry 32 = .ok (.imul, 1) := by decide +kernel
theorem dX11_carry_33 : decode cX11_carry 33 = .ok (.iadd, 1) := by decide +kernel
theorem dX11_carry_34 : decode cX11_carry 34 = .ok (.iaload, 1) := by decide +kernel
theorem dX11_carry_35 : decode cX11_carry 35 = .ok (.i2l, 1) := by decide +kernel
theorem dX11_carry_36 : decode cX11_carry 36 = .ok (.aload_n 0, 1) := by decide +kernel
theorem dX11_carry_37 : decode cX11_carry 37 = .ok (.getfield 7, 3) := by decide +kernel
theorem dX11_carry_40 : decode cX11_carry 40 = .ok (.iconst 2, 1) := by decide +kernel
theorem dX11_carry_41 : decode cX11_carry 41 = .ok (.iconst 4, 1) := by decide +kernel
theorem dX11_carry_42 : decode cX11_carry 42 = .ok (.iload_n 1, 1) := by decide +kernel
theorem dX11_carry_43 : decode cX11_carry 43 = .ok (.imul, 1) := by decide +kernel
theorem dX11_carry_44 : decode cX11_carry 44 = .ok (.iadd, 1) := by decide +kernel
theorem dX11_carry_45 : decode cX11_carry 45 = .ok (.iaload, 1) := by decide +kernel
theorem dX11_carry_46 : decode cX11_carry 46 = .ok (.i2l, 1) := by decide +kernel
theorem dX11_carry_47 : decode cX11_carry 47 = .ok (.aload_n 0, 1) := by decide +kernel
theorem dX11_carry_48 : decode cX11_carry 48 = .ok (.getfield 7, 3) := by decide +kernel
theorem dX11_carry_51 : decode cX11_carry 51 = .ok (.iconst 3, 1) := by decide +kernel
theorem dX11_carry_52 : decode cX11_carry 52 = .ok (.iconst 4, 1) := by decide +kernel
theorem dX11_carry_53 : decode cX11_carry 53 = .ok (.iload_n 1, 1) := by decide +kernel
theorem dX11_carry_54 : decode cX11_carry 54 = .ok (.imul, 1) := by decide +kernel
theorem dX11_carry_55 : decode cX11_carry 55 = .ok (.iadd, 1) := by decide +kernel
theorem dX11_carry_56 : decode cX11_carry 56 = .ok (.iaload, 1) := by decide +kernel
theorem dX11_carry_57 : decode cX11_carry 57 = .ok (.i2l, 1) := by decide +kernel
theorem dX11_carry_58 : decode cX11_carry 58 = .ok (.aload_n 0, 1) := by decide +kernel
theorem dX11_carry_59 : decode cX11_carry 59 = .ok (.getfield 7, 3) := by decide +kernel
theorem dX11_carry_62 : decode cX11_carry 62 = .ok (.iconst 4, 1) := by decide +kernel
theorem dX11_carry_63 : decode cX11_carry 63 = .ok (.iconst 4, 1) := by decide +kernel
theorem dX11_carry_64 : decode cX11_carry 64 = .ok (.iload_n 1, 1) := by decide +kernel
theorem dX11_carry_65 : decode cX11_carry 65 = .ok (.imul, 1) := by decide +kernel
theorem dX11_carry_66 : decode cX11_carry 66 = .ok (.iadd, 1) := by decide +kernel
theorem dX11_carry_67 : decode cX11_carry 67 = .ok (.iaload, 1) := by decide +kernel
theorem dX11_carry_68 : decode cX11_carry 68 = .ok (.i2l, 1) := by decide +kernel
theorem dX11_carry_69 : decode cX11_carry 69 = .ok (.invokevirtual 78, 3) := by decide +kernel
theorem dX11_carry_72 : decode cX11_carry 72 = .ok (.aload_n 0, 1) := by decide +kernel
theorem dX11_carry_73 : decode cX11_carry 73 = .ok (.aload_n 0, 1) := by decide +kernel
theorem dX11_carry_74 : decode cX11_carry 74 = .ok (.getfield 7, 3) := by decide +kernel
theorem dX11_carry_77 : decode cX11_carry 77 = .ok (.iconst 4, 1) := by decide +kernel
theorem dX11_carry_78 : decode cX11_carry 78 = .ok (.iconst 4, 1) := by decide +kernel
theorem dX11_carry_79 : decode cX11_carry 79 = .ok (.iload_n 2, 1) := by decide +kernel
theorem dX11_carry_80 : decode cX11_carry 80 = .ok (.imul, 1) := by decide +kernel
theorem dX11_carry_81 : decode cX11_carry 81 = .ok (.iadd, 1) := by decide +kernel
theorem dX11_carry_82 : decode cX11_carry 82 = .ok (.iaload, 1) := by decide +kernel
theorem dX11_carry_83 : decode cX11_carry 83 = .ok (.i2l, 1) := by decide +kernel
theorem dX11_carry_84 : decode cX11_carry 84 = .ok (.lconst 0, 1) := by decide +kernel
theorem dX11_carry_85 : decode cX11_carry 85 = .ok (.aload_n 0, 1) := by decide +kernel
theorem dX11_carry_86 : decode cX11_carry 86 = .ok (.getfield 7, 3) := by decide +kernel
theorem dX11_carry_89 : decode cX11_carry 89 = .ok (.iconst 2, 1) := by decide +kernel
theorem dX11_carry_90 : decode cX11_carry 90 = .ok (.iconst 4, 1) := by decide +kernel
theorem dX11_carry_91 : decode cX11_carry 91 = .ok (.iload_n 2, 1) := by decide +kernel
theorem dX11_carry_92 : decode cX11_carry 92 = .ok (.imul, 1) := by decide +kernel
theorem dX11_carry_93 : decode cX11_carry 93 = .ok (.iadd, 1) := by decide +kernel
theorem dX11_carry_94 : decode cX11_carry 94 = .ok (.iaload, 1) := by decide +kernel
theorem dX11_carry_95 : decode cX11_carry 95 = .ok (.i2l, 1) := by decide +kernel
theorem dX11_carry_96 : decode cX11_carry 96 = .ok (.lsub, 1) := by decide +kernel
theorem dX11_carry_97 : decode cX11_carry 97 = .ok (.lconst 0, 1) := by decide +kernel
theorem dX11_carry_98 : decode cX11_carry 98 = .ok (.aload_n 0, 1) := by decide +kernel
theorem dX11_carry_99 : decode cX11_carry 99 = .ok (.getfield 7, 3) := by decide +kernel
theorem dX11_carry_102 : decode cX11_carry 102 = .ok (.iconst 3, 1) := by decide +kernel
theorem dX11_carry_103 : decode cX11_carry 103 = .ok (.iconst 4, 1) := by decide +kernel
theorem dX11_carry_104 : decode cX11_carry 104 = .ok (.iload_n 2, 1) := by decide +kernel
theorem dX11_carry_105 : decode cX11_carry 105 = .ok (.imul, 1) := by decide +kernel
theorem dX11_carry_106 : decode cX11_carry 106 = .ok (.iadd, 1) := by decide +kernel
theorem dX11_carry_107 : decode cX11_carry 107 = .ok (.iaload, 1) := by decide +kernel
theorem dX11_carry_108 : decode cX11_carry 108 = .ok (.i2l, 1) := by decide +kernel
theorem dX11_carry_109 : decode cX11_carry 109 = .ok (.lsub, 1) := by decide +kernel
theorem dX11_carry_110 : decode cX11_carry 110 = .ok (.aload_n 0, 1) := by decide +kernel
theorem dX11_carry_111 : decode cX11_carry 111 = .ok (.getfield 7, 3) := by decide +kernel
theorem dX11_carry_114 : decode cX11_carry 114 = .ok (.iconst 1, 1) := by decide +kernel
theorem dX11_carry_115 : decode cX11_carry 115 = .ok (.iconst 4, 1) := by decide +kernel
theorem dX11_carry_116 : decode cX11_carry 116 = .ok (.iload_n 2, 1) := by decide +kernel
theorem dX11_carry_117 : decode cX11_carry 117 = .ok (.imul, 1) := by decide +kernel
theorem dX11_carry_118 : decode cX11_carry 118 = .ok (.iadd, 1) := by decide +kernel
theorem dX11_carry_119 : decode cX11_carry 119 = .ok (.iaload, 1) := by decide +kernel
theorem dX11_carry_120 : decode cX11_carry 120 = .ok (.i2l, 1) := by decide +kernel
theorem dX11_carry_121 : decode cX11_carry 121 = .ok (.invokevirtual 78, 3) := by decide +kernel
theorem dX11_carry_124 : decode cX11_carry 124 = .ok (.aload_n 0, 1) := by decide +kernel
theorem dX11_carry_125 : decode cX11_carry 125 = .ok (.iload_n 1, 1) := by decide +kernel
theorem dX11_carry_126 : decode cX11_carry 126 = .ok (.invokevirtual 270, 3) := by decide +kernel
theorem dX11_carry_129 : decode cX11_carry 129 = .ok (.ireturn, 1) := by decide +kernel
theorem dX11_raise_0 : decode cX11_raise 0 = .ok (.aload_n 0, 1) := by decide +kernel
theorem dX11_raise_1 : decode cX11_raise 1 = .ok (.iload_n 1, 1) := by decide +kernel
theorem dX11_raise_2 : decode cX11_raise 2 = .ok (.invokevirtual 234, 3) := by decide +kernel
theorem dX11_raise_5 : decode cX11_raise 5 = .ok (.ifCond .ne 6, 3) := by decide +kernel
theorem dX11_raise_8 : decode cX11_raise 8 = .ok (.ldc 249, 2) := by decide +kernel
theorem dX11_raise_10 : decode cX11_raise 10 = .ok (.ireturn, 1) := by decide +kernel
theorem dX11_raise_11 : decode cX11_raise 11 = .ok (.iload_n 2, 1) := by decide +kernel
theorem dX11_raise_12 : decode cX11_raise 12 = .ok (.i2l, 1) := by decide +kernel
theorem dX11_raise_13 : decode cX11_raise 13 = .ok (.lconst 0, 1) := by decide +kernel
theorem dX11_raise_14 : decode cX11_raise 14 = .ok (.ldc2_w 273, 3) := by decide +kernel
theorem dX11_raise_17 : decode cX11_raise 17 = .ok (.invokestatic 53, 3) := by decide +kernel
theorem dX11_raise_20 : decode cX11_raise 20 = .ok (.ifCond .ne 6, 3) := by decide +kernel
theorem dX11_raise_23 : decode cX11_raise 23 = .ok (.ldc 85, 2) := by decide +kernel
theorem dX11_raise_25 : decode cX11_raise 25 = .ok (.ireturn, 1) := by decide +kernel
theorem dX11_raise_26 : decode cX11_raise 26 = .ok (.aload_n 0, 1) := by decide +kernel
theorem dX11_raise_27 : decode cX11_raise 27 = .ok (.lconst 1, 1) := by decide +kernel
theorem dX11_raise_28 : decode cX11_raise 28 = .ok (.lconst 0, 1) := by decide +kernel
theorem dX11_raise_29 : decode cX11_raise 29 = .ok (.lconst 0, 1) := by decide +kernel
theorem dX11_raise_30 : decode cX11_raise 30 = .ok (.lconst 1, 1) := by decide +kernel
theorem dX11_raise_31 : decode cX11_raise 31 = .ok (.invokevirtual 70, 3) := by decide +kernel
theorem dX11_raise_34 : decode cX11_raise 34 = .ok (.iconst 0, 1) := by decide +kernel
theorem dX11_raise_35 : decode cX11_raise 35 = .ok (.istore_n 3, 1) := by decide +kernel
theorem dX11_raise_36 : decode cX11_raise 36 = .ok (.iload_n 3, 1) := by decide +kernel
theorem dX11_raise_37 : decode cX11_raise 37 = .ok (.iload_n 2, 1) := by decide +kernel
theorem dX11_raise_38 : decode cX11_raise 38 = .ok (.if_icmp .ge 64, 3) := by decide +kernel
theorem dX11_raise_41 : decode cX11_raise 41 = .ok (.aload_n 0, 1) := by decide +kernel
theorem dX11_raise_42 : decode cX11_raise 42 = .ok (.invokevirtual 107, 3) := by decide +kernel
theorem dX11_raise_45 : decode cX11_raise 45 = .ok (.ifCond .eq 57, 3) := by decide +kernel
theorem dX11_raise_48 : decode cX11_raise 48 = .ok (.aload_n 0, 1) := by decide +kernel
theorem dX11_raise_49 : decode cX11_raise 49 = .ok (.aload_n 0, 1) := by decide +kernel
theorem dX11_raise_50 : decode cX11_raise 50 = .ok (.getfield 7, 3) := by decide +kernel
theorem dX11_raise_53 : decode cX11_raise 53 = .ok (.iconst 1, 1) := by decide +kernel
theorem dX11_raise_54 : decode cX11_raise 54 = .ok (.iconst 4, 1) := by decide +kernel
theorem dX11_raise_55 : decode cX11_raise 55 = .ok (.iload_n 1, 1) := by decide +kernel
theorem dX11_raise_56 : decode cX11_raise 56 = .ok (.imul, 1) := by decide +kernel
theorem dX11_raise_57 : decode cX11_raise 57 = .ok (.iadd, 1) := by decide +kernel
theorem dX11_raise_58 : decode cX11_raise 58 = .ok (.iaload, 1) := by decide +kernel
theorem dX11_raise_59 : decode cX11_raise 59 = .ok (.i2l, 1) := by decide +kernel
theorem dX11_raise_60 : decode cX11_raise 60 = .ok (.aload_n 0, 1) := by decide +kernel
theorem dX11_raise_61 : decode cX11_raise 61 = .ok (.getfield 7, 3) := by decide +kernel
theorem dX11_raise_64 : decode cX11_raise 64 = .ok (.iconst 2, 1) := by decide +kernel
theorem dX11_raise_65 : decode cX11_raise 65 = .ok (.iconst 4, 1) := by decide +kernel
theorem dX11_raise_66 : decode cX11_raise 66 = .ok (.iload_n 1, 1) := by decide +kernel
theorem dX11_raise_67 : decode cX11_raise 67 = .ok (.imul, 1) := by decide +kernel
theorem dX11_raise_68 : decode cX11_raise 68 = .ok (.iadd, 1) := by decide +kernel
theorem dX11_raise_69 : decode cX11_raise 69 = .ok (.iaload, 1) := by decide +kernel
theorem dX11_raise_70 : decode cX11_raise 70 = .ok (.i2l, 1) := by decide +kernel
theorem dX11_raise_71 : decode cX11_raise 71 = .ok (.aload_n 0, 1) := by decide +kernel
theorem dX11_raise_72 : decode cX11_raise 72 = .ok (.getfield 7, 3) := by decide +kernel
theorem dX11_raise_75 : decode cX11_raise 75 = .ok (.iconst 3, 1) := by decide +kernel
theorem dX11_raise_76 : decode cX11_raise 76 = .ok (.iconst 4, 1) := by decide +kernel
theorem dX11_raise_77 : decode cX11_raise 77 = .ok (.iload_n 1, 1) := by decide +kernel
theorem dX11_raise_78 : decode cX11_raise 78 = .ok (.imul, 1) := by decide +kernel
theorem dX11_raise_79 : decode cX11_raise 79 = .ok (.iadd, 1) := by decide +kernel
theorem dX11_raise_80 : decode cX11_raise 80 = .ok (.iaload, 1) := by decide +kernel
theorem dX11_raise_81 : decode cX11_raise 81 = .ok (.i2l, 1) := by decide +kernel
theorem dX11_raise_82 : decode cX11_raise 82 = .ok (.aload_n 0, 1) := by decide +kernel
theorem dX11_raise_83 : decode cX11_raise 83 = .ok (.getfield 7, 3) := by decide +kernel
theorem dX11_raise_86 : decode cX11_raise 86 = .ok (.iconst 4, 1) := by decide +kernel
theorem dX11_raise_87 : decode cX11_raise 87 = .ok (.iconst 4, 1) := by decide +kernel
theorem dX11_raise_88 : decode cX11_raise 88 = .ok (.iload_n 1, 1) := by decide +kernel
theorem dX11_raise_89 : decode cX11_raise 89 = .ok (.imul, 1) := by decide +kernel
theorem dX11_raise_90 : decode cX11_raise 90 = .ok (.iadd, 1) := by decide +kernel
theorem dX11_raise_91 : decode cX11_raise 91 = .ok (.iaload, 1) := by decide +kernel
theorem dX11_raise_92 : decode cX11_raise 92 = .ok (.i2l, 1) := by decide +kernel
theorem dX11_raise_93 : decode cX11_raise 93 = .ok (.invokevirtual 78, 3) := by decide +kernel
theorem dX11_raise_96 : decode cX11_raise 96 = .ok (.iinc 3 1, 3) := by decide +kernel
theorem dX11_raise_99 : decode cX11_raise 99 = .ok (.goto (-63), 3) := by decide +kernel
theorem dX11_raise_102 : decode cX11_raise 102 = .ok (.aload_n 0, 1) := by decide +kernel
theorem dX11_raise_103 : decode cX11_raise 103 = .ok (.iload_n 1, 1) := by decide +kernel
theorem dX11_raise_104 : decode cX11_raise 104 = .ok (.invokevirtual 270, 3) := by decide +kernel
theorem dX11_raise_107 : decode cX11_raise 107 = .ok (.ireturn, 1) := by decide +kernel
theorem dX11_take_0 : decode cX11_take 0 = .ok (.aload_n 0, 1) := by decide +kernel
theorem dX11_take_1 : decode cX11_take 1 = .ok (.iload_n 1, 1) := by decide +kernel
theorem dX11_take_2 : decode cX11_take 2 = .ok (.invokevirtual 234, 3) := by decide +kernel
theorem dX11_take_5 : decode cX11_take 5 = .ok (.ifCond .ne 6, 3) := by decide +kernel
theorem dX11_take_8 : decode cX11_take 8 = .ok (.ldc 249, 2) := by decide +kernel
theorem dX11_take_10 : decode cX11_take 10 = .ok (.ireturn, 1) := by decide +kernel
theorem dX11_take_11 : decode cX11_take 11 = .ok (.aload_n 0, 1) := by decide +kernel
theorem dX11_take_12 : decode cX11_take 12 = .ok (.invokevirtual 93, 3) := by decide +kernel
theorem dX11_take_15 : decode cX11_take 15 = .ok (.iconst 1, 1) := by decide +kernel
theorem dX11_take_16 : decode cX11_take 16 = .ok (.iconst 4, 1) := by decide +kernel
theorem dX11_take_17 : decode cX11_take 17 = .ok (.iload_n 1, 1) := by decide +kernel
theorem dX11_take_18 : decode cX11_take 18 = .ok (.imul, 1) := by decide +kernel
theorem dX11_take_19 : decode cX11_take 19 = .ok (.iadd, 1) := by decide +kernel
theorem dX11_take_20 : decode cX11_take 20 = .ok (.istore_n 2, 1) := by decide +kernel
theorem dX11_take_21 : decode cX11_take 21 = .ok (.iload_n 2, 1) := by decide +kernel
theorem dX11_take_22 : decode cX11_take 22 = .ok (.iconst 4, 1) := by decide +kernel
theorem dX11_take_23 : decode cX11_take 23 = .ok (.iadd, 1) := by decide +kernel
theorem dX11_take_24 : decode cX11_take 24 = .ok (.bipush 49, 2) := by decide +kernel
theorem dX11_take_26 : decode cX11_take 26 = .ok (.if_icmp .ge 23, 3) := by decide +kernel
theorem dX11_take_29 : decode cX11_take 29 = .ok (.aload_n 0, 1) := by decide +kernel
theorem dX11_take_30 : decode cX11_take 30 = .ok (.getfield 7, 3) := by decide +kernel
theorem dX11_take_33 : decode cX11_take 33 = .ok (.iload_n 2, 1) := by decide +kernel
theorem dX11_take_34 : decode cX11_take 34 = .ok (.aload_n 0, 1) := by decide +kernel
theorem dX11_take_35 : decode cX11_take 35 = .ok (.getfield 7, 3) := by decide +kernel
theorem dX11_take_38 : decode cX11_take 38 = .ok (.iload_n 2, 1) := by decide +kernel
theorem dX11_take_39 : decode cX11_take 39 = .ok (.iconst 4, 1) := by decide +kernel
theorem dX11_take_40 : decode cX11_take 40 = .ok (.iadd, 1) := by decide +kernel
theorem dX11_take_41 : decode cX11_take 41 = .ok (.iaload, 1) := by decide +kernel
theorem dX11_take_42 : decode cX11_take 42 = .ok (.iastore, 1) := by decide +kernel
theorem dX11_take_43 : decode cX11_take 43 = .ok (.iinc 2 1, 3) := by decide +kernel
theorem dX11_take_46 : decode cX11_take 46 = .ok (.goto (-25), 3) := by decide +kernel
theorem dX11_take_49 : decode cX11_take 49 = .ok (.aload_n 0, 1) := by decide +kernel
theorem dX11_take_50 : decode cX11_take 50 = .ok (.getfield 7, 3) := by decide +kernel
theorem dX11_take_53 : decode cX11_take 53 = .ok (.iconst 0, 1) := by decide +kernel
theorem dX11_take_54 : decode cX11_take 54 = .ok (.dup2, 1) := by decide +kernel
theorem dX11_take_55 : decode cX11_take 55 = .ok (.iaload, 1) := by decide +kernel
theorem dX11_take_56 : decode cX11_take 56 = .ok (.iconst 1, 1) := by decide +kernel
theorem dX11_take_57 : decode cX11_take 57 = .ok (.isub, 1) := by decide +kernel
theorem dX11_take_58 : decode cX11_take 58 = .ok (.iastore, 1) := by decide +kernel
theorem dX11_take_59 : decode cX11_take 59 = .ok (.aload_n 0, 1) := by decide +kernel
theorem dX11_take_60 : decode cX11_take 60 = .ok (.getfield 7, 3) := by decide +kernel
theorem dX11_take_63 : decode cX11_take 63 = .ok (.iconst 0, 1) := by decide +kernel
theorem dX11_take_64 : decode cX11_take 64 = .ok (.iaload, 1) := by decide +kernel
theorem dX11_take_65 : decode cX11_take 65 = .ok (.ireturn, 1) := by decide +kernel
theorem dX11_draw_0 : decode cX11_draw 0 = .ok (.aload_n 0, 1) := by decide +kernel
theorem dX11_draw_1 : decode cX11_draw 1 = .ok (.aload_n 0, 1) := by decide +kernel
theorem dX11_draw_2 : decode cX11_draw 2 = .ok (.getfield 275, 3) := by decide +kernel
theorem dX11_draw_5 : decode cX11_draw 5 = .ok (.i2l, 1) := by decide +kernel
theorem dX11_draw_6 : decode cX11_draw 6 = .ok (.ldc2_w 278, 3) := by decide +kernel
theorem dX11_draw_9 : decode cX11_draw 9 = .ok (.lmul, 1) := by decide +kernel
theorem dX11_draw_10 : decode cX11_draw 10 = .ok (.ldc2_w 280, 3) := by decide +kernel
theorem dX11_draw_13 : decode cX11_draw 13 = .ok (.ladd, 1) := by decide +kernel
theorem dX11_draw_14 : decode cX11_draw 14 = .ok (.ldc2_w 282, 3) := by decide +kernel
theorem dX11_draw_17 : decode cX11_draw 17 = .ok (.lrem, 1) := by decide +kernel
theorem dX11_draw_18 : decode cX11_draw 18 = .ok (.l2i, 1) := by decide +kernel
theorem dX11_draw_19 : decode cX11_draw 19 = .ok (.putfield 275, 3) := by decide +kernel
theorem dX11_draw_22 : decode cX11_draw 22 = .ok (.aload_n 0, 1) := by decide +kernel
theorem dX11_draw_23 : decode cX11_draw 23 = .ok (.getfield 275, 3) := by decide +kernel
theorem dX11_draw_26 : decode cX11_draw 26 = .ok (.ldc_w 284, 3) := by decide +kernel
theorem dX11_draw_29 : decode cX11_draw 29 = .ok (.idiv, 1) := by decide +kernel
theorem dX11_draw_30 : decode cX11_draw 30 = .ok (.iload_n 1, 1) := by decide +kernel
theorem dX11_draw_31 : decode cX11_draw 31 = .ok (.irem, 1) := by decide +kernel
theorem dX11_draw_32 : decode cX11_draw 32 = .ok (.ireturn, 1) := by decide +kernel
theorem dX11_drift_0 : decode cX11_drift 0 = .ok (.iload_n 1, 1) := by decide +kernel
theorem dX11_drift_1 : decode cX11_drift 1 = .ok (.i2l, 1) := by decide +kernel
theorem dX11_drift_2 : decode cX11_drift 2 = .ok (.lconst 1, 1) := by decide +kernel
theorem dX11_drift_3 : decode cX11_drift 3 = .ok (.ldc2_w 285, 3) := by decide +kernel
theorem dX11_drift_6 : decode cX11_drift 6 = .ok (.invokestatic 53, 3) := by decide +kernel
theorem dX11_drift_9 : decode cX11_drift 9 = .ok (.ifCond .ne 6, 3) := by decide +kernel
theorem dX11_drift_12 : decode cX11_drift 12 = .ok (.ldc 85, 2) := by decide +kernel
theorem dX11_drift_14 : decode cX11_drift 14 = .ok (.ireturn, 1) := by decide +kernel
theorem dX11_drift_15 : decode cX11_drift 15 = .ok (.iconst 0, 1) := by decide +kernel
theorem dX11_drift_16 : decode cX11_drift 16 = .ok (.istore_n 2, 1) := by decide +kernel
theorem dX11_drift_17 : decode cX11_drift 17 = .ok (.iload_n 2, 1) := by decide +kernel
theorem dX11_drift_18 : decode cX11_drift 18 = .ok (.iload_n 1, 1) := by decide +kernel
theorem dX11_drift_19 : decode cX11_drift 19 = .ok (.if_icmp .ge 68, 3) := by decide +kernel
theorem dX11_drift_22 : decode cX11_drift 22 = .ok (.aload_n 0, 1) := by decide +kernel
theorem dX11_drift_23 : decode cX11_drift 23 = .ok (.getfield 7, 3) := by decide +kernel
theorem dX11_drift_26 : decode cX11_drift 26 = .ok (.iconst 0, 1) := by decide +kernel
theorem dX11_drift_27 : decode cX11_drift 27 = .ok (.iaload, 1) := by decide +kernel
theorem dX11_drift_28 : decode cX11_drift 28 = .ok (.bipush 12, 2) := by decide +kernel
theorem dX11_drift_30 : decode cX11_drift 30 = .ok (.if_icmp .ge 57, 3) := by decide +kernel
theorem dX11_drift_33 : decode cX11_drift 33 = .ok (.aload_n 0, 1) := by decide +kernel
theorem dX11_drift_34 : decode cX11_drift 34 = .ok (.bipush 8, 2) := by decide +kernel
theorem dX11_drift_36 : decode cX11_drift 36 = .ok (.invokevirtual 287, 3) := by decide +kernel
theorem dX11_drift_39 : decode cX11_drift 39 = .ok (.iconst 2, 1) := by decide +kernel
theorem dX11_drift_40 : decode cX11_drift 40 = .ok (.iadd, 1) := by decide +kernel
theorem dX11_drift_41 : decode cX11_drift 41 = .ok (.istore_n 3, 1) := by decide +kernel
theorem dX11_drift_42 : decode cX11_drift 42 = .ok (.aload_n 0, 1) := by decide +kernel
theorem dX11_drift_43 : decode cX11_drift 43 = .ok (.lconst 1, 1) := by decide +kernel
theorem dX11_drift_44 : decode cX11_drift 44 = .ok (.lconst 0, 1) := by decide +kernel
theorem dX11_drift_45 : decode cX11_drift 45 = .ok (.lconst 0, 1) := by decide +kernel
theorem dX11_drift_46 : decode cX11_drift 46 = .ok (.lconst 1, 1) := by decide +kernel
theorem dX11_drift_47 : decode cX11_drift 47 = .ok (.invokevirtual 70, 3) := by decide +kernel
theorem dX11_drift_50 : decode cX11_drift 50 = .ok (.iconst 0, 1) := by decide +kernel
theorem dX11_drift_51 : decode cX11_drift 51 = .ok (.istore 4, 2) := by decide +kernel
theorem dX11_drift_53 : decode cX11_drift 53 = .ok (.iload 4, 2) := by decide +kernel
theorem dX11_drift_55 : decode cX11_drift 55 = .ok (.iload_n 3, 1) := by decide +kernel
theorem dX11_drift_56 : decode cX11_drift 56 = .ok (.if_icmp .ge 19, 3) := by decide +kernel
theorem dX11_drift_59 : decode cX11_drift 59 = .ok (.aload_n 0, 1) := by decide +kernel
theorem dX11_drift_60 : decode cX11_drift 60 = .ok (.aload_n 0, 1) := by decide +kernel
theorem dX11_drift_61 : decode cX11_drift 61 = .ok (.bipush 6, 2) := by decide +kernel
theorem dX11_drift_63 : decode cX11_drift 63 = .ok (.invokevirtual 287, 3) := by decide +kernel
theorem dX11_drift_66 : decode cX11_drift 66 = .ok (.invokevirtual 104, 3) := by decide +kernel
theorem dX11_drift_69 : decode cX11_drift 69 = .ok (.iinc 4 1, 3) := by decide +kernel
theorem dX11_drift_72 : decode cX11_drift 72 = .ok (.goto (-19), 3) := by decide +kernel
theorem dX11_drift_75 : decode cX11_drift 75 = .ok (.aload_n 0, 1) := by decide +kernel
theorem dX11_drift_76 : decode cX11_drift 76 = .ok (.invokevirtual 111, 3) := by decide +kernel
theorem dX11_drift_79 : decode cX11_drift 79 = .ok (.istore 4, 2) := by decide +kernel
theorem dX11_drift_81 : decode cX11_drift 81 = .ok (.iinc 2 1, 3) := by decide +kernel
theorem dX11_drift_84 : decode cX11_drift 84 = .ok (.goto (-67), 3) := by decide +kernel
theorem dX11_drift_87 : decode cX11_drift 87 = .ok (.aload_n 0, 1) := by decide +kernel
theorem dX11_drift_88 : decode cX11_drift 88 = .ok (.getfield 7, 3) := by decide +kernel
theorem dX11_drift_91 : decode cX11_drift 91 = .ok (.iconst 0, 1) := by decide +kernel
theorem dX11_drift_92 : decode cX11_drift 92 = .ok (.iaload, 1) := by decide +kernel
theorem dX11_drift_93 : decode cX11_drift 93 = .ok (.ireturn, 1) := by decide +kernel
theorem dX11_undo_0 : decode cX11_undo 0 = .ok (.iload_n 1, 1) := by decide +kernel
theorem dX11_undo_1 : decode cX11_undo 1 = .ok (.i2l, 1) := by decide +kernel
theorem dX11_undo_2 : decode cX11_undo 2 = .ok (.lconst 1, 1) := by decide +kernel
theorem dX11_undo_3 : decode cX11_undo 3 = .ok (.ldc2_w 273, 3) := by decide +kernel
theorem dX11_undo_6 : decode cX11_undo 6 = .ok (.invokestatic 53, 3) := by decide +kernel
theorem dX11_undo_9 : decode cX11_undo 9 = .ok (.ifCond .ne 6, 3) := by decide +kernel
theorem dX11_undo_12 : decode cX11_undo 12 = .ok (.ldc 85, 2) := by decide +kernel
theorem dX11_undo_14 : decode cX11_undo 14 = .ok (.ireturn, 1) := by decide +kernel
theorem dX11_undo_15 : decode cX11_undo 15 = .ok (.iload_n 1, 1) := by decide +kernel
theorem dX11_undo_16 : decode cX11_undo 16 = .ok (.aload_n 0, 1) := by decide +kernel
theorem dX11_undo_17 : decode cX11_undo 17 = .ok (.getfield 90, 3) := by decide +kernel
theorem dX11_undo_20 : decode cX11_undo 20 = .ok (.if_icmp .le 6, 3) := by decide +kernel
theorem dX11_undo_23 : decode cX11_undo 23 = .ok (.ldc 115, 2) := by decide +kernel
theorem dX11_undo_25 : decode cX11_undo 25 = .ok (.ireturn, 1) := by decide +kernel
theorem dX11_undo_26 : decode cX11_undo 26 = .ok (.aload_n 0, 1) := by decide +kernel
theorem dX11_undo_27 : decode cX11_undo 27 = .ok (.dup, 1) := by decide +kernel
theorem dX11_undo_28 : decode cX11_undo 28 = .ok (.getfield 90, 3) := by decide +kernel
theorem dX11_undo_31 : decode cX11_undo 31 = .ok (.iload_n 1, 1) := by decide +kernel
theorem dX11_undo_32 : decode cX11_undo 32 = .ok (.isub, 1) := by decide +kernel
theorem dX11_undo_33 : decode cX11_undo 33 = .ok (.putfield 90, 3) := by decide +kernel
theorem dX11_undo_36 : decode cX11_undo 36 = .ok (.iconst 0, 1) := by decide +kernel
theorem dX11_undo_37 : decode cX11_undo 37 = .ok (.istore_n 2, 1) := by decide +kernel
theorem dX11_undo_38 : decode cX11_undo 38 = .ok (.iload_n 2, 1) := by decide +kernel
theorem dX11_undo_39 : decode cX11_undo 39 = .ok (.bipush 49, 2) := by decide +kernel
theorem dX11_undo_41 : decode cX11_undo 41 = .ok (.if_icmp .ge 29, 3) := by decide +kernel
theorem dX11_undo_44 : decode cX11_undo 44 = .ok (.aload_n 0, 1) := by decide +kernel
theorem dX11_undo_45 : decode cX11_undo 45 = .ok (.getfield 7, 3) := by decide +kernel
theorem dX11_undo_48 : decode cX11_undo 48 = .ok (.iload_n 2, 1) := by decide +kernel
theorem dX11_undo_49 : decode cX11_undo 49 = .ok (.aload_n 0, 1) := by decide +kernel
theorem dX11_undo_50 : decode cX11_undo 50 = .ok (.getfield 13, 3) := by decide +kernel
theorem dX11_undo_53 : decode cX11_undo 53 = .ok (.bipush 49, 2) := by decide +kernel
theorem dX11_undo_55 : decode cX11_undo 55 = .ok (.aload_n 0, 1) := by decide +kernel
theorem dX11_undo_56 : decode cX11_undo 56 = .ok (.getfield 90, 3) := by decide +kernel
theorem dX11_undo_59 : decode cX11_undo 59 = .ok (.imul, 1) := by decide +kernel
theorem dX11_undo_60 : decode cX11_undo 60 = .ok (.iload_n 2, 1) := by decide +kernel
theorem dX11_undo_61 : decode cX11_undo 61 = .ok (.iadd, 1) := by decide +kernel
theorem dX11_undo_62 : decode cX11_undo 62 = .ok (.iaload, 1) := by decide +kernel
theorem dX11_undo_63 : decode cX11_undo 63 = .ok (.iastore, 1) := by decide +kernel
theorem dX11_undo_64 : decode cX11_undo 64 = .ok (.iinc 2 1, 3) := by decide +kernel
theorem dX11_undo_67 : decode cX11_undo 67 = .ok (.goto (-29), 3) := by decide +kernel
theorem dX11_undo_70 : decode cX11_undo 70 = .ok (.aload_n 0, 1) := by decide +kernel
theorem dX11_undo_71 : decode cX11_undo 71 = .ok (.getfield 7, 3) := by decide +kernel
theorem dX11_undo_74 : decode cX11_undo 74 = .ok (.iconst 0, 1) := by decide +kernel
theorem dX11_undo_75 : decode cX11_undo 75 = .ok (.iaload, 1) := by decide +kernel
theorem dX11_undo_76 : decode cX11_undo 76 = .ok (.ireturn, 1) := by decide +kernel
theorem dX11_isProduct_0 : decode cX11_isProduct 0 = .ok (.aload_n 0, 1) := by decide +kernel
theorem dX11_isProduct_1 : decode cX11_isProduct 1 = .ok (.getfield 7, 3) := by decide +kernel
theorem dX11_isProduct_4 : decode cX11_isProduct 4 = .ok (.iconst 1, 1) := by decide +kernel
theorem dX11_isProduct_5 : decode cX11_isProduct 5 = .ok (.iconst 4, 1) := by decide +kernel
theorem dX11_isProduct_6 : decode cX11_isProduct 6 = .ok (.iload_n 1, 1) := by decide +kernel
theorem dX11_isProduct_7 : decode cX11_isProduct 7 = .ok (.imul, 1) := by decide +kernel
theorem dX11_isProduct_8 : decode cX11_isProduct 8 = .ok (.iadd, 1) := by decide +kernel
theorem dX11_isProduct_9 : decode cX11_isProduct 9 = .ok (.iaload, 1) := by decide +kernel
theorem dX11_isProduct_10 : decode cX11_isProduct 10 = .ok (.ifCond .lt 46, 3) := by decide +kernel
theorem dX11_isProduct_13 : decode cX11_isProduct 13 = .ok (.aload_n 0, 1) := by decide +kernel
theorem dX11_isProduct_14 : decode cX11_isProduct 14 = .ok (.getfield 7, 3) := by decide +kernel
theorem dX11_isProduct_17 : decode cX11_isProduct 17 = .ok (.iconst 2, 1) := by decide +kernel
theorem dX11_isProduct_18 : decode cX11_isProduct 18 = .ok (.iconst 4, 1) := by decide +kernel
theorem dX11_isProduct_19 : decode cX11_isProduct 19 = .ok (.iload_n 1, 1) := by decide +kernel
theorem dX11_isProduct_20 : decode cX11_isProduct 20 = .ok (.imul, 1) := by decide +kernel
theorem dX11_isProduct_21 : decode cX11_isProduct 21 = .ok (.iadd, 1) := by decide +kernel
theorem dX11_isProduct_22 : decode cX11_isProduct 22 = .ok (.iaload, 1) := by decide +kernel
theorem dX11_isProduct_23 : decode cX11_isProduct 23 = .ok (.ifCond .lt 33, 3) := by decide +kernel
theorem dX11_isProduct_26 : decode cX11_isProduct 26 = .ok (.aload_n 0, 1) := by decide +kernel
theorem dX11_isProduct_27 : decode cX11_isProduct 27 = .ok (.getfield 7, 3) := by decide +kernel
theorem dX11_isProduct_30 : decode cX11_isProduct 30 = .ok (.iconst 3, 1) := by decide +kernel
theorem dX11_isProduct_31 : decode cX11_isProduct 31 = .ok (.iconst 4, 1) := by decide +kernel
theorem dX11_isProduct_32 : decode cX11_isProduct 32 = .ok (.iload_n 1, 1) := by decide +kernel
theorem dX11_isProduct_33 : decode cX11_isProduct 33 = .ok (.imul, 1) := by decide +kernel
theorem dX11_isProduct_34 : decode cX11_isProduct 34 = .ok (.iadd, 1) := by decide +kernel
theorem dX11_isProduct_35 : decode cX11_isProduct 35 = .ok (.iaload, 1) := by decide +kernel
theorem dX11_isProduct_36 : decode cX11_isProduct 36 = .ok (.ifCond .lt 20, 3) := by decide +kernel
theorem dX11_isProduct_39 : decode cX11_isProduct 39 = .ok (.aload_n 0, 1) := by decide +kernel
theorem dX11_isProduct_40 : decode cX11_isProduct 40 = .ok (.getfield 7, 3) := by decide +kernel
theorem dX11_isProduct_43 : decode cX11_isProduct 43 = .ok (.iconst 4, 1) := by decide +kernel
theorem dX11_isProduct_44 : decode cX11_isProduct 44 = .ok (.iconst 4, 1) := by decide +kernel
theorem dX11_isProduct_45 : decode cX11_isProduct 45 = .ok (.iload_n 1, 1) := by decide +kernel
theorem dX11_isProduct_46 : decode cX11_isProduct 46 = .ok (.imul, 1) := by decide +kernel
theorem dX11_isProduct_47 : decode cX11_isProduct 47 = .ok (.iadd, 1) := by decide +kernel
theorem dX11_isProduct_48 : decode cX11_isProduct 48 = .ok (.iaload, 1) := by decide +kernel
theorem dX11_isProduct_49 : decode cX11_isProduct 49 = .ok (.ifCond .lt 7, 3) := by decide +kernel
theorem dX11_isProduct_52 : decode cX11_isProduct 52 = .ok (.iconst 1, 1) := by decide +kernel
theorem dX11_isProduct_53 : decode cX11_isProduct 53 = .ok (.goto 4, 3) := by decide +kernel
theorem dX11_isProduct_56 : decode cX11_isProduct 56 = .ok (.iconst 0, 1) := by decide +kernel
theorem dX11_isProduct_57 : decode cX11_isProduct 57 = .ok (.ireturn, 1) := by decide +kernel
theorem dX11_goTogether_0 : decode cX11_goTogether 0 = .ok (.aload_n 0, 1) := by decide +kernel
theorem dX11_goTogether_1 : decode cX11_goTogether 1 = .ok (.iload_n 1, 1) := by decide +kernel
theorem dX11_goTogether_2 : decode cX11_goTogether 2 = .ok (.invokevirtual 207, 3) := by decide +kernel
theorem dX11_goTogether_5 : decode cX11_goTogether 5 = .ok (.aload_n 0, 1) := by decide +kernel
theorem dX11_goTogether_6 : decode cX11_goTogether 6 = .ok (.aload_n 0, 1) := by decide +kernel
theorem dX11_goTogether_7 : decode cX11_goTogether 7 = .ok (.getfield 7, 3) := by decide +kernel
theorem dX11_goTogether_10 : decode cX11_goTogether 10 = .ok (.iconst 1, 1) := by decide +kernel
theorem dX11_goTogether_11 : decode cX11_goTogether 11 = .ok (.iconst 4, 1) := by decide +kernel
theorem dX11_goTogether_12 : decode cX11_goTogether 12 = .ok (.iload_n 2, 1) := by decide +kernel
theorem dX11_goTogether_13 : decode cX11_goTogether 13 = .ok (.imul, 1) := by decide +kernel
theorem dX11_goTogether_14 : decode cX11_goTogether 14 = .ok (.iadd, 1) := by decide +kernel
theorem dX11_goTogether_15 : decode cX11_goTogether 15 = .ok (.iaload, 1) := by decide +kernel
theorem dX11_goTogether_16 : decode cX11_goTogether 16 = .ok (.i2l, 1) := by decide +kernel
theorem dX11_goTogether_17 : decode cX11_goTogether 17 = .ok (.aload_n 0, 1) := by decide +kernel
theorem dX11_goTogether_18 : decode cX11_goTogether 18 = .ok (.getfield 7, 3) := by decide +kernel
theorem dX11_goTogether_21 : decode cX11_goTogether 21 = .ok (.iconst 2, 1) := by decide +kernel
theorem dX11_goTogether_22 : decode cX11_goTogether 22 = .ok (.iconst 4, 1) := by decide +kernel
theorem dX11_goTogether_23 : decode cX11_goTogether 23 = .ok (.iload_n 2, 1) := by decide +kernel
theorem dX11_goTogether_24 : decode cX11_goTogether 24 = .ok (.imul, 1) := by decide +kernel
theorem dX11_goTogether_25 : decode cX11_goTogether 25 = .ok (.iadd, 1) := by decide +kernel
theorem dX11_goTogether_26 : decode cX11_goTogether 26 = .ok (.iaload, 1) := by decide +kernel
theorem dX11_goTogether_27 : decode cX11_goTogether 27 = .ok (.i2l, 1) := by decide +kernel
theorem dX11_goTogether_28 : decode cX11_goTogether 28 = .ok (.aload_n 0, 1) := by decide +kernel
theorem dX11_goTogether_29 : decode cX11_goTogether 29 = .ok (.getfield 7, 3) := by decide +kernel
theorem dX11_goTogether_32 : decode cX11_goTogether 32 = .ok (.iconst 3, 1) := by decide +kernel
theorem dX11_goTogether_33 : decode cX11_goTogether 33 = .ok (.iconst 4, 1) := by decide +kernel
theorem dX11_goTogether_34 : decode cX11_goTogether 34 = .ok (.iload_n 2, 1) := by decide +kernel
theorem dX11_goTogether_35 : decode cX11_goTogether 35 = .ok (.imul, 1) := by decide +kernel
theorem dX11_goTogether_36 : decode cX11_goTogether 36 = .ok (.iadd, 1) := by decide +kernel
theorem dX11_goTogether_37 : decode cX11_goTogether 37 = .ok (.iaload, 1) := by decide +kernel
theorem dX11_goTogether_38 : decode cX11_goTogether 38 = .ok (.i2l, 1) := by decide +kernel
theorem dX11_goTogether_39 : decode cX11_goTogether 39 = .ok (.aload_n 0, 1) := by decide +kernel
theorem dX11_goTogether_40 : decode cX11_goTogether 40 = .ok (.getfield 7, 3) := by decide +kernel
theorem dX11_goTogether_43 : decode cX11_goTogether 43 = .ok (.iconst 4, 1) := by decide +kernel
theorem dX11_goTogether_44 : decode cX11_goTogether 44 = .ok (.iconst 4, 1) := by decide +kernel
theorem dX11_goTogether_45 : decode cX11_goTogether 45 = .ok (.iload_n 2, 1) := by decide +kernel
theorem dX11_goTogether_46 : decode cX11_goTogether 46 = .ok (.imul, 1) := by decide +kernel
theorem dX11_goTogether_47 : decode cX11_goTogether 47 = .ok (.iadd, 1) := by decide +kernel
theorem dX11_goTogether_48 : decode cX11_goTogether 48 = .ok (.iaload, 1) := by decide +kernel
theorem dX11_goTogether_49 : decode cX11_goTogether 49 = .ok (.i2l, 1) := by decide +kernel
theorem dX11_goTogether_50 : decode cX11_goTogether 50 = .ok (.invokevirtual 78, 3) := by decide +kernel
theorem dX11_goTogether_53 : decode cX11_goTogether 53 = .ok (.aload_n 0, 1) := by decide +kernel
theorem dX11_goTogether_54 : decode cX11_goTogether 54 = .ok (.getfield 45, 3) := by decide +kernel
theorem dX11_goTogether_57 : decode cX11_goTogether 57 = .ok (.iconst 0, 1) := by decide +kernel
theorem dX11_goTogether_58 : decode cX11_goTogether 58 = .ok (.aload_n 0, 1) := by decide +kernel
theorem dX11_goTogether_59 : decode cX11_goTogether 59 = .ok (.getfield 57, 3) := by decide +kernel
theorem dX11_goTogether_62 : decode cX11_goTogether 62 = .ok (.lastore, 1) := by decide +kernel
theorem dX11_goTogether_63 : decode cX11_goTogether 63 = .ok (.aload_n 0, 1) := by decide +kernel
theorem dX11_goTogether_64 : decode cX11_goTogether 64 = .ok (.getfield 45, 3) := by decide +kernel
theorem dX11_goTogether_67 : decode cX11_goTogether 67 = .ok (.iconst 1, 1) := by decide +kernel
theorem dX11_goTogether_68 : decode cX11_goTogether 68 = .ok (.aload_n 0, 1) := by decide +kernel
theorem dX11_goTogether_69 : decode cX11_goTogether 69 = .ok (.getfield 61, 3) := by decide +kernel
theorem dX11_goTogether_72 : decode cX11_goTogether 72 = .ok (.lastore, 1) := by decide +kernel
theorem dX11_goTogether_73 : decode cX11_goTogether 73 = .ok (.aload_n 0, 1) := by decide +kernel
theorem dX11_goTogether_74 : decode cX11_goTogether 74 = .ok (.getfield 45, 3) := by decide +kernel
theorem dX11_goTogether_77 : decode cX11_goTogether 77 = .ok (.iconst 2, 1) := by decide +kernel
theorem dX11_goTogether_78 : decode cX11_goTogether 78 = .ok (.aload_n 0, 1) := by decide +kernel
theorem dX11_goTogether_79 : decode cX11_goTogether 79 = .ok (.getfield 64, 3) := by decide +kernel
theorem dX11_goTogether_82 : decode cX11_goTogether 82 = .ok (.lastore, 1) := by decide +kernel
theorem dX11_goTogether_83 : decode cX11_goTogether 83 = .ok (.aload_n 0, 1) := by decide +kernel
theorem dX11_goTogether_84 : decode cX11_goTogether 84 = .ok (.getfield 45, 3) := by decide +kernel
theorem dX11_goTogether_87 : decode cX11_goTogether 87 = .ok (.iconst 3, 1) := by decide +kernel
theorem dX11_goTogether_88 : decode cX11_goTogether 88 = .ok (.aload_n 0, 1) := by decide +kernel
theorem dX11_goTogether_89 : decode cX11_goTogether 89 = .ok (.getfield 67, 3) := by decide +kernel
theorem dX11_goTogether_92 : decode cX11_goTogether 92 = .ok (.lastore, 1) := by decide +kernel
theorem dX11_goTogether_93 : decode cX11_goTogether 93 = .ok (.aload_n 0, 1) := by decide +kernel
theorem dX11_goTogether_94 : decode cX11_goTogether 94 = .ok (.iload_n 2, 1) := by decide +kernel
theorem dX11_goTogether_95 : decode cX11_goTogether 95 = .ok (.invokevirtual 207, 3) := by decide +kernel
theorem dX11_goTogether_98 : decode cX11_goTogether 98 = .ok (.aload_n 0, 1) := by decide +kernel
theorem dX11_goTogether_99 : decode cX11_goTogether 99 = .ok (.aload_n 0, 1) := by decide +kernel
theorem dX11_goTogether_100 : decode cX11_goTogether 100 = .ok (.getfield 7, 3) := by decide +kernel
theorem dX11_goTogether_103 : decode cX11_goTogether 103 = .ok (.iconst 1, 1) := by decide +kernel
theorem dX11_goTogether_104 : decode cX11_goTogether 104 = .ok (.iconst 4, 1) := by decide +kernel
theorem dX11_goTogether_105 : decode cX11_goTogether 105 = .ok (.iload_n 1, 1) := by decide +kernel
theorem dX11_goTogether_106 : decode cX11_goTogether 106 = .ok (.imul, 1) := by decide +kernel
theorem dX11_goTogether_107 : decode cX11_goTogether 107 = .ok (.iadd, 1) := by decide +kernel
theorem dX11_goTogether_108 : decode cX11_goTogether 108 = .ok (.iaload, 1) := by decide +kernel
theorem dX11_goTogether_109 : decode cX11_goTogether 109 = .ok (.i2l, 1) := by decide +kernel
theorem dX11_goTogether_110 : decode cX11_goTogether 110 = .ok (.aload_n 0, 1) := by decide +kernel
theorem dX11_goTogether_111 : decode cX11_goTogether 111 = .ok (.getfield 7, 3) := by decide +kernel
theorem dX11_goTogether_114 : decode cX11_goTogether 114 = .ok (.iconst 2, 1) := by decide +kernel
theorem dX11_goTogether_115 : decode cX11_goTogether 115 = .ok (.iconst 4, 1) := by decide +kernel
theorem dX11_goTogether_116 : decode cX11_goTogether 116 = .ok (.iload_n 1, 1) := by decide +kernel
theorem dX11_goTogether_117 : decode cX11_goTogether 117 = .ok (.imul, 1) := by decide +kernel
theorem dX11_goTogether_118 : decode cX11_goTogether 118 = .ok (.iadd, 1) := by decide +kernel
theorem dX11_goTogether_119 : decode cX11_goTogether 119 = .ok (.iaload, 1) := by decide +kernel
theorem dX11_goTogether_120 : decode cX11_goTogether 120 = .ok (.i2l, 1) := by decide +kernel
theorem dX11_goTogether_121 : decode cX11_goTogether 121 = .ok (.aload_n 0, 1) := by decide +kernel
theorem dX11_goTogether_122 : decode cX11_goTogether 122 = .ok (.getfield 7, 3) := by decide +kernel
theorem dX11_goTogether_125 : decode cX11_goTogether 125 = .ok (.iconst 3, 1) := by decide +kernel
theorem dX11_goTogether_126 : decode cX11_goTogether 126 = .ok (.iconst 4, 1) := by decide +kernel
theorem dX11_goTogether_127 : decode cX11_goTogether 127 = .ok (.iload_n 1, 1) := by decide +kernel
theorem dX11_goTogether_128 : decode cX11_goTogether 128 = .ok (.imul, 1) := by decide +kernel
theorem dX11_goTogether_129 : decode cX11_goTogether 129 = .ok (.iadd, 1) := by decide +kernel
theorem dX11_goTogether_130 : decode cX11_goTogether 130 = .ok (.iaload, 1) := by decide +kernel
theorem dX11_goTogether_131 : decode cX11_goTogether 131 = .ok (.i2l, 1) := by decide +kernel
theorem dX11_goTogether_132 : decode cX11_goTogether 132 = .ok (.aload_n 0, 1) := by decide +kernel
theorem dX11_goTogether_133 : decode cX11_goTogether 133 = .ok (.getfield 7, 3) := by decide +kernel
theorem dX11_goTogether_136 : decode cX11_goTogether 136 = .ok (.iconst 4, 1) := by decide +kernel
theorem dX11_goTogether_137 : decode cX11_goTogether 137 = .ok (.iconst 4, 1) := by decide +kernel
theorem dX11_goTogether_138 : decode cX11_goTogether 138 = .ok (.iload_n 1, 1) := by decide +kernel
theorem dX11_goTogether_139 : decode cX11_goTogether 139 = .ok (.imul, 1) := by decide +kernel
theorem dX11_goTogether_140 : decode cX11_goTogether 140 = .ok (.iadd, 1) := by decide +kernel
theorem dX11_goTogether_141 : decode cX11_goTogether 141 = .ok (.iaload, 1) := by decide +kernel
theorem dX11_goTogether_142 : decode cX11_goTogether 142 = .ok (.i2l, 1) := by decide +kernel
theorem dX11_goTogether_143 : decode cX11_goTogether 143 = .ok (.invokevirtual 78, 3) := by decide +kernel
theorem dX11_goTogether_146 : decode cX11_goTogether 146 = .ok (.aload_n 0, 1) := by decide +kernel
theorem dX11_goTogether_147 : decode cX11_goTogether 147 = .ok (.getfield 57, 3) := by decide +kernel
theorem dX11_goTogether_150 : decode cX11_goTogether 150 = .ok (.aload_n 0, 1) := by decide +kernel
theorem dX11_goTogether_151 : decode cX11_goTogether 151 = .ok (.getfield 45, 3) := by decide +kernel
theorem dX11_goTogether_154 : decode cX11_goTogether 154 = .ok (.iconst 0, 1) := by decide +kernel
theorem dX11_goTogether_155 : decode cX11_goTogether 155 = .ok (.laload, 1) := by decide +kernel
theorem dX11_goTogether_156 : decode cX11_goTogether 156 = .ok (.lcmp, 1) := by decide +kernel
theorem dX11_goTogether_157 : decode cX11_goTogether 157 = .ok (.ifCond .ne 49, 3) := by decide +kernel
theorem dX11_goTogether_160 : decode cX11_goTogether 160 = .ok (.aload_n 0, 1) := by decide +kernel
theorem dX11_goTogether_161 : decode cX11_goTogether 161 = .ok (.getfield 61, 3) := by decide +kernel
theorem dX11_goTogether_164 : decode cX11_goTogether 164 = .ok (.aload_n 0, 1) := by decide +kernel
theorem dX11_goTogether_165 : decode cX11_goTogether 165 = .ok (.getfield 45, 3) := by decide +kernel
theorem dX11_goTogether_168 : decode cX11_goTogether 168 = .ok (.iconst 1, 1) := by decide +kernel
theorem dX11_goTogether_169 : decode cX11_goTogether 169 = .ok (.laload, 1) := by decide +kernel
theorem dX11_goTogether_170 : decode cX11_goTogether 170 = .ok (.lcmp, 1) := by decide +kernel
theorem dX11_goTogether_171 : decode cX11_goTogether 171 = .ok (.ifCond .ne 35, 3) := by decide +kernel
theorem dX11_goTogether_174 : decode cX11_goTogether 174 = .ok (.aload_n 0, 1) := by decide +kernel
theorem dX11_goTogether_175 : decode cX11_goTogether 175 = .ok (.getfield 64, 3) := by decide +kernel
theorem dX11_goTogether_178 : decode cX11_goTogether 178 = .ok (.aload_n 0, 1) := by decide +kernel
theorem dX11_goTogether_179 : decode cX11_goTogether 179 = .ok (.getfield 45, 3) := by decide +kernel
theorem dX11_goTogether_182 : decode cX11_goTogether 182 = .ok (.iconst 2, 1) := by decide +kernel
theorem dX11_goTogether_183 : decode cX11_goTogether 183 = .ok (.laload, 1) := by decide +kernel
theorem dX11_goTogether_184 : decode cX11_goTogether 184 = .ok (.lcmp, 1) := by decide +kernel
theorem dX11_goTogether_185 : decode cX11_goTogether 185 = .ok (.ifCond .ne 21, 3) := by decide +kernel
theorem dX11_goTogether_188 : decode cX11_goTogether 188 = .ok (.aload_n 0, 1) := by decide +kernel
theorem dX11_goTogether_189 : decode cX11_goTogether 189 = .ok (.getfield 67, 3) := by decide +kernel
theorem dX11_goTogether_192 : decode cX11_goTogether 192 = .ok (.aload_n 0, 1) := by decide +kernel
theorem dX11_goTogether_193 : decode cX11_goTogether 193 = .ok (.getfield 45, 3) := by decide +kernel
theorem dX11_goTogether_196 : decode cX11_goTogether 196 = .ok (.iconst 3, 1) := by decide +kernel
theorem dX11_goTogether_197 : decode cX11_goTogether 197 = .ok (.laload, 1) := by decide +kernel
theorem dX11_goTogether_198 : decode cX11_goTogether 198 = .ok (.lcmp, 1) := by decide +kernel
theorem dX11_goTogether_199 : decode cX11_goTogether 199 = .ok (.ifCond .ne 7, 3) := by decide +kernel
theorem dX11_goTogether_202 : decode cX11_goTogether 202 = .ok (.iconst 1, 1) := by decide +kernel
theorem dX11_goTogether_203 : decode cX11_goTogether 203 = .ok (.goto 4, 3) := by decide +kernel
theorem dX11_goTogether_206 : decode cX11_goTogether 206 = .ok (.iconst 0, 1) := by decide +kernel
theorem dX11_goTogether_207 : decode cX11_goTogether 207 = .ok (.ireturn, 1) := by decide +kernel
theorem dX11_beginsOf_0 : decode cX11_beginsOf 0 = .ok (.aload_n 0, 1) := by decide +kernel
theorem dX11_beginsOf_1 : decode cX11_beginsOf 1 = .ok (.iload_n 1, 1) := by decide +kernel
theorem dX11_beginsOf_2 : decode cX11_beginsOf 2 = .ok (.iload_n 2, 1) := by decide +kernel
theorem dX11_beginsOf_3 : decode cX11_beginsOf 3 = .ok (.invokevirtual 237, 3) := by decide +kernel
theorem dX11_beginsOf_6 : decode cX11_beginsOf 6 = .ok (.ifCond .eq 31, 3) := by decide +kernel
theorem dX11_beginsOf_9 : decode cX11_beginsOf 9 = .ok (.aload_n 0, 1) := by decide +kernel
theorem dX11_beginsOf_10 : decode cX11_beginsOf 10 = .ok (.getfield 168, 3) := by decide +kernel
theorem dX11_beginsOf_13 : decode cX11_beginsOf 13 = .ok (.iconst 3, 1) := by decide +kernel
theorem dX11_beginsOf_14 : decode cX11_beginsOf 14 = .ok (.if_icmp .ne 23, 3) := by decide +kernel
theorem dX11_beginsOf_17 : decode cX11_beginsOf 17 = .ok (.aload_n 0, 1) := by decide +kernel
theorem dX11_beginsOf_18 : decode cX11_beginsOf 18 = .ok (.iload_n 1, 1) := by decide +kernel
theorem dX11_beginsOf_19 : decode cX11_beginsOf 19 = .ok (.invokevirtual 290, 3) := by decide +kernel
theorem dX11_beginsOf_22 : decode cX11_beginsOf 22 = .ok (.ifCond .eq 15, 3) := by decide +kernel
theorem dX11_beginsOf_25 : decode cX11_beginsOf 25 = .ok (.aload_n 0, 1) := by decide +kernel
theorem dX11_beginsOf_26 : decode cX11_beginsOf 26 = .ok (.iload_n 2, 1) := by decide +kernel
theorem dX11_beginsOf_27 : decode cX11_beginsOf 27 = .ok (.invokevirtual 290, 3) := by decide +kernel
theorem dX11_beginsOf_30 : decode cX11_beginsOf 30 = .ok (.ifCond .eq 7, 3) := by decide +kernel
theorem dX11_beginsOf_33 : decode cX11_beginsOf 33 = .ok (.iconst 1, 1) := by decide +kernel
theorem dX11_beginsOf_34 : decode cX11_beginsOf 34 = .ok (.goto 4, 3) := by decide +kernel
theorem dX11_beginsOf_37 : decode cX11_beginsOf 37 = .ok (.iconst 0, 1) := by decide +kernel
theorem dX11_beginsOf_38 : decode cX11_beginsOf 38 = .ok (.istore_n 3, 1) := by decide +kernel
theorem dX11_beginsOf_39 : decode cX11_beginsOf 39 = .ok (.aload_n 0, 1) := by decide +kernel
theorem dX11_beginsOf_40 : decode cX11_beginsOf 40 = .ok (.getfield 146, 3) := by decide +kernel
theorem dX11_beginsOf_43 : decode cX11_beginsOf 43 = .ok (.ifCond .ne 7, 3) := by decide +kernel
theorem dX11_beginsOf_46 : decode cX11_beginsOf 46 = .ok (.lconst 1, 1) := by decide +kernel
theorem dX11_beginsOf_47 : decode cX11_beginsOf 47 = .ok (.goto 13, 3) := by decide +kernel
theorem dX11_beginsOf_50 : decode cX11_beginsOf 50 = .ok (.aload_n 0, 1) := by decide +kernel
theorem dX11_beginsOf_51 : decode cX11_beginsOf 51 = .ok (.getfield 143, 3) := by decide +kernel
theorem dX11_beginsOf_54 : decode cX11_beginsOf 54 = .ok (.aload_n 0, 1) := by decide +kernel
theorem dX11_beginsOf_55 : decode cX11_beginsOf 55 = .ok (.getfield 146, 3) := by decide +kernel
theorem dX11_beginsOf_58 : decode cX11_beginsOf 58 = .ok (.i2l, 1) := by decide +kernel
theorem dX11_beginsOf_59 : decode cX11_beginsOf 59 = .ok (.ldiv, 1) := by decide +kernel
theorem dX11_beginsOf_60 : decode cX11_beginsOf 60 = .ok (.lstore 4, 2) := by decide +kernel
theorem dX11_beginsOf_62 : decode cX11_beginsOf 62 = .ok (.iload_n 3, 1) := by decide +kernel
theorem dX11_beginsOf_63 : decode cX11_beginsOf 63 = .ok (.ifCond .eq 22, 3) := by decide +kernel
theorem dX11_beginsOf_66 : decode cX11_beginsOf 66 = .ok (.aload_n 0, 1) := by decide +kernel
theorem dX11_beginsOf_67 : decode cX11_beginsOf 67 = .ok (.getfield 157, 3) := by decide +kernel
theorem dX11_beginsOf_70 : decode cX11_beginsOf 70 = .ok (.aload_n 0, 1) := by decide +kernel
theorem dX11_beginsOf_71 : decode cX11_beginsOf 71 = .ok (.getfield 204, 3) := by decide +kernel
theorem dX11_beginsOf_74 : decode cX11_beginsOf 74 = .ok (.lsub, 1) := by decide +kernel
theorem dX11_beginsOf_75 : decode cX11_beginsOf 75 = .ok (.lload 4, 2) := by decide +kernel
theorem dX11_beginsOf_77 : decode cX11_beginsOf 77 = .ok (.ladd, 1) := by decide +kernel
theorem dX11_beginsOf_78 : decode cX11_beginsOf 78 = .ok (.lload 4, 2) := by decide +kernel
theorem dX11_beginsOf_80 : decode cX11_beginsOf 80 = .ok (.lrem, 1) := by decide +kernel
theorem dX11_beginsOf_81 : decode cX11_beginsOf 81 = .ok (.l2i, 1) := by decide +kernel
theorem dX11_beginsOf_82 : decode cX11_beginsOf 82 = .ok (.goto 4, 3) := by decide +kernel
theorem dX11_beginsOf_85 : decode cX11_beginsOf 85 = .ok (.iconst (-1), 1) := by decide +kernel
theorem dX11_beginsOf_86 : decode cX11_beginsOf 86 = .ok (.ireturn, 1) := by decide +kernel
theorem dX11_pair_0 : decode cX11_pair 0 = .ok (.aload_n 0, 1) := by decide +kernel
theorem dX11_pair_1 : decode cX11_pair 1 = .ok (.iload_n 1, 1) := by decide +kernel
theorem dX11_pair_2 : decode cX11_pair 2 = .ok (.invokevirtual 234, 3) := by decide +kernel
theorem dX11_pair_5 : decode cX11_pair 5 = .ok (.ifCond .eq 11, 3) := by decide +kernel
theorem dX11_pair_8 : decode cX11_pair 8 = .ok (.aload_n 0, 1) := by decide +kernel
theorem dX11_pair_9 : decode cX11_pair 9 = .ok (.iload_n 2, 1) := by decide +kernel
theorem dX11_pair_10 : decode cX11_pair 10 = .ok (.invokevirtual 234, 3) := by decide +kernel
theorem dX11_pair_13 : decode cX11_pair 13 = .ok (.ifCond .ne 6, 3) := by decide +kernel
theorem dX11_pair_16 : decode cX11_pair 16 = .ok (.ldc 249, 2) := by decide +kernel
theorem dX11_pair_18 : decode cX11_pair 18 = .ok (.ireturn, 1) := by decide +kernel
theorem dX11_pair_19 : decode cX11_pair 19 = .ok (.iload_n 3, 1) := by decide +kernel
theorem dX11_pair_20 : decode cX11_pair 20 = .ok (.i2l, 1) := by decide +kernel
theorem dX11_pair_21 : decode cX11_pair 21 = .ok (.lconst 0, 1) := by decide +kernel
theorem dX11_pair_22 : decode cX11_pair 22 = .ok (.ldc2_w 134, 3) := by decide +kernel
theorem dX11_pair_25 : decode cX11_pair 25 = .ok (.invokestatic 53, 3) := by decide +kernel
theorem dX11_pair_28 : decode cX11_pair 28 = .ok (.ifCond .ne 6, 3) := by decide +kernel
theorem dX11_pair_31 : decode cX11_pair 31 = .ok (.ldc 85, 2) := by decide +kernel
theorem dX11_pair_33 : decode cX11_pair 33 = .ok (.ireturn, 1) := by decide +kernel
theorem dX11_pair_34 : decode cX11_pair 34 = .ok (.iload_n 3, 1) := by decide +kernel
theorem dX11_pair_35 : decode cX11_pair 35 = .ok (.iconst 2, 1) := by decide +kernel
theorem dX11_pair_36 : decode cX11_pair 36 = .ok (.if_icmp .ne 10, 3) := by decide +kernel
theorem dX11_pair_39 : decode cX11_pair 39 = .ok (.aload_n 0, 1) := by decide +kernel
theorem dX11_pair_40 : decode cX11_pair 40 = .ok (.iload_n 1, 1) := by decide +kernel
theorem dX11_pair_41 : decode cX11_pair 41 = .ok (.iload_n 2, 1) := by decide +kernel
theorem dX11_pair_42 : decode cX11_pair 42 = .ok (.invokevirtual 293, 3) := by decide +kernel
theorem dX11_pair_45 : decode cX11_pair 45 = .ok (.ireturn, 1) := by decide +kernel
theorem dX11_pair_46 : decode cX11_pair 46 = .ok (.iload_n 3, 1) := by decide +kernel
theorem dX11_pair_47 : decode cX11_pair 47 = .ok (.ifCond .ne 12, 3) := by decide +kernel
theorem dX11_pair_50 : decode cX11_pair 50 = .ok (.aload_n 0, 1) := by decide +kernel
theorem dX11_pair_51 : decode cX11_pair 51 = .ok (.iload_n 1, 1) := by decide +kernel
theorem dX11_pair_52 : decode cX11_pair 52 = .ok (.iload_n 2, 1) := by decide +kernel
theorem dX11_pair_53 : decode cX11_pair 53 = .ok (.invokevirtual 237, 3) := by decide +kernel
theorem dX11_pair_56 : decode cX11_pair 56 = .ok (.goto 9, 3) := by decide +kernel
theorem dX11_pair_59 : decode cX11_pair 59 = .ok (.aload_n 0, 1) := by decide +kernel
theorem dX11_pair_60 : decode cX11_pair 60 = .ok (.iload_n 1, 1) := by decide +kernel
theorem dX11_pair_61 : decode cX11_pair 61 = .ok (.iload_n 2, 1) := by decide +kernel
theorem dX11_pair_62 : decode cX11_pair 62 = .ok (.invokevirtual 296, 3) := by decide +kernel
theorem dX11_pair_65 : decode cX11_pair 65 = .ok (.istore 4, 2) := by decide +kernel
theorem dX11_pair_67 : decode cX11_pair 67 = .ok (.iload 4, 2) := by decide +kernel
theorem dX11_pair_69 : decode cX11_pair 69 = .ok (.ifCond .eq 7, 3) := by decide +kernel
theorem dX11_pair_72 : decode cX11_pair 72 = .ok (.iconst 1, 1) := by decide +kernel
theorem dX11_pair_73 : decode cX11_pair 73 = .ok (.goto 4, 3) := by decide +kernel
theorem dX11_pair_76 : decode cX11_pair 76 = .ok (.iconst 0, 1) := by decide +kernel
theorem dX11_pair_77 : decode cX11_pair 77 = .ok (.ireturn, 1) := by decide +kernel
theorem dX11_note_0 : decode cX11_note 0 = .ok (.aload_n 0, 1) := by decide +kernel
theorem dX11_note_1 : decode cX11_note 1 = .ok (.iload_n 1, 1) := by decide +kernel
theorem dX11_note_2 : decode cX11_note 2 = .ok (.invokevirtual 234, 3) := by decide +kernel
theorem dX11_note_5 : decode cX11_note 5 = .ok (.ifCond .eq 11, 3) := by decide +kernel
theorem dX11_note_8 : decode cX11_note 8 = .ok (.aload_n 0, 1) := by decide +kernel
theorem dX11_note_9 : decode cX11_note 9 = .ok (.iload_n 2, 1) := by decide +kernel
theorem dX11_note_10 : decode cX11_note 10 = .ok (.invokevirtual 234, 3) := by decide +kernel
theorem dX11_note_13 : decode cX11_note 13 = .ok (.ifCond .ne 6, 3) := by decide +kernel
theorem dX11_note_16 : decode cX11_note 16 = .ok (.ldc 249, 2) := by decide +kernel
theorem dX11_note_18 : decode cX11_note 18 = .ok (.ireturn, 1) := by decide +kernel
theorem dX11_note_19 : decode cX11_note 19 = .ok (.aload_n 0, 1) := by decide +kernel
theorem dX11_note_20 : decode cX11_note 20 = .ok (.getfield 231, 3) := by decide +kernel
theorem dX11_note_23 : decode cX11_note 23 = .ok (.bipush 20, 2) := by decide +kernel
theorem dX11_note_25 : decode cX11_note 25 = .ok (.if_icmp .ne 6, 3) := by decide +kernel
theorem dX11_note_28 : decode cX11_note 28 = .ok (.ldc 89, 2) := by decide +kernel
theorem dX11_note_30 : decode cX11_note 30 = .ok (.ireturn, 1) := by decide +kernel
theorem dX11_note_31 : decode cX11_note 31 = .ok (.aload_n 0, 1) := by decide +kernel
theorem dX11_note_32 : decode cX11_note 32 = .ok (.getfield 30, 3) := by decide +kernel
theorem dX11_note_35 : decode cX11_note 35 = .ok (.iconst 3, 1) := by decide +kernel
theorem dX11_note_36 : decode cX11_note 36 = .ok (.aload_n 0, 1) := by decide +kernel
theorem dX11_note_37 : decode cX11_note 37 = .ok (.getfield 231, 3) := by decide +kernel
theorem dX11_note_40 : decode cX11_note 40 = .ok (.imul, 1) := by decide +kernel
theorem dX11_note_41 : decode cX11_note 41 = .ok (.iload_n 1, 1) := by decide +kernel
theorem dX11_note_42 : decode cX11_note 42 = .ok (.iastore, 1) := by decide +kernel
theorem dX11_note_43 : decode cX11_note 43 = .ok (.aload_n 0, 1) := by decide +kernel
theorem dX11_note_44 : decode cX11_note 44 = .ok (.getfield 30, 3) := by decide +kernel
theorem dX11_note_47 : decode cX11_note 47 = .ok (.iconst 3, 1) := by decide +kernel
theorem dX11_note_48 : decode cX11_note 48 = .ok (.aload_n 0, 1) := by decide +kernel
theorem dX11_note_49 : decode cX11_note 49 = .ok (.getfield 231, 3) := by decide +kernel
theorem dX11_note_52 : decode cX11_note 52 = .ok (.imul, 1) := by decide +kernel
theorem dX11_note_53 : decode cX11_note 53 = .ok (.iconst 1, 1) := by decide +kernel
theorem dX11_note_54 : decode cX11_note 54 = .ok (.iadd, 1) := by decide +kernel
theorem dX11_note_55 : decode cX11_note 55 = .ok (.iload_n 2, 1) := by decide +kernel
theorem dX11_note_56 : decode cX11_note 56 = .ok (.iastore, 1) := by decide +kernel
theorem dX11_note_57 : decode cX11_note 57 = .ok (.aload_n 0, 1) := by decide +kernel
theorem dX11_note_58 : decode cX11_note 58 = .ok (.getfield 30, 3) := by decide +kernel
theorem dX11_note_61 : decode cX11_note 61 = .ok (.iconst 3, 1) := by decide +kernel
theorem dX11_note_62 : decode cX11_note 62 = .ok (.aload_n 0, 1) := by decide +kernel
theorem dX11_note_63 : decode cX11_note 63 = .ok (.getfield 231, 3) := by decide +kernel
theorem dX11_note_66 : decode cX11_note 66 = .ok (.imul, 1) := by decide +kernel
theorem dX11_note_67 : decode cX11_note 67 = .ok (.iconst 2, 1) := by decide +kernel
theorem dX11_note_68 : decode cX11_note 68 = .ok (.iadd, 1) := by decide +kernel
theorem dX11_note_69 : decode cX11_note 69 = .ok (.iload_n 3, 1) := by decide +kernel
theorem dX11_note_70 : decode cX11_note 70 = .ok (.ifCond .eq 7, 3) := by decide +kernel
theorem dX11_note_73 : decode cX11_note 73 = .ok (.iconst 1, 1) := by decide +kernel
theorem dX11_note_74 : decode cX11_note 74 = .ok (.goto 4, 3) := by decide +kernel
theorem dX11_note_77 : decode cX11_note 77 = .ok (.iconst 0, 1) := by decide +kernel
theorem dX11_note_78 : decode cX11_note 78 = .ok (.iastore, 1) := by decide +kernel
theorem dX11_note_79 : decode cX11_note 79 = .ok (.aload_n 0, 1) := by decide +kernel
theorem dX11_note_80 : decode cX11_note 80 = .ok (.dup, 1) := by decide +kernel
theorem dX11_note_81 : decode cX11_note 81 = .ok (.getfield 231, 3) := by decide +kernel
theorem dX11_note_84 : decode cX11_note 84 = .ok (.iconst 1, 1) := by decide +kernel
theorem dX11_note_85 : decode cX11_note 85 = .ok (.iadd, 1) := by decide +kernel
theorem dX11_note_86 : decode cX11_note 86 = .ok (.putfield 231, 3) := by decide +kernel
theorem dX11_note_89 : decode cX11_note 89 = .ok (.aload_n 0, 1) := by decide +kernel
theorem dX11_note_90 : decode cX11_note 90 = .ok (.getfield 231, 3) := by decide +kernel
theorem dX11_note_93 : decode cX11_note 93 = .ok (.ireturn, 1) := by decide +kernel
theorem dX11_tear_0 : decode cX11_tear 0 = .ok (.aload_n 0, 1) := by decide +kernel
theorem dX11_tear_1 : decode cX11_tear 1 = .ok (.getfield 231, 3) := by decide +kernel
theorem dX11_tear_4 : decode cX11_tear 4 = .ok (.istore_n 1, 1) := by decide +kernel
theorem dX11_tear_5 : decode cX11_tear 5 = .ok (.aload_n 0, 1) := by decide +kernel
theorem dX11_tear_6 : decode cX11_tear 6 = .ok (.iconst 0, 1) := by decide +kernel
theorem dX11_tear_7 : decode cX11_tear 7 = .ok (.putfield 231, 3) := by decide +kernel
theorem dX11_tear_10 : decode cX11_tear 10 = .ok (.iload_n 1, 1) := by decide +kernel
theorem dX11_tear_11 : decode cX11_tear 11 = .ok (.ireturn, 1) := by decide +kernel
theorem dX11_seed_0 : decode cX11_seed 0 = .ok (.iload_n 1, 1) := by decide +kernel
theorem dX11_seed_1 : decode cX11_seed 1 = .ok (.ifCond .ge 6, 3) := by decide +kernel
theorem dX11_seed_4 : decode cX11_seed 4 = .ok (.ldc 85, 2) := by decide +kernel
theorem dX11_seed_6 : decode cX11_seed 6 = .ok (.ireturn, 1) := by decide +kernel
theorem dX11_seed_7 : decode cX11_seed 7 = .ok (.aload_n 0, 1) := by decide +kernel
theorem dX11_seed_8 : decode cX11_seed 8 = .ok (.getfield 275, 3) := by decide +kernel
theorem dX11_seed_11 : decode cX11_seed 11 = .ok (.istore_n 2, 1) := by decide +kernel
theorem dX11_seed_12 : decode cX11_seed 12 = .ok (.aload_n 0, 1) := by decide +kernel
theorem dX11_seed_13 : decode cX11_seed 13 = .ok (.iload_n 1, 1) := by decide +kernel
theorem dX11_seed_14 : decode cX11_seed 14 = .ok (.putfield 275, 3) := by decide +kernel
theorem dX11_seed_17 : decode cX11_seed 17 = .ok (.iload_n 2, 1) := by decide +kernel
theorem dX11_seed_18 : decode cX11_seed 18 = .ok (.ireturn, 1) := by decide +kernel
theorem dX11_keep_0 : decode cX11_keep 0 = .ok (.iload_n 1, 1) := by decide +kernel
theorem dX11_keep_1 : decode cX11_keep 1 = .ok (.i2l, 1) := by decide +kernel
theorem dX11_keep_2 : decode cX11_keep 2 = .ok (.lconst 0, 1) := by decide +kernel
theorem dX11_keep_3 : decode cX11_keep 3 = .ok (.lconst 1, 1) := by decide +kernel
theorem dX11_keep_4 : decode cX11_keep 4 = .ok (.invokestatic 53, 3) := by decide +kernel
theorem dX11_keep_7 : decode cX11_keep 7 = .ok (.ifCond .ne 6, 3) := by decide +kernel
theorem dX11_keep_10 : decode cX11_keep 10 = .ok (.ldc 249, 2) := by decide +kernel
theorem dX11_keep_12 : decode cX11_keep 12 = .ok (.ireturn, 1) := by decide +kernel
theorem dX11_keep_13 : decode cX11_keep 13 = .ok (.iconst 0, 1) := by decide +kernel
theorem dX11_keep_14 : decode cX11_keep 14 = .ok (.istore_n 2, 1) := by decide +kernel
theorem dX11_keep_15 : decode cX11_keep 15 = .ok (.iload_n 2, 1) := by decide +kernel
theorem dX11_keep_16 : decode cX11_keep 16 = .ok (.bipush 49, 2) := by decide +kernel
theorem dX11_keep_18 : decode cX11_keep 18 = .ok (.if_icmp .ge 26, 3) := by decide +kernel
theorem dX11_keep_21 : decode cX11_keep 21 = .ok (.aload_n 0, 1) := by decide +kernel
theorem dX11_keep_22 : decode cX11_keep 22 = .ok (.getfield 16, 3) := by decide +kernel
theorem dX11_keep_25 : decode cX11_keep 25 = .ok (.bipush 50, 2) := by decide +kernel
theorem dX11_keep_27 : decode cX11_keep 27 = .ok (.iload_n 1, 1) := by decide +kernel
theorem dX11_keep_28 : decode cX11_keep 28 = .ok (.imul, 1) := by decide +kernel
theorem dX11_keep_29 : decode cX11_keep 29 = .ok (.iload_n 2, 1) := by decide +kernel
theorem dX11_keep_30 : decode cX11_keep 30 = .ok (.iadd, 1) := by decide +kernel
theorem dX11_keep_31 : decode cX11_keep 31 = .ok (.aload_n 0, 1) := by decide +kernel
theorem dX11_keep_32 : decode cX11_keep 32 = .ok (.getfield 7, 3) := by decide +kernel
theorem dX11_keep_35 : decode cX11_keep 35 = .ok (.iload_n 2, 1) := by decide +kernel
theorem dX11_keep_36 : decode cX11_keep 36 = .ok (.iaload, 1) := by decide +kernel
theorem dX11_keep_37 : decode cX11_keep 37 = .ok (.iastore, 1) := by decide +kernel
theorem dX11_keep_38 : decode cX11_keep 38 = .ok (.iinc 2 1, 3) := by decide +kernel
theorem dX11_keep_41 : decode cX11_keep 41 = .ok (.goto (-26), 3) := by decide +kernel
theorem dX11_keep_44 : decode cX11_keep 44 = .ok (.aload_n 0, 1) := by decide +kernel
theorem dX11_keep_45 : decode cX11_keep 45 = .ok (.getfield 16, 3) := by decide +kernel
theorem dX11_keep_48 : decode cX11_keep 48 = .ok (.bipush 50, 2) := by decide +kernel
theorem dX11_keep_50 : decode cX11_keep 50 = .ok (.iload_n 1, 1) := by decide +kernel
theorem dX11_keep_51 : decode cX11_keep 51 = .ok (.imul, 1) := by decide +kernel
theorem dX11_keep_52 : decode cX11_keep 52 = .ok (.bipush 49, 2) := by decide +kernel
theorem dX11_keep_54 : decode cX11_keep 54 = .ok (.iadd, 1) := by decide +kernel
theorem dX11_keep_55 : decode cX11_keep 55 = .ok (.aload_n 0, 1) := by decide +kernel
theorem dX11_keep_56 : decode cX11_keep 56 = .ok (.getfield 275, 3) := by decide +kernel
theorem dX11_keep_59 : decode cX11_keep 59 = .ok (.iastore, 1) := by decide +kernel
theorem dX11_keep_60 : decode cX11_keep 60 = .ok (.aload_n 0, 1) := by decide +kernel
theorem dX11_keep_61 : decode cX11_keep 61 = .ok (.getfield 19, 3) := by decide +kernel
theorem dX11_keep_64 : decode cX11_keep 64 = .ok (.iload_n 1, 1) := by decide +kernel
theorem dX11_keep_65 : decode cX11_keep 65 = .ok (.iconst 1, 1) := by decide +kernel
theorem dX11_keep_66 : decode cX11_keep 66 = .ok (.bastore, 1) := by decide +kernel
theorem dX11_keep_67 : decode cX11_keep 67 = .ok (.aload_n 0, 1) := by decide +kernel
theorem dX11_keep_68 : decode cX11_keep 68 = .ok (.iconst 0, 1) := by decide +kernel
theorem dX11_keep_69 : decode cX11_keep 69 = .ok (.putfield 90, 3) := by decide +kernel
theorem dX11_keep_72 : decode cX11_keep 72 = .ok (.iconst 1, 1) := by decide +kernel
theorem dX11_keep_73 : decode cX11_keep 73 = .ok (.ireturn, 1) := by decide +kernel
theorem dX11_goBack_0 : decode cX11_goBack 0 = .ok (.iload_n 1, 1) := by decide +kernel
theorem dX11_goBack_1 : decode cX11_goBack 1 = .ok (.i2l, 1) := by decide +kernel
theorem dX11_goBack_2 : decode cX11_goBack 2 = .ok (.lconst 0, 1) := by decide +kernel
theorem dX11_goBack_3 : decode cX11_goBack 3 = .ok (.lconst 1, 1) := by decide +kernel
theorem dX11_goBack_4 : decode cX11_goBack 4 = .ok (.invokestatic 53, 3) := by decide +kernel
theorem dX11_goBack_7 : decode cX11_goBack 7 = .ok (.ifCond .ne 6, 3) := by decide +kernel
theorem dX11_goBack_10 : decode cX11_goBack 10 = .ok (.ldc 249, 2) := by decide +kernel
theorem dX11_goBack_12 : decode cX11_goBack 12 = .ok (.ireturn, 1) := by decide +kernel
theorem dX11_goBack_13 : decode cX11_goBack 13 = .ok (.aload_n 0, 1) := by decide +kernel
theorem dX11_goBack_14 : decode cX11_goBack 14 = .ok (.getfield 19, 3) := by decide +kernel
theorem dX11_goBack_17 : decode cX11_goBack 17 = .ok (.iload_n 1, 1) := by decide +kernel
theorem dX11_goBack_18 : decode cX11_goBack 18 = .ok (.baload, 1) := by decide +kernel
theorem dX11_goBack_19 : decode cX11_goBack 19 = .ok (.ifCond .ne 6, 3) := by decide +kernel
theorem dX11_goBack_22 : decode cX11_goBack 22 = .ok (.ldc 115, 2) := by decide +kernel
theorem dX11_goBack_24 : decode cX11_goBack 24 = .ok (.ireturn, 1) := by decide +kernel
theorem dX11_goBack_25 : decode cX11_goBack 25 = .ok (.iconst 0, 1) := by decide +kernel
theorem dX11_goBack_26 : decode cX11_goBack 26 = .ok (.istore_n 2, 1) := by decide +kernel
theorem dX11_goBack_27 : decode cX11_goBack 27 = .ok (.iload_n 2, 1) := by decide +kernel
theorem dX11_goBack_28 : decode cX11_goBack 28 = .ok (.bipush 49, 2) := by decide +kernel
theorem dX11_goBack_30 : decode cX11_goBack 30 = .ok (.if_icmp .ge 26, 3) := by decide +kernel
theorem dX11_goBack_33 : decode cX11_goBack 33 = .ok (.aload_n 0, 1) := by decide +kernel
theorem dX11_goBack_34 : decode cX11_goBack 34 = .ok (.getfield 7, 3) := by decide +kernel
theorem dX11_goBack_37 : decode cX11_goBack 37 = .ok (.iload_n 2, 1) := by decide +kernel
theorem dX11_goBack_38 : decode cX11_goBack 38 = .ok (.aload_n 0, 1) := by decide +kernel
theorem dX11_goBack_39 : decode cX11_goBack 39 = .ok (.getfield 16, 3) := by decide +kernel
theorem dX11_goBack_42 : decode cX11_goBack 42 = .ok (.bipush 50, 2) := by decide +kernel
theorem dX11_goBack_44 : decode cX11_goBack 44 = .ok (.iload_n 1, 1) := by decide +kernel
theorem dX11_goBack_45 : decode cX11_goBack 45 = .ok (.imul, 1) := by decide +kernel
theorem dX11_goBack_46 : decode cX11_goBack 46 = .ok (.iload_n 2, 1) := by decide +kernel
theorem dX11_goBack_47 : decode cX11_goBack 47 = .ok (.iadd, 1) := by decide +kernel
theorem dX11_goBack_48 : decode cX11_goBack 48 = .ok (.iaload, 1) := by decide +kernel
theorem dX11_goBack_49 : decode cX11_goBack 49 = .ok (.iastore, 1) := by decide +kernel
theorem dX11_goBack_50 : decode cX11_goBack 50 = .ok (.iinc 2 1, 3) := by decide +kernel
theorem dX11_goBack_53 : decode cX11_goBack 53 = .ok (.goto (-26), 3) := by decide +kernel
theorem dX11_goBack_56 : decode cX11_goBack 56 = .ok (.aload_n 0, 1) := by decide +kernel
theorem dX11_goBack_57 : decode cX11_goBack 57 = .ok (.aload_n 0, 1) := by decide +kernel
theorem dX11_goBack_58 : decode cX11_goBack 58 = .ok (.getfield 16, 3) := by decide +kernel
theorem dX11_goBack_61 : decode cX11_goBack 61 = .ok (.bipush 50, 2) := by decide +kernel
theorem dX11_goBack_63 : decode cX11_goBack 63 = .ok (.iload_n 1, 1) := by decide +kernel
theorem dX11_goBack_64 : decode cX11_goBack 64 = .ok (.imul, 1) := by decide +kernel
theorem dX11_goBack_65 : decode cX11_goBack 65 = .ok (.bipush 49, 2) := by decide +kernel
theorem dX11_goBack_67 : decode cX11_goBack 67 = .ok (.iadd, 1) := by decide +kernel
theorem dX11_goBack_68 : decode cX11_goBack 68 = .ok (.iaload, 1) := by decide +kernel
theorem dX11_goBack_69 : decode cX11_goBack 69 = .ok (.putfield 275, 3) := by decide +kernel
theorem dX11_goBack_72 : decode cX11_goBack 72 = .ok (.aload_n 0, 1) := by decide +kernel
theorem dX11_goBack_73 : decode cX11_goBack 73 = .ok (.iconst 0, 1) := by decide +kernel
theorem dX11_goBack_74 : decode cX11_goBack 74 = .ok (.putfield 90, 3) := by decide +kernel
theorem dX11_goBack_77 : decode cX11_goBack 77 = .ok (.iconst 1, 1) := by decide +kernel
theorem dX11_goBack_78 : decode cX11_goBack 78 = .ok (.ireturn, 1) := by decide +kernel
theorem dJ6_numberOfTrailingZeros_0f7a4_0 : decode cJ6_numberOfTrailingZeros_0f7a4 0 = .ok (.iload_n 0, 1) := by decide +kernel
theorem dJ6_numberOfTrailingZeros_0f7a4_1 : decode cJ6_numberOfTrailingZeros_0f7a4 1 = .ok (.iconst (-1), 1) := by decide +kernel
theorem dJ6_numberOfTrailingZeros_0f7a4_2 : decode cJ6_numberOfTrailingZeros_0f7a4 2 = .ok (.ixor, 1) := by decide +kernel
theorem dJ6_numberOfTrailingZeros_0f7a4_3 : decode cJ6_numberOfTrailingZeros_0f7a4 3 = .ok (.iload_n 0, 1) := by decide +kernel
theorem dJ6_numberOfTrailingZeros_0f7a4_4 : decode cJ6_numberOfTrailingZeros_0f7a4 4 = .ok (.iconst 1, 1) := by decide +kernel
theorem dJ6_numberOfTrailingZeros_0f7a4_5 : decode cJ6_numberOfTrailingZeros_0f7a4 5 = .ok (.isub, 1) := by decide +kernel
theorem dJ6_numberOfTrailingZeros_0f7a4_6 : decode cJ6_numberOfTrailingZeros_0f7a4 6 = .ok (.iand, 1) := by decide +kernel
theorem dJ6_numberOfTrailingZeros_0f7a4_7 : decode cJ6_numberOfTrailingZeros_0f7a4 7 = .ok (.istore_n 0, 1) := by decide +kernel
theorem dJ6_numberOfTrailingZeros_0f7a4_8 : decode cJ6_numberOfTrailingZeros_0f7a4 8 = .ok (.iload_n 0, 1) := by decide +kernel
theorem dJ6_numberOfTrailingZeros_0f7a4_9 : decode cJ6_numberOfTrailingZeros_0f7a4 9 = .ok (.ifCond .gt 8, 3) := by decide +kernel
theorem dJ6_numberOfTrailingZeros_0f7a4_12 : decode cJ6_numberOfTrailingZeros_0f7a4 12 = .ok (.iload_n 0, 1) := by decide +kernel
theorem dJ6_numberOfTrailingZeros_0f7a4_13 : decode cJ6_numberOfTrailingZeros_0f7a4 13 = .ok (.bipush 32, 2) := by decide +kernel
theorem dJ6_numberOfTrailingZeros_0f7a4_15 : decode cJ6_numberOfTrailingZeros_0f7a4 15 = .ok (.iand, 1) := by decide +kernel
theorem dJ6_numberOfTrailingZeros_0f7a4_16 : decode cJ6_numberOfTrailingZeros_0f7a4 16 = .ok (.ireturn, 1) := by decide +kernel
theorem dJ6_numberOfTrailingZeros_0f7a4_17 : decode cJ6_numberOfTrailingZeros_0f7a4 17 = .ok (.iconst 1, 1) := by decide +kernel
theorem dJ6_numberOfTrailingZeros_0f7a4_18 : decode cJ6_numberOfTrailingZeros_0f7a4 18 = .ok (.istore_n 1, 1) := by decide +kernel
theorem dJ6_numberOfTrailingZeros_0f7a4_19 : decode cJ6_numberOfTrailingZeros_0f7a4 19 = .ok (.iload_n 0, 1) := by decide +kernel
theorem dJ6_numberOfTrailingZeros_0f7a4_20 : decode cJ6_numberOfTrailingZeros_0f7a4 20 = .ok (.ldc_w 264, 3) := by decide +kernel
theorem dJ6_numberOfTrailingZeros_0f7a4_23 : decode cJ6_numberOfTrailingZeros_0f7a4 23 = .ok (.if_icmp .le 11, 3) := by decide +kernel
theorem dJ6_numberOfTrailingZeros_0f7a4_26 : decode cJ6_numberOfTrailingZeros_0f7a4 26 = .ok (.iinc 1 16, 3) := by decide +kernel
theorem dJ6_numberOfTrailingZeros_0f7a4_29 : decode cJ6_numberOfTrailingZeros_0f7a4 29 = .ok (.iload_n 0, 1) := by decide +kernel
theorem dJ6_numberOfTrailingZeros_0f7a4_30 : decode cJ6_numberOfTrailingZeros_0f7a4 30 = .ok (.bipush 16, 2) := by decide +kernel
theorem dJ6_numberOfTrailingZeros_0f7a4_32 : decode cJ6_numberOfTrailingZeros_0f7a4 32 = .ok (.iushr, 1) := by decide +kernel
theorem dJ6_numberOfTrailingZeros_0f7a4_33 : decode cJ6_numberOfTrailingZeros_0f7a4 33 = .ok (.istore_n 0, 1) := by decide +kernel
theorem dJ6_numberOfTrailingZeros_0f7a4_34 : decode cJ6_numberOfTrailingZeros_0f7a4 34 = .ok (.iload_n 0, 1) := by decide +kernel
theorem dJ6_numberOfTrailingZeros_0f7a4_35 : decode cJ6_numberOfTrailingZeros_0f7a4 35 = .ok (.sipush 256, 3) := by decide +kernel
theorem dJ6_numberOfTrailingZeros_0f7a4_38 : decode cJ6_numberOfTrailingZeros_0f7a4 38 = .ok (.if_icmp .le 11, 3) := by decide +kernel
theorem dJ6_numberOfTrailingZeros_0f7a4_41 : decode cJ6_numberOfTrailingZeros_0f7a4 41 = .ok (.iinc 1 8, 3) := by decide +kernel
theorem dJ6_numberOfTrailingZeros_0f7a4_44 : decode cJ6_numberOfTrailingZeros_0f7a4 44 = .ok (.iload_n 0, 1) := by decide +kernel
theorem dJ6_numberOfTrailingZeros_0f7a4_45 : decode cJ6_numberOfTrailingZeros_0f7a4 45 = .ok (.bipush 8, 2) := by decide +kernel
theorem dJ6_numberOfTrailingZeros_0f7a4_47 : decode cJ6_numberOfTrailingZeros_0f7a4 47 = .ok (.iushr, 1) := by decide +kernel
theorem dJ6_numberOfTrailingZeros_0f7a4_48 : decode cJ6_numberOfTrailingZeros_0f7a4 48 = .ok (.istore_n 0, 1) := by decide +kernel
theorem dJ6_numberOfTrailingZeros_0f7a4_49 : decode cJ6_numberOfTrailingZeros_0f7a4 49 = .ok (.iload_n 0, 1) := by decide +kernel
theorem dJ6_numberOfTrailingZeros_0f7a4_50 : decode cJ6_numberOfTrailingZeros_0f7a4 50 = .ok (.bipush 16, 2) := by decide +kernel
theorem dJ6_numberOfTrailingZeros_0f7a4_52 : decode cJ6_numberOfTrailingZeros_0f7a4 52 = .ok (.if_icmp .le 10, 3) := by decide +kernel
theorem dJ6_numberOfTrailingZeros_0f7a4_55 : decode cJ6_numberOfTrailingZeros_0f7a4 55 = .ok (.iinc 1 4, 3) := by decide +kernel
theorem dJ6_numberOfTrailingZeros_0f7a4_58 : decode cJ6_numberOfTrailingZeros_0f7a4 58 = .ok (.iload_n 0, 1) := by decide +kernel
theorem dJ6_numberOfTrailingZeros_0f7a4_59 : decode cJ6_numberOfTrailingZeros_0f7a4 59 = .ok (.iconst 4, 1) := by decide +kernel
theorem dJ6_numberOfTrailingZeros_0f7a4_60 : decode cJ6_numberOfTrailingZeros_0f7a4 60 = .ok (.iushr, 1) := by decide +kernel
theorem dJ6_numberOfTrailingZeros_0f7a4_61 : decode cJ6_numberOfTrailingZeros_0f7a4 61 = .ok (.istore_n 0, 1) := by decide +kernel
theorem dJ6_numberOfTrailingZeros_0f7a4_62 : decode cJ6_numberOfTrailingZeros_0f7a4 62 = .ok (.iload_n 0, 1) := by decide +kernel
theorem dJ6_numberOfTrailingZeros_0f7a4_63 : decode cJ6_numberOfTrailingZeros_0f7a4 63 = .ok (.iconst 4, 1) := by decide +kernel
theorem dJ6_numberOfTrailingZeros_0f7a4_64 : decode cJ6_numberOfTrailingZeros_0f7a4 64 = .ok (.if_icmp .le 10, 3) := by decide +kernel
theorem dJ6_numberOfTrailingZeros_0f7a4_67 : decode cJ6_numberOfTrailingZeros_0f7a4 67 = .ok (.iinc 1 2, 3) := by decide +kernel
theorem dJ6_numberOfTrailingZeros_0f7a4_70 : decode cJ6_numberOfTrailingZeros_0f7a4 70 = .ok (.iload_n 0, 1) := by decide +kernel
theorem dJ6_numberOfTrailingZeros_0f7a4_71 : decode cJ6_numberOfTrailingZeros_0f7a4 71 = .ok (.iconst 2, 1) := by decide +kernel
theorem dJ6_numberOfTrailingZeros_0f7a4_72 : decode cJ6_numberOfTrailingZeros_0f7a4 72 = .ok (.iushr, 1) := by decide +kernel
theorem dJ6_numberOfTrailingZeros_0f7a4_73 : decode cJ6_numberOfTrailingZeros_0f7a4 73 = .ok (.istore_n 0, 1) := by decide +kernel
theorem dJ6_numberOfTrailingZeros_0f7a4_74 : decode cJ6_numberOfTrailingZeros_0f7a4 74 = .ok (.iload_n 1, 1) := by decide +kernel
theorem dJ6_numberOfTrailingZeros_0f7a4_75 : decode cJ6_numberOfTrailingZeros_0f7a4 75 = .ok (.iload_n 0, 1) := by decide +kernel
theorem dJ6_numberOfTrailingZeros_0f7a4_76 : decode cJ6_numberOfTrailingZeros_0f7a4 76 = .ok (.iconst 1, 1) := by decide +kernel
theorem dJ6_numberOfTrailingZeros_0f7a4_77 : decode cJ6_numberOfTrailingZeros_0f7a4 77 = .ok (.iushr, 1) := by decide +kernel
theorem dJ6_numberOfTrailingZeros_0f7a4_78 : decode cJ6_numberOfTrailingZeros_0f7a4 78 = .ok (.iadd, 1) := by decide +kernel
theorem dJ6_numberOfTrailingZeros_0f7a4_79 : decode cJ6_numberOfTrailingZeros_0f7a4 79 = .ok (.ireturn, 1) := by decide +kernel
theorem dJ6_bitCount_0f7a4_0 : decode cJ6_bitCount_0f7a4 0 = .ok (.iload_n 0, 1) := by decide +kernel
theorem dJ6_bitCount_0f7a4_1 : decode cJ6_bitCount_0f7a4 1 = .ok (.iload_n 0, 1) := by decide +kernel
theorem dJ6_bitCount_0f7a4_2 : decode cJ6_bitCount_0f7a4 2 = .ok (.iconst 1, 1) := by decide +kernel
theorem dJ6_bitCount_0f7a4_3 : decode cJ6_bitCount_0f7a4 3 = .ok (.iushr, 1) := by decide +kernel
theorem dJ6_bitCount_0f7a4_4 : decode cJ6_bitCount_0f7a4 4 = .ok (.ldc_w 265, 3) := by decide +kernel
theorem dJ6_bitCount_0f7a4_7 : decode cJ6_bitCount_0f7a4 7 = .ok (.iand, 1) := by decide +kernel
