theorem dX4_isAheadOfRest_15 : decode cX4_isAheadOfRest 15 = .ok (.aload_n 0, 1) := by decide +kernel
theorem dX4_isAheadOfRest_16 : decode cX4_isAheadOfRest 16 = .ok (.getfield 246, 3) := by decide +kernel
theorem dX4_isAheadOfRest_19 : decode cX4_isAheadOfRest 19 = .ok (.iload_n 2, 1) := by decide +kernel
theorem dX4_isAheadOfRest_20 : decode cX4_isAheadOfRest 20 = .ok (.invokestatic 223, 3) := by decide +kernel
theorem dX4_isAheadOfRest_23 : decode cX4_isAheadOfRest 23 = .ok (.ifCond .eq 14, 3) := by decide +kernel
theorem dX4_isAheadOfRest_26 : decode cX4_isAheadOfRest 26 = .ok (.aload_n 0, 1) := by decide +kernel
theorem dX4_isAheadOfRest_27 : decode cX4_isAheadOfRest 27 = .ok (.iload_n 1, 1) := by decide +kernel
theorem dX4_isAheadOfRest_28 : decode cX4_isAheadOfRest 28 = .ok (.iload_n 2, 1) := by decide +kernel
theorem dX4_isAheadOfRest_29 : decode cX4_isAheadOfRest 29 = .ok (.invokevirtual 492, 3) := by decide +kernel
theorem dX4_isAheadOfRest_32 : decode cX4_isAheadOfRest 32 = .ok (.ifCond .gt 5, 3) := by decide +kernel
theorem dX4_isAheadOfRest_35 : decode cX4_isAheadOfRest 35 = .ok (.iconst 0, 1) := by decide +kernel
theorem dX4_isAheadOfRest_36 : decode cX4_isAheadOfRest 36 = .ok (.ireturn, 1) := by decide +kernel
theorem dX4_isAheadOfRest_37 : decode cX4_isAheadOfRest 37 = .ok (.iinc 2 1, 3) := by decide +kernel
theorem dX4_isAheadOfRest_40 : decode cX4_isAheadOfRest 40 = .ok (.goto (-38), 3) := by decide +kernel
theorem dX4_isAheadOfRest_43 : decode cX4_isAheadOfRest 43 = .ok (.iconst 1, 1) := by decide +kernel
theorem dX4_isAheadOfRest_44 : decode cX4_isAheadOfRest 44 = .ok (.ireturn, 1) := by decide +kernel
theorem dX4_leadOver_0 : decode cX4_leadOver 0 = .ok (.iload_n 1, 1) := by decide +kernel
theorem dX4_leadOver_1 : decode cX4_leadOver 1 = .ok (.invokestatic 120, 3) := by decide +kernel
theorem dX4_leadOver_4 : decode cX4_leadOver 4 = .ok (.iload_n 2, 1) := by decide +kernel
theorem dX4_leadOver_5 : decode cX4_leadOver 5 = .ok (.invokestatic 120, 3) := by decide +kernel
theorem dX4_leadOver_8 : decode cX4_leadOver 8 = .ok (.ior, 1) := by decide +kernel
theorem dX4_leadOver_9 : decode cX4_leadOver 9 = .ok (.istore_n 3, 1) := by decide +kernel
theorem dX4_leadOver_10 : decode cX4_leadOver 10 = .ok (.iconst 0, 1) := by decide +kernel
theorem dX4_leadOver_11 : decode cX4_leadOver 11 = .ok (.istore 4, 2) := by decide +kernel
theorem dX4_leadOver_13 : decode cX4_leadOver 13 = .ok (.iconst 0, 1) := by decide +kernel
theorem dX4_leadOver_14 : decode cX4_leadOver 14 = .ok (.istore 5, 2) := by decide +kernel
theorem dX4_leadOver_16 : decode cX4_leadOver 16 = .ok (.iload 5, 2) := by decide +kernel
theorem dX4_leadOver_18 : decode cX4_leadOver 18 = .ok (.aload_n 0, 1) := by decide +kernel
theorem dX4_leadOver_19 : decode cX4_leadOver 19 = .ok (.getfield 102, 3) := by decide +kernel
theorem dX4_leadOver_22 : decode cX4_leadOver 22 = .ok (.if_icmp .ge 64, 3) := by decide +kernel
theorem dX4_leadOver_25 : decode cX4_leadOver 25 = .ok (.aload_n 0, 1) := by decide +kernel
theorem dX4_leadOver_26 : decode cX4_leadOver 26 = .ok (.getfield 23, 3) := by decide +kernel
theorem dX4_leadOver_29 : decode cX4_leadOver 29 = .ok (.iload 5, 2) := by decide +kernel
theorem dX4_leadOver_31 : decode cX4_leadOver 31 = .ok (.aaload, 1) := by decide +kernel
theorem dX4_leadOver_32 : decode cX4_leadOver 32 = .ok (.invokevirtual 342, 3) := by decide +kernel
theorem dX4_leadOver_35 : decode cX4_leadOver 35 = .ok (.ifCond .eq 45, 3) := by decide +kernel
theorem dX4_leadOver_38 : decode cX4_leadOver 38 = .ok (.aload_n 0, 1) := by decide +kernel
theorem dX4_leadOver_39 : decode cX4_leadOver 39 = .ok (.aload_n 0, 1) := by decide +kernel
theorem dX4_leadOver_40 : decode cX4_leadOver 40 = .ok (.getfield 23, 3) := by decide +kernel
theorem dX4_leadOver_43 : decode cX4_leadOver 43 = .ok (.iload 5, 2) := by decide +kernel
theorem dX4_leadOver_45 : decode cX4_leadOver 45 = .ok (.aaload, 1) := by decide +kernel
theorem dX4_leadOver_46 : decode cX4_leadOver 46 = .ok (.invokevirtual 485, 3) := by decide +kernel
theorem dX4_leadOver_49 : decode cX4_leadOver 49 = .ok (.iload_n 3, 1) := by decide +kernel
theorem dX4_leadOver_50 : decode cX4_leadOver 50 = .ok (.iand, 1) := by decide +kernel
theorem dX4_leadOver_51 : decode cX4_leadOver 51 = .ok (.iload_n 3, 1) := by decide +kernel
theorem dX4_leadOver_52 : decode cX4_leadOver 52 = .ok (.if_icmp .ne 28, 3) := by decide +kernel
theorem dX4_leadOver_55 : decode cX4_leadOver 55 = .ok (.iload 4, 2) := by decide +kernel
theorem dX4_leadOver_57 : decode cX4_leadOver 57 = .ok (.aload_n 0, 1) := by decide +kernel
theorem dX4_leadOver_58 : decode cX4_leadOver 58 = .ok (.getfield 23, 3) := by decide +kernel
theorem dX4_leadOver_61 : decode cX4_leadOver 61 = .ok (.iload 5, 2) := by decide +kernel
theorem dX4_leadOver_63 : decode cX4_leadOver 63 = .ok (.aaload, 1) := by decide +kernel
theorem dX4_leadOver_64 : decode cX4_leadOver 64 = .ok (.iload_n 3, 1) := by decide +kernel
theorem dX4_leadOver_65 : decode cX4_leadOver 65 = .ok (.invokevirtual 489, 3) := by decide +kernel
theorem dX4_leadOver_68 : decode cX4_leadOver 68 = .ok (.iload_n 1, 1) := by decide +kernel
theorem dX4_leadOver_69 : decode cX4_leadOver 69 = .ok (.if_icmp .ne 7, 3) := by decide +kernel
theorem dX4_leadOver_72 : decode cX4_leadOver 72 = .ok (.iconst 1, 1) := by decide +kernel
theorem dX4_leadOver_73 : decode cX4_leadOver 73 = .ok (.goto 4, 3) := by decide +kernel
theorem dX4_leadOver_76 : decode cX4_leadOver 76 = .ok (.iconst (-1), 1) := by decide +kernel
theorem dX4_leadOver_77 : decode cX4_leadOver 77 = .ok (.iadd, 1) := by decide +kernel
theorem dX4_leadOver_78 : decode cX4_leadOver 78 = .ok (.istore 4, 2) := by decide +kernel
theorem dX4_leadOver_80 : decode cX4_leadOver 80 = .ok (.iinc 5 1, 3) := by decide +kernel
theorem dX4_leadOver_83 : decode cX4_leadOver 83 = .ok (.goto (-67), 3) := by decide +kernel
theorem dX4_leadOver_86 : decode cX4_leadOver 86 = .ok (.iload 4, 2) := by decide +kernel
theorem dX4_leadOver_88 : decode cX4_leadOver 88 = .ok (.ireturn, 1) := by decide +kernel
theorem dJ6_compare_7cf53_0 : decode cJ6_compare_7cf53 0 = .ok (.iload_n 0, 1) := by decide +kernel
theorem dJ6_compare_7cf53_1 : decode cJ6_compare_7cf53 1 = .ok (.iload_n 1, 1) := by decide +kernel
theorem dJ6_compare_7cf53_2 : decode cJ6_compare_7cf53 2 = .ok (.if_icmp .ge 7, 3) := by decide +kernel
theorem dJ6_compare_7cf53_5 : decode cJ6_compare_7cf53 5 = .ok (.iconst (-1), 1) := by decide +kernel
theorem dJ6_compare_7cf53_6 : decode cJ6_compare_7cf53 6 = .ok (.goto 13, 3) := by decide +kernel
theorem dJ6_compare_7cf53_9 : decode cJ6_compare_7cf53 9 = .ok (.iload_n 0, 1) := by decide +kernel
theorem dJ6_compare_7cf53_10 : decode cJ6_compare_7cf53 10 = .ok (.iload_n 1, 1) := by decide +kernel
theorem dJ6_compare_7cf53_11 : decode cJ6_compare_7cf53 11 = .ok (.if_icmp .ne 7, 3) := by decide +kernel
theorem dJ6_compare_7cf53_14 : decode cJ6_compare_7cf53 14 = .ok (.iconst 0, 1) := by decide +kernel
theorem dJ6_compare_7cf53_15 : decode cJ6_compare_7cf53 15 = .ok (.goto 4, 3) := by decide +kernel
theorem dJ6_compare_7cf53_18 : decode cJ6_compare_7cf53 18 = .ok (.iconst 1, 1) := by decide +kernel
theorem dJ6_compare_7cf53_19 : decode cJ6_compare_7cf53 19 = .ok (.ireturn, 1) := by decide +kernel
theorem dJ6_bitCount_0f7a4_0 : decode cJ6_bitCount_0f7a4 0 = .ok (.iload_n 0, 1) := by decide +kernel
theorem dJ6_bitCount_0f7a4_1 : decode cJ6_bitCount_0f7a4 1 = .ok (.iload_n 0, 1) := by decide +kernel
theorem dJ6_bitCount_0f7a4_2 : decode cJ6_bitCount_0f7a4 2 = .ok (.iconst 1, 1) := by decide +kernel
theorem dJ6_bitCount_0f7a4_3 : decode cJ6_bitCount_0f7a4 3 = .ok (.iushr, 1) := by decide +kernel
theorem dJ6_bitCount_0f7a4_4 : decode cJ6_bitCount_0f7a4 4 = .ok (.ldc_w 265, 3) := by decide +kernel
theorem dJ6_bitCount_0f7a4_7 : decode cJ6_bitCount_0f7a4 7 = .ok (.iand, 1) := by decide +kernel
theorem dJ6_bitCount_0f7a4_8 : decode cJ6_bitCount_0f7a4 8 = .ok (.isub, 1) := by decide +kernel
theorem dJ6_bitCount_0f7a4_9 : decode cJ6_bitCount_0f7a4 9 = .ok (.istore_n 0, 1) := by decide +kernel
theorem dJ6_bitCount_0f7a4_10 : decode cJ6_bitCount_0f7a4 10 = .ok (.iload_n 0, 1) := by decide +kernel
theorem dJ6_bitCount_0f7a4_11 : decode cJ6_bitCount_0f7a4 11 = .ok (.ldc_w 266, 3) := by decide +kernel
theorem dJ6_bitCount_0f7a4_14 : decode cJ6_bitCount_0f7a4 14 = .ok (.iand, 1) := by decide +kernel
theorem dJ6_bitCount_0f7a4_15 : decode cJ6_bitCount_0f7a4 15 = .ok (.iload_n 0, 1) := by decide +kernel
theorem dJ6_bitCount_0f7a4_16 : decode cJ6_bitCount_0f7a4 16 = .ok (.iconst 2, 1) := by decide +kernel
theorem dJ6_bitCount_0f7a4_17 : decode cJ6_bitCount_0f7a4 17 = .ok (.iushr, 1) := by decide +kernel
theorem dJ6_bitCount_0f7a4_18 : decode cJ6_bitCount_0f7a4 18 = .ok (.ldc_w 266, 3) := by decide +kernel
theorem dJ6_bitCount_0f7a4_21 : decode cJ6_bitCount_0f7a4 21 = .ok (.iand, 1) := by decide +kernel
theorem dJ6_bitCount_0f7a4_22 : decode cJ6_bitCount_0f7a4 22 = .ok (.iadd, 1) := by decide +kernel
theorem dJ6_bitCount_0f7a4_23 : decode cJ6_bitCount_0f7a4 23 = .ok (.istore_n 0, 1) := by decide +kernel
theorem dJ6_bitCount_0f7a4_24 : decode cJ6_bitCount_0f7a4 24 = .ok (.iload_n 0, 1) := by decide +kernel
theorem dJ6_bitCount_0f7a4_25 : decode cJ6_bitCount_0f7a4 25 = .ok (.iload_n 0, 1) := by decide +kernel
theorem dJ6_bitCount_0f7a4_26 : decode cJ6_bitCount_0f7a4 26 = .ok (.iconst 4, 1) := by decide +kernel
theorem dJ6_bitCount_0f7a4_27 : decode cJ6_bitCount_0f7a4 27 = .ok (.iushr, 1) := by decide +kernel
theorem dJ6_bitCount_0f7a4_28 : decode cJ6_bitCount_0f7a4 28 = .ok (.iadd, 1) := by decide +kernel
theorem dJ6_bitCount_0f7a4_29 : decode cJ6_bitCount_0f7a4 29 = .ok (.ldc_w 267, 3) := by decide +kernel
theorem dJ6_bitCount_0f7a4_32 : decode cJ6_bitCount_0f7a4 32 = .ok (.iand, 1) := by decide +kernel
theorem dJ6_bitCount_0f7a4_33 : decode cJ6_bitCount_0f7a4 33 = .ok (.istore_n 0, 1) := by decide +kernel
theorem dJ6_bitCount_0f7a4_34 : decode cJ6_bitCount_0f7a4 34 = .ok (.iload_n 0, 1) := by decide +kernel
theorem dJ6_bitCount_0f7a4_35 : decode cJ6_bitCount_0f7a4 35 = .ok (.iload_n 0, 1) := by decide +kernel
theorem dJ6_bitCount_0f7a4_36 : decode cJ6_bitCount_0f7a4 36 = .ok (.bipush 8, 2) := by decide +kernel
theorem dJ6_bitCount_0f7a4_38 : decode cJ6_bitCount_0f7a4 38 = .ok (.iushr, 1) := by decide +kernel
theorem dJ6_bitCount_0f7a4_39 : decode cJ6_bitCount_0f7a4 39 = .ok (.iadd, 1) := by decide +kernel
theorem dJ6_bitCount_0f7a4_40 : decode cJ6_bitCount_0f7a4 40 = .ok (.istore_n 0, 1) := by decide +kernel
theorem dJ6_bitCount_0f7a4_41 : decode cJ6_bitCount_0f7a4 41 = .ok (.iload_n 0, 1) := by decide +kernel
theorem dJ6_bitCount_0f7a4_42 : decode cJ6_bitCount_0f7a4 42 = .ok (.iload_n 0, 1) := by decide +kernel
theorem dJ6_bitCount_0f7a4_43 : decode cJ6_bitCount_0f7a4 43 = .ok (.bipush 16, 2) := by decide +kernel
theorem dJ6_bitCount_0f7a4_45 : decode cJ6_bitCount_0f7a4 45 = .ok (.iushr, 1) := by decide +kernel
theorem dJ6_bitCount_0f7a4_46 : decode cJ6_bitCount_0f7a4 46 = .ok (.iadd, 1) := by decide +kernel
theorem dJ6_bitCount_0f7a4_47 : decode cJ6_bitCount_0f7a4 47 = .ok (.istore_n 0, 1) := by decide +kernel
theorem dJ6_bitCount_0f7a4_48 : decode cJ6_bitCount_0f7a4 48 = .ok (.iload_n 0, 1) := by decide +kernel
theorem dJ6_bitCount_0f7a4_49 : decode cJ6_bitCount_0f7a4 49 = .ok (.bipush 63, 2) := by decide +kernel
theorem dJ6_bitCount_0f7a4_51 : decode cJ6_bitCount_0f7a4 51 = .ok (.iand, 1) := by decide +kernel
theorem dJ6_bitCount_0f7a4_52 : decode cJ6_bitCount_0f7a4 52 = .ok (.ireturn, 1) := by decide +kernel
theorem dJ9_floorDiv_7cf53_0 : decode cJ9_floorDiv_7cf53 0 = .ok (.iload_n 0, 1) := by decide +kernel
theorem dJ9_floorDiv_7cf53_1 : decode cJ9_floorDiv_7cf53 1 = .ok (.iload_n 1, 1) := by decide +kernel
theorem dJ9_floorDiv_7cf53_2 : decode cJ9_floorDiv_7cf53 2 = .ok (.idiv, 1) := by decide +kernel
theorem dJ9_floorDiv_7cf53_3 : decode cJ9_floorDiv_7cf53 3 = .ok (.istore_n 2, 1) := by decide +kernel
theorem dJ9_floorDiv_7cf53_4 : decode cJ9_floorDiv_7cf53 4 = .ok (.iload_n 0, 1) := by decide +kernel
theorem dJ9_floorDiv_7cf53_5 : decode cJ9_floorDiv_7cf53 5 = .ok (.iload_n 1, 1) := by decide +kernel
theorem dJ9_floorDiv_7cf53_6 : decode cJ9_floorDiv_7cf53 6 = .ok (.ixor, 1) := by decide +kernel
theorem dJ9_floorDiv_7cf53_7 : decode cJ9_floorDiv_7cf53 7 = .ok (.ifCond .ge 14, 3) := by decide +kernel
theorem dJ9_floorDiv_7cf53_10 : decode cJ9_floorDiv_7cf53 10 = .ok (.iload_n 2, 1) := by decide +kernel
theorem dJ9_floorDiv_7cf53_11 : decode cJ9_floorDiv_7cf53 11 = .ok (.iload_n 1, 1) := by decide +kernel
theorem dJ9_floorDiv_7cf53_12 : decode cJ9_floorDiv_7cf53 12 = .ok (.imul, 1) := by decide +kernel
theorem dJ9_floorDiv_7cf53_13 : decode cJ9_floorDiv_7cf53 13 = .ok (.iload_n 0, 1) := by decide +kernel
theorem dJ9_floorDiv_7cf53_14 : decode cJ9_floorDiv_7cf53 14 = .ok (.if_icmp .eq 7, 3) := by decide +kernel
theorem dJ9_floorDiv_7cf53_17 : decode cJ9_floorDiv_7cf53 17 = .ok (.iload_n 2, 1) := by decide +kernel
theorem dJ9_floorDiv_7cf53_18 : decode cJ9_floorDiv_7cf53 18 = .ok (.iconst 1, 1) := by decide +kernel
theorem dJ9_floorDiv_7cf53_19 : decode cJ9_floorDiv_7cf53 19 = .ok (.isub, 1) := by decide +kernel
theorem dJ9_floorDiv_7cf53_20 : decode cJ9_floorDiv_7cf53 20 = .ok (.ireturn, 1) := by decide +kernel
theorem dJ9_floorDiv_7cf53_21 : decode cJ9_floorDiv_7cf53 21 = .ok (.iload_n 2, 1) := by decide +kernel
theorem dJ9_floorDiv_7cf53_22 : decode cJ9_floorDiv_7cf53 22 = .ok (.ireturn, 1) := by decide +kernel
theorem dJ9_abs_0f7a4_0 : decode cJ9_abs_0f7a4 0 = .ok (.iload_n 0, 1) := by decide +kernel
theorem dJ9_abs_0f7a4_1 : decode cJ9_abs_0f7a4 1 = .ok (.ifCond .ge 8, 3) := by decide +kernel
theorem dJ9_abs_0f7a4_4 : decode cJ9_abs_0f7a4 4 = .ok (.iload_n 0, 1) := by decide +kernel
theorem dJ9_abs_0f7a4_5 : decode cJ9_abs_0f7a4 5 = .ok (.ineg, 1) := by decide +kernel
theorem dJ9_abs_0f7a4_6 : decode cJ9_abs_0f7a4 6 = .ok (.goto 4, 3) := by decide +kernel
theorem dJ9_abs_0f7a4_9 : decode cJ9_abs_0f7a4 9 = .ok (.iload_n 0, 1) := by decide +kernel
theorem dJ9_abs_0f7a4_10 : decode cJ9_abs_0f7a4 10 = .ok (.ireturn, 1) := by decide +kernel
theorem dJ9_abs_294c1_0 : decode cJ9_abs_294c1 0 = .ok (.dload_n 0, 1) := by decide +kernel
theorem dJ9_abs_294c1_1 : decode cJ9_abs_294c1 1 = .ok (.invokestatic 79, 3) := by decide +kernel
theorem dJ9_abs_294c1_4 : decode cJ9_abs_294c1 4 = .ok (.ldc2_w 135, 3) := by decide +kernel
theorem dJ9_abs_294c1_7 : decode cJ9_abs_294c1 7 = .ok (.land, 1) := by decide +kernel
theorem dJ9_abs_294c1_8 : decode cJ9_abs_294c1 8 = .ok (.invokestatic 166, 3) := by decide +kernel
theorem dJ9_abs_294c1_11 : decode cJ9_abs_294c1 11 = .ok (.dreturn, 1) := by decide +kernel
theorem dJ9_max_7cf53_0 : decode cJ9_max_7cf53 0 = .ok (.iload_n 0, 1) := by decide +kernel
theorem dJ9_max_7cf53_1 : decode cJ9_max_7cf53 1 = .ok (.iload_n 1, 1) := by decide +kernel
theorem dJ9_max_7cf53_2 : decode cJ9_max_7cf53 2 = .ok (.if_icmp .lt 7, 3) := by decide +kernel
theorem dJ9_max_7cf53_5 : decode cJ9_max_7cf53 5 = .ok (.iload_n 0, 1) := by decide +kernel
theorem dJ9_max_7cf53_6 : decode cJ9_max_7cf53 6 = .ok (.goto 4, 3) := by decide +kernel
theorem dJ9_max_7cf53_9 : decode cJ9_max_7cf53 9 = .ok (.iload_n 1, 1) := by decide +kernel
theorem dJ9_max_7cf53_10 : decode cJ9_max_7cf53 10 = .ok (.ireturn, 1) := by decide +kernel
theorem dJ9_min_7cf53_0 : decode cJ9_min_7cf53 0 = .ok (.iload_n 0, 1) := by decide +kernel
theorem dJ9_min_7cf53_1 : decode cJ9_min_7cf53 1 = .ok (.iload_n 1, 1) := by decide +kernel
theorem dJ9_min_7cf53_2 : decode cJ9_min_7cf53 2 = .ok (.if_icmp .gt 7, 3) := by decide +kernel
theorem dJ9_min_7cf53_5 : decode cJ9_min_7cf53 5 = .ok (.iload_n 0, 1) := by decide +kernel
theorem dJ9_min_7cf53_6 : decode cJ9_min_7cf53 6 = .ok (.goto 4, 3) := by decide +kernel
theorem dJ9_min_7cf53_9 : decode cJ9_min_7cf53 9 = .ok (.iload_n 1, 1) := by decide +kernel
theorem dJ9_min_7cf53_10 : decode cJ9_min_7cf53 10 = .ok (.ireturn, 1) := by decide +kernel
