theorem dX4_read_46 : decode cX4_read 46 = .ok (.iload_n 2, 1) := by decide +kernel
theorem dX4_read_47 : decode cX4_read 47 = .ok (.invokevirtual 143, 3) := by decide +kernel
theorem dX4_read_50 : decode cX4_read 50 = .ok (.ifCond .eq 11, 3) := by decide +kernel
theorem dX4_read_53 : decode cX4_read 53 = .ok (.iload_n 1, 1) := by decide +kernel
theorem dX4_read_54 : decode cX4_read 54 = .ok (.aload_n 0, 1) := by decide +kernel
theorem dX4_read_55 : decode cX4_read 55 = .ok (.iload_n 2, 1) := by decide +kernel
theorem dX4_read_56 : decode cX4_read 56 = .ok (.invokevirtual 182, 3) := by decide +kernel
theorem dX4_read_59 : decode cX4_read 59 = .ok (.iadd, 1) := by decide +kernel
theorem dX4_read_60 : decode cX4_read 60 = .ok (.istore_n 1, 1) := by decide +kernel
theorem dX4_read_61 : decode cX4_read 61 = .ok (.iinc 2 1, 3) := by decide +kernel
theorem dX4_read_64 : decode cX4_read 64 = .ok (.goto (-27), 3) := by decide +kernel
theorem dX4_read_67 : decode cX4_read 67 = .ok (.aload_n 0, 1) := by decide +kernel
theorem dX4_read_68 : decode cX4_read 68 = .ok (.iconst 1, 1) := by decide +kernel
theorem dX4_read_69 : decode cX4_read 69 = .ok (.putfield 37, 3) := by decide +kernel
theorem dX4_read_72 : decode cX4_read 72 = .ok (.iload_n 1, 1) := by decide +kernel
theorem dX4_read_73 : decode cX4_read 73 = .ok (.ireturn, 1) := by decide +kernel
theorem dX4_print_0 : decode cX4_print 0 = .ok (.aload_n 0, 1) := by decide +kernel
theorem dX4_print_1 : decode cX4_print 1 = .ok (.iload_n 1, 1) := by decide +kernel
theorem dX4_print_2 : decode cX4_print 2 = .ok (.invokevirtual 138, 3) := by decide +kernel
theorem dX4_print_5 : decode cX4_print 5 = .ok (.ifCond .ne 13, 3) := by decide +kernel
theorem dX4_print_8 : decode cX4_print 8 = .ok (.new 68, 3) := by decide +kernel
theorem dX4_print_11 : decode cX4_print 11 = .ok (.dup, 1) := by decide +kernel
theorem dX4_print_12 : decode cX4_print 12 = .ok (.ldc 141, 2) := by decide +kernel
theorem dX4_print_14 : decode cX4_print 14 = .ok (.invokespecial 72, 3) := by decide +kernel
theorem dX4_print_17 : decode cX4_print 17 = .ok (.athrow, 1) := by decide +kernel
theorem dX4_print_18 : decode cX4_print 18 = .ok (.iload_n 2, 1) := by decide +kernel
theorem dX4_print_19 : decode cX4_print 19 = .ok (.iconst 1, 1) := by decide +kernel
theorem dX4_print_20 : decode cX4_print 20 = .ok (.sipush 5000, 3) := by decide +kernel
theorem dX4_print_23 : decode cX4_print 23 = .ok (.invokestatic 76, 3) := by decide +kernel
theorem dX4_print_26 : decode cX4_print 26 = .ok (.ifCond .ne 13, 3) := by decide +kernel
theorem dX4_print_29 : decode cX4_print 29 = .ok (.new 80, 3) := by decide +kernel
theorem dX4_print_32 : decode cX4_print 32 = .ok (.dup, 1) := by decide +kernel
theorem dX4_print_33 : decode cX4_print 33 = .ok (.ldc 185, 2) := by decide +kernel
theorem dX4_print_35 : decode cX4_print 35 = .ok (.invokespecial 84, 3) := by decide +kernel
theorem dX4_print_38 : decode cX4_print 38 = .ok (.athrow, 1) := by decide +kernel
theorem dX4_print_39 : decode cX4_print 39 = .ok (.aload_n 0, 1) := by decide +kernel
theorem dX4_print_40 : decode cX4_print 40 = .ok (.getfield 17, 3) := by decide +kernel
theorem dX4_print_43 : decode cX4_print 43 = .ok (.iload_n 1, 1) := by decide +kernel
theorem dX4_print_44 : decode cX4_print 44 = .ok (.aaload, 1) := by decide +kernel
theorem dX4_print_45 : decode cX4_print 45 = .ok (.sipush 9999, 3) := by decide +kernel
theorem dX4_print_48 : decode cX4_print 48 = .ok (.aload_n 0, 1) := by decide +kernel
theorem dX4_print_49 : decode cX4_print 49 = .ok (.getfield 17, 3) := by decide +kernel
theorem dX4_print_52 : decode cX4_print 52 = .ok (.iload_n 1, 1) := by decide +kernel
theorem dX4_print_53 : decode cX4_print 53 = .ok (.aaload, 1) := by decide +kernel
theorem dX4_print_54 : decode cX4_print 54 = .ok (.getfield 187, 3) := by decide +kernel
theorem dX4_print_57 : decode cX4_print 57 = .ok (.iload_n 2, 1) := by decide +kernel
theorem dX4_print_58 : decode cX4_print 58 = .ok (.iadd, 1) := by decide +kernel
theorem dX4_print_59 : decode cX4_print 59 = .ok (.invokestatic 190, 3) := by decide +kernel
theorem dX4_print_62 : decode cX4_print 62 = .ok (.putfield 187, 3) := by decide +kernel
theorem dX4_print_65 : decode cX4_print 65 = .ok (.aload_n 0, 1) := by decide +kernel
theorem dX4_print_66 : decode cX4_print 66 = .ok (.getfield 17, 3) := by decide +kernel
theorem dX4_print_69 : decode cX4_print 69 = .ok (.iload_n 1, 1) := by decide +kernel
theorem dX4_print_70 : decode cX4_print 70 = .ok (.aaload, 1) := by decide +kernel
theorem dX4_print_71 : decode cX4_print 71 = .ok (.getfield 187, 3) := by decide +kernel
theorem dX4_print_74 : decode cX4_print 74 = .ok (.ireturn, 1) := by decide +kernel
theorem dX4_pass_0 : decode cX4_pass 0 = .ok (.iload_n 1, 1) := by decide +kernel
theorem dX4_pass_1 : decode cX4_pass 1 = .ok (.iconst 1, 1) := by decide +kernel
theorem dX4_pass_2 : decode cX4_pass 2 = .ok (.bipush 60, 2) := by decide +kernel
theorem dX4_pass_4 : decode cX4_pass 4 = .ok (.invokestatic 76, 3) := by decide +kernel
theorem dX4_pass_7 : decode cX4_pass 7 = .ok (.ifCond .ne 13, 3) := by decide +kernel
theorem dX4_pass_10 : decode cX4_pass 10 = .ok (.new 80, 3) := by decide +kernel
theorem dX4_pass_13 : decode cX4_pass 13 = .ok (.dup, 1) := by decide +kernel
theorem dX4_pass_14 : decode cX4_pass 14 = .ok (.ldc 195, 2) := by decide +kernel
theorem dX4_pass_16 : decode cX4_pass 16 = .ok (.invokespecial 84, 3) := by decide +kernel
theorem dX4_pass_19 : decode cX4_pass 19 = .ok (.athrow, 1) := by decide +kernel
theorem dX4_pass_20 : decode cX4_pass 20 = .ok (.aload_n 0, 1) := by decide +kernel
theorem dX4_pass_21 : decode cX4_pass 21 = .ok (.getfield 197, 3) := by decide +kernel
theorem dX4_pass_24 : decode cX4_pass 24 = .ok (.iload_n 1, 1) := by decide +kernel
theorem dX4_pass_25 : decode cX4_pass 25 = .ok (.iadd, 1) := by decide +kernel
theorem dX4_pass_26 : decode cX4_pass 26 = .ok (.sipush 9999, 3) := by decide +kernel
theorem dX4_pass_29 : decode cX4_pass 29 = .ok (.if_icmp .le 13, 3) := by decide +kernel
theorem dX4_pass_32 : decode cX4_pass 32 = .ok (.new 57, 3) := by decide +kernel
theorem dX4_pass_35 : decode cX4_pass 35 = .ok (.dup, 1) := by decide +kernel
theorem dX4_pass_36 : decode cX4_pass 36 = .ok (.ldc 200, 2) := by decide +kernel
theorem dX4_pass_38 : decode cX4_pass 38 = .ok (.invokespecial 61, 3) := by decide +kernel
theorem dX4_pass_41 : decode cX4_pass 41 = .ok (.athrow, 1) := by decide +kernel
theorem dX4_pass_42 : decode cX4_pass 42 = .ok (.iconst 0, 1) := by decide +kernel
theorem dX4_pass_43 : decode cX4_pass 43 = .ok (.istore_n 2, 1) := by decide +kernel
theorem dX4_pass_44 : decode cX4_pass 44 = .ok (.iconst 0, 1) := by decide +kernel
theorem dX4_pass_45 : decode cX4_pass 45 = .ok (.istore_n 3, 1) := by decide +kernel
theorem dX4_pass_46 : decode cX4_pass 46 = .ok (.iload_n 3, 1) := by decide +kernel
theorem dX4_pass_47 : decode cX4_pass 47 = .ok (.iload_n 1, 1) := by decide +kernel
theorem dX4_pass_48 : decode cX4_pass 48 = .ok (.if_icmp .ge 16, 3) := by decide +kernel
theorem dX4_pass_51 : decode cX4_pass 51 = .ok (.iload_n 2, 1) := by decide +kernel
theorem dX4_pass_52 : decode cX4_pass 52 = .ok (.aload_n 0, 1) := by decide +kernel
theorem dX4_pass_53 : decode cX4_pass 53 = .ok (.invokevirtual 202, 3) := by decide +kernel
theorem dX4_pass_56 : decode cX4_pass 56 = .ok (.iadd, 1) := by decide +kernel
theorem dX4_pass_57 : decode cX4_pass 57 = .ok (.istore_n 2, 1) := by decide +kernel
theorem dX4_pass_58 : decode cX4_pass 58 = .ok (.iinc 3 1, 3) := by decide +kernel
theorem dX4_pass_61 : decode cX4_pass 61 = .ok (.goto (-15), 3) := by decide +kernel
theorem dX4_pass_64 : decode cX4_pass 64 = .ok (.aload_n 0, 1) := by decide +kernel
theorem dX4_pass_65 : decode cX4_pass 65 = .ok (.iload_n 1, 1) := by decide +kernel
theorem dX4_pass_66 : decode cX4_pass 66 = .ok (.invokevirtual 205, 3) := by decide +kernel
theorem dX4_pass_69 : decode cX4_pass 69 = .ok (.aload_n 0, 1) := by decide +kernel
theorem dX4_pass_70 : decode cX4_pass 70 = .ok (.dup, 1) := by decide +kernel
theorem dX4_pass_71 : decode cX4_pass 71 = .ok (.getfield 197, 3) := by decide +kernel
theorem dX4_pass_74 : decode cX4_pass 74 = .ok (.iload_n 1, 1) := by decide +kernel
theorem dX4_pass_75 : decode cX4_pass 75 = .ok (.iadd, 1) := by decide +kernel
theorem dX4_pass_76 : decode cX4_pass 76 = .ok (.putfield 197, 3) := by decide +kernel
theorem dX4_pass_79 : decode cX4_pass 79 = .ok (.iload_n 2, 1) := by decide +kernel
theorem dX4_pass_80 : decode cX4_pass 80 = .ok (.ireturn, 1) := by decide +kernel
theorem dX4_longList_0 : decode cX4_longList 0 = .ok (.iload_n 1, 1) := by decide +kernel
theorem dX4_longList_1 : decode cX4_longList 1 = .ok (.iconst 3, 1) := by decide +kernel
theorem dX4_longList_2 : decode cX4_longList 2 = .ok (.bipush 8, 2) := by decide +kernel
theorem dX4_longList_4 : decode cX4_longList 4 = .ok (.invokestatic 76, 3) := by decide +kernel
theorem dX4_longList_7 : decode cX4_longList 7 = .ok (.ifCond .ne 13, 3) := by decide +kernel
theorem dX4_longList_10 : decode cX4_longList 10 = .ok (.new 80, 3) := by decide +kernel
theorem dX4_longList_13 : decode cX4_longList 13 = .ok (.dup, 1) := by decide +kernel
theorem dX4_longList_14 : decode cX4_longList 14 = .ok (.ldc 209, 2) := by decide +kernel
theorem dX4_longList_16 : decode cX4_longList 16 = .ok (.invokespecial 84, 3) := by decide +kernel
theorem dX4_longList_19 : decode cX4_longList 19 = .ok (.athrow, 1) := by decide +kernel
theorem dX4_longList_20 : decode cX4_longList 20 = .ok (.aload_n 0, 1) := by decide +kernel
theorem dX4_longList_21 : decode cX4_longList 21 = .ok (.getfield 37, 3) := by decide +kernel
theorem dX4_longList_24 : decode cX4_longList 24 = .ok (.iconst 1, 1) := by decide +kernel
theorem dX4_longList_25 : decode cX4_longList 25 = .ok (.if_icmp .ne 10, 3) := by decide +kernel
theorem dX4_longList_28 : decode cX4_longList 28 = .ok (.aload_n 0, 1) := by decide +kernel
theorem dX4_longList_29 : decode cX4_longList 29 = .ok (.invokevirtual 211, 3) := by decide +kernel
theorem dX4_longList_32 : decode cX4_longList 32 = .ok (.ifCond .ne 13, 3) := by decide +kernel
theorem dX4_longList_35 : decode cX4_longList 35 = .ok (.new 57, 3) := by decide +kernel
theorem dX4_longList_38 : decode cX4_longList 38 = .ok (.dup, 1) := by decide +kernel
theorem dX4_longList_39 : decode cX4_longList 39 = .ok (.ldc 215, 2) := by decide +kernel
theorem dX4_longList_41 : decode cX4_longList 41 = .ok (.invokespecial 61, 3) := by decide +kernel
theorem dX4_longList_44 : decode cX4_longList 44 = .ok (.athrow, 1) := by decide +kernel
theorem dX4_longList_45 : decode cX4_longList 45 = .ok (.aload_n 0, 1) := by decide +kernel
theorem dX4_longList_46 : decode cX4_longList 46 = .ok (.iload_n 1, 1) := by decide +kernel
theorem dX4_longList_47 : decode cX4_longList 47 = .ok (.invokevirtual 217, 3) := by decide +kernel
theorem dX4_longList_50 : decode cX4_longList 50 = .ok (.aload_n 0, 1) := by decide +kernel
theorem dX4_longList_51 : decode cX4_longList 51 = .ok (.iconst 2, 1) := by decide +kernel
theorem dX4_longList_52 : decode cX4_longList 52 = .ok (.putfield 37, 3) := by decide +kernel
theorem dX4_longList_55 : decode cX4_longList 55 = .ok (.aload_n 0, 1) := by decide +kernel
theorem dX4_longList_56 : decode cX4_longList 56 = .ok (.getfield 220, 3) := by decide +kernel
theorem dX4_longList_59 : decode cX4_longList 59 = .ok (.invokestatic 124, 3) := by decide +kernel
theorem dX4_longList_62 : decode cX4_longList 62 = .ok (.ireturn, 1) := by decide +kernel
theorem dX4_points_0 : decode cX4_points 0 = .ok (.aload_n 0, 1) := by decide +kernel
theorem dX4_points_1 : decode cX4_points 1 = .ok (.iload_n 1, 1) := by decide +kernel
theorem dX4_points_2 : decode cX4_points 2 = .ok (.invokevirtual 110, 3) := by decide +kernel
theorem dX4_points_5 : decode cX4_points 5 = .ok (.ifCond .eq 30, 3) := by decide +kernel
theorem dX4_points_8 : decode cX4_points 8 = .ok (.aload_n 0, 1) := by decide +kernel
theorem dX4_points_9 : decode cX4_points 9 = .ok (.iload_n 2, 1) := by decide +kernel
theorem dX4_points_10 : decode cX4_points 10 = .ok (.invokevirtual 138, 3) := by decide +kernel
theorem dX4_points_13 : decode cX4_points 13 = .ok (.ifCond .eq 22, 3) := by decide +kernel
theorem dX4_points_16 : decode cX4_points 16 = .ok (.aload_n 0, 1) := by decide +kernel
theorem dX4_points_17 : decode cX4_points 17 = .ok (.getfield 37, 3) := by decide +kernel
theorem dX4_points_20 : decode cX4_points 20 = .ok (.iconst 2, 1) := by decide +kernel
theorem dX4_points_21 : decode cX4_points 21 = .ok (.if_icmp .ne 14, 3) := by decide +kernel
theorem dX4_points_24 : decode cX4_points 24 = .ok (.aload_n 0, 1) := by decide +kernel
theorem dX4_points_25 : decode cX4_points 25 = .ok (.getfield 220, 3) := by decide +kernel
theorem dX4_points_28 : decode cX4_points 28 = .ok (.iload_n 2, 1) := by decide +kernel
theorem dX4_points_29 : decode cX4_points 29 = .ok (.invokestatic 223, 3) := by decide +kernel
theorem dX4_points_32 : decode cX4_points 32 = .ok (.ifCond .ne 13, 3) := by decide +kernel
theorem dX4_points_35 : decode cX4_points 35 = .ok (.new 68, 3) := by decide +kernel
theorem dX4_points_38 : decode cX4_points 38 = .ok (.dup, 1) := by decide +kernel
theorem dX4_points_39 : decode cX4_points 39 = .ok (.ldc 227, 2) := by decide +kernel
theorem dX4_points_41 : decode cX4_points 41 = .ok (.invokespecial 72, 3) := by decide +kernel
theorem dX4_points_44 : decode cX4_points 44 = .ok (.athrow, 1) := by decide +kernel
theorem dX4_points_45 : decode cX4_points 45 = .ok (.iload_n 3, 1) := by decide +kernel
theorem dX4_points_46 : decode cX4_points 46 = .ok (.iconst 0, 1) := by decide +kernel
theorem dX4_points_47 : decode cX4_points 47 = .ok (.bipush 12, 2) := by decide +kernel
theorem dX4_points_49 : decode cX4_points 49 = .ok (.invokestatic 76, 3) := by decide +kernel
theorem dX4_points_52 : decode cX4_points 52 = .ok (.ifCond .ne 13, 3) := by decide +kernel
theorem dX4_points_55 : decode cX4_points 55 = .ok (.new 80, 3) := by decide +kernel
theorem dX4_points_58 : decode cX4_points 58 = .ok (.dup, 1) := by decide +kernel
theorem dX4_points_59 : decode cX4_points 59 = .ok (.ldc 229, 2) := by decide +kernel
theorem dX4_points_61 : decode cX4_points 61 = .ok (.invokespecial 84, 3) := by decide +kernel
theorem dX4_points_64 : decode cX4_points 64 = .ok (.athrow, 1) := by decide +kernel
theorem dX4_points_65 : decode cX4_points 65 = .ok (.aload_n 0, 1) := by decide +kernel
theorem dX4_points_66 : decode cX4_points 66 = .ok (.getfield 23, 3) := by decide +kernel
theorem dX4_points_69 : decode cX4_points 69 = .ok (.iload_n 1, 1) := by decide +kernel
theorem dX4_points_70 : decode cX4_points 70 = .ok (.aaload, 1) := by decide +kernel
theorem dX4_points_71 : decode cX4_points 71 = .ok (.invokevirtual 231, 3) := by decide +kernel
theorem dX4_points_74 : decode cX4_points 74 = .ok (.aload_n 0, 1) := by decide +kernel
theorem dX4_points_75 : decode cX4_points 75 = .ok (.getfield 23, 3) := by decide +kernel
theorem dX4_points_78 : decode cX4_points 78 = .ok (.iload_n 1, 1) := by decide +kernel
theorem dX4_points_79 : decode cX4_points 79 = .ok (.aaload, 1) := by decide +kernel
theorem dX4_points_80 : decode cX4_points 80 = .ok (.getfield 234, 3) := by decide +kernel
theorem dX4_points_83 : decode cX4_points 83 = .ok (.iload_n 2, 1) := by decide +kernel
theorem dX4_points_84 : decode cX4_points 84 = .ok (.iaload, 1) := by decide +kernel
theorem dX4_points_85 : decode cX4_points 85 = .ok (.iadd, 1) := by decide +kernel
theorem dX4_points_86 : decode cX4_points 86 = .ok (.iload_n 3, 1) := by decide +kernel
theorem dX4_points_87 : decode cX4_points 87 = .ok (.isub, 1) := by decide +kernel
theorem dX4_points_88 : decode cX4_points 88 = .ok (.istore 4, 2) := by decide +kernel
theorem dX4_points_90 : decode cX4_points 90 = .ok (.aload_n 0, 1) := by decide +kernel
theorem dX4_points_91 : decode cX4_points 91 = .ok (.getfield 23, 3) := by decide +kernel
theorem dX4_points_94 : decode cX4_points 94 = .ok (.iload_n 1, 1) := by decide +kernel
theorem dX4_points_95 : decode cX4_points 95 = .ok (.aaload, 1) := by decide +kernel
theorem dX4_points_96 : decode cX4_points 96 = .ok (.aload_n 0, 1) := by decide +kernel
theorem dX4_points_97 : decode cX4_points 97 = .ok (.getfield 17, 3) := by decide +kernel
theorem dX4_points_100 : decode cX4_points 100 = .ok (.iload_n 2, 1) := by decide +kernel
theorem dX4_points_101 : decode cX4_points 101 = .ok (.aaload, 1) := by decide +kernel
theorem dX4_points_102 : decode cX4_points 102 = .ok (.getfield 170, 3) := by decide +kernel
theorem dX4_points_105 : decode cX4_points 105 = .ok (.invokevirtual 173, 3) := by decide +kernel
theorem dX4_points_108 : decode cX4_points 108 = .ok (.ifCond .ne 8, 3) := by decide +kernel
theorem dX4_points_111 : decode cX4_points 111 = .ok (.iload 4, 2) := by decide +kernel
theorem dX4_points_113 : decode cX4_points 113 = .ok (.ifCond .ge 13, 3) := by decide +kernel
theorem dX4_points_116 : decode cX4_points 116 = .ok (.new 57, 3) := by decide +kernel
theorem dX4_points_119 : decode cX4_points 119 = .ok (.dup, 1) := by decide +kernel
theorem dX4_points_120 : decode cX4_points 120 = .ok (.ldc 237, 2) := by decide +kernel
theorem dX4_points_122 : decode cX4_points 122 = .ok (.invokespecial 61, 3) := by decide +kernel
theorem dX4_points_125 : decode cX4_points 125 = .ok (.athrow, 1) := by decide +kernel
theorem dX4_points_126 : decode cX4_points 126 = .ok (.aload_n 0, 1) := by decide +kernel
theorem dX4_points_127 : decode cX4_points 127 = .ok (.getfield 23, 3) := by decide +kernel
theorem dX4_points_130 : decode cX4_points 130 = .ok (.iload_n 1, 1) := by decide +kernel
theorem dX4_points_131 : decode cX4_points 131 = .ok (.aaload, 1) := by decide +kernel
theorem dX4_points_132 : decode cX4_points 132 = .ok (.getfield 234, 3) := by decide +kernel
theorem dX4_points_135 : decode cX4_points 135 = .ok (.iload_n 2, 1) := by decide +kernel
theorem dX4_points_136 : decode cX4_points 136 = .ok (.iload_n 3, 1) := by decide +kernel
theorem dX4_points_137 : decode cX4_points 137 = .ok (.iastore, 1) := by decide +kernel
theorem dX4_points_138 : decode cX4_points 138 = .ok (.iload 4, 2) := by decide +kernel
theorem dX4_points_140 : decode cX4_points 140 = .ok (.ireturn, 1) := by decide +kernel
theorem dX4_shortList_0 : decode cX4_shortList 0 = .ok (.iload_n 1, 1) := by decide +kernel
theorem dX4_shortList_1 : decode cX4_shortList 1 = .ok (.iconst 2, 1) := by decide +kernel
theorem dX4_shortList_2 : decode cX4_shortList 2 = .ok (.iconst 5, 1) := by decide +kernel
theorem dX4_shortList_3 : decode cX4_shortList 3 = .ok (.invokestatic 76, 3) := by decide +kernel
theorem dX4_shortList_6 : decode cX4_shortList 6 = .ok (.ifCond .ne 13, 3) := by decide +kernel
theorem dX4_shortList_9 : decode cX4_shortList 9 = .ok (.new 80, 3) := by decide +kernel
theorem dX4_shortList_12 : decode cX4_shortList 12 = .ok (.dup, 1) := by decide +kernel
theorem dX4_shortList_13 : decode cX4_shortList 13 = .ok (.ldc 239, 2) := by decide +kernel
theorem dX4_shortList_15 : decode cX4_shortList 15 = .ok (.invokespecial 84, 3) := by decide +kernel
theorem dX4_shortList_18 : decode cX4_shortList 18 = .ok (.athrow, 1) := by decide +kernel
theorem dX4_shortList_19 : decode cX4_shortList 19 = .ok (.aload_n 0, 1) := by decide +kernel
theorem dX4_shortList_20 : decode cX4_shortList 20 = .ok (.getfield 37, 3) := by decide +kernel
theorem dX4_shortList_23 : decode cX4_shortList 23 = .ok (.iconst 2, 1) := by decide +kernel
theorem dX4_shortList_24 : decode cX4_shortList 24 = .ok (.if_icmp .eq 13, 3) := by decide +kernel
theorem dX4_shortList_27 : decode cX4_shortList 27 = .ok (.new 57, 3) := by decide +kernel
theorem dX4_shortList_30 : decode cX4_shortList 30 = .ok (.dup, 1) := by decide +kernel
theorem dX4_shortList_31 : decode cX4_shortList 31 = .ok (.ldc 241, 2) := by decide +kernel
theorem dX4_shortList_33 : decode cX4_shortList 33 = .ok (.invokespecial 61, 3) := by decide +kernel
theorem dX4_shortList_36 : decode cX4_shortList 36 = .ok (.athrow, 1) := by decide +kernel
theorem dX4_shortList_37 : decode cX4_shortList 37 = .ok (.aload_n 0, 1) := by decide +kernel
theorem dX4_shortList_38 : decode cX4_shortList 38 = .ok (.iload_n 1, 1) := by decide +kernel
theorem dX4_shortList_39 : decode cX4_shortList 39 = .ok (.invokevirtual 243, 3) := by decide +kernel
theorem dX4_shortList_42 : decode cX4_shortList 42 = .ok (.aload_n 0, 1) := by decide +kernel
theorem dX4_shortList_43 : decode cX4_shortList 43 = .ok (.iconst 3, 1) := by decide +kernel
theorem dX4_shortList_44 : decode cX4_shortList 44 = .ok (.putfield 37, 3) := by decide +kernel
theorem dX4_shortList_47 : decode cX4_shortList 47 = .ok (.aload_n 0, 1) := by decide +kernel
theorem dX4_shortList_48 : decode cX4_shortList 48 = .ok (.getfield 246, 3) := by decide +kernel
theorem dX4_shortList_51 : decode cX4_shortList 51 = .ok (.invokestatic 124, 3) := by decide +kernel
theorem dX4_shortList_54 : decode cX4_shortList 54 = .ok (.ireturn, 1) := by decide +kernel
theorem dX4_vote_0 : decode cX4_vote 0 = .ok (.aload_n 0, 1) := by decide +kernel
theorem dX4_vote_1 : decode cX4_vote 1 = .ok (.iload_n 1, 1) := by decide +kernel
theorem dX4_vote_2 : decode cX4_vote 2 = .ok (.invokevirtual 110, 3) := by decide +kernel
theorem dX4_vote_5 : decode cX4_vote 5 = .ok (.ifCond .ne 13, 3) := by decide +kernel
theorem dX4_vote_8 : decode cX4_vote 8 = .ok (.new 68, 3) := by decide +kernel
theorem dX4_vote_11 : decode cX4_vote 11 = .ok (.dup, 1) := by decide +kernel
theorem dX4_vote_12 : decode cX4_vote 12 = .ok (.ldc 113, 2) := by decide +kernel
theorem dX4_vote_14 : decode cX4_vote 14 = .ok (.invokespecial 72, 3) := by decide +kernel
theorem dX4_vote_17 : decode cX4_vote 17 = .ok (.athrow, 1) := by decide +kernel
theorem dX4_vote_18 : decode cX4_vote 18 = .ok (.aload_n 0, 1) := by decide +kernel
theorem dX4_vote_19 : decode cX4_vote 19 = .ok (.iload_n 2, 1) := by decide +kernel
theorem dX4_vote_20 : decode cX4_vote 20 = .ok (.invokevirtual 249, 3) := by decide +kernel
theorem dX4_vote_23 : decode cX4_vote 23 = .ok (.ifCond .ne 13, 3) := by decide +kernel
theorem dX4_vote_26 : decode cX4_vote 26 = .ok (.new 80, 3) := by decide +kernel
theorem dX4_vote_29 : decode cX4_vote 29 = .ok (.dup, 1) := by decide +kernel
theorem dX4_vote_30 : decode cX4_vote 30 = .ok (.ldc 252, 2) := by decide +kernel
theorem dX4_vote_32 : decode cX4_vote 32 = .ok (.invokespecial 84, 3) := by decide +kernel
theorem dX4_vote_35 : decode cX4_vote 35 = .ok (.athrow, 1) := by decide +kernel
theorem dX4_vote_36 : decode cX4_vote 36 = .ok (.aload_n 0, 1) := by decide +kernel
theorem dX4_vote_37 : decode cX4_vote 37 = .ok (.getfield 37, 3) := by decide +kernel
theorem dX4_vote_40 : decode cX4_vote 40 = .ok (.iconst 3, 1) := by decide +kernel
theorem dX4_vote_41 : decode cX4_vote 41 = .ok (.if_icmp .eq 13, 3) := by decide +kernel
theorem dX4_vote_44 : decode cX4_vote 44 = .ok (.new 57, 3) := by decide +kernel
theorem dX4_vote_47 : decode cX4_vote 47 = .ok (.dup, 1) := by decide +kernel
theorem dX4_vote_48 : decode cX4_vote 48 = .ok (.ldc 254, 2) := by decide +kernel
theorem dX4_vote_50 : decode cX4_vote 50 = .ok (.invokespecial 61, 3) := by decide +kernel
theorem dX4_vote_53 : decode cX4_vote 53 = .ok (.athrow, 1) := by decide +kernel
theorem dX4_vote_54 : decode cX4_vote 54 = .ok (.aload_n 0, 1) := by decide +kernel
theorem dX4_vote_55 : decode cX4_vote 55 = .ok (.aload_n 0, 1) := by decide +kernel
theorem dX4_vote_56 : decode cX4_vote 56 = .ok (.getfield 23, 3) := by decide +kernel
theorem dX4_vote_59 : decode cX4_vote 59 = .ok (.iload_n 1, 1) := by decide +kernel
theorem dX4_vote_60 : decode cX4_vote 60 = .ok (.aaload, 1) := by decide +kernel
theorem dX4_vote_61 : decode cX4_vote 61 = .ok (.iload_n 2, 1) := by decide +kernel
theorem dX4_vote_62 : decode cX4_vote 62 = .ok (.invokevirtual 256, 3) := by decide +kernel
theorem dX4_vote_65 : decode cX4_vote 65 = .ok (.aload_n 0, 1) := by decide +kernel
theorem dX4_vote_66 : decode cX4_vote 66 = .ok (.invokevirtual 260, 3) := by decide +kernel
theorem dX4_vote_69 : decode cX4_vote 69 = .ok (.ireturn, 1) := by decide +kernel
theorem dX4_end_0 : decode cX4_end 0 = .ok (.aload_n 0, 1) := by decide +kernel
theorem dX4_end_1 : decode cX4_end 1 = .ok (.getfield 37, 3) := by decide +kernel
theorem dX4_end_4 : decode cX4_end 4 = .ok (.iconst 3, 1) := by decide +kernel
theorem dX4_end_5 : decode cX4_end 5 = .ok (.if_icmp .eq 14, 3) := by decide +kernel
theorem dX4_end_8 : decode cX4_end 8 = .ok (.new 57, 3) := by decide +kernel
theorem dX4_end_11 : decode cX4_end 11 = .ok (.dup, 1) := by decide +kernel
theorem dX4_end_12 : decode cX4_end 12 = .ok (.ldc_w 263, 3) := by decide +kernel
theorem dX4_end_15 : decode cX4_end 15 = .ok (.invokespecial 61, 3) := by decide +kernel
theorem dX4_end_18 : decode cX4_end 18 = .ok (.athrow, 1) := by decide +kernel
theorem dX4_end_19 : decode cX4_end 19 = .ok (.aload_n 0, 1) := by decide +kernel
theorem dX4_end_20 : decode cX4_end 20 = .ok (.aload_n 0, 1) := by decide +kernel
theorem dX4_end_21 : decode cX4_end 21 = .ok (.iconst 0, 1) := by decide +kernel
theorem dX4_end_22 : decode cX4_end 22 = .ok (.iconst 0, 1) := by decide +kernel
theorem dX4_end_23 : decode cX4_end 23 = .ok (.invokevirtual 265, 3) := by decide +kernel
theorem dX4_end_26 : decode cX4_end 26 = .ok (.invokevirtual 268, 3) := by decide +kernel
theorem dX4_end_29 : decode cX4_end 29 = .ok (.aload_n 0, 1) := by decide +kernel
theorem dX4_end_30 : decode cX4_end 30 = .ok (.iconst 4, 1) := by decide +kernel
theorem dX4_end_31 : decode cX4_end 31 = .ok (.putfield 37, 3) := by decide +kernel
theorem dX4_end_34 : decode cX4_end 34 = .ok (.aload_n 0, 1) := by decide +kernel
theorem dX4_end_35 : decode cX4_end 35 = .ok (.getfield 41, 3) := by decide +kernel
theorem dX4_end_38 : decode cX4_end 38 = .ok (.ireturn, 1) := by decide +kernel
theorem dX4_strip_0 : decode cX4_strip 0 = .ok (.aload_n 0, 1) := by decide +kernel
theorem dX4_strip_1 : decode cX4_strip 1 = .ok (.getfield 37, 3) := by decide +kernel
theorem dX4_strip_4 : decode cX4_strip 4 = .ok (.iconst 4, 1) := by decide +kernel
theorem dX4_strip_5 : decode cX4_strip 5 = .ok (.if_icmp .ne 11, 3) := by decide +kernel
theorem dX4_strip_8 : decode cX4_strip 8 = .ok (.aload_n 0, 1) := by decide +kernel
theorem dX4_strip_9 : decode cX4_strip 9 = .ok (.getfield 41, 3) := by decide +kernel
theorem dX4_strip_12 : decode cX4_strip 12 = .ok (.iconst (-1), 1) := by decide +kernel
theorem dX4_strip_13 : decode cX4_strip 13 = .ok (.if_icmp .ne 14, 3) := by decide +kernel
theorem dX4_strip_16 : decode cX4_strip 16 = .ok (.new 57, 3) := by decide +kernel
theorem dX4_strip_19 : decode cX4_strip 19 = .ok (.dup, 1) := by decide +kernel
theorem dX4_strip_20 : decode cX4_strip 20 = .ok (.ldc_w 271, 3) := by decide +kernel
theorem dX4_strip_23 : decode cX4_strip 23 = .ok (.invokespecial 61, 3) := by decide +kernel
theorem dX4_strip_26 : decode cX4_strip 26 = .ok (.athrow, 1) := by decide +kernel
theorem dX4_strip_27 : decode cX4_strip 27 = .ok (.aload_n 0, 1) := by decide +kernel
theorem dX4_strip_28 : decode cX4_strip 28 = .ok (.dup, 1) := by decide +kernel
theorem dX4_strip_29 : decode cX4_strip 29 = .ok (.getfield 273, 3) := by decide +kernel
theorem dX4_strip_32 : decode cX4_strip 32 = .ok (.aload_n 0, 1) := by decide +kernel
theorem dX4_strip_33 : decode cX4_strip 33 = .ok (.getfield 41, 3) := by decide +kernel
theorem dX4_strip_36 : decode cX4_strip 36 = .ok (.invokestatic 120, 3) := by decide +kernel
theorem dX4_strip_39 : decode cX4_strip 39 = .ok (.ior, 1) := by decide +kernel
theorem dX4_strip_40 : decode cX4_strip 40 = .ok (.putfield 273, 3) := by decide +kernel
theorem dX4_strip_43 : decode cX4_strip 43 = .ok (.aload_n 0, 1) := by decide +kernel
theorem dX4_strip_44 : decode cX4_strip 44 = .ok (.aload_n 0, 1) := by decide +kernel
theorem dX4_strip_45 : decode cX4_strip 45 = .ok (.iconst 0, 1) := by decide +kernel
theorem dX4_strip_46 : decode cX4_strip 46 = .ok (.iconst 0, 1) := by decide +kernel
theorem dX4_strip_47 : decode cX4_strip 47 = .ok (.invokevirtual 265, 3) := by decide +kernel
theorem dX4_strip_50 : decode cX4_strip 50 = .ok (.invokevirtual 268, 3) := by decide +kernel
theorem dX4_strip_53 : decode cX4_strip 53 = .ok (.aload_n 0, 1) := by decide +kernel
theorem dX4_strip_54 : decode cX4_strip 54 = .ok (.getfield 41, 3) := by decide +kernel
theorem dX4_strip_57 : decode cX4_strip 57 = .ok (.ireturn, 1) := by decide +kernel
theorem dX4_next_0 : decode cX4_next 0 = .ok (.aload_n 0, 1) := by decide +kernel
theorem dX4_next_1 : decode cX4_next 1 = .ok (.getfield 37, 3) := by decide +kernel
theorem dX4_next_4 : decode cX4_next 4 = .ok (.iconst 4, 1) := by decide +kernel
theorem dX4_next_5 : decode cX4_next 5 = .ok (.if_icmp .ne 12, 3) := by decide +kernel
theorem dX4_next_8 : decode cX4_next 8 = .ok (.aload_n 0, 1) := by decide +kernel
theorem dX4_next_9 : decode cX4_next 9 = .ok (.getfield 94, 3) := by decide +kernel
theorem dX4_next_12 : decode cX4_next 12 = .ok (.bipush 20, 2) := by decide +kernel
theorem dX4_next_14 : decode cX4_next 14 = .ok (.if_icmp .lt 14, 3) := by decide +kernel
theorem dX4_next_17 : decode cX4_next 17 = .ok (.new 57, 3) := by decide +kernel
theorem dX4_next_20 : decode cX4_next 20 = .ok (.dup, 1) := by decide +kernel
theorem dX4_next_21 : decode cX4_next 21 = .ok (.ldc_w 276, 3) := by decide +kernel
theorem dX4_next_24 : decode cX4_next 24 = .ok (.invokespecial 61, 3) := by decide +kernel
theorem dX4_next_27 : decode cX4_next 27 = .ok (.athrow, 1) := by decide +kernel
theorem dX4_next_28 : decode cX4_next 28 = .ok (.aload_n 0, 1) := by decide +kernel
theorem dX4_next_29 : decode cX4_next 29 = .ok (.dup, 1) := by decide +kernel
theorem dX4_next_30 : decode cX4_next 30 = .ok (.getfield 94, 3) := by decide +kernel
theorem dX4_next_33 : decode cX4_next 33 = .ok (.iconst 1, 1) := by decide +kernel
theorem dX4_next_34 : decode cX4_next 34 = .ok (.iadd, 1) := by decide +kernel
theorem dX4_next_35 : decode cX4_next 35 = .ok (.putfield 94, 3) := by decide +kernel
theorem dX4_next_38 : decode cX4_next 38 = .ok (.aload_n 0, 1) := by decide +kernel
theorem dX4_next_39 : decode cX4_next 39 = .ok (.iconst 0, 1) := by decide +kernel
theorem dX4_next_40 : decode cX4_next 40 = .ok (.putfield 37, 3) := by decide +kernel
theorem dX4_next_43 : decode cX4_next 43 = .ok (.aload_n 0, 1) := by decide +kernel
theorem dX4_next_44 : decode cX4_next 44 = .ok (.getfield 30, 3) := by decide +kernel
theorem dX4_next_47 : decode cX4_next 47 = .ok (.aload_n 0, 1) := by decide +kernel
theorem dX4_next_48 : decode cX4_next 48 = .ok (.getfield 34, 3) := by decide +kernel
theorem dX4_next_51 : decode cX4_next 51 = .ok (.getfield 278, 3) := by decide +kernel
theorem dX4_next_54 : decode cX4_next 54 = .ok (.aload_n 0, 1) := by decide +kernel
theorem dX4_next_55 : decode cX4_next 55 = .ok (.getfield 34, 3) := by decide +kernel
theorem dX4_next_58 : decode cX4_next 58 = .ok (.getfield 281, 3) := by decide +kernel
theorem dX4_next_61 : decode cX4_next 61 = .ok (.aload_n 0, 1) := by decide +kernel
theorem dX4_next_62 : decode cX4_next 62 = .ok (.getfield 34, 3) := by decide +kernel
theorem dX4_next_65 : decode cX4_next 65 = .ok (.getfield 284, 3) := by decide +kernel
theorem dX4_next_68 : decode cX4_next 68 = .ok (.aload_n 0, 1) := by decide +kernel
theorem dX4_next_69 : decode cX4_next 69 = .ok (.getfield 34, 3) := by decide +kernel
theorem dX4_next_72 : decode cX4_next 72 = .ok (.getfield 135, 3) := by decide +kernel
theorem dX4_next_75 : decode cX4_next 75 = .ok (.invokevirtual 131, 3) := by decide +kernel
theorem dX4_next_78 : decode cX4_next 78 = .ok (.aload_n 0, 1) := by decide +kernel
theorem dX4_next_79 : decode cX4_next 79 = .ok (.aload_n 0, 1) := by decide +kernel
theorem dX4_next_80 : decode cX4_next 80 = .ok (.getfield 41, 3) := by decide +kernel
theorem dX4_next_83 : decode cX4_next 83 = .ok (.putfield 44, 3) := by decide +kernel
theorem dX4_next_86 : decode cX4_next 86 = .ok (.aload_n 0, 1) := by decide +kernel
theorem dX4_next_87 : decode cX4_next 87 = .ok (.iconst (-1), 1) := by decide +kernel
theorem dX4_next_88 : decode cX4_next 88 = .ok (.putfield 41, 3) := by decide +kernel
theorem dX4_next_91 : decode cX4_next 91 = .ok (.aload_n 0, 1) := by decide +kernel
theorem dX4_next_92 : decode cX4_next 92 = .ok (.aload_n 0, 1) := by decide +kernel
theorem dX4_next_93 : decode cX4_next 93 = .ok (.getfield 220, 3) := by decide +kernel
theorem dX4_next_96 : decode cX4_next 96 = .ok (.putfield 287, 3) := by decide +kernel
theorem dX4_next_99 : decode cX4_next 99 = .ok (.aload_n 0, 1) := by decide +kernel
theorem dX4_next_100 : decode cX4_next 100 = .ok (.iconst 0, 1) := by decide +kernel
theorem dX4_next_101 : decode cX4_next 101 = .ok (.putfield 220, 3) := by decide +kernel
theorem dX4_next_104 : decode cX4_next 104 = .ok (.aload_n 0, 1) := by decide +kernel
theorem dX4_next_105 : decode cX4_next 105 = .ok (.iconst 0, 1) := by decide +kernel
theorem dX4_next_106 : decode cX4_next 106 = .ok (.putfield 246, 3) := by decide +kernel
theorem dX4_next_109 : decode cX4_next 109 = .ok (.iconst 0, 1) := by decide +kernel
theorem dX4_next_110 : decode cX4_next 110 = .ok (.istore_n 1, 1) := by decide +kernel
theorem dX4_next_111 : decode cX4_next 111 = .ok (.iload_n 1, 1) := by decide +kernel
theorem dX4_next_112 : decode cX4_next 112 = .ok (.iconst 5, 1) := by decide +kernel
theorem dX4_next_113 : decode cX4_next 113 = .ok (.if_icmp .ge 19, 3) := by decide +kernel
theorem dX4_next_116 : decode cX4_next 116 = .ok (.aload_n 0, 1) := by decide +kernel
theorem dX4_next_117 : decode cX4_next 117 = .ok (.getfield 11, 3) := by decide +kernel
theorem dX4_next_120 : decode cX4_next 120 = .ok (.iload_n 1, 1) := by decide +kernel
theorem dX4_next_121 : decode cX4_next 121 = .ok (.aaload, 1) := by decide +kernel
theorem dX4_next_122 : decode cX4_next 122 = .ok (.iconst 0, 1) := by decide +kernel
theorem dX4_next_123 : decode cX4_next 123 = .ok (.putfield 154, 3) := by decide +kernel
theorem dX4_next_126 : decode cX4_next 126 = .ok (.iinc 1 1, 3) := by decide +kernel
theorem dX4_next_129 : decode cX4_next 129 = .ok (.goto (-18), 3) := by decide +kernel
theorem dX4_next_132 : decode cX4_next 132 = .ok (.iconst 0, 1) := by decide +kernel
theorem dX4_next_133 : decode cX4_next 133 = .ok (.istore_n 1, 1) := by decide +kernel
theorem dX4_next_134 : decode cX4_next 134 = .ok (.iload_n 1, 1) := by decide +kernel
theorem dX4_next_135 : decode cX4_next 135 = .ok (.iconst 5, 1) := by decide +kernel
theorem dX4_next_136 : decode cX4_next 136 = .ok (.if_icmp .ge 18, 3) := by decide +kernel
theorem dX4_next_139 : decode cX4_next 139 = .ok (.aload_n 0, 1) := by decide +kernel
theorem dX4_next_140 : decode cX4_next 140 = .ok (.getfield 23, 3) := by decide +kernel
theorem dX4_next_143 : decode cX4_next 143 = .ok (.iload_n 1, 1) := by decide +kernel
theorem dX4_next_144 : decode cX4_next 144 = .ok (.aaload, 1) := by decide +kernel
theorem dX4_next_145 : decode cX4_next 145 = .ok (.invokevirtual 290, 3) := by decide +kernel
theorem dX4_next_148 : decode cX4_next 148 = .ok (.iinc 1 1, 3) := by decide +kernel
theorem dX4_next_151 : decode cX4_next 151 = .ok (.goto (-17), 3) := by decide +kernel
theorem dX4_next_154 : decode cX4_next 154 = .ok (.aload_n 0, 1) := by decide +kernel
theorem dX4_next_155 : decode cX4_next 155 = .ok (.getfield 94, 3) := by decide +kernel
theorem dX4_next_158 : decode cX4_next 158 = .ok (.ireturn, 1) := by decide +kernel
theorem dX4_ofHouse_0 : decode cX4_ofHouse 0 = .ok (.aload_n 0, 1) := by decide +kernel
theorem dX4_ofHouse_1 : decode cX4_ofHouse 1 = .ok (.iload_n 1, 1) := by decide +kernel
theorem dX4_ofHouse_2 : decode cX4_ofHouse 2 = .ok (.invokevirtual 64, 3) := by decide +kernel
theorem dX4_ofHouse_5 : decode cX4_ofHouse 5 = .ok (.ifCond .ne 13, 3) := by decide +kernel
theorem dX4_ofHouse_8 : decode cX4_ofHouse 8 = .ok (.new 68, 3) := by decide +kernel
theorem dX4_ofHouse_11 : decode cX4_ofHouse 11 = .ok (.dup, 1) := by decide +kernel
theorem dX4_ofHouse_12 : decode cX4_ofHouse 12 = .ok (.ldc 70, 2) := by decide +kernel
theorem dX4_ofHouse_14 : decode cX4_ofHouse 14 = .ok (.invokespecial 72, 3) := by decide +kernel
theorem dX4_ofHouse_17 : decode cX4_ofHouse 17 = .ok (.athrow, 1) := by decide +kernel
theorem dX4_ofHouse_18 : decode cX4_ofHouse 18 = .ok (.iload_n 2, 1) := by decide +kernel
theorem dX4_ofHouse_19 : decode cX4_ofHouse 19 = .ok (.tableswitch 86 0 4 #[33, 43, 49, 59, 69], 33) := by decide +kernel
theorem dX4_ofHouse_52 : decode cX4_ofHouse 52 = .ok (.aload_n 0, 1) := by decide +kernel
theorem dX4_ofHouse_53 : decode cX4_ofHouse 53 = .ok (.getfield 11, 3) := by decide +kernel
theorem dX4_ofHouse_56 : decode cX4_ofHouse 56 = .ok (.iload_n 1, 1) := by decide +kernel
theorem dX4_ofHouse_57 : decode cX4_ofHouse 57 = .ok (.aaload, 1) := by decide +kernel
theorem dX4_ofHouse_58 : decode cX4_ofHouse 58 = .ok (.getfield 293, 3) := by decide +kernel
theorem dX4_ofHouse_61 : decode cX4_ofHouse 61 = .ok (.ireturn, 1) := by decide +kernel
theorem dX4_ofHouse_62 : decode cX4_ofHouse 62 = .ok (.aload_n 0, 1) := by decide +kernel
theorem dX4_ofHouse_63 : decode cX4_ofHouse 63 = .ok (.iload_n 1, 1) := by decide +kernel
theorem dX4_ofHouse_64 : decode cX4_ofHouse 64 = .ok (.invokevirtual 157, 3) := by decide +kernel
theorem dX4_ofHouse_67 : decode cX4_ofHouse 67 = .ok (.ireturn, 1) := by decide +kernel
theorem dX4_ofHouse_68 : decode cX4_ofHouse 68 = .ok (.aload_n 0, 1) := by decide +kernel
