theorem dX4_init_34 : decode cX4_init 34 = .ok (.invokespecial 29, 3) := by decide +kernel
theorem dX4_init_37 : decode cX4_init 37 = .ok (.putfield 30, 3) := by decide +kernel
theorem dX4_init_40 : decode cX4_init 40 = .ok (.aload_n 0, 1) := by decide +kernel
theorem dX4_init_41 : decode cX4_init 41 = .ok (.new 27, 3) := by decide +kernel
theorem dX4_init_44 : decode cX4_init 44 = .ok (.dup, 1) := by decide +kernel
theorem dX4_init_45 : decode cX4_init 45 = .ok (.invokespecial 29, 3) := by decide +kernel
theorem dX4_init_48 : decode cX4_init 48 = .ok (.putfield 34, 3) := by decide +kernel
theorem dX4_init_51 : decode cX4_init 51 = .ok (.aload_n 0, 1) := by decide +kernel
theorem dX4_init_52 : decode cX4_init 52 = .ok (.iconst 0, 1) := by decide +kernel
theorem dX4_init_53 : decode cX4_init 53 = .ok (.putfield 37, 3) := by decide +kernel
theorem dX4_init_56 : decode cX4_init 56 = .ok (.aload_n 0, 1) := by decide +kernel
theorem dX4_init_57 : decode cX4_init 57 = .ok (.iconst (-1), 1) := by decide +kernel
theorem dX4_init_58 : decode cX4_init 58 = .ok (.putfield 41, 3) := by decide +kernel
theorem dX4_init_61 : decode cX4_init 61 = .ok (.aload_n 0, 1) := by decide +kernel
theorem dX4_init_62 : decode cX4_init 62 = .ok (.iconst (-1), 1) := by decide +kernel
theorem dX4_init_63 : decode cX4_init 63 = .ok (.putfield 44, 3) := by decide +kernel
theorem dX4_init_66 : decode cX4_init 66 = .ok (.aload_n 0, 1) := by decide +kernel
theorem dX4_init_67 : decode cX4_init 67 = .ok (.bipush 16, 2) := by decide +kernel
theorem dX4_init_69 : decode cX4_init 69 = .ok (.newarray .int, 2) := by decide +kernel
theorem dX4_init_71 : decode cX4_init 71 = .ok (.putfield 47, 3) := by decide +kernel
theorem dX4_init_74 : decode cX4_init 74 = .ok (.iconst 0, 1) := by decide +kernel
theorem dX4_init_75 : decode cX4_init 75 = .ok (.istore_n 1, 1) := by decide +kernel
theorem dX4_init_76 : decode cX4_init 76 = .ok (.iload_n 1, 1) := by decide +kernel
theorem dX4_init_77 : decode cX4_init 77 = .ok (.iconst 5, 1) := by decide +kernel
theorem dX4_init_78 : decode cX4_init 78 = .ok (.if_icmp .ge 22, 3) := by decide +kernel
theorem dX4_init_81 : decode cX4_init 81 = .ok (.aload_n 0, 1) := by decide +kernel
theorem dX4_init_82 : decode cX4_init 82 = .ok (.getfield 11, 3) := by decide +kernel
theorem dX4_init_85 : decode cX4_init 85 = .ok (.iload_n 1, 1) := by decide +kernel
theorem dX4_init_86 : decode cX4_init 86 = .ok (.new 9, 3) := by decide +kernel
theorem dX4_init_89 : decode cX4_init 89 = .ok (.dup, 1) := by decide +kernel
theorem dX4_init_90 : decode cX4_init 90 = .ok (.invokespecial 51, 3) := by decide +kernel
theorem dX4_init_93 : decode cX4_init 93 = .ok (.aastore, 1) := by decide +kernel
theorem dX4_init_94 : decode cX4_init 94 = .ok (.iinc 1 1, 3) := by decide +kernel
theorem dX4_init_97 : decode cX4_init 97 = .ok (.goto (-21), 3) := by decide +kernel
theorem dX4_init_100 : decode cX4_init 100 = .ok (.iconst 0, 1) := by decide +kernel
theorem dX4_init_101 : decode cX4_init 101 = .ok (.istore_n 1, 1) := by decide +kernel
theorem dX4_init_102 : decode cX4_init 102 = .ok (.iload_n 1, 1) := by decide +kernel
theorem dX4_init_103 : decode cX4_init 103 = .ok (.bipush 16, 2) := by decide +kernel
theorem dX4_init_105 : decode cX4_init 105 = .ok (.if_icmp .ge 22, 3) := by decide +kernel
theorem dX4_init_108 : decode cX4_init 108 = .ok (.aload_n 0, 1) := by decide +kernel
theorem dX4_init_109 : decode cX4_init 109 = .ok (.getfield 17, 3) := by decide +kernel
theorem dX4_init_112 : decode cX4_init 112 = .ok (.iload_n 1, 1) := by decide +kernel
theorem dX4_init_113 : decode cX4_init 113 = .ok (.new 15, 3) := by decide +kernel
theorem dX4_init_116 : decode cX4_init 116 = .ok (.dup, 1) := by decide +kernel
theorem dX4_init_117 : decode cX4_init 117 = .ok (.invokespecial 52, 3) := by decide +kernel
theorem dX4_init_120 : decode cX4_init 120 = .ok (.aastore, 1) := by decide +kernel
theorem dX4_init_121 : decode cX4_init 121 = .ok (.iinc 1 1, 3) := by decide +kernel
theorem dX4_init_124 : decode cX4_init 124 = .ok (.goto (-22), 3) := by decide +kernel
theorem dX4_init_127 : decode cX4_init 127 = .ok (.iconst 0, 1) := by decide +kernel
theorem dX4_init_128 : decode cX4_init 128 = .ok (.istore_n 1, 1) := by decide +kernel
theorem dX4_init_129 : decode cX4_init 129 = .ok (.iload_n 1, 1) := by decide +kernel
theorem dX4_init_130 : decode cX4_init 130 = .ok (.iconst 5, 1) := by decide +kernel
theorem dX4_init_131 : decode cX4_init 131 = .ok (.if_icmp .ge 22, 3) := by decide +kernel
theorem dX4_init_134 : decode cX4_init 134 = .ok (.aload_n 0, 1) := by decide +kernel
theorem dX4_init_135 : decode cX4_init 135 = .ok (.getfield 23, 3) := by decide +kernel
theorem dX4_init_138 : decode cX4_init 138 = .ok (.iload_n 1, 1) := by decide +kernel
theorem dX4_init_139 : decode cX4_init 139 = .ok (.new 21, 3) := by decide +kernel
theorem dX4_init_142 : decode cX4_init 142 = .ok (.dup, 1) := by decide +kernel
theorem dX4_init_143 : decode cX4_init 143 = .ok (.invokespecial 53, 3) := by decide +kernel
theorem dX4_init_146 : decode cX4_init 146 = .ok (.aastore, 1) := by decide +kernel
theorem dX4_init_147 : decode cX4_init 147 = .ok (.iinc 1 1, 3) := by decide +kernel
theorem dX4_init_150 : decode cX4_init 150 = .ok (.goto (-21), 3) := by decide +kernel
theorem dX4_init_153 : decode cX4_init 153 = .ok (.return_, 1) := by decide +kernel
theorem dX4_house_0 : decode cX4_house 0 = .ok (.aload_n 0, 1) := by decide +kernel
theorem dX4_house_1 : decode cX4_house 1 = .ok (.getfield 54, 3) := by decide +kernel
theorem dX4_house_4 : decode cX4_house 4 = .ok (.iconst 5, 1) := by decide +kernel
theorem dX4_house_5 : decode cX4_house 5 = .ok (.if_icmp .lt 13, 3) := by decide +kernel
theorem dX4_house_8 : decode cX4_house 8 = .ok (.new 57, 3) := by decide +kernel
theorem dX4_house_11 : decode cX4_house 11 = .ok (.dup, 1) := by decide +kernel
theorem dX4_house_12 : decode cX4_house 12 = .ok (.ldc 59, 2) := by decide +kernel
theorem dX4_house_14 : decode cX4_house 14 = .ok (.invokespecial 61, 3) := by decide +kernel
theorem dX4_house_17 : decode cX4_house 17 = .ok (.athrow, 1) := by decide +kernel
theorem dX4_house_18 : decode cX4_house 18 = .ok (.aload_n 0, 1) := by decide +kernel
theorem dX4_house_19 : decode cX4_house 19 = .ok (.dup, 1) := by decide +kernel
theorem dX4_house_20 : decode cX4_house 20 = .ok (.getfield 54, 3) := by decide +kernel
theorem dX4_house_23 : decode cX4_house 23 = .ok (.iconst 1, 1) := by decide +kernel
theorem dX4_house_24 : decode cX4_house 24 = .ok (.iadd, 1) := by decide +kernel
theorem dX4_house_25 : decode cX4_house 25 = .ok (.putfield 54, 3) := by decide +kernel
theorem dX4_house_28 : decode cX4_house 28 = .ok (.aload_n 0, 1) := by decide +kernel
theorem dX4_house_29 : decode cX4_house 29 = .ok (.getfield 54, 3) := by decide +kernel
theorem dX4_house_32 : decode cX4_house 32 = .ok (.iconst 1, 1) := by decide +kernel
theorem dX4_house_33 : decode cX4_house 33 = .ok (.isub, 1) := by decide +kernel
theorem dX4_house_34 : decode cX4_house 34 = .ok (.ireturn, 1) := by decide +kernel
theorem dX4_book_0 : decode cX4_book 0 = .ok (.aload_n 0, 1) := by decide +kernel
theorem dX4_book_1 : decode cX4_book 1 = .ok (.iload_n 1, 1) := by decide +kernel
theorem dX4_book_2 : decode cX4_book 2 = .ok (.invokevirtual 64, 3) := by decide +kernel
theorem dX4_book_5 : decode cX4_book 5 = .ok (.ifCond .ne 13, 3) := by decide +kernel
theorem dX4_book_8 : decode cX4_book 8 = .ok (.new 68, 3) := by decide +kernel
theorem dX4_book_11 : decode cX4_book 11 = .ok (.dup, 1) := by decide +kernel
theorem dX4_book_12 : decode cX4_book 12 = .ok (.ldc 70, 2) := by decide +kernel
theorem dX4_book_14 : decode cX4_book 14 = .ok (.invokespecial 72, 3) := by decide +kernel
theorem dX4_book_17 : decode cX4_book 17 = .ok (.athrow, 1) := by decide +kernel
theorem dX4_book_18 : decode cX4_book 18 = .ok (.iload_n 2, 1) := by decide +kernel
theorem dX4_book_19 : decode cX4_book 19 = .ok (.invokestatic 73, 3) := by decide +kernel
theorem dX4_book_22 : decode cX4_book 22 = .ok (.ifCond .eq 47, 3) := by decide +kernel
theorem dX4_book_25 : decode cX4_book 25 = .ok (.iload_n 3, 1) := by decide +kernel
theorem dX4_book_26 : decode cX4_book 26 = .ok (.iconst 0, 1) := by decide +kernel
theorem dX4_book_27 : decode cX4_book 27 = .ok (.iconst 2, 1) := by decide +kernel
theorem dX4_book_28 : decode cX4_book 28 = .ok (.invokestatic 76, 3) := by decide +kernel
theorem dX4_book_31 : decode cX4_book 31 = .ok (.ifCond .eq 38, 3) := by decide +kernel
theorem dX4_book_34 : decode cX4_book 34 = .ok (.iload 4, 2) := by decide +kernel
theorem dX4_book_36 : decode cX4_book 36 = .ok (.bipush 50, 2) := by decide +kernel
theorem dX4_book_38 : decode cX4_book 38 = .ok (.sipush 900, 3) := by decide +kernel
theorem dX4_book_41 : decode cX4_book 41 = .ok (.invokestatic 76, 3) := by decide +kernel
theorem dX4_book_44 : decode cX4_book 44 = .ok (.ifCond .eq 25, 3) := by decide +kernel
theorem dX4_book_47 : decode cX4_book 47 = .ok (.iload 5, 2) := by decide +kernel
theorem dX4_book_49 : decode cX4_book 49 = .ok (.iconst 0, 1) := by decide +kernel
theorem dX4_book_50 : decode cX4_book 50 = .ok (.bipush 60, 2) := by decide +kernel
theorem dX4_book_52 : decode cX4_book 52 = .ok (.invokestatic 76, 3) := by decide +kernel
theorem dX4_book_55 : decode cX4_book 55 = .ok (.ifCond .eq 14, 3) := by decide +kernel
theorem dX4_book_58 : decode cX4_book 58 = .ok (.iload 6, 2) := by decide +kernel
theorem dX4_book_60 : decode cX4_book 60 = .ok (.iconst 0, 1) := by decide +kernel
theorem dX4_book_61 : decode cX4_book 61 = .ok (.bipush 9, 2) := by decide +kernel
theorem dX4_book_63 : decode cX4_book 63 = .ok (.invokestatic 76, 3) := by decide +kernel
theorem dX4_book_66 : decode cX4_book 66 = .ok (.ifCond .ne 13, 3) := by decide +kernel
theorem dX4_book_69 : decode cX4_book 69 = .ok (.new 80, 3) := by decide +kernel
theorem dX4_book_72 : decode cX4_book 72 = .ok (.dup, 1) := by decide +kernel
theorem dX4_book_73 : decode cX4_book 73 = .ok (.ldc 82, 2) := by decide +kernel
theorem dX4_book_75 : decode cX4_book 75 = .ok (.invokespecial 84, 3) := by decide +kernel
theorem dX4_book_78 : decode cX4_book 78 = .ok (.athrow, 1) := by decide +kernel
theorem dX4_book_79 : decode cX4_book 79 = .ok (.aload_n 0, 1) := by decide +kernel
theorem dX4_book_80 : decode cX4_book 80 = .ok (.getfield 85, 3) := by decide +kernel
theorem dX4_book_83 : decode cX4_book 83 = .ok (.bipush 16, 2) := by decide +kernel
theorem dX4_book_85 : decode cX4_book 85 = .ok (.if_icmp .lt 13, 3) := by decide +kernel
theorem dX4_book_88 : decode cX4_book 88 = .ok (.new 57, 3) := by decide +kernel
theorem dX4_book_91 : decode cX4_book 91 = .ok (.dup, 1) := by decide +kernel
theorem dX4_book_92 : decode cX4_book 92 = .ok (.ldc 88, 2) := by decide +kernel
theorem dX4_book_94 : decode cX4_book 94 = .ok (.invokespecial 61, 3) := by decide +kernel
theorem dX4_book_97 : decode cX4_book 97 = .ok (.athrow, 1) := by decide +kernel
theorem dX4_book_98 : decode cX4_book 98 = .ok (.aload_n 0, 1) := by decide +kernel
theorem dX4_book_99 : decode cX4_book 99 = .ok (.getfield 17, 3) := by decide +kernel
theorem dX4_book_102 : decode cX4_book 102 = .ok (.aload_n 0, 1) := by decide +kernel
theorem dX4_book_103 : decode cX4_book 103 = .ok (.getfield 85, 3) := by decide +kernel
theorem dX4_book_106 : decode cX4_book 106 = .ok (.aaload, 1) := by decide +kernel
theorem dX4_book_107 : decode cX4_book 107 = .ok (.iload_n 1, 1) := by decide +kernel
theorem dX4_book_108 : decode cX4_book 108 = .ok (.iload_n 2, 1) := by decide +kernel
theorem dX4_book_109 : decode cX4_book 109 = .ok (.iload_n 3, 1) := by decide +kernel
theorem dX4_book_110 : decode cX4_book 110 = .ok (.iload 4, 2) := by decide +kernel
theorem dX4_book_112 : decode cX4_book 112 = .ok (.iload 5, 2) := by decide +kernel
theorem dX4_book_114 : decode cX4_book 114 = .ok (.iload 6, 2) := by decide +kernel
theorem dX4_book_116 : decode cX4_book 116 = .ok (.invokevirtual 90, 3) := by decide +kernel
theorem dX4_book_119 : decode cX4_book 119 = .ok (.aload_n 0, 1) := by decide +kernel
theorem dX4_book_120 : decode cX4_book 120 = .ok (.getfield 17, 3) := by decide +kernel
theorem dX4_book_123 : decode cX4_book 123 = .ok (.aload_n 0, 1) := by decide +kernel
theorem dX4_book_124 : decode cX4_book 124 = .ok (.getfield 85, 3) := by decide +kernel
theorem dX4_book_127 : decode cX4_book 127 = .ok (.aaload, 1) := by decide +kernel
theorem dX4_book_128 : decode cX4_book 128 = .ok (.aload_n 0, 1) := by decide +kernel
theorem dX4_book_129 : decode cX4_book 129 = .ok (.getfield 94, 3) := by decide +kernel
theorem dX4_book_132 : decode cX4_book 132 = .ok (.putfield 97, 3) := by decide +kernel
theorem dX4_book_135 : decode cX4_book 135 = .ok (.aload_n 0, 1) := by decide +kernel
theorem dX4_book_136 : decode cX4_book 136 = .ok (.dup, 1) := by decide +kernel
theorem dX4_book_137 : decode cX4_book 137 = .ok (.getfield 85, 3) := by decide +kernel
theorem dX4_book_140 : decode cX4_book 140 = .ok (.iconst 1, 1) := by decide +kernel
theorem dX4_book_141 : decode cX4_book 141 = .ok (.iadd, 1) := by decide +kernel
theorem dX4_book_142 : decode cX4_book 142 = .ok (.putfield 85, 3) := by decide +kernel
theorem dX4_book_145 : decode cX4_book 145 = .ok (.aload_n 0, 1) := by decide +kernel
theorem dX4_book_146 : decode cX4_book 146 = .ok (.getfield 85, 3) := by decide +kernel
theorem dX4_book_149 : decode cX4_book 149 = .ok (.iconst 1, 1) := by decide +kernel
theorem dX4_book_150 : decode cX4_book 150 = .ok (.isub, 1) := by decide +kernel
theorem dX4_book_151 : decode cX4_book 151 = .ok (.ireturn, 1) := by decide +kernel
theorem dX4_judge_0 : decode cX4_judge 0 = .ok (.iload_n 1, 1) := by decide +kernel
theorem dX4_judge_1 : decode cX4_judge 1 = .ok (.bipush 20, 2) := by decide +kernel
theorem dX4_judge_3 : decode cX4_judge 3 = .ok (.sipush 200, 3) := by decide +kernel
theorem dX4_judge_6 : decode cX4_judge 6 = .ok (.invokestatic 76, 3) := by decide +kernel
theorem dX4_judge_9 : decode cX4_judge 9 = .ok (.ifCond .eq 24, 3) := by decide +kernel
theorem dX4_judge_12 : decode cX4_judge 12 = .ok (.iload_n 2, 1) := by decide +kernel
theorem dX4_judge_13 : decode cX4_judge 13 = .ok (.iconst 0, 1) := by decide +kernel
theorem dX4_judge_14 : decode cX4_judge 14 = .ok (.bipush 9, 2) := by decide +kernel
theorem dX4_judge_16 : decode cX4_judge 16 = .ok (.invokestatic 76, 3) := by decide +kernel
theorem dX4_judge_19 : decode cX4_judge 19 = .ok (.ifCond .eq 14, 3) := by decide +kernel
theorem dX4_judge_22 : decode cX4_judge 22 = .ok (.iload_n 3, 1) := by decide +kernel
theorem dX4_judge_23 : decode cX4_judge 23 = .ok (.bipush (-10), 2) := by decide +kernel
theorem dX4_judge_25 : decode cX4_judge 25 = .ok (.bipush 10, 2) := by decide +kernel
theorem dX4_judge_27 : decode cX4_judge 27 = .ok (.invokestatic 76, 3) := by decide +kernel
theorem dX4_judge_30 : decode cX4_judge 30 = .ok (.ifCond .ne 13, 3) := by decide +kernel
theorem dX4_judge_33 : decode cX4_judge 33 = .ok (.new 80, 3) := by decide +kernel
theorem dX4_judge_36 : decode cX4_judge 36 = .ok (.dup, 1) := by decide +kernel
theorem dX4_judge_37 : decode cX4_judge 37 = .ok (.ldc 100, 2) := by decide +kernel
theorem dX4_judge_39 : decode cX4_judge 39 = .ok (.invokespecial 84, 3) := by decide +kernel
theorem dX4_judge_42 : decode cX4_judge 42 = .ok (.athrow, 1) := by decide +kernel
theorem dX4_judge_43 : decode cX4_judge 43 = .ok (.aload_n 0, 1) := by decide +kernel
theorem dX4_judge_44 : decode cX4_judge 44 = .ok (.getfield 102, 3) := by decide +kernel
theorem dX4_judge_47 : decode cX4_judge 47 = .ok (.iconst 5, 1) := by decide +kernel
theorem dX4_judge_48 : decode cX4_judge 48 = .ok (.if_icmp .ge 10, 3) := by decide +kernel
theorem dX4_judge_51 : decode cX4_judge 51 = .ok (.aload_n 0, 1) := by decide +kernel
theorem dX4_judge_52 : decode cX4_judge 52 = .ok (.getfield 37, 3) := by decide +kernel
theorem dX4_judge_55 : decode cX4_judge 55 = .ok (.ifCond .eq 13, 3) := by decide +kernel
theorem dX4_judge_58 : decode cX4_judge 58 = .ok (.new 57, 3) := by decide +kernel
theorem dX4_judge_61 : decode cX4_judge 61 = .ok (.dup, 1) := by decide +kernel
theorem dX4_judge_62 : decode cX4_judge 62 = .ok (.ldc 105, 2) := by decide +kernel
theorem dX4_judge_64 : decode cX4_judge 64 = .ok (.invokespecial 61, 3) := by decide +kernel
theorem dX4_judge_67 : decode cX4_judge 67 = .ok (.athrow, 1) := by decide +kernel
theorem dX4_judge_68 : decode cX4_judge 68 = .ok (.aload_n 0, 1) := by decide +kernel
theorem dX4_judge_69 : decode cX4_judge 69 = .ok (.getfield 23, 3) := by decide +kernel
theorem dX4_judge_72 : decode cX4_judge 72 = .ok (.aload_n 0, 1) := by decide +kernel
theorem dX4_judge_73 : decode cX4_judge 73 = .ok (.getfield 102, 3) := by decide +kernel
theorem dX4_judge_76 : decode cX4_judge 76 = .ok (.aaload, 1) := by decide +kernel
theorem dX4_judge_77 : decode cX4_judge 77 = .ok (.iload_n 1, 1) := by decide +kernel
theorem dX4_judge_78 : decode cX4_judge 78 = .ok (.iload_n 2, 1) := by decide +kernel
theorem dX4_judge_79 : decode cX4_judge 79 = .ok (.iload_n 3, 1) := by decide +kernel
theorem dX4_judge_80 : decode cX4_judge 80 = .ok (.invokevirtual 107, 3) := by decide +kernel
theorem dX4_judge_83 : decode cX4_judge 83 = .ok (.aload_n 0, 1) := by decide +kernel
theorem dX4_judge_84 : decode cX4_judge 84 = .ok (.dup, 1) := by decide +kernel
theorem dX4_judge_85 : decode cX4_judge 85 = .ok (.getfield 102, 3) := by decide +kernel
theorem dX4_judge_88 : decode cX4_judge 88 = .ok (.iconst 1, 1) := by decide +kernel
theorem dX4_judge_89 : decode cX4_judge 89 = .ok (.iadd, 1) := by decide +kernel
theorem dX4_judge_90 : decode cX4_judge 90 = .ok (.putfield 102, 3) := by decide +kernel
theorem dX4_judge_93 : decode cX4_judge 93 = .ok (.aload_n 0, 1) := by decide +kernel
theorem dX4_judge_94 : decode cX4_judge 94 = .ok (.getfield 102, 3) := by decide +kernel
theorem dX4_judge_97 : decode cX4_judge 97 = .ok (.iconst 1, 1) := by decide +kernel
theorem dX4_judge_98 : decode cX4_judge 98 = .ok (.isub, 1) := by decide +kernel
theorem dX4_judge_99 : decode cX4_judge 99 = .ok (.ireturn, 1) := by decide +kernel
theorem dX4_conflict_0 : decode cX4_conflict 0 = .ok (.aload_n 0, 1) := by decide +kernel
theorem dX4_conflict_1 : decode cX4_conflict 1 = .ok (.iload_n 1, 1) := by decide +kernel
theorem dX4_conflict_2 : decode cX4_conflict 2 = .ok (.invokevirtual 110, 3) := by decide +kernel
theorem dX4_conflict_5 : decode cX4_conflict 5 = .ok (.ifCond .ne 13, 3) := by decide +kernel
theorem dX4_conflict_8 : decode cX4_conflict 8 = .ok (.new 68, 3) := by decide +kernel
theorem dX4_conflict_11 : decode cX4_conflict 11 = .ok (.dup, 1) := by decide +kernel
theorem dX4_conflict_12 : decode cX4_conflict 12 = .ok (.ldc 113, 2) := by decide +kernel
theorem dX4_conflict_14 : decode cX4_conflict 14 = .ok (.invokespecial 72, 3) := by decide +kernel
theorem dX4_conflict_17 : decode cX4_conflict 17 = .ok (.athrow, 1) := by decide +kernel
theorem dX4_conflict_18 : decode cX4_conflict 18 = .ok (.iload_n 2, 1) := by decide +kernel
theorem dX4_conflict_19 : decode cX4_conflict 19 = .ok (.invokestatic 73, 3) := by decide +kernel
theorem dX4_conflict_22 : decode cX4_conflict 22 = .ok (.ifCond .ne 13, 3) := by decide +kernel
theorem dX4_conflict_25 : decode cX4_conflict 25 = .ok (.new 80, 3) := by decide +kernel
theorem dX4_conflict_28 : decode cX4_conflict 28 = .ok (.dup, 1) := by decide +kernel
theorem dX4_conflict_29 : decode cX4_conflict 29 = .ok (.ldc 115, 2) := by decide +kernel
theorem dX4_conflict_31 : decode cX4_conflict 31 = .ok (.invokespecial 84, 3) := by decide +kernel
theorem dX4_conflict_34 : decode cX4_conflict 34 = .ok (.athrow, 1) := by decide +kernel
theorem dX4_conflict_35 : decode cX4_conflict 35 = .ok (.aload_n 0, 1) := by decide +kernel
theorem dX4_conflict_36 : decode cX4_conflict 36 = .ok (.getfield 23, 3) := by decide +kernel
theorem dX4_conflict_39 : decode cX4_conflict 39 = .ok (.iload_n 1, 1) := by decide +kernel
theorem dX4_conflict_40 : decode cX4_conflict 40 = .ok (.aaload, 1) := by decide +kernel
theorem dX4_conflict_41 : decode cX4_conflict 41 = .ok (.dup, 1) := by decide +kernel
theorem dX4_conflict_42 : decode cX4_conflict 42 = .ok (.getfield 117, 3) := by decide +kernel
theorem dX4_conflict_45 : decode cX4_conflict 45 = .ok (.iload_n 2, 1) := by decide +kernel
theorem dX4_conflict_46 : decode cX4_conflict 46 = .ok (.invokestatic 120, 3) := by decide +kernel
theorem dX4_conflict_49 : decode cX4_conflict 49 = .ok (.ior, 1) := by decide +kernel
theorem dX4_conflict_50 : decode cX4_conflict 50 = .ok (.putfield 117, 3) := by decide +kernel
theorem dX4_conflict_53 : decode cX4_conflict 53 = .ok (.aload_n 0, 1) := by decide +kernel
theorem dX4_conflict_54 : decode cX4_conflict 54 = .ok (.getfield 23, 3) := by decide +kernel
theorem dX4_conflict_57 : decode cX4_conflict 57 = .ok (.iload_n 1, 1) := by decide +kernel
theorem dX4_conflict_58 : decode cX4_conflict 58 = .ok (.aaload, 1) := by decide +kernel
theorem dX4_conflict_59 : decode cX4_conflict 59 = .ok (.getfield 117, 3) := by decide +kernel
theorem dX4_conflict_62 : decode cX4_conflict 62 = .ok (.invokestatic 124, 3) := by decide +kernel
theorem dX4_conflict_65 : decode cX4_conflict 65 = .ok (.ireturn, 1) := by decide +kernel
theorem dX4_rules_0 : decode cX4_rules 0 = .ok (.iload_n 1, 1) := by decide +kernel
theorem dX4_rules_1 : decode cX4_rules 1 = .ok (.iconst 1, 1) := by decide +kernel
theorem dX4_rules_2 : decode cX4_rules 2 = .ok (.bipush 7, 2) := by decide +kernel
theorem dX4_rules_4 : decode cX4_rules 4 = .ok (.invokestatic 76, 3) := by decide +kernel
theorem dX4_rules_7 : decode cX4_rules 7 = .ok (.ifCond .eq 31, 3) := by decide +kernel
theorem dX4_rules_10 : decode cX4_rules 10 = .ok (.iload_n 2, 1) := by decide +kernel
theorem dX4_rules_11 : decode cX4_rules 11 = .ok (.bipush 50, 2) := by decide +kernel
theorem dX4_rules_13 : decode cX4_rules 13 = .ok (.iload_n 3, 1) := by decide +kernel
theorem dX4_rules_14 : decode cX4_rules 14 = .ok (.invokestatic 76, 3) := by decide +kernel
theorem dX4_rules_17 : decode cX4_rules 17 = .ok (.ifCond .eq 21, 3) := by decide +kernel
theorem dX4_rules_20 : decode cX4_rules 20 = .ok (.iload_n 3, 1) := by decide +kernel
theorem dX4_rules_21 : decode cX4_rules 21 = .ok (.sipush 900, 3) := by decide +kernel
theorem dX4_rules_24 : decode cX4_rules 24 = .ok (.if_icmp .gt 14, 3) := by decide +kernel
theorem dX4_rules_27 : decode cX4_rules 27 = .ok (.iload 4, 2) := by decide +kernel
theorem dX4_rules_29 : decode cX4_rules 29 = .ok (.iconst 0, 1) := by decide +kernel
theorem dX4_rules_30 : decode cX4_rules 30 = .ok (.bipush 50, 2) := by decide +kernel
theorem dX4_rules_32 : decode cX4_rules 32 = .ok (.invokestatic 76, 3) := by decide +kernel
theorem dX4_rules_35 : decode cX4_rules 35 = .ok (.ifCond .ne 13, 3) := by decide +kernel
theorem dX4_rules_38 : decode cX4_rules 38 = .ok (.new 80, 3) := by decide +kernel
theorem dX4_rules_41 : decode cX4_rules 41 = .ok (.dup, 1) := by decide +kernel
theorem dX4_rules_42 : decode cX4_rules 42 = .ok (.ldc 129, 2) := by decide +kernel
theorem dX4_rules_44 : decode cX4_rules 44 = .ok (.invokespecial 84, 3) := by decide +kernel
theorem dX4_rules_47 : decode cX4_rules 47 = .ok (.athrow, 1) := by decide +kernel
theorem dX4_rules_48 : decode cX4_rules 48 = .ok (.aload_n 0, 1) := by decide +kernel
theorem dX4_rules_49 : decode cX4_rules 49 = .ok (.getfield 34, 3) := by decide +kernel
theorem dX4_rules_52 : decode cX4_rules 52 = .ok (.iload_n 1, 1) := by decide +kernel
theorem dX4_rules_53 : decode cX4_rules 53 = .ok (.iload_n 2, 1) := by decide +kernel
theorem dX4_rules_54 : decode cX4_rules 54 = .ok (.iload_n 3, 1) := by decide +kernel
theorem dX4_rules_55 : decode cX4_rules 55 = .ok (.iload 4, 2) := by decide +kernel
theorem dX4_rules_57 : decode cX4_rules 57 = .ok (.invokevirtual 131, 3) := by decide +kernel
theorem dX4_rules_60 : decode cX4_rules 60 = .ok (.aload_n 0, 1) := by decide +kernel
theorem dX4_rules_61 : decode cX4_rules 61 = .ok (.getfield 30, 3) := by decide +kernel
theorem dX4_rules_64 : decode cX4_rules 64 = .ok (.getfield 135, 3) := by decide +kernel
theorem dX4_rules_67 : decode cX4_rules 67 = .ok (.ireturn, 1) := by decide +kernel
theorem dX4_enter_0 : decode cX4_enter 0 = .ok (.aload_n 0, 1) := by decide +kernel
theorem dX4_enter_1 : decode cX4_enter 1 = .ok (.iload_n 1, 1) := by decide +kernel
theorem dX4_enter_2 : decode cX4_enter 2 = .ok (.invokevirtual 138, 3) := by decide +kernel
theorem dX4_enter_5 : decode cX4_enter 5 = .ok (.ifCond .ne 13, 3) := by decide +kernel
theorem dX4_enter_8 : decode cX4_enter 8 = .ok (.new 68, 3) := by decide +kernel
theorem dX4_enter_11 : decode cX4_enter 11 = .ok (.dup, 1) := by decide +kernel
theorem dX4_enter_12 : decode cX4_enter 12 = .ok (.ldc 141, 2) := by decide +kernel
theorem dX4_enter_14 : decode cX4_enter 14 = .ok (.invokespecial 72, 3) := by decide +kernel
theorem dX4_enter_17 : decode cX4_enter 17 = .ok (.athrow, 1) := by decide +kernel
theorem dX4_enter_18 : decode cX4_enter 18 = .ok (.aload_n 0, 1) := by decide +kernel
theorem dX4_enter_19 : decode cX4_enter 19 = .ok (.getfield 37, 3) := by decide +kernel
theorem dX4_enter_22 : decode cX4_enter 22 = .ok (.ifCond .ne 11, 3) := by decide +kernel
theorem dX4_enter_25 : decode cX4_enter 25 = .ok (.aload_n 0, 1) := by decide +kernel
theorem dX4_enter_26 : decode cX4_enter 26 = .ok (.iload_n 1, 1) := by decide +kernel
theorem dX4_enter_27 : decode cX4_enter 27 = .ok (.invokevirtual 143, 3) := by decide +kernel
theorem dX4_enter_30 : decode cX4_enter 30 = .ok (.ifCond .eq 13, 3) := by decide +kernel
theorem dX4_enter_33 : decode cX4_enter 33 = .ok (.new 57, 3) := by decide +kernel
theorem dX4_enter_36 : decode cX4_enter 36 = .ok (.dup, 1) := by decide +kernel
theorem dX4_enter_37 : decode cX4_enter 37 = .ok (.ldc 146, 2) := by decide +kernel
theorem dX4_enter_39 : decode cX4_enter 39 = .ok (.invokespecial 61, 3) := by decide +kernel
theorem dX4_enter_42 : decode cX4_enter 42 = .ok (.athrow, 1) := by decide +kernel
theorem dX4_enter_43 : decode cX4_enter 43 = .ok (.aload_n 0, 1) := by decide +kernel
theorem dX4_enter_44 : decode cX4_enter 44 = .ok (.iload_n 1, 1) := by decide +kernel
theorem dX4_enter_45 : decode cX4_enter 45 = .ok (.invokevirtual 148, 3) := by decide +kernel
theorem dX4_enter_48 : decode cX4_enter 48 = .ok (.ifCond .ne 6, 3) := by decide +kernel
theorem dX4_enter_51 : decode cX4_enter 51 = .ok (.bipush (-2), 2) := by decide +kernel
theorem dX4_enter_53 : decode cX4_enter 53 = .ok (.ireturn, 1) := by decide +kernel
theorem dX4_enter_54 : decode cX4_enter 54 = .ok (.aload_n 0, 1) := by decide +kernel
theorem dX4_enter_55 : decode cX4_enter 55 = .ok (.getfield 17, 3) := by decide +kernel
theorem dX4_enter_58 : decode cX4_enter 58 = .ok (.iload_n 1, 1) := by decide +kernel
theorem dX4_enter_59 : decode cX4_enter 59 = .ok (.aaload, 1) := by decide +kernel
theorem dX4_enter_60 : decode cX4_enter 60 = .ok (.getfield 151, 3) := by decide +kernel
theorem dX4_enter_63 : decode cX4_enter 63 = .ok (.istore_n 2, 1) := by decide +kernel
theorem dX4_enter_64 : decode cX4_enter 64 = .ok (.aload_n 0, 1) := by decide +kernel
theorem dX4_enter_65 : decode cX4_enter 65 = .ok (.getfield 11, 3) := by decide +kernel
theorem dX4_enter_68 : decode cX4_enter 68 = .ok (.iload_n 2, 1) := by decide +kernel
theorem dX4_enter_69 : decode cX4_enter 69 = .ok (.aaload, 1) := by decide +kernel
theorem dX4_enter_70 : decode cX4_enter 70 = .ok (.getfield 154, 3) := by decide +kernel
theorem dX4_enter_73 : decode cX4_enter 73 = .ok (.aload_n 0, 1) := by decide +kernel
theorem dX4_enter_74 : decode cX4_enter 74 = .ok (.iload_n 2, 1) := by decide +kernel
theorem dX4_enter_75 : decode cX4_enter 75 = .ok (.invokevirtual 157, 3) := by decide +kernel
theorem dX4_enter_78 : decode cX4_enter 78 = .ok (.if_icmp .lt 6, 3) := by decide +kernel
theorem dX4_enter_81 : decode cX4_enter 81 = .ok (.bipush (-3), 2) := by decide +kernel
theorem dX4_enter_83 : decode cX4_enter 83 = .ok (.ireturn, 1) := by decide +kernel
theorem dX4_enter_84 : decode cX4_enter 84 = .ok (.aload_n 0, 1) := by decide +kernel
theorem dX4_enter_85 : decode cX4_enter 85 = .ok (.getfield 11, 3) := by decide +kernel
theorem dX4_enter_88 : decode cX4_enter 88 = .ok (.iload_n 2, 1) := by decide +kernel
theorem dX4_enter_89 : decode cX4_enter 89 = .ok (.aaload, 1) := by decide +kernel
theorem dX4_enter_90 : decode cX4_enter 90 = .ok (.dup, 1) := by decide +kernel
theorem dX4_enter_91 : decode cX4_enter 91 = .ok (.getfield 154, 3) := by decide +kernel
theorem dX4_enter_94 : decode cX4_enter 94 = .ok (.iconst 1, 1) := by decide +kernel
theorem dX4_enter_95 : decode cX4_enter 95 = .ok (.iadd, 1) := by decide +kernel
theorem dX4_enter_96 : decode cX4_enter 96 = .ok (.putfield 154, 3) := by decide +kernel
theorem dX4_enter_99 : decode cX4_enter 99 = .ok (.aload_n 0, 1) := by decide +kernel
theorem dX4_enter_100 : decode cX4_enter 100 = .ok (.iload_n 1, 1) := by decide +kernel
theorem dX4_enter_101 : decode cX4_enter 101 = .ok (.aload_n 0, 1) := by decide +kernel
theorem dX4_enter_102 : decode cX4_enter 102 = .ok (.getfield 30, 3) := by decide +kernel
theorem dX4_enter_105 : decode cX4_enter 105 = .ok (.getfield 135, 3) := by decide +kernel
theorem dX4_enter_108 : decode cX4_enter 108 = .ok (.invokevirtual 160, 3) := by decide +kernel
theorem dX4_enter_111 : decode cX4_enter 111 = .ok (.ireturn, 1) := by decide +kernel
theorem dX4_callIn_0 : decode cX4_callIn 0 = .ok (.aload_n 0, 1) := by decide +kernel
theorem dX4_callIn_1 : decode cX4_callIn 1 = .ok (.iload_n 1, 1) := by decide +kernel
theorem dX4_callIn_2 : decode cX4_callIn 2 = .ok (.invokevirtual 110, 3) := by decide +kernel
theorem dX4_callIn_5 : decode cX4_callIn 5 = .ok (.ifCond .eq 11, 3) := by decide +kernel
theorem dX4_callIn_8 : decode cX4_callIn 8 = .ok (.aload_n 0, 1) := by decide +kernel
theorem dX4_callIn_9 : decode cX4_callIn 9 = .ok (.iload_n 2, 1) := by decide +kernel
theorem dX4_callIn_10 : decode cX4_callIn 10 = .ok (.invokevirtual 138, 3) := by decide +kernel
theorem dX4_callIn_13 : decode cX4_callIn 13 = .ok (.ifCond .ne 13, 3) := by decide +kernel
theorem dX4_callIn_16 : decode cX4_callIn 16 = .ok (.new 68, 3) := by decide +kernel
theorem dX4_callIn_19 : decode cX4_callIn 19 = .ok (.dup, 1) := by decide +kernel
theorem dX4_callIn_20 : decode cX4_callIn 20 = .ok (.ldc 164, 2) := by decide +kernel
theorem dX4_callIn_22 : decode cX4_callIn 22 = .ok (.invokespecial 72, 3) := by decide +kernel
theorem dX4_callIn_25 : decode cX4_callIn 25 = .ok (.athrow, 1) := by decide +kernel
theorem dX4_callIn_26 : decode cX4_callIn 26 = .ok (.aload_n 0, 1) := by decide +kernel
theorem dX4_callIn_27 : decode cX4_callIn 27 = .ok (.getfield 37, 3) := by decide +kernel
theorem dX4_callIn_30 : decode cX4_callIn 30 = .ok (.ifCond .ne 11, 3) := by decide +kernel
theorem dX4_callIn_33 : decode cX4_callIn 33 = .ok (.aload_n 0, 1) := by decide +kernel
theorem dX4_callIn_34 : decode cX4_callIn 34 = .ok (.iload_n 2, 1) := by decide +kernel
theorem dX4_callIn_35 : decode cX4_callIn 35 = .ok (.invokevirtual 143, 3) := by decide +kernel
theorem dX4_callIn_38 : decode cX4_callIn 38 = .ok (.ifCond .eq 13, 3) := by decide +kernel
theorem dX4_callIn_41 : decode cX4_callIn 41 = .ok (.new 57, 3) := by decide +kernel
theorem dX4_callIn_44 : decode cX4_callIn 44 = .ok (.dup, 1) := by decide +kernel
theorem dX4_callIn_45 : decode cX4_callIn 45 = .ok (.ldc 146, 2) := by decide +kernel
theorem dX4_callIn_47 : decode cX4_callIn 47 = .ok (.invokespecial 61, 3) := by decide +kernel
theorem dX4_callIn_50 : decode cX4_callIn 50 = .ok (.athrow, 1) := by decide +kernel
theorem dX4_callIn_51 : decode cX4_callIn 51 = .ok (.aload_n 0, 1) := by decide +kernel
theorem dX4_callIn_52 : decode cX4_callIn 52 = .ok (.iload_n 2, 1) := by decide +kernel
theorem dX4_callIn_53 : decode cX4_callIn 53 = .ok (.invokevirtual 148, 3) := by decide +kernel
theorem dX4_callIn_56 : decode cX4_callIn 56 = .ok (.ifCond .ne 6, 3) := by decide +kernel
theorem dX4_callIn_59 : decode cX4_callIn 59 = .ok (.bipush (-2), 2) := by decide +kernel
theorem dX4_callIn_61 : decode cX4_callIn 61 = .ok (.ireturn, 1) := by decide +kernel
theorem dX4_callIn_62 : decode cX4_callIn 62 = .ok (.aload_n 0, 1) := by decide +kernel
theorem dX4_callIn_63 : decode cX4_callIn 63 = .ok (.getfield 23, 3) := by decide +kernel
theorem dX4_callIn_66 : decode cX4_callIn 66 = .ok (.iload_n 1, 1) := by decide +kernel
theorem dX4_callIn_67 : decode cX4_callIn 67 = .ok (.aaload, 1) := by decide +kernel
theorem dX4_callIn_68 : decode cX4_callIn 68 = .ok (.getfield 166, 3) := by decide +kernel
theorem dX4_callIn_71 : decode cX4_callIn 71 = .ok (.ifCond .ne 24, 3) := by decide +kernel
theorem dX4_callIn_74 : decode cX4_callIn 74 = .ok (.aload_n 0, 1) := by decide +kernel
theorem dX4_callIn_75 : decode cX4_callIn 75 = .ok (.getfield 23, 3) := by decide +kernel
theorem dX4_callIn_78 : decode cX4_callIn 78 = .ok (.iload_n 1, 1) := by decide +kernel
theorem dX4_callIn_79 : decode cX4_callIn 79 = .ok (.aaload, 1) := by decide +kernel
theorem dX4_callIn_80 : decode cX4_callIn 80 = .ok (.aload_n 0, 1) := by decide +kernel
theorem dX4_callIn_81 : decode cX4_callIn 81 = .ok (.getfield 17, 3) := by decide +kernel
theorem dX4_callIn_84 : decode cX4_callIn 84 = .ok (.iload_n 2, 1) := by decide +kernel
theorem dX4_callIn_85 : decode cX4_callIn 85 = .ok (.aaload, 1) := by decide +kernel
theorem dX4_callIn_86 : decode cX4_callIn 86 = .ok (.getfield 170, 3) := by decide +kernel
theorem dX4_callIn_89 : decode cX4_callIn 89 = .ok (.invokevirtual 173, 3) := by decide +kernel
theorem dX4_callIn_92 : decode cX4_callIn 92 = .ok (.ifCond .eq 6, 3) := by decide +kernel
theorem dX4_callIn_95 : decode cX4_callIn 95 = .ok (.bipush (-3), 2) := by decide +kernel
theorem dX4_callIn_97 : decode cX4_callIn 97 = .ok (.ireturn, 1) := by decide +kernel
theorem dX4_callIn_98 : decode cX4_callIn 98 = .ok (.aload_n 0, 1) := by decide +kernel
theorem dX4_callIn_99 : decode cX4_callIn 99 = .ok (.getfield 23, 3) := by decide +kernel
theorem dX4_callIn_102 : decode cX4_callIn 102 = .ok (.iload_n 1, 1) := by decide +kernel
theorem dX4_callIn_103 : decode cX4_callIn 103 = .ok (.aaload, 1) := by decide +kernel
theorem dX4_callIn_104 : decode cX4_callIn 104 = .ok (.iconst 1, 1) := by decide +kernel
theorem dX4_callIn_105 : decode cX4_callIn 105 = .ok (.putfield 166, 3) := by decide +kernel
theorem dX4_callIn_108 : decode cX4_callIn 108 = .ok (.aload_n 0, 1) := by decide +kernel
theorem dX4_callIn_109 : decode cX4_callIn 109 = .ok (.iload_n 2, 1) := by decide +kernel
theorem dX4_callIn_110 : decode cX4_callIn 110 = .ok (.aload_n 0, 1) := by decide +kernel
theorem dX4_callIn_111 : decode cX4_callIn 111 = .ok (.getfield 30, 3) := by decide +kernel
theorem dX4_callIn_114 : decode cX4_callIn 114 = .ok (.getfield 135, 3) := by decide +kernel
theorem dX4_callIn_117 : decode cX4_callIn 117 = .ok (.iconst 2, 1) := by decide +kernel
theorem dX4_callIn_118 : decode cX4_callIn 118 = .ok (.idiv, 1) := by decide +kernel
theorem dX4_callIn_119 : decode cX4_callIn 119 = .ok (.invokevirtual 160, 3) := by decide +kernel
theorem dX4_callIn_122 : decode cX4_callIn 122 = .ok (.ireturn, 1) := by decide +kernel
theorem dX4_read_0 : decode cX4_read 0 = .ok (.aload_n 0, 1) := by decide +kernel
theorem dX4_read_1 : decode cX4_read 1 = .ok (.getfield 37, 3) := by decide +kernel
theorem dX4_read_4 : decode cX4_read 4 = .ok (.ifCond .ne 19, 3) := by decide +kernel
theorem dX4_read_7 : decode cX4_read 7 = .ok (.aload_n 0, 1) := by decide +kernel
theorem dX4_read_8 : decode cX4_read 8 = .ok (.getfield 102, 3) := by decide +kernel
theorem dX4_read_11 : decode cX4_read 11 = .ok (.iconst 3, 1) := by decide +kernel
theorem dX4_read_12 : decode cX4_read 12 = .ok (.if_icmp .lt 11, 3) := by decide +kernel
theorem dX4_read_15 : decode cX4_read 15 = .ok (.aload_n 0, 1) := by decide +kernel
theorem dX4_read_16 : decode cX4_read 16 = .ok (.invokevirtual 176, 3) := by decide +kernel
theorem dX4_read_19 : decode cX4_read 19 = .ok (.iconst 3, 1) := by decide +kernel
theorem dX4_read_20 : decode cX4_read 20 = .ok (.if_icmp .ge 13, 3) := by decide +kernel
theorem dX4_read_23 : decode cX4_read 23 = .ok (.new 57, 3) := by decide +kernel
theorem dX4_read_26 : decode cX4_read 26 = .ok (.dup, 1) := by decide +kernel
theorem dX4_read_27 : decode cX4_read 27 = .ok (.ldc 180, 2) := by decide +kernel
theorem dX4_read_29 : decode cX4_read 29 = .ok (.invokespecial 61, 3) := by decide +kernel
theorem dX4_read_32 : decode cX4_read 32 = .ok (.athrow, 1) := by decide +kernel
theorem dX4_read_33 : decode cX4_read 33 = .ok (.iconst 0, 1) := by decide +kernel
theorem dX4_read_34 : decode cX4_read 34 = .ok (.istore_n 1, 1) := by decide +kernel
theorem dX4_read_35 : decode cX4_read 35 = .ok (.iconst 0, 1) := by decide +kernel
theorem dX4_read_36 : decode cX4_read 36 = .ok (.istore_n 2, 1) := by decide +kernel
theorem dX4_read_37 : decode cX4_read 37 = .ok (.iload_n 2, 1) := by decide +kernel
theorem dX4_read_38 : decode cX4_read 38 = .ok (.aload_n 0, 1) := by decide +kernel
theorem dX4_read_39 : decode cX4_read 39 = .ok (.getfield 85, 3) := by decide +kernel
theorem dX4_read_42 : decode cX4_read 42 = .ok (.if_icmp .ge 25, 3) := by decide +kernel
theorem dX4_read_45 : decode cX4_read 45 = .ok (.aload_n 0, 1) := by decide +kernel
