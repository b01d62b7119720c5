theorem dX4_ofHouse_69 : decode cX4_ofHouse 69 = .ok (.getfield 11, 3) := by decide +kernel
theorem dX4_ofHouse_72 : decode cX4_ofHouse 72 = .ok (.iload_n 1, 1) := by decide +kernel
theorem dX4_ofHouse_73 : decode cX4_ofHouse 73 = .ok (.aaload, 1) := by decide +kernel
theorem dX4_ofHouse_74 : decode cX4_ofHouse 74 = .ok (.getfield 154, 3) := by decide +kernel
theorem dX4_ofHouse_77 : decode cX4_ofHouse 77 = .ok (.ireturn, 1) := by decide +kernel
theorem dX4_ofHouse_78 : decode cX4_ofHouse 78 = .ok (.aload_n 0, 1) := by decide +kernel
theorem dX4_ofHouse_79 : decode cX4_ofHouse 79 = .ok (.iload_n 1, 1) := by decide +kernel
theorem dX4_ofHouse_80 : decode cX4_ofHouse 80 = .ok (.aload_n 0, 1) := by decide +kernel
theorem dX4_ofHouse_81 : decode cX4_ofHouse 81 = .ok (.invokevirtual 296, 3) := by decide +kernel
theorem dX4_ofHouse_84 : decode cX4_ofHouse 84 = .ok (.invokevirtual 299, 3) := by decide +kernel
theorem dX4_ofHouse_87 : decode cX4_ofHouse 87 = .ok (.ireturn, 1) := by decide +kernel
theorem dX4_ofHouse_88 : decode cX4_ofHouse 88 = .ok (.aload_n 0, 1) := by decide +kernel
theorem dX4_ofHouse_89 : decode cX4_ofHouse 89 = .ok (.iload_n 1, 1) := by decide +kernel
theorem dX4_ofHouse_90 : decode cX4_ofHouse 90 = .ok (.aload_n 0, 1) := by decide +kernel
theorem dX4_ofHouse_91 : decode cX4_ofHouse 91 = .ok (.getfield 302, 3) := by decide +kernel
theorem dX4_ofHouse_94 : decode cX4_ofHouse 94 = .ok (.aload_n 0, 1) := by decide +kernel
theorem dX4_ofHouse_95 : decode cX4_ofHouse 95 = .ok (.getfield 273, 3) := by decide +kernel
theorem dX4_ofHouse_98 : decode cX4_ofHouse 98 = .ok (.iconst (-1), 1) := by decide +kernel
theorem dX4_ofHouse_99 : decode cX4_ofHouse 99 = .ok (.ixor, 1) := by decide +kernel
theorem dX4_ofHouse_100 : decode cX4_ofHouse 100 = .ok (.iand, 1) := by decide +kernel
theorem dX4_ofHouse_101 : decode cX4_ofHouse 101 = .ok (.invokevirtual 299, 3) := by decide +kernel
theorem dX4_ofHouse_104 : decode cX4_ofHouse 104 = .ok (.ireturn, 1) := by decide +kernel
theorem dX4_ofHouse_105 : decode cX4_ofHouse 105 = .ok (.new 80, 3) := by decide +kernel
theorem dX4_ofHouse_108 : decode cX4_ofHouse 108 = .ok (.dup, 1) := by decide +kernel
theorem dX4_ofHouse_109 : decode cX4_ofHouse 109 = .ok (.ldc_w 305, 3) := by decide +kernel
theorem dX4_ofHouse_112 : decode cX4_ofHouse 112 = .ok (.invokespecial 84, 3) := by decide +kernel
theorem dX4_ofHouse_115 : decode cX4_ofHouse 115 = .ok (.athrow, 1) := by decide +kernel
theorem dX4_ofBook_0 : decode cX4_ofBook 0 = .ok (.aload_n 0, 1) := by decide +kernel
theorem dX4_ofBook_1 : decode cX4_ofBook 1 = .ok (.iload_n 1, 1) := by decide +kernel
theorem dX4_ofBook_2 : decode cX4_ofBook 2 = .ok (.invokevirtual 138, 3) := by decide +kernel
theorem dX4_ofBook_5 : decode cX4_ofBook 5 = .ok (.ifCond .ne 13, 3) := by decide +kernel
theorem dX4_ofBook_8 : decode cX4_ofBook 8 = .ok (.new 68, 3) := by decide +kernel
theorem dX4_ofBook_11 : decode cX4_ofBook 11 = .ok (.dup, 1) := by decide +kernel
theorem dX4_ofBook_12 : decode cX4_ofBook 12 = .ok (.ldc 141, 2) := by decide +kernel
theorem dX4_ofBook_14 : decode cX4_ofBook 14 = .ok (.invokespecial 72, 3) := by decide +kernel
theorem dX4_ofBook_17 : decode cX4_ofBook 17 = .ok (.athrow, 1) := by decide +kernel
theorem dX4_ofBook_18 : decode cX4_ofBook 18 = .ok (.iload_n 2, 1) := by decide +kernel
theorem dX4_ofBook_19 : decode cX4_ofBook 19 = .ok (.tableswitch 159 0 10 #[57, 67, 77, 87, 97, 107, 121, 135, 141, 147, 153], 57) := by decide +kernel
theorem dX4_ofBook_76 : decode cX4_ofBook 76 = .ok (.aload_n 0, 1) := by decide +kernel
theorem dX4_ofBook_77 : decode cX4_ofBook 77 = .ok (.getfield 17, 3) := by decide +kernel
theorem dX4_ofBook_80 : decode cX4_ofBook 80 = .ok (.iload_n 1, 1) := by decide +kernel
theorem dX4_ofBook_81 : decode cX4_ofBook 81 = .ok (.aaload, 1) := by decide +kernel
theorem dX4_ofBook_82 : decode cX4_ofBook 82 = .ok (.getfield 151, 3) := by decide +kernel
theorem dX4_ofBook_85 : decode cX4_ofBook 85 = .ok (.ireturn, 1) := by decide +kernel
theorem dX4_ofBook_86 : decode cX4_ofBook 86 = .ok (.aload_n 0, 1) := by decide +kernel
theorem dX4_ofBook_87 : decode cX4_ofBook 87 = .ok (.getfield 17, 3) := by decide +kernel
theorem dX4_ofBook_90 : decode cX4_ofBook 90 = .ok (.iload_n 1, 1) := by decide +kernel
theorem dX4_ofBook_91 : decode cX4_ofBook 91 = .ok (.aaload, 1) := by decide +kernel
theorem dX4_ofBook_92 : decode cX4_ofBook 92 = .ok (.getfield 170, 3) := by decide +kernel
theorem dX4_ofBook_95 : decode cX4_ofBook 95 = .ok (.ireturn, 1) := by decide +kernel
theorem dX4_ofBook_96 : decode cX4_ofBook 96 = .ok (.aload_n 0, 1) := by decide +kernel
theorem dX4_ofBook_97 : decode cX4_ofBook 97 = .ok (.getfield 17, 3) := by decide +kernel
theorem dX4_ofBook_100 : decode cX4_ofBook 100 = .ok (.iload_n 1, 1) := by decide +kernel
theorem dX4_ofBook_101 : decode cX4_ofBook 101 = .ok (.aaload, 1) := by decide +kernel
theorem dX4_ofBook_102 : decode cX4_ofBook 102 = .ok (.getfield 187, 3) := by decide +kernel
theorem dX4_ofBook_105 : decode cX4_ofBook 105 = .ok (.ireturn, 1) := by decide +kernel
theorem dX4_ofBook_106 : decode cX4_ofBook 106 = .ok (.aload_n 0, 1) := by decide +kernel
theorem dX4_ofBook_107 : decode cX4_ofBook 107 = .ok (.getfield 17, 3) := by decide +kernel
theorem dX4_ofBook_110 : decode cX4_ofBook 110 = .ok (.iload_n 1, 1) := by decide +kernel
theorem dX4_ofBook_111 : decode cX4_ofBook 111 = .ok (.aaload, 1) := by decide +kernel
theorem dX4_ofBook_112 : decode cX4_ofBook 112 = .ok (.getfield 307, 3) := by decide +kernel
theorem dX4_ofBook_115 : decode cX4_ofBook 115 = .ok (.ireturn, 1) := by decide +kernel
theorem dX4_ofBook_116 : decode cX4_ofBook 116 = .ok (.aload_n 0, 1) := by decide +kernel
theorem dX4_ofBook_117 : decode cX4_ofBook 117 = .ok (.getfield 17, 3) := by decide +kernel
theorem dX4_ofBook_120 : decode cX4_ofBook 120 = .ok (.iload_n 1, 1) := by decide +kernel
theorem dX4_ofBook_121 : decode cX4_ofBook 121 = .ok (.aaload, 1) := by decide +kernel
theorem dX4_ofBook_122 : decode cX4_ofBook 122 = .ok (.getfield 310, 3) := by decide +kernel
theorem dX4_ofBook_125 : decode cX4_ofBook 125 = .ok (.ireturn, 1) := by decide +kernel
theorem dX4_ofBook_126 : decode cX4_ofBook 126 = .ok (.aload_n 0, 1) := by decide +kernel
theorem dX4_ofBook_127 : decode cX4_ofBook 127 = .ok (.iload_n 1, 1) := by decide +kernel
theorem dX4_ofBook_128 : decode cX4_ofBook 128 = .ok (.invokevirtual 148, 3) := by decide +kernel
theorem dX4_ofBook_131 : decode cX4_ofBook 131 = .ok (.ifCond .eq 7, 3) := by decide +kernel
theorem dX4_ofBook_134 : decode cX4_ofBook 134 = .ok (.iconst 1, 1) := by decide +kernel
theorem dX4_ofBook_135 : decode cX4_ofBook 135 = .ok (.goto 4, 3) := by decide +kernel
theorem dX4_ofBook_138 : decode cX4_ofBook 138 = .ok (.iconst 0, 1) := by decide +kernel
theorem dX4_ofBook_139 : decode cX4_ofBook 139 = .ok (.ireturn, 1) := by decide +kernel
theorem dX4_ofBook_140 : decode cX4_ofBook 140 = .ok (.aload_n 0, 1) := by decide +kernel
theorem dX4_ofBook_141 : decode cX4_ofBook 141 = .ok (.iload_n 1, 1) := by decide +kernel
theorem dX4_ofBook_142 : decode cX4_ofBook 142 = .ok (.invokevirtual 143, 3) := by decide +kernel
theorem dX4_ofBook_145 : decode cX4_ofBook 145 = .ok (.ifCond .eq 7, 3) := by decide +kernel
theorem dX4_ofBook_148 : decode cX4_ofBook 148 = .ok (.iconst 1, 1) := by decide +kernel
theorem dX4_ofBook_149 : decode cX4_ofBook 149 = .ok (.goto 4, 3) := by decide +kernel
theorem dX4_ofBook_152 : decode cX4_ofBook 152 = .ok (.iconst 0, 1) := by decide +kernel
theorem dX4_ofBook_153 : decode cX4_ofBook 153 = .ok (.ireturn, 1) := by decide +kernel
theorem dX4_ofBook_154 : decode cX4_ofBook 154 = .ok (.aload_n 0, 1) := by decide +kernel
theorem dX4_ofBook_155 : decode cX4_ofBook 155 = .ok (.iload_n 1, 1) := by decide +kernel
theorem dX4_ofBook_156 : decode cX4_ofBook 156 = .ok (.invokevirtual 313, 3) := by decide +kernel
theorem dX4_ofBook_159 : decode cX4_ofBook 159 = .ok (.ireturn, 1) := by decide +kernel
theorem dX4_ofBook_160 : decode cX4_ofBook 160 = .ok (.aload_n 0, 1) := by decide +kernel
theorem dX4_ofBook_161 : decode cX4_ofBook 161 = .ok (.iload_n 1, 1) := by decide +kernel
theorem dX4_ofBook_162 : decode cX4_ofBook 162 = .ok (.invokevirtual 316, 3) := by decide +kernel
theorem dX4_ofBook_165 : decode cX4_ofBook 165 = .ok (.ireturn, 1) := by decide +kernel
theorem dX4_ofBook_166 : decode cX4_ofBook 166 = .ok (.aload_n 0, 1) := by decide +kernel
theorem dX4_ofBook_167 : decode cX4_ofBook 167 = .ok (.iload_n 1, 1) := by decide +kernel
theorem dX4_ofBook_168 : decode cX4_ofBook 168 = .ok (.invokevirtual 319, 3) := by decide +kernel
theorem dX4_ofBook_171 : decode cX4_ofBook 171 = .ok (.ireturn, 1) := by decide +kernel
theorem dX4_ofBook_172 : decode cX4_ofBook 172 = .ok (.aload_n 0, 1) := by decide +kernel
theorem dX4_ofBook_173 : decode cX4_ofBook 173 = .ok (.iload_n 1, 1) := by decide +kernel
theorem dX4_ofBook_174 : decode cX4_ofBook 174 = .ok (.invokevirtual 322, 3) := by decide +kernel
theorem dX4_ofBook_177 : decode cX4_ofBook 177 = .ok (.ireturn, 1) := by decide +kernel
theorem dX4_ofBook_178 : decode cX4_ofBook 178 = .ok (.new 80, 3) := by decide +kernel
theorem dX4_ofBook_181 : decode cX4_ofBook 181 = .ok (.dup, 1) := by decide +kernel
theorem dX4_ofBook_182 : decode cX4_ofBook 182 = .ok (.ldc_w 325, 3) := by decide +kernel
theorem dX4_ofBook_185 : decode cX4_ofBook 185 = .ok (.invokespecial 84, 3) := by decide +kernel
theorem dX4_ofBook_188 : decode cX4_ofBook 188 = .ok (.athrow, 1) := by decide +kernel
theorem dX4_ofJudge_0 : decode cX4_ofJudge 0 = .ok (.aload_n 0, 1) := by decide +kernel
theorem dX4_ofJudge_1 : decode cX4_ofJudge 1 = .ok (.iload_n 1, 1) := by decide +kernel
theorem dX4_ofJudge_2 : decode cX4_ofJudge 2 = .ok (.invokevirtual 110, 3) := by decide +kernel
theorem dX4_ofJudge_5 : decode cX4_ofJudge 5 = .ok (.ifCond .ne 13, 3) := by decide +kernel
theorem dX4_ofJudge_8 : decode cX4_ofJudge 8 = .ok (.new 68, 3) := by decide +kernel
theorem dX4_ofJudge_11 : decode cX4_ofJudge 11 = .ok (.dup, 1) := by decide +kernel
theorem dX4_ofJudge_12 : decode cX4_ofJudge 12 = .ok (.ldc 113, 2) := by decide +kernel
theorem dX4_ofJudge_14 : decode cX4_ofJudge 14 = .ok (.invokespecial 72, 3) := by decide +kernel
theorem dX4_ofJudge_17 : decode cX4_ofJudge 17 = .ok (.athrow, 1) := by decide +kernel
theorem dX4_ofJudge_18 : decode cX4_ofJudge 18 = .ok (.iload_n 2, 1) := by decide +kernel
theorem dX4_ofJudge_19 : decode cX4_ofJudge 19 = .ok (.tableswitch 133 0 7 #[45, 55, 65, 75, 85, 95, 105, 123], 45) := by decide +kernel
theorem dX4_ofJudge_64 : decode cX4_ofJudge 64 = .ok (.aload_n 0, 1) := by decide +kernel
theorem dX4_ofJudge_65 : decode cX4_ofJudge 65 = .ok (.getfield 23, 3) := by decide +kernel
theorem dX4_ofJudge_68 : decode cX4_ofJudge 68 = .ok (.iload_n 1, 1) := by decide +kernel
theorem dX4_ofJudge_69 : decode cX4_ofJudge 69 = .ok (.aaload, 1) := by decide +kernel
theorem dX4_ofJudge_70 : decode cX4_ofJudge 70 = .ok (.getfield 327, 3) := by decide +kernel
theorem dX4_ofJudge_73 : decode cX4_ofJudge 73 = .ok (.ireturn, 1) := by decide +kernel
theorem dX4_ofJudge_74 : decode cX4_ofJudge 74 = .ok (.aload_n 0, 1) := by decide +kernel
theorem dX4_ofJudge_75 : decode cX4_ofJudge 75 = .ok (.getfield 23, 3) := by decide +kernel
theorem dX4_ofJudge_78 : decode cX4_ofJudge 78 = .ok (.iload_n 1, 1) := by decide +kernel
theorem dX4_ofJudge_79 : decode cX4_ofJudge 79 = .ok (.aaload, 1) := by decide +kernel
theorem dX4_ofJudge_80 : decode cX4_ofJudge 80 = .ok (.getfield 117, 3) := by decide +kernel
theorem dX4_ofJudge_83 : decode cX4_ofJudge 83 = .ok (.ireturn, 1) := by decide +kernel
theorem dX4_ofJudge_84 : decode cX4_ofJudge 84 = .ok (.aload_n 0, 1) := by decide +kernel
theorem dX4_ofJudge_85 : decode cX4_ofJudge 85 = .ok (.getfield 23, 3) := by decide +kernel
theorem dX4_ofJudge_88 : decode cX4_ofJudge 88 = .ok (.iload_n 1, 1) := by decide +kernel
theorem dX4_ofJudge_89 : decode cX4_ofJudge 89 = .ok (.aaload, 1) := by decide +kernel
theorem dX4_ofJudge_90 : decode cX4_ofJudge 90 = .ok (.getfield 330, 3) := by decide +kernel
theorem dX4_ofJudge_93 : decode cX4_ofJudge 93 = .ok (.ireturn, 1) := by decide +kernel
theorem dX4_ofJudge_94 : decode cX4_ofJudge 94 = .ok (.aload_n 0, 1) := by decide +kernel
theorem dX4_ofJudge_95 : decode cX4_ofJudge 95 = .ok (.getfield 23, 3) := by decide +kernel
theorem dX4_ofJudge_98 : decode cX4_ofJudge 98 = .ok (.iload_n 1, 1) := by decide +kernel
theorem dX4_ofJudge_99 : decode cX4_ofJudge 99 = .ok (.aaload, 1) := by decide +kernel
theorem dX4_ofJudge_100 : decode cX4_ofJudge 100 = .ok (.invokevirtual 333, 3) := by decide +kernel
theorem dX4_ofJudge_103 : decode cX4_ofJudge 103 = .ok (.ireturn, 1) := by decide +kernel
theorem dX4_ofJudge_104 : decode cX4_ofJudge 104 = .ok (.aload_n 0, 1) := by decide +kernel
theorem dX4_ofJudge_105 : decode cX4_ofJudge 105 = .ok (.getfield 23, 3) := by decide +kernel
theorem dX4_ofJudge_108 : decode cX4_ofJudge 108 = .ok (.iload_n 1, 1) := by decide +kernel
theorem dX4_ofJudge_109 : decode cX4_ofJudge 109 = .ok (.aaload, 1) := by decide +kernel
theorem dX4_ofJudge_110 : decode cX4_ofJudge 110 = .ok (.getfield 336, 3) := by decide +kernel
theorem dX4_ofJudge_113 : decode cX4_ofJudge 113 = .ok (.ireturn, 1) := by decide +kernel
theorem dX4_ofJudge_114 : decode cX4_ofJudge 114 = .ok (.aload_n 0, 1) := by decide +kernel
theorem dX4_ofJudge_115 : decode cX4_ofJudge 115 = .ok (.getfield 23, 3) := by decide +kernel
theorem dX4_ofJudge_118 : decode cX4_ofJudge 118 = .ok (.iload_n 1, 1) := by decide +kernel
theorem dX4_ofJudge_119 : decode cX4_ofJudge 119 = .ok (.aaload, 1) := by decide +kernel
theorem dX4_ofJudge_120 : decode cX4_ofJudge 120 = .ok (.getfield 339, 3) := by decide +kernel
theorem dX4_ofJudge_123 : decode cX4_ofJudge 123 = .ok (.ireturn, 1) := by decide +kernel
theorem dX4_ofJudge_124 : decode cX4_ofJudge 124 = .ok (.aload_n 0, 1) := by decide +kernel
theorem dX4_ofJudge_125 : decode cX4_ofJudge 125 = .ok (.getfield 23, 3) := by decide +kernel
theorem dX4_ofJudge_128 : decode cX4_ofJudge 128 = .ok (.iload_n 1, 1) := by decide +kernel
theorem dX4_ofJudge_129 : decode cX4_ofJudge 129 = .ok (.aaload, 1) := by decide +kernel
theorem dX4_ofJudge_130 : decode cX4_ofJudge 130 = .ok (.invokevirtual 342, 3) := by decide +kernel
theorem dX4_ofJudge_133 : decode cX4_ofJudge 133 = .ok (.ifCond .eq 7, 3) := by decide +kernel
theorem dX4_ofJudge_136 : decode cX4_ofJudge 136 = .ok (.iconst 1, 1) := by decide +kernel
theorem dX4_ofJudge_137 : decode cX4_ofJudge 137 = .ok (.goto 4, 3) := by decide +kernel
theorem dX4_ofJudge_140 : decode cX4_ofJudge 140 = .ok (.iconst 0, 1) := by decide +kernel
theorem dX4_ofJudge_141 : decode cX4_ofJudge 141 = .ok (.ireturn, 1) := by decide +kernel
theorem dX4_ofJudge_142 : decode cX4_ofJudge 142 = .ok (.aload_n 0, 1) := by decide +kernel
theorem dX4_ofJudge_143 : decode cX4_ofJudge 143 = .ok (.getfield 23, 3) := by decide +kernel
theorem dX4_ofJudge_146 : decode cX4_ofJudge 146 = .ok (.iload_n 1, 1) := by decide +kernel
theorem dX4_ofJudge_147 : decode cX4_ofJudge 147 = .ok (.aaload, 1) := by decide +kernel
theorem dX4_ofJudge_148 : decode cX4_ofJudge 148 = .ok (.invokevirtual 231, 3) := by decide +kernel
theorem dX4_ofJudge_151 : decode cX4_ofJudge 151 = .ok (.ireturn, 1) := by decide +kernel
theorem dX4_ofJudge_152 : decode cX4_ofJudge 152 = .ok (.new 80, 3) := by decide +kernel
theorem dX4_ofJudge_155 : decode cX4_ofJudge 155 = .ok (.dup, 1) := by decide +kernel
theorem dX4_ofJudge_156 : decode cX4_ofJudge 156 = .ok (.ldc_w 345, 3) := by decide +kernel
theorem dX4_ofJudge_159 : decode cX4_ofJudge 159 = .ok (.invokespecial 84, 3) := by decide +kernel
theorem dX4_ofJudge_162 : decode cX4_ofJudge 162 = .ok (.athrow, 1) := by decide +kernel
theorem dX4_mark_0 : decode cX4_mark 0 = .ok (.aload_n 0, 1) := by decide +kernel
theorem dX4_mark_1 : decode cX4_mark 1 = .ok (.iload_n 1, 1) := by decide +kernel
theorem dX4_mark_2 : decode cX4_mark 2 = .ok (.invokevirtual 110, 3) := by decide +kernel
theorem dX4_mark_5 : decode cX4_mark 5 = .ok (.ifCond .eq 11, 3) := by decide +kernel
theorem dX4_mark_8 : decode cX4_mark 8 = .ok (.aload_n 0, 1) := by decide +kernel
theorem dX4_mark_9 : decode cX4_mark 9 = .ok (.iload_n 2, 1) := by decide +kernel
theorem dX4_mark_10 : decode cX4_mark 10 = .ok (.invokevirtual 138, 3) := by decide +kernel
theorem dX4_mark_13 : decode cX4_mark 13 = .ok (.ifCond .ne 13, 3) := by decide +kernel
theorem dX4_mark_16 : decode cX4_mark 16 = .ok (.new 68, 3) := by decide +kernel
theorem dX4_mark_19 : decode cX4_mark 19 = .ok (.dup, 1) := by decide +kernel
theorem dX4_mark_20 : decode cX4_mark 20 = .ok (.ldc 164, 2) := by decide +kernel
theorem dX4_mark_22 : decode cX4_mark 22 = .ok (.invokespecial 72, 3) := by decide +kernel
theorem dX4_mark_25 : decode cX4_mark 25 = .ok (.athrow, 1) := by decide +kernel
theorem dX4_mark_26 : decode cX4_mark 26 = .ok (.aload_n 0, 1) := by decide +kernel
theorem dX4_mark_27 : decode cX4_mark 27 = .ok (.getfield 23, 3) := by decide +kernel
theorem dX4_mark_30 : decode cX4_mark 30 = .ok (.iload_n 1, 1) := by decide +kernel
theorem dX4_mark_31 : decode cX4_mark 31 = .ok (.aaload, 1) := by decide +kernel
theorem dX4_mark_32 : decode cX4_mark 32 = .ok (.getfield 347, 3) := by decide +kernel
theorem dX4_mark_35 : decode cX4_mark 35 = .ok (.iload_n 2, 1) := by decide +kernel
theorem dX4_mark_36 : decode cX4_mark 36 = .ok (.iaload, 1) := by decide +kernel
theorem dX4_mark_37 : decode cX4_mark 37 = .ok (.ireturn, 1) := by decide +kernel
theorem dX4_many_0 : decode cX4_many 0 = .ok (.iload_n 1, 1) := by decide +kernel
theorem dX4_many_1 : decode cX4_many 1 = .ok (.tableswitch 156 0 14 #[75, 80, 85, 90, 95, 100, 105, 110, 115, 120, 125, 130, 138, 143, 148], 75) := by decide +kernel
theorem dX4_many_76 : decode cX4_many 76 = .ok (.aload_n 0, 1) := by decide +kernel
theorem dX4_many_77 : decode cX4_many 77 = .ok (.getfield 94, 3) := by decide +kernel
theorem dX4_many_80 : decode cX4_many 80 = .ok (.ireturn, 1) := by decide +kernel
theorem dX4_many_81 : decode cX4_many 81 = .ok (.aload_n 0, 1) := by decide +kernel
theorem dX4_many_82 : decode cX4_many 82 = .ok (.getfield 37, 3) := by decide +kernel
theorem dX4_many_85 : decode cX4_many 85 = .ok (.ireturn, 1) := by decide +kernel
theorem dX4_many_86 : decode cX4_many 86 = .ok (.aload_n 0, 1) := by decide +kernel
theorem dX4_many_87 : decode cX4_many 87 = .ok (.getfield 197, 3) := by decide +kernel
theorem dX4_many_90 : decode cX4_many 90 = .ok (.ireturn, 1) := by decide +kernel
theorem dX4_many_91 : decode cX4_many 91 = .ok (.aload_n 0, 1) := by decide +kernel
theorem dX4_many_92 : decode cX4_many 92 = .ok (.getfield 54, 3) := by decide +kernel
theorem dX4_many_95 : decode cX4_many 95 = .ok (.ireturn, 1) := by decide +kernel
theorem dX4_many_96 : decode cX4_many 96 = .ok (.aload_n 0, 1) := by decide +kernel
theorem dX4_many_97 : decode cX4_many 97 = .ok (.getfield 85, 3) := by decide +kernel
theorem dX4_many_100 : decode cX4_many 100 = .ok (.ireturn, 1) := by decide +kernel
theorem dX4_many_101 : decode cX4_many 101 = .ok (.aload_n 0, 1) := by decide +kernel
theorem dX4_many_102 : decode cX4_many 102 = .ok (.getfield 102, 3) := by decide +kernel
theorem dX4_many_105 : decode cX4_many 105 = .ok (.ireturn, 1) := by decide +kernel
theorem dX4_many_106 : decode cX4_many 106 = .ok (.aload_n 0, 1) := by decide +kernel
theorem dX4_many_107 : decode cX4_many 107 = .ok (.invokevirtual 176, 3) := by decide +kernel
theorem dX4_many_110 : decode cX4_many 110 = .ok (.ireturn, 1) := by decide +kernel
theorem dX4_many_111 : decode cX4_many 111 = .ok (.aload_n 0, 1) := by decide +kernel
theorem dX4_many_112 : decode cX4_many 112 = .ok (.getfield 220, 3) := by decide +kernel
theorem dX4_many_115 : decode cX4_many 115 = .ok (.ireturn, 1) := by decide +kernel
theorem dX4_many_116 : decode cX4_many 116 = .ok (.aload_n 0, 1) := by decide +kernel
theorem dX4_many_117 : decode cX4_many 117 = .ok (.getfield 246, 3) := by decide +kernel
theorem dX4_many_120 : decode cX4_many 120 = .ok (.ireturn, 1) := by decide +kernel
theorem dX4_many_121 : decode cX4_many 121 = .ok (.aload_n 0, 1) := by decide +kernel
theorem dX4_many_122 : decode cX4_many 122 = .ok (.getfield 41, 3) := by decide +kernel
theorem dX4_many_125 : decode cX4_many 125 = .ok (.ireturn, 1) := by decide +kernel
theorem dX4_many_126 : decode cX4_many 126 = .ok (.aload_n 0, 1) := by decide +kernel
theorem dX4_many_127 : decode cX4_many 127 = .ok (.getfield 44, 3) := by decide +kernel
theorem dX4_many_130 : decode cX4_many 130 = .ok (.ireturn, 1) := by decide +kernel
theorem dX4_many_131 : decode cX4_many 131 = .ok (.aload_n 0, 1) := by decide +kernel
theorem dX4_many_132 : decode cX4_many 132 = .ok (.getfield 273, 3) := by decide +kernel
theorem dX4_many_135 : decode cX4_many 135 = .ok (.invokestatic 124, 3) := by decide +kernel
theorem dX4_many_138 : decode cX4_many 138 = .ok (.ireturn, 1) := by decide +kernel
theorem dX4_many_139 : decode cX4_many 139 = .ok (.aload_n 0, 1) := by decide +kernel
theorem dX4_many_140 : decode cX4_many 140 = .ok (.invokevirtual 350, 3) := by decide +kernel
theorem dX4_many_143 : decode cX4_many 143 = .ok (.ireturn, 1) := by decide +kernel
theorem dX4_many_144 : decode cX4_many 144 = .ok (.aload_n 0, 1) := by decide +kernel
theorem dX4_many_145 : decode cX4_many 145 = .ok (.invokevirtual 353, 3) := by decide +kernel
theorem dX4_many_148 : decode cX4_many 148 = .ok (.ireturn, 1) := by decide +kernel
theorem dX4_many_149 : decode cX4_many 149 = .ok (.aload_n 0, 1) := by decide +kernel
theorem dX4_many_150 : decode cX4_many 150 = .ok (.getfield 30, 3) := by decide +kernel
theorem dX4_many_153 : decode cX4_many 153 = .ok (.getfield 135, 3) := by decide +kernel
theorem dX4_many_156 : decode cX4_many 156 = .ok (.ireturn, 1) := by decide +kernel
theorem dX4_many_157 : decode cX4_many 157 = .ok (.new 80, 3) := by decide +kernel
theorem dX4_many_160 : decode cX4_many 160 = .ok (.dup, 1) := by decide +kernel
theorem dX4_many_161 : decode cX4_many 161 = .ok (.ldc_w 356, 3) := by decide +kernel
theorem dX4_many_164 : decode cX4_many 164 = .ok (.invokespecial 84, 3) := by decide +kernel
theorem dX4_many_167 : decode cX4_many 167 = .ok (.athrow, 1) := by decide +kernel
theorem dX4_meanMark_0 : decode cX4_meanMark 0 = .ok (.iconst 0, 1) := by decide +kernel
theorem dX4_meanMark_1 : decode cX4_meanMark 1 = .ok (.istore_n 1, 1) := by decide +kernel
theorem dX4_meanMark_2 : decode cX4_meanMark 2 = .ok (.iconst 0, 1) := by decide +kernel
theorem dX4_meanMark_3 : decode cX4_meanMark 3 = .ok (.istore_n 2, 1) := by decide +kernel
theorem dX4_meanMark_4 : decode cX4_meanMark 4 = .ok (.iconst 0, 1) := by decide +kernel
theorem dX4_meanMark_5 : decode cX4_meanMark 5 = .ok (.istore_n 3, 1) := by decide +kernel
theorem dX4_meanMark_6 : decode cX4_meanMark 6 = .ok (.iload_n 3, 1) := by decide +kernel
theorem dX4_meanMark_7 : decode cX4_meanMark 7 = .ok (.aload_n 0, 1) := by decide +kernel
theorem dX4_meanMark_8 : decode cX4_meanMark 8 = .ok (.getfield 102, 3) := by decide +kernel
theorem dX4_meanMark_11 : decode cX4_meanMark 11 = .ok (.if_icmp .ge 33, 3) := by decide +kernel
theorem dX4_meanMark_14 : decode cX4_meanMark 14 = .ok (.iload_n 1, 1) := by decide +kernel
theorem dX4_meanMark_15 : decode cX4_meanMark 15 = .ok (.aload_n 0, 1) := by decide +kernel
theorem dX4_meanMark_16 : decode cX4_meanMark 16 = .ok (.getfield 23, 3) := by decide +kernel
theorem dX4_meanMark_19 : decode cX4_meanMark 19 = .ok (.iload_n 3, 1) := by decide +kernel
theorem dX4_meanMark_20 : decode cX4_meanMark 20 = .ok (.aaload, 1) := by decide +kernel
theorem dX4_meanMark_21 : decode cX4_meanMark 21 = .ok (.getfield 358, 3) := by decide +kernel
theorem dX4_meanMark_24 : decode cX4_meanMark 24 = .ok (.iadd, 1) := by decide +kernel
theorem dX4_meanMark_25 : decode cX4_meanMark 25 = .ok (.istore_n 1, 1) := by decide +kernel
theorem dX4_meanMark_26 : decode cX4_meanMark 26 = .ok (.iload_n 2, 1) := by decide +kernel
theorem dX4_meanMark_27 : decode cX4_meanMark 27 = .ok (.aload_n 0, 1) := by decide +kernel
theorem dX4_meanMark_28 : decode cX4_meanMark 28 = .ok (.getfield 23, 3) := by decide +kernel
theorem dX4_meanMark_31 : decode cX4_meanMark 31 = .ok (.iload_n 3, 1) := by decide +kernel
theorem dX4_meanMark_32 : decode cX4_meanMark 32 = .ok (.aaload, 1) := by decide +kernel
theorem dX4_meanMark_33 : decode cX4_meanMark 33 = .ok (.getfield 336, 3) := by decide +kernel
theorem dX4_meanMark_36 : decode cX4_meanMark 36 = .ok (.iadd, 1) := by decide +kernel
theorem dX4_meanMark_37 : decode cX4_meanMark 37 = .ok (.istore_n 2, 1) := by decide +kernel
theorem dX4_meanMark_38 : decode cX4_meanMark 38 = .ok (.iinc 3 1, 3) := by decide +kernel
theorem dX4_meanMark_41 : decode cX4_meanMark 41 = .ok (.goto (-35), 3) := by decide +kernel
theorem dX4_meanMark_44 : decode cX4_meanMark 44 = .ok (.iload_n 2, 1) := by decide +kernel
theorem dX4_meanMark_45 : decode cX4_meanMark 45 = .ok (.ifCond .ne 7, 3) := by decide +kernel
theorem dX4_meanMark_48 : decode cX4_meanMark 48 = .ok (.dconst 0, 1) := by decide +kernel
theorem dX4_meanMark_49 : decode cX4_meanMark 49 = .ok (.goto 8, 3) := by decide +kernel
theorem dX4_meanMark_52 : decode cX4_meanMark 52 = .ok (.iload_n 1, 1) := by decide +kernel
theorem dX4_meanMark_53 : decode cX4_meanMark 53 = .ok (.i2d, 1) := by decide +kernel
theorem dX4_meanMark_54 : decode cX4_meanMark 54 = .ok (.iload_n 2, 1) := by decide +kernel
theorem dX4_meanMark_55 : decode cX4_meanMark 55 = .ok (.i2d, 1) := by decide +kernel
theorem dX4_meanMark_56 : decode cX4_meanMark 56 = .ok (.ddiv, 1) := by decide +kernel
theorem dX4_meanMark_57 : decode cX4_meanMark 57 = .ok (.dreturn, 1) := by decide +kernel
theorem dX4_wins_0 : decode cX4_wins 0 = .ok (.iload_n 1, 1) := by decide +kernel
theorem dX4_wins_1 : decode cX4_wins 1 = .ok (.iconst 0, 1) := by decide +kernel
theorem dX4_wins_2 : decode cX4_wins 2 = .ok (.bipush 31, 2) := by decide +kernel
theorem dX4_wins_4 : decode cX4_wins 4 = .ok (.invokestatic 76, 3) := by decide +kernel
theorem dX4_wins_7 : decode cX4_wins 7 = .ok (.ifCond .ne 14, 3) := by decide +kernel
theorem dX4_wins_10 : decode cX4_wins 10 = .ok (.new 80, 3) := by decide +kernel
theorem dX4_wins_13 : decode cX4_wins 13 = .ok (.dup, 1) := by decide +kernel
theorem dX4_wins_14 : decode cX4_wins 14 = .ok (.ldc_w 361, 3) := by decide +kernel
theorem dX4_wins_17 : decode cX4_wins 17 = .ok (.invokespecial 84, 3) := by decide +kernel
theorem dX4_wins_20 : decode cX4_wins 20 = .ok (.athrow, 1) := by decide +kernel
theorem dX4_wins_21 : decode cX4_wins 21 = .ok (.aload_n 0, 1) := by decide +kernel
theorem dX4_wins_22 : decode cX4_wins 22 = .ok (.iconst 0, 1) := by decide +kernel
theorem dX4_wins_23 : decode cX4_wins 23 = .ok (.iload_n 1, 1) := by decide +kernel
theorem dX4_wins_24 : decode cX4_wins 24 = .ok (.invokevirtual 265, 3) := by decide +kernel
theorem dX4_wins_27 : decode cX4_wins 27 = .ok (.ireturn, 1) := by decide +kernel
theorem dX4_beatsAll_0 : decode cX4_beatsAll 0 = .ok (.iconst 0, 1) := by decide +kernel
theorem dX4_beatsAll_1 : decode cX4_beatsAll 1 = .ok (.istore_n 1, 1) := by decide +kernel
theorem dX4_beatsAll_2 : decode cX4_beatsAll 2 = .ok (.iload_n 1, 1) := by decide +kernel
theorem dX4_beatsAll_3 : decode cX4_beatsAll 3 = .ok (.aload_n 0, 1) := by decide +kernel
theorem dX4_beatsAll_4 : decode cX4_beatsAll 4 = .ok (.getfield 85, 3) := by decide +kernel
theorem dX4_beatsAll_7 : decode cX4_beatsAll 7 = .ok (.if_icmp .ge 30, 3) := by decide +kernel
theorem dX4_beatsAll_10 : decode cX4_beatsAll 10 = .ok (.aload_n 0, 1) := by decide +kernel
theorem dX4_beatsAll_11 : decode cX4_beatsAll 11 = .ok (.getfield 246, 3) := by decide +kernel
theorem dX4_beatsAll_14 : decode cX4_beatsAll 14 = .ok (.iload_n 1, 1) := by decide +kernel
theorem dX4_beatsAll_15 : decode cX4_beatsAll 15 = .ok (.invokestatic 223, 3) := by decide +kernel
theorem dX4_beatsAll_18 : decode cX4_beatsAll 18 = .ok (.ifCond .eq 13, 3) := by decide +kernel
theorem dX4_beatsAll_21 : decode cX4_beatsAll 21 = .ok (.aload_n 0, 1) := by decide +kernel
theorem dX4_beatsAll_22 : decode cX4_beatsAll 22 = .ok (.iload_n 1, 1) := by decide +kernel
theorem dX4_beatsAll_23 : decode cX4_beatsAll 23 = .ok (.invokevirtual 363, 3) := by decide +kernel
theorem dX4_beatsAll_26 : decode cX4_beatsAll 26 = .ok (.ifCond .eq 5, 3) := by decide +kernel
theorem dX4_beatsAll_29 : decode cX4_beatsAll 29 = .ok (.iload_n 1, 1) := by decide +kernel
theorem dX4_beatsAll_30 : decode cX4_beatsAll 30 = .ok (.ireturn, 1) := by decide +kernel
theorem dX4_beatsAll_31 : decode cX4_beatsAll 31 = .ok (.iinc 1 1, 3) := by decide +kernel
theorem dX4_beatsAll_34 : decode cX4_beatsAll 34 = .ok (.goto (-32), 3) := by decide +kernel
theorem dX4_beatsAll_37 : decode cX4_beatsAll 37 = .ok (.iconst (-1), 1) := by decide +kernel
theorem dX4_beatsAll_38 : decode cX4_beatsAll 38 = .ok (.ireturn, 1) := by decide +kernel
theorem dX4_spoiled_0 : decode cX4_spoiled 0 = .ok (.aload_n 0, 1) := by decide +kernel
theorem dX4_spoiled_1 : decode cX4_spoiled 1 = .ok (.iload_n 1, 1) := by decide +kernel
theorem dX4_spoiled_2 : decode cX4_spoiled 2 = .ok (.invokevirtual 138, 3) := by decide +kernel
theorem dX4_spoiled_5 : decode cX4_spoiled 5 = .ok (.ifCond .ne 13, 3) := by decide +kernel
theorem dX4_spoiled_8 : decode cX4_spoiled 8 = .ok (.new 68, 3) := by decide +kernel
theorem dX4_spoiled_11 : decode cX4_spoiled 11 = .ok (.dup, 1) := by decide +kernel
theorem dX4_spoiled_12 : decode cX4_spoiled 12 = .ok (.ldc 141, 2) := by decide +kernel
theorem dX4_spoiled_14 : decode cX4_spoiled 14 = .ok (.invokespecial 72, 3) := by decide +kernel
theorem dX4_spoiled_17 : decode cX4_spoiled 17 = .ok (.athrow, 1) := by decide +kernel
theorem dX4_spoiled_18 : decode cX4_spoiled 18 = .ok (.aload_n 0, 1) := by decide +kernel
theorem dX4_spoiled_19 : decode cX4_spoiled 19 = .ok (.getfield 246, 3) := by decide +kernel
theorem dX4_spoiled_22 : decode cX4_spoiled 22 = .ok (.iload_n 1, 1) := by decide +kernel
theorem dX4_spoiled_23 : decode cX4_spoiled 23 = .ok (.invokestatic 223, 3) := by decide +kernel
theorem dX4_spoiled_26 : decode cX4_spoiled 26 = .ok (.ifCond .eq 15, 3) := by decide +kernel
theorem dX4_spoiled_29 : decode cX4_spoiled 29 = .ok (.aload_n 0, 1) := by decide +kernel
theorem dX4_spoiled_30 : decode cX4_spoiled 30 = .ok (.iload_n 1, 1) := by decide +kernel
theorem dX4_spoiled_31 : decode cX4_spoiled 31 = .ok (.invokestatic 120, 3) := by decide +kernel
theorem dX4_spoiled_34 : decode cX4_spoiled 34 = .ok (.iconst 0, 1) := by decide +kernel
theorem dX4_spoiled_35 : decode cX4_spoiled 35 = .ok (.invokevirtual 265, 3) := by decide +kernel
theorem dX4_spoiled_38 : decode cX4_spoiled 38 = .ok (.goto 4, 3) := by decide +kernel
theorem dX4_spoiled_41 : decode cX4_spoiled 41 = .ok (.iconst (-1), 1) := by decide +kernel
theorem dX4_spoiled_42 : decode cX4_spoiled 42 = .ok (.ireturn, 1) := by decide +kernel
theorem dX4_readIn_0 : decode cX4_readIn 0 = .ok (.aload_n 0, 1) := by decide +kernel
theorem dX4_readIn_1 : decode cX4_readIn 1 = .ok (.getfield 37, 3) := by decide +kernel
theorem dX4_readIn_4 : decode cX4_readIn 4 = .ok (.iconst 1, 1) := by decide +kernel
theorem dX4_readIn_5 : decode cX4_readIn 5 = .ok (.if_icmp .eq 5, 3) := by decide +kernel
theorem dX4_readIn_8 : decode cX4_readIn 8 = .ok (.iconst (-1), 1) := by decide +kernel
theorem dX4_readIn_9 : decode cX4_readIn 9 = .ok (.ireturn, 1) := by decide +kernel
theorem dX4_readIn_10 : decode cX4_readIn 10 = .ok (.iconst 0, 1) := by decide +kernel
theorem dX4_readIn_11 : decode cX4_readIn 11 = .ok (.istore_n 1, 1) := by decide +kernel
theorem dX4_readIn_12 : decode cX4_readIn 12 = .ok (.iconst 0, 1) := by decide +kernel
theorem dX4_readIn_13 : decode cX4_readIn 13 = .ok (.istore_n 2, 1) := by decide +kernel
theorem dX4_readIn_14 : decode cX4_readIn 14 = .ok (.iload_n 2, 1) := by decide +kernel
theorem dX4_readIn_15 : decode cX4_readIn 15 = .ok (.aload_n 0, 1) := by decide +kernel
theorem dX4_readIn_16 : decode cX4_readIn 16 = .ok (.getfield 102, 3) := by decide +kernel
theorem dX4_readIn_19 : decode cX4_readIn 19 = .ok (.if_icmp .ge 23, 3) := by decide +kernel
theorem dX4_readIn_22 : decode cX4_readIn 22 = .ok (.iload_n 1, 1) := by decide +kernel
theorem dX4_readIn_23 : decode cX4_readIn 23 = .ok (.aload_n 0, 1) := by decide +kernel
theorem dX4_readIn_24 : decode cX4_readIn 24 = .ok (.getfield 23, 3) := by decide +kernel
theorem dX4_readIn_27 : decode cX4_readIn 27 = .ok (.iload_n 2, 1) := by decide +kernel
theorem dX4_readIn_28 : decode cX4_readIn 28 = .ok (.aaload, 1) := by decide +kernel
theorem dX4_readIn_29 : decode cX4_readIn 29 = .ok (.invokevirtual 366, 3) := by decide +kernel
theorem dX4_readIn_32 : decode cX4_readIn 32 = .ok (.invokestatic 369, 3) := by decide +kernel
theorem dX4_readIn_35 : decode cX4_readIn 35 = .ok (.istore_n 1, 1) := by decide +kernel
theorem dX4_readIn_36 : decode cX4_readIn 36 = .ok (.iinc 2 1, 3) := by decide +kernel
theorem dX4_readIn_39 : decode cX4_readIn 39 = .ok (.goto (-25), 3) := by decide +kernel
theorem dX4_readIn_42 : decode cX4_readIn 42 = .ok (.iload_n 1, 1) := by decide +kernel
theorem dX4_readIn_43 : decode cX4_readIn 43 = .ok (.ireturn, 1) := by decide +kernel
theorem dX4_wouldMiss_0 : decode cX4_wouldMiss 0 = .ok (.iload_n 1, 1) := by decide +kernel
theorem dX4_wouldMiss_1 : decode cX4_wouldMiss 1 = .ok (.iconst 1, 1) := by decide +kernel
theorem dX4_wouldMiss_2 : decode cX4_wouldMiss 2 = .ok (.bipush 60, 2) := by decide +kernel
theorem dX4_wouldMiss_4 : decode cX4_wouldMiss 4 = .ok (.invokestatic 76, 3) := by decide +kernel
theorem dX4_wouldMiss_7 : decode cX4_wouldMiss 7 = .ok (.ifCond .ne 13, 3) := by decide +kernel
theorem dX4_wouldMiss_10 : decode cX4_wouldMiss 10 = .ok (.new 80, 3) := by decide +kernel
theorem dX4_wouldMiss_13 : decode cX4_wouldMiss 13 = .ok (.dup, 1) := by decide +kernel
theorem dX4_wouldMiss_14 : decode cX4_wouldMiss 14 = .ok (.ldc 195, 2) := by decide +kernel
theorem dX4_wouldMiss_16 : decode cX4_wouldMiss 16 = .ok (.invokespecial 84, 3) := by decide +kernel
theorem dX4_wouldMiss_19 : decode cX4_wouldMiss 19 = .ok (.athrow, 1) := by decide +kernel
theorem dX4_wouldMiss_20 : decode cX4_wouldMiss 20 = .ok (.iconst 0, 1) := by decide +kernel
theorem dX4_wouldMiss_21 : decode cX4_wouldMiss 21 = .ok (.istore_n 2, 1) := by decide +kernel
theorem dX4_wouldMiss_22 : decode cX4_wouldMiss 22 = .ok (.iconst 0, 1) := by decide +kernel
theorem dX4_wouldMiss_23 : decode cX4_wouldMiss 23 = .ok (.istore_n 3, 1) := by decide +kernel
theorem dX4_wouldMiss_24 : decode cX4_wouldMiss 24 = .ok (.iload_n 3, 1) := by decide +kernel
theorem dX4_wouldMiss_25 : decode cX4_wouldMiss 25 = .ok (.aload_n 0, 1) := by decide +kernel
theorem dX4_wouldMiss_26 : decode cX4_wouldMiss 26 = .ok (.getfield 85, 3) := by decide +kernel
theorem dX4_wouldMiss_29 : decode cX4_wouldMiss 29 = .ok (.if_icmp .ge 33, 3) := by decide +kernel
theorem dX4_wouldMiss_32 : decode cX4_wouldMiss 32 = .ok (.iload_n 2, 1) := by decide +kernel
theorem dX4_wouldMiss_33 : decode cX4_wouldMiss 33 = .ok (.iconst 0, 1) := by decide +kernel
theorem dX4_wouldMiss_34 : decode cX4_wouldMiss 34 = .ok (.aload_n 0, 1) := by decide +kernel
theorem dX4_wouldMiss_35 : decode cX4_wouldMiss 35 = .ok (.iload_n 3, 1) := by decide +kernel
theorem dX4_wouldMiss_36 : decode cX4_wouldMiss 36 = .ok (.invokevirtual 372, 3) := by decide +kernel
theorem dX4_wouldMiss_39 : decode cX4_wouldMiss 39 = .ok (.iload_n 1, 1) := by decide +kernel
theorem dX4_wouldMiss_40 : decode cX4_wouldMiss 40 = .ok (.imul, 1) := by decide +kernel
theorem dX4_wouldMiss_41 : decode cX4_wouldMiss 41 = .ok (.aload_n 0, 1) := by decide +kernel
theorem dX4_wouldMiss_42 : decode cX4_wouldMiss 42 = .ok (.getfield 17, 3) := by decide +kernel
theorem dX4_wouldMiss_45 : decode cX4_wouldMiss 45 = .ok (.iload_n 3, 1) := by decide +kernel
theorem dX4_wouldMiss_46 : decode cX4_wouldMiss 46 = .ok (.aaload, 1) := by decide +kernel
theorem dX4_wouldMiss_47 : decode cX4_wouldMiss 47 = .ok (.getfield 187, 3) := by decide +kernel
theorem dX4_wouldMiss_50 : decode cX4_wouldMiss 50 = .ok (.isub, 1) := by decide +kernel
theorem dX4_wouldMiss_51 : decode cX4_wouldMiss 51 = .ok (.invokestatic 369, 3) := by decide +kernel
theorem dX4_wouldMiss_54 : decode cX4_wouldMiss 54 = .ok (.iadd, 1) := by decide +kernel
theorem dX4_wouldMiss_55 : decode cX4_wouldMiss 55 = .ok (.istore_n 2, 1) := by decide +kernel
theorem dX4_wouldMiss_56 : decode cX4_wouldMiss 56 = .ok (.iinc 3 1, 3) := by decide +kernel
theorem dX4_wouldMiss_59 : decode cX4_wouldMiss 59 = .ok (.goto (-35), 3) := by decide +kernel
theorem dX4_wouldMiss_62 : decode cX4_wouldMiss 62 = .ok (.iload_n 2, 1) := by decide +kernel
theorem dX4_wouldMiss_63 : decode cX4_wouldMiss 63 = .ok (.ireturn, 1) := by decide +kernel
theorem dX4_digest_0 : decode cX4_digest 0 = .ok (.ldc2_w 375, 3) := by decide +kernel
theorem dX4_digest_3 : decode cX4_digest 3 = .ok (.lstore_n 1, 1) := by decide +kernel
theorem dX4_digest_4 : decode cX4_digest 4 = .ok (.iconst 0, 1) := by decide +kernel
theorem dX4_digest_5 : decode cX4_digest 5 = .ok (.istore_n 3, 1) := by decide +kernel
theorem dX4_digest_6 : decode cX4_digest 6 = .ok (.iload_n 3, 1) := by decide +kernel
theorem dX4_digest_7 : decode cX4_digest 7 = .ok (.bipush 14, 2) := by decide +kernel
theorem dX4_digest_9 : decode cX4_digest 9 = .ok (.if_icmp .gt 22, 3) := by decide +kernel
theorem dX4_digest_12 : decode cX4_digest 12 = .ok (.lload_n 1, 1) := by decide +kernel
theorem dX4_digest_13 : decode cX4_digest 13 = .ok (.ldc2_w 377, 3) := by decide +kernel
theorem dX4_digest_16 : decode cX4_digest 16 = .ok (.lmul, 1) := by decide +kernel
theorem dX4_digest_17 : decode cX4_digest 17 = .ok (.aload_n 0, 1) := by decide +kernel
theorem dX4_digest_18 : decode cX4_digest 18 = .ok (.iload_n 3, 1) := by decide +kernel
theorem dX4_digest_19 : decode cX4_digest 19 = .ok (.invokevirtual 379, 3) := by decide +kernel
theorem dX4_digest_22 : decode cX4_digest 22 = .ok (.i2l, 1) := by decide +kernel
theorem dX4_digest_23 : decode cX4_digest 23 = .ok (.ladd, 1) := by decide +kernel
theorem dX4_digest_24 : decode cX4_digest 24 = .ok (.lstore_n 1, 1) := by decide +kernel
theorem dX4_digest_25 : decode cX4_digest 25 = .ok (.iinc 3 1, 3) := by decide +kernel
theorem dX4_digest_28 : decode cX4_digest 28 = .ok (.goto (-22), 3) := by decide +kernel
theorem dX4_digest_31 : decode cX4_digest 31 = .ok (.iconst 0, 1) := by decide +kernel
theorem dX4_digest_32 : decode cX4_digest 32 = .ok (.istore_n 3, 1) := by decide +kernel
theorem dX4_digest_33 : decode cX4_digest 33 = .ok (.iload_n 3, 1) := by decide +kernel
theorem dX4_digest_34 : decode cX4_digest 34 = .ok (.aload_n 0, 1) := by decide +kernel
