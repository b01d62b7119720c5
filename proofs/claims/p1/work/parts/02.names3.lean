theorem dX4_ofBook_181 : decode cX4_ofBook 181 = .ok (.dup, 1) := by decide +kernel
theorem dX4_ofBook_182 : decode cX4_ofBook 182 = .ok (.ldc_w 325, 3) := by decide +kernel
theorem dX4_ofBook_185 : decode cX4_ofBook 185 = .ok (.invokespecial 84, 3) := by decide +kernel
theorem dX4_ofBook_188 : decode cX4_ofBook 188 = .ok (.athrow, 1) := by decide +kernel
set_option maxRecDepth 20000 in
theorem ggX4_ofJudge_X4_isJudge : GoodIn wsX4_ofJudge wsX4_isJudge := goodIn_r _ [15, 16, 34, 35, 36, 37, 38, 39, 40, 41, 42, 43, 44, 45, 46, 47, 48, 49, 50, 51, 52] (by decide +kernel) (by decide +kernel)
set_option maxRecDepth 20000 in
theorem gX4_ofJudge_X4_isJudge : GoodIn wsX4_ofJudge (wsV RX4 110 RX4 yX4_isJudge wsX4_isJudge) := goodIn_app (goodIn_of _ (by decide +kernel)) ggX4_ofJudge_X4_isJudge
set_option maxRecDepth 20000 in
theorem ggX4_ofJudge_X2_pagesLeft : GoodIn wsX4_ofJudge wsX2_pagesLeft := goodIn_r _ [21, 22, 23, 53, 54, 55, 56, 57, 58, 59, 60, 61, 62, 63, 64, 65, 66, 67, 68] (by decide +kernel) (by decide +kernel)
set_option maxRecDepth 20000 in
theorem gX4_ofJudge_X2_pagesLeft : GoodIn wsX4_ofJudge (wsV RX4 333 RX2 yX2_pagesLeft wsX2_pagesLeft) := goodIn_app (goodIn_of _ (by decide +kernel)) ggX4_ofJudge_X2_pagesLeft
set_option maxRecDepth 20000 in
theorem ggX4_ofJudge_X2_hasOrder : GoodIn wsX4_ofJudge wsX2_hasOrder := goodIn_r _ [27, 28, 53, 54, 55, 56, 57, 58, 59, 60, 61, 62, 63, 64, 65, 66, 67, 68] (by decide +kernel) (by decide +kernel)
set_option maxRecDepth 20000 in
theorem gX4_ofJudge_X2_hasOrder : GoodIn wsX4_ofJudge (wsV RX4 342 RX2 yX2_hasOrder wsX2_hasOrder) := goodIn_app (goodIn_of _ (by decide +kernel)) ggX4_ofJudge_X2_hasOrder
set_option maxRecDepth 20000 in
theorem ggX4_ofJudge_X2_pointsLeft : GoodIn wsX4_ofJudge wsX2_pointsLeft := goodIn_r _ [32, 33, 53, 54, 55, 56, 57, 58, 59, 60, 61, 62, 63, 64, 65, 66, 67, 68] (by decide +kernel) (by decide +kernel)
set_option maxRecDepth 20000 in
theorem gX4_ofJudge_X2_pointsLeft : GoodIn wsX4_ofJudge (wsV RX4 231 RX2 yX2_pointsLeft wsX2_pointsLeft) := goodIn_app (goodIn_of _ (by decide +kernel)) ggX4_ofJudge_X2_pointsLeft
theorem dX4_ofJudge_0 : decode cX4_ofJudge 0 = .ok (.aload_n 0, 1) := by decide +kernel
theorem dX4_ofJudge_1 : decode cX4_ofJudge 1 = .ok (.iload_n 1, 1) := by decide +kernel
theorem dX4_ofJudge_2 : decode cX4_ofJudge 2 = .ok (.invokevirtual 110, 3) := by decide +kernel
theorem dX4_ofJudge_5 : decode cX4_ofJudge 5 = .ok (.ifCond .ne 13, 3) := by decide +kernel
theorem dX4_ofJudge_8 : decode cX4_ofJudge 8 = .ok (.new 68, 3) := by decide +kernel
theorem dX4_ofJudge_11 : decode cX4_ofJudge 11 = .ok (.dup, 1) := by decide +kernel
theorem dX4_ofJudge_12 : decode cX4_ofJudge 12 = .ok (.ldc 113, 2) := by decide +kernel
theorem dX4_ofJudge_14 : decode cX4_ofJudge 14 = .ok (.invokespecial 72, 3) := by decide +kernel
theorem dX4_ofJudge_17 : decode cX4_ofJudge 17 = .ok (.athrow, 1) := by decide +kernel
theorem dX4_ofJudge_18 : decode cX4_ofJudge 18 = .ok (.iload_n 2, 1) := by decide +kernel
theorem dX4_ofJudge_19 : decode cX4_ofJudge 19 = .ok (.tableswitch 133 0 7 #[45, 55, 65, 75, 85, 95, 105, 123], 45) := by decide +kernel
theorem dX4_ofJudge_64 : decode cX4_ofJudge 64 = .ok (.aload_n 0, 1) := by decide +kernel
theorem dX4_ofJudge_65 : decode cX4_ofJudge 65 = .ok (.getfield 23, 3) := by decide +kernel
theorem dX4_ofJudge_68 : decode cX4_ofJudge 68 = .ok (.iload_n 1, 1) := by decide +kernel
theorem dX4_ofJudge_69 : decode cX4_ofJudge 69 = .ok (.aaload, 1) := by decide +kernel
theorem dX4_ofJudge_70 : decode cX4_ofJudge 70 = .ok (.getfield 327, 3) := by decide +kernel
theorem dX4_ofJudge_73 : decode cX4_ofJudge 73 = .ok (.ireturn, 1) := by decide +kernel
theorem dX4_ofJudge_74 : decode cX4_ofJudge 74 = .ok (.aload_n 0, 1) := by decide +kernel
theorem dX4_ofJudge_75 : decode cX4_ofJudge 75 = .ok (.getfield 23, 3) := by decide +kernel
theorem dX4_ofJudge_78 : decode cX4_ofJudge 78 = .ok (.iload_n 1, 1) := by decide +kernel
theorem dX4_ofJudge_79 : decode cX4_ofJudge 79 = .ok (.aaload, 1) := by decide +kernel
theorem dX4_ofJudge_80 : decode cX4_ofJudge 80 = .ok (.getfield 117, 3) := by decide +kernel
theorem dX4_ofJudge_83 : decode cX4_ofJudge 83 = .ok (.ireturn, 1) := by decide +kernel
theorem dX4_ofJudge_84 : decode cX4_ofJudge 84 = .ok (.aload_n 0, 1) := by decide +kernel
theorem dX4_ofJudge_85 : decode cX4_ofJudge 85 = .ok (.getfield 23, 3) := by decide +kernel
theorem dX4_ofJudge_88 : decode cX4_ofJudge 88 = .ok (.iload_n 1, 1) := by decide +kernel
theorem dX4_ofJudge_89 : decode cX4_ofJudge 89 = .ok (.aaload, 1) := by decide +kernel
theorem dX4_ofJudge_90 : decode cX4_ofJudge 90 = .ok (.getfield 330, 3) := by decide +kernel
theorem dX4_ofJudge_93 : decode cX4_ofJudge 93 = .ok (.ireturn, 1) := by decide +kernel
theorem dX4_ofJudge_94 : decode cX4_ofJudge 94 = .ok (.aload_n 0, 1) := by decide +kernel
theorem dX4_ofJudge_95 : decode cX4_ofJudge 95 = .ok (.getfield 23, 3) := by decide +kernel
theorem dX4_ofJudge_98 : decode cX4_ofJudge 98 = .ok (.iload_n 1, 1) := by decide +kernel
theorem dX4_ofJudge_99 : decode cX4_ofJudge 99 = .ok (.aaload, 1) := by decide +kernel
theorem dX4_ofJudge_100 : decode cX4_ofJudge 100 = .ok (.invokevirtual 333, 3) := by decide +kernel
theorem dX4_ofJudge_103 : decode cX4_ofJudge 103 = .ok (.ireturn, 1) := by decide +kernel
theorem dX4_ofJudge_104 : decode cX4_ofJudge 104 = .ok (.aload_n 0, 1) := by decide +kernel
theorem dX4_ofJudge_105 : decode cX4_ofJudge 105 = .ok (.getfield 23, 3) := by decide +kernel
theorem dX4_ofJudge_108 : decode cX4_ofJudge 108 = .ok (.iload_n 1, 1) := by decide +kernel
theorem dX4_ofJudge_109 : decode cX4_ofJudge 109 = .ok (.aaload, 1) := by decide +kernel
theorem dX4_ofJudge_110 : decode cX4_ofJudge 110 = .ok (.getfield 336, 3) := by decide +kernel
theorem dX4_ofJudge_113 : decode cX4_ofJudge 113 = .ok (.ireturn, 1) := by decide +kernel
theorem dX4_ofJudge_114 : decode cX4_ofJudge 114 = .ok (.aload_n 0, 1) := by decide +kernel
theorem dX4_ofJudge_115 : decode cX4_ofJudge 115 = .ok (.getfield 23, 3) := by decide +kernel
theorem dX4_ofJudge_118 : decode cX4_ofJudge 118 = .ok (.iload_n 1, 1) := by decide +kernel
theorem dX4_ofJudge_119 : decode cX4_ofJudge 119 = .ok (.aaload, 1) := by decide +kernel
theorem dX4_ofJudge_120 : decode cX4_ofJudge 120 = .ok (.getfield 339, 3) := by decide +kernel
theorem dX4_ofJudge_123 : decode cX4_ofJudge 123 = .ok (.ireturn, 1) := by decide +kernel
theorem dX4_ofJudge_124 : decode cX4_ofJudge 124 = .ok (.aload_n 0, 1) := by decide +kernel
theorem dX4_ofJudge_125 : decode cX4_ofJudge 125 = .ok (.getfield 23, 3) := by decide +kernel
theorem dX4_ofJudge_128 : decode cX4_ofJudge 128 = .ok (.iload_n 1, 1) := by decide +kernel
theorem dX4_ofJudge_129 : decode cX4_ofJudge 129 = .ok (.aaload, 1) := by decide +kernel
theorem dX4_ofJudge_130 : decode cX4_ofJudge 130 = .ok (.invokevirtual 342, 3) := by decide +kernel
theorem dX4_ofJudge_133 : decode cX4_ofJudge 133 = .ok (.ifCond .eq 7, 3) := by decide +kernel
theorem dX4_ofJudge_136 : decode cX4_ofJudge 136 = .ok (.iconst 1, 1) := by decide +kernel
theorem dX4_ofJudge_137 : decode cX4_ofJudge 137 = .ok (.goto 4, 3) := by decide +kernel
theorem dX4_ofJudge_140 : decode cX4_ofJudge 140 = .ok (.iconst 0, 1) := by decide +kernel
theorem dX4_ofJudge_141 : decode cX4_ofJudge 141 = .ok (.ireturn, 1) := by decide +kernel
theorem dX4_ofJudge_142 : decode cX4_ofJudge 142 = .ok (.aload_n 0, 1) := by decide +kernel
theorem dX4_ofJudge_143 : decode cX4_ofJudge 143 = .ok (.getfield 23, 3) := by decide +kernel
theorem dX4_ofJudge_146 : decode cX4_ofJudge 146 = .ok (.iload_n 1, 1) := by decide +kernel
theorem dX4_ofJudge_147 : decode cX4_ofJudge 147 = .ok (.aaload, 1) := by decide +kernel
theorem dX4_ofJudge_148 : decode cX4_ofJudge 148 = .ok (.invokevirtual 231, 3) := by decide +kernel
theorem dX4_ofJudge_151 : decode cX4_ofJudge 151 = .ok (.ireturn, 1) := by decide +kernel
theorem dX4_ofJudge_152 : decode cX4_ofJudge 152 = .ok (.new 80, 3) := by decide +kernel
theorem dX4_ofJudge_155 : decode cX4_ofJudge 155 = .ok (.dup, 1) := by decide +kernel
theorem dX4_ofJudge_156 : decode cX4_ofJudge 156 = .ok (.ldc_w 345, 3) := by decide +kernel
theorem dX4_ofJudge_159 : decode cX4_ofJudge 159 = .ok (.invokespecial 84, 3) := by decide +kernel
theorem dX4_ofJudge_162 : decode cX4_ofJudge 162 = .ok (.athrow, 1) := by decide +kernel
set_option maxRecDepth 20000 in
theorem ggX4_mark_X4_isJudge : GoodIn wsX4_mark wsX4_isJudge := goodIn_r _ [9, 10, 16, 17, 18, 19, 20, 21, 22, 23, 24, 25, 26, 27, 28, 29, 30, 31, 32, 33, 34] (by decide +kernel) (by decide +kernel)
set_option maxRecDepth 20000 in
theorem gX4_mark_X4_isJudge : GoodIn wsX4_mark (wsV RX4 110 RX4 yX4_isJudge wsX4_isJudge) := goodIn_app (goodIn_of _ (by decide +kernel)) ggX4_mark_X4_isJudge
set_option maxRecDepth 20000 in
theorem ggX4_mark_X4_isBook : GoodIn wsX4_mark wsX4_isBook := goodIn_r _ [14, 15, 16, 17, 18, 19, 20, 21, 22, 23, 24, 25, 26, 27, 28, 29, 30, 31, 32, 33, 34] (by decide +kernel) (by decide +kernel)
set_option maxRecDepth 20000 in
theorem gX4_mark_X4_isBook : GoodIn wsX4_mark (wsV RX4 138 RX4 yX4_isBook wsX4_isBook) := goodIn_app (goodIn_of _ (by decide +kernel)) ggX4_mark_X4_isBook
theorem dX4_mark_0 : decode cX4_mark 0 = .ok (.aload_n 0, 1) := by decide +kernel
theorem dX4_mark_1 : decode cX4_mark 1 = .ok (.iload_n 1, 1) := by decide +kernel
theorem dX4_mark_2 : decode cX4_mark 2 = .ok (.invokevirtual 110, 3) := by decide +kernel
theorem dX4_mark_5 : decode cX4_mark 5 = .ok (.ifCond .eq 11, 3) := by decide +kernel
theorem dX4_mark_8 : decode cX4_mark 8 = .ok (.aload_n 0, 1) := by decide +kernel
theorem dX4_mark_9 : decode cX4_mark 9 = .ok (.iload_n 2, 1) := by decide +kernel
theorem dX4_mark_10 : decode cX4_mark 10 = .ok (.invokevirtual 138, 3) := by decide +kernel
theorem dX4_mark_13 : decode cX4_mark 13 = .ok (.ifCond .ne 13, 3) := by decide +kernel
theorem dX4_mark_16 : decode cX4_mark 16 = .ok (.new 68, 3) := by decide +kernel
theorem dX4_mark_19 : decode cX4_mark 19 = .ok (.dup, 1) := by decide +kernel
theorem dX4_mark_20 : decode cX4_mark 20 = .ok (.ldc 164, 2) := by decide +kernel
theorem dX4_mark_22 : decode cX4_mark 22 = .ok (.invokespecial 72, 3) := by decide +kernel
theorem dX4_mark_25 : decode cX4_mark 25 = .ok (.athrow, 1) := by decide +kernel
theorem dX4_mark_26 : decode cX4_mark 26 = .ok (.aload_n 0, 1) := by decide +kernel
theorem dX4_mark_27 : decode cX4_mark 27 = .ok (.getfield 23, 3) := by decide +kernel
theorem dX4_mark_30 : decode cX4_mark 30 = .ok (.iload_n 1, 1) := by decide +kernel
theorem dX4_mark_31 : decode cX4_mark 31 = .ok (.aaload, 1) := by decide +kernel
theorem dX4_mark_32 : decode cX4_mark 32 = .ok (.getfield 347, 3) := by decide +kernel
theorem dX4_mark_35 : decode cX4_mark 35 = .ok (.iload_n 2, 1) := by decide +kernel
theorem dX4_mark_36 : decode cX4_mark 36 = .ok (.iaload, 1) := by decide +kernel
theorem dX4_mark_37 : decode cX4_mark 37 = .ok (.ireturn, 1) := by decide +kernel
set_option maxRecDepth 20000 in
theorem ggX4_many_X4_enteredCount : GoodIn wsX4_many wsX4_enteredCount := goodIn_r _ [20, 7, 21, 22, 23, 19, 24, 25, 26, 3, 44, 45, 46, 47, 48, 49, 50, 51, 52, 53, 54, 55, 56, 57, 58, 59, 60, 61, 62, 67, 68, 69, 70, 71, 72, 73, 74, 75, 76, 77] (by decide +kernel) (by decide +kernel)
set_option maxRecDepth 20000 in
theorem gX4_many_X4_enteredCount : GoodIn wsX4_many (wsV RX4 176 RX4 yX4_enteredCount wsX4_enteredCount) := goodIn_app (goodIn_of _ (by decide +kernel)) ggX4_many_X4_enteredCount
set_option maxRecDepth 20000 in
theorem ggX4_many_J6_bitCount_0f7a4 : GoodIn wsX4_many wsJ6_bitCount_0f7a4 := goodIn_r _ [30, 31, 32, 33] (by decide +kernel) (by decide +kernel)
set_option maxRecDepth 20000 in
theorem gX4_many_J6_bitCount_0f7a4 : GoodIn wsX4_many (va_wsS RX4 124 yJ6_bitCount_0f7a4 wsJ6_bitCount_0f7a4) := goodIn_app (goodIn_of _ (by decide +kernel)) ggX4_many_J6_bitCount_0f7a4
set_option maxRecDepth 20000 in
theorem ggX4_many_X4_soldEver : GoodIn wsX4_many wsX4_soldEver := goodIn_r _ [37, 7, 25, 38, 44, 45, 46, 47, 48, 49, 50, 51, 52, 53, 54, 55, 56, 57, 58, 59, 60, 61, 62, 67, 68, 69, 70, 71, 72, 73, 74, 75, 76, 77] (by decide +kernel) (by decide +kernel)
set_option maxRecDepth 20000 in
theorem gX4_many_X4_soldEver : GoodIn wsX4_many (wsV RX4 350 RX4 yX4_soldEver wsX4_soldEver) := goodIn_app (goodIn_of _ (by decide +kernel)) ggX4_many_X4_soldEver
set_option maxRecDepth 20000 in
theorem ggX4_many_X4_missedEver : GoodIn wsX4_many wsX4_missedEver := goodIn_r _ [42, 7, 25, 43, 44, 45, 46, 47, 48, 49, 50, 51, 52, 53, 54, 55, 56, 57, 58, 59, 60, 61, 62, 67, 68, 69, 70, 71, 72, 73, 74, 75, 76, 77] (by decide +kernel) (by decide +kernel)
set_option maxRecDepth 20000 in
theorem gX4_many_X4_missedEver : GoodIn wsX4_many (wsV RX4 353 RX4 yX4_missedEver wsX4_missedEver) := goodIn_app (goodIn_of _ (by decide +kernel)) ggX4_many_X4_missedEver
theorem dX4_many_0 : decode cX4_many 0 = .ok (.iload_n 1, 1) := by decide +kernel
theorem dX4_many_1 : decode cX4_many 1 = .ok (.tableswitch 156 0 14 #[75, 80, 85, 90, 95, 100, 105, 110, 115, 120, 125, 130, 138, 143, 148], 75) := by decide +kernel
theorem dX4_many_76 : decode cX4_many 76 = .ok (.aload_n 0, 1) := by decide +kernel
theorem dX4_many_77 : decode cX4_many 77 = .ok (.getfield 94, 3) := by decide +kernel
theorem dX4_many_80 : decode cX4_many 80 = .ok (.ireturn, 1) := by decide +kernel
theorem dX4_many_81 : decode cX4_many 81 = .ok (.aload_n 0, 1) := by decide +kernel
theorem dX4_many_82 : decode cX4_many 82 = .ok (.getfield 37, 3) := by decide +kernel
theorem dX4_many_85 : decode cX4_many 85 = .ok (.ireturn, 1) := by decide +kernel
theorem dX4_many_86 : decode cX4_many 86 = .ok (.aload_n 0, 1) := by decide +kernel
theorem dX4_many_87 : decode cX4_many 87 = .ok (.getfield 197, 3) := by decide +kernel
theorem dX4_many_90 : decode cX4_many 90 = .ok (.ireturn, 1) := by decide +kernel
theorem dX4_many_91 : decode cX4_many 91 = .ok (.aload_n 0, 1) := by decide +kernel
theorem dX4_many_92 : decode cX4_many 92 = .ok (.getfield 54, 3) := by decide +kernel
theorem dX4_many_95 : decode cX4_many 95 = .ok (.ireturn, 1) := by decide +kernel
theorem dX4_many_96 : decode cX4_many 96 = .ok (.aload_n 0, 1) := by decide +kernel
theorem dX4_many_97 : decode cX4_many 97 = .ok (.getfield 85, 3) := by decide +kernel
theorem dX4_many_100 : decode cX4_many 100 = .ok (.ireturn, 1) := by decide +kernel
theorem dX4_many_101 : decode cX4_many 101 = .ok (.aload_n 0, 1) := by decide +kernel
theorem dX4_many_102 : decode cX4_many 102 = .ok (.getfield 102, 3) := by decide +kernel
theorem dX4_many_105 : decode cX4_many 105 = .ok (.ireturn, 1) := by decide +kernel
theorem dX4_many_106 : decode cX4_many 106 = .ok (.aload_n 0, 1) := by decide +kernel
theorem dX4_many_107 : decode cX4_many 107 = .ok (.invokevirtual 176, 3) := by decide +kernel
theorem dX4_many_110 : decode cX4_many 110 = .ok (.ireturn, 1) := by decide +kernel
theorem dX4_many_111 : decode cX4_many 111 = .ok (.aload_n 0, 1) := by decide +kernel
theorem dX4_many_112 : decode cX4_many 112 = .ok (.getfield 220, 3) := by decide +kernel
theorem dX4_many_115 : decode cX4_many 115 = .ok (.ireturn, 1) := by decide +kernel
theorem dX4_many_116 : decode cX4_many 116 = .ok (.aload_n 0, 1) := by decide +kernel
theorem dX4_many_117 : decode cX4_many 117 = .ok (.getfield 246, 3) := by decide +kernel
theorem dX4_many_120 : decode cX4_many 120 = .ok (.ireturn, 1) := by decide +kernel
theorem dX4_many_121 : decode cX4_many 121 = .ok (.aload_n 0, 1) := by decide +kernel
theorem dX4_many_122 : decode cX4_many 122 = .ok (.getfield 41, 3) := by decide +kernel
theorem dX4_many_125 : decode cX4_many 125 = .ok (.ireturn, 1) := by decide +kernel
theorem dX4_many_126 : decode cX4_many 126 = .ok (.aload_n 0, 1) := by decide +kernel
theorem dX4_many_127 : decode cX4_many 127 = .ok (.getfield 44, 3) := by decide +kernel
theorem dX4_many_130 : decode cX4_many 130 = .ok (.ireturn, 1) := by decide +kernel
theorem dX4_many_131 : decode cX4_many 131 = .ok (.aload_n 0, 1) := by decide +kernel
theorem dX4_many_132 : decode cX4_many 132 = .ok (.getfield 273, 3) := by decide +kernel
theorem dX4_many_135 : decode cX4_many 135 = .ok (.invokestatic 124, 3) := by decide +kernel
theorem dX4_many_138 : decode cX4_many 138 = .ok (.ireturn, 1) := by decide +kernel
theorem dX4_many_139 : decode cX4_many 139 = .ok (.aload_n 0, 1) := by decide +kernel
theorem dX4_many_140 : decode cX4_many 140 = .ok (.invokevirtual 350, 3) := by decide +kernel
theorem dX4_many_143 : decode cX4_many 143 = .ok (.ireturn, 1) := by decide +kernel
theorem dX4_many_144 : decode cX4_many 144 = .ok (.aload_n 0, 1) := by decide +kernel
theorem dX4_many_145 : decode cX4_many 145 = .ok (.invokevirtual 353, 3) := by decide +kernel
theorem dX4_many_148 : decode cX4_many 148 = .ok (.ireturn, 1) := by decide +kernel
theorem dX4_many_149 : decode cX4_many 149 = .ok (.aload_n 0, 1) := by decide +kernel
theorem dX4_many_150 : decode cX4_many 150 = .ok (.getfield 30, 3) := by decide +kernel
theorem dX4_many_153 : decode cX4_many 153 = .ok (.getfield 135, 3) := by decide +kernel
theorem dX4_many_156 : decode cX4_many 156 = .ok (.ireturn, 1) := by decide +kernel
theorem dX4_many_157 : decode cX4_many 157 = .ok (.new 80, 3) := by decide +kernel
theorem dX4_many_160 : decode cX4_many 160 = .ok (.dup, 1) := by decide +kernel
theorem dX4_many_161 : decode cX4_many 161 = .ok (.ldc_w 356, 3) := by decide +kernel
theorem dX4_many_164 : decode cX4_many 164 = .ok (.invokespecial 84, 3) := by decide +kernel
theorem dX4_many_167 : decode cX4_many 167 = .ok (.athrow, 1) := by decide +kernel
theorem dX4_meanMark_0 : decode cX4_meanMark 0 = .ok (.iconst 0, 1) := by decide +kernel
theorem dX4_meanMark_1 : decode cX4_meanMark 1 = .ok (.istore_n 1, 1) := by decide +kernel
theorem dX4_meanMark_2 : decode cX4_meanMark 2 = .ok (.iconst 0, 1) := by decide +kernel
theorem dX4_meanMark_3 : decode cX4_meanMark 3 = .ok (.istore_n 2, 1) := by decide +kernel
theorem dX4_meanMark_4 : decode cX4_meanMark 4 = .ok (.iconst 0, 1) := by decide +kernel
theorem dX4_meanMark_5 : decode cX4_meanMark 5 = .ok (.istore_n 3, 1) := by decide +kernel
theorem dX4_meanMark_6 : decode cX4_meanMark 6 = .ok (.iload_n 3, 1) := by decide +kernel
theorem dX4_meanMark_7 : decode cX4_meanMark 7 = .ok (.aload_n 0, 1) := by decide +kernel
theorem dX4_meanMark_8 : decode cX4_meanMark 8 = .ok (.getfield 102, 3) := by decide +kernel
theorem dX4_meanMark_11 : decode cX4_meanMark 11 = .ok (.if_icmp .ge 33, 3) := by decide +kernel
theorem dX4_meanMark_14 : decode cX4_meanMark 14 = .ok (.iload_n 1, 1) := by decide +kernel
theorem dX4_meanMark_15 : decode cX4_meanMark 15 = .ok (.aload_n 0, 1) := by decide +kernel
theorem dX4_meanMark_16 : decode cX4_meanMark 16 = .ok (.getfield 23, 3) := by decide +kernel
theorem dX4_meanMark_19 : decode cX4_meanMark 19 = .ok (.iload_n 3, 1) := by decide +kernel
theorem dX4_meanMark_20 : decode cX4_meanMark 20 = .ok (.aaload, 1) := by decide +kernel
theorem dX4_meanMark_21 : decode cX4_meanMark 21 = .ok (.getfield 358, 3) := by decide +kernel
theorem dX4_meanMark_24 : decode cX4_meanMark 24 = .ok (.iadd, 1) := by decide +kernel
theorem dX4_meanMark_25 : decode cX4_meanMark 25 = .ok (.istore_n 1, 1) := by decide +kernel
theorem dX4_meanMark_26 : decode cX4_meanMark 26 = .ok (.iload_n 2, 1) := by decide +kernel
theorem dX4_meanMark_27 : decode cX4_meanMark 27 = .ok (.aload_n 0, 1) := by decide +kernel
theorem dX4_meanMark_28 : decode cX4_meanMark 28 = .ok (.getfield 23, 3) := by decide +kernel
theorem dX4_meanMark_31 : decode cX4_meanMark 31 = .ok (.iload_n 3, 1) := by decide +kernel
theorem dX4_meanMark_32 : decode cX4_meanMark 32 = .ok (.aaload, 1) := by decide +kernel
theorem dX4_meanMark_33 : decode cX4_meanMark 33 = .ok (.getfield 336, 3) := by decide +kernel
theorem dX4_meanMark_36 : decode cX4_meanMark 36 = .ok (.iadd, 1) := by decide +kernel
theorem dX4_meanMark_37 : decode cX4_meanMark 37 = .ok (.istore_n 2, 1) := by decide +kernel
theorem dX4_meanMark_38 : decode cX4_meanMark 38 = .ok (.iinc 3 1, 3) := by decide +kernel
theorem dX4_meanMark_41 : decode cX4_meanMark 41 = .ok (.goto (-35), 3) := by decide +kernel
theorem dX4_meanMark_44 : decode cX4_meanMark 44 = .ok (.iload_n 2, 1) := by decide +kernel
theorem dX4_meanMark_45 : decode cX4_meanMark 45 = .ok (.ifCond .ne 7, 3) := by decide +kernel
theorem dX4_meanMark_48 : decode cX4_meanMark 48 = .ok (.dconst 0, 1) := by decide +kernel
theorem dX4_meanMark_49 : decode cX4_meanMark 49 = .ok (.goto 8, 3) := by decide +kernel
theorem dX4_meanMark_52 : decode cX4_meanMark 52 = .ok (.iload_n 1, 1) := by decide +kernel
theorem dX4_meanMark_53 : decode cX4_meanMark 53 = .ok (.i2d, 1) := by decide +kernel
theorem dX4_meanMark_54 : decode cX4_meanMark 54 = .ok (.iload_n 2, 1) := by decide +kernel
theorem dX4_meanMark_55 : decode cX4_meanMark 55 = .ok (.i2d, 1) := by decide +kernel
theorem dX4_meanMark_56 : decode cX4_meanMark 56 = .ok (.ddiv, 1) := by decide +kernel
theorem dX4_meanMark_57 : decode cX4_meanMark 57 = .ok (.dreturn, 1) := by decide +kernel
set_option maxRecDepth 20000 in
theorem ggX4_wins_X4_isWithin : GoodIn wsX4_wins wsX4_isWithin := goodIn_r _ [6] (by decide +kernel) (by decide +kernel)
set_option maxRecDepth 20000 in
theorem gX4_wins_X4_isWithin : GoodIn wsX4_wins (va_wsS RX4 76 yX4_isWithin wsX4_isWithin) := goodIn_app (goodIn_of _ (by decide +kernel)) ggX4_wins_X4_isWithin
set_option maxRecDepth 20000 in
theorem ggX4_wins_X4_winnerWithout : GoodIn wsX4_wins wsX4_winnerWithout := goodIn_r _ [10, 11, 12, 13, 14, 15, 5, 16, 17, 18, 19, 20, 21, 22, 23, 24, 25, 26, 27, 28, 29, 30, 31, 32, 33, 34, 35, 36, 37, 38, 39, 40, 41, 42, 43, 44, 45, 46, 47, 48, 49, 50, 51, 52, 53, 54, 55, 56, 57, 58, 59, 60, 61, 62, 63, 64, 65, 66, 67, 68, 69, 70, 71, 72, 73, 74, 75, 76, 77, 78, 79, 80, 81, 82, 83, 84, 85, 86, 87, 88, 89, 90, 91, 92, 93, 94, 95, 96, 97, 98, 99, 100, 101, 102, 103, 104, 105, 106, 107, 108, 109, 110, 111, 112, 113, 114, 115, 116, 117] (by decide +kernel) (by decide +kernel)
set_option maxRecDepth 20000 in
theorem gX4_wins_X4_winnerWithout : GoodIn wsX4_wins (wsV RX4 265 RX4 yX4_winnerWithout wsX4_winnerWithout) := goodIn_app (goodIn_of _ (by decide +kernel)) ggX4_wins_X4_winnerWithout
theorem dX4_wins_0 : decode cX4_wins 0 = .ok (.iload_n 1, 1) := by decide +kernel
theorem dX4_wins_1 : decode cX4_wins 1 = .ok (.iconst 0, 1) := by decide +kernel
theorem dX4_wins_2 : decode cX4_wins 2 = .ok (.bipush 31, 2) := by decide +kernel
theorem dX4_wins_4 : decode cX4_wins 4 = .ok (.invokestatic 76, 3) := by decide +kernel
theorem dX4_wins_7 : decode cX4_wins 7 = .ok (.ifCond .ne 14, 3) := by decide +kernel
theorem dX4_wins_10 : decode cX4_wins 10 = .ok (.new 80, 3) := by decide +kernel
theorem dX4_wins_13 : decode cX4_wins 13 = .ok (.dup, 1) := by decide +kernel
theorem dX4_wins_14 : decode cX4_wins 14 = .ok (.ldc_w 361, 3) := by decide +kernel
theorem dX4_wins_17 : decode cX4_wins 17 = .ok (.invokespecial 84, 3) := by decide +kernel
theorem dX4_wins_20 : decode cX4_wins 20 = .ok (.athrow, 1) := by decide +kernel
theorem dX4_wins_21 : decode cX4_wins 21 = .ok (.aload_n 0, 1) := by decide +kernel
theorem dX4_wins_22 : decode cX4_wins 22 = .ok (.iconst 0, 1) := by decide +kernel
theorem dX4_wins_23 : decode cX4_wins 23 = .ok (.iload_n 1, 1) := by decide +kernel
theorem dX4_wins_24 : decode cX4_wins 24 = .ok (.invokevirtual 265, 3) := by decide +kernel
theorem dX4_wins_27 : decode cX4_wins 27 = .ok (.ireturn, 1) := by decide +kernel
set_option maxRecDepth 20000 in
theorem ggX4_beatsAll_X4_has : GoodIn wsX4_beatsAll wsX4_has := goodIn_r _ [6] (by decide +kernel) (by decide +kernel)
set_option maxRecDepth 20000 in
theorem gX4_beatsAll_X4_has : GoodIn wsX4_beatsAll (va_wsS RX4 223 yX4_has wsX4_has) := goodIn_app (goodIn_of _ (by decide +kernel)) ggX4_beatsAll_X4_has
set_option maxRecDepth 20000 in
theorem ggX4_beatsAll_X4_isAheadOfRest : GoodIn wsX4_beatsAll wsX4_isAheadOfRest := goodIn_r _ [10, 1, 2, 3, 4, 5, 6, 11, 12, 13, 14, 15, 16, 17, 18, 19, 20, 21, 22, 23, 24, 25, 26, 27, 28, 29, 30, 31, 32, 33, 34, 35, 36, 37, 38, 39, 40, 41, 42, 43, 44, 45, 46, 47, 48, 49, 50, 51, 52, 53, 54, 55, 56, 57, 58, 59, 60, 61, 62, 63, 64, 65, 66, 67, 68, 69, 70, 71, 72, 73, 74, 75, 76, 77, 78, 79, 80, 81, 82, 83, 84, 85, 86, 87] (by decide +kernel) (by decide +kernel)
set_option maxRecDepth 20000 in
theorem gX4_beatsAll_X4_isAheadOfRest : GoodIn wsX4_beatsAll (wsV RX4 363 RX4 yX4_isAheadOfRest wsX4_isAheadOfRest) := goodIn_app (goodIn_of _ (by decide +kernel)) ggX4_beatsAll_X4_isAheadOfRest
theorem dX4_beatsAll_0 : decode cX4_beatsAll 0 = .ok (.iconst 0, 1) := by decide +kernel
theorem dX4_beatsAll_1 : decode cX4_beatsAll 1 = .ok (.istore_n 1, 1) := by decide +kernel
theorem dX4_beatsAll_2 : decode cX4_beatsAll 2 = .ok (.iload_n 1, 1) := by decide +kernel
theorem dX4_beatsAll_3 : decode cX4_beatsAll 3 = .ok (.aload_n 0, 1) := by decide +kernel
theorem dX4_beatsAll_4 : decode cX4_beatsAll 4 = .ok (.getfield 85, 3) := by decide +kernel
theorem dX4_beatsAll_7 : decode cX4_beatsAll 7 = .ok (.if_icmp .ge 30, 3) := by decide +kernel
theorem dX4_beatsAll_10 : decode cX4_beatsAll 10 = .ok (.aload_n 0, 1) := by decide +kernel
theorem dX4_beatsAll_11 : decode cX4_beatsAll 11 = .ok (.getfield 246, 3) := by decide +kernel
theorem dX4_beatsAll_14 : decode cX4_beatsAll 14 = .ok (.iload_n 1, 1) := by decide +kernel
theorem dX4_beatsAll_15 : decode cX4_beatsAll 15 = .ok (.invokestatic 223, 3) := by decide +kernel
theorem dX4_beatsAll_18 : decode cX4_beatsAll 18 = .ok (.ifCond .eq 13, 3) := by decide +kernel
theorem dX4_beatsAll_21 : decode cX4_beatsAll 21 = .ok (.aload_n 0, 1) := by decide +kernel
theorem dX4_beatsAll_22 : decode cX4_beatsAll 22 = .ok (.iload_n 1, 1) := by decide +kernel
theorem dX4_beatsAll_23 : decode cX4_beatsAll 23 = .ok (.invokevirtual 363, 3) := by decide +kernel
theorem dX4_beatsAll_26 : decode cX4_beatsAll 26 = .ok (.ifCond .eq 5, 3) := by decide +kernel
theorem dX4_beatsAll_29 : decode cX4_beatsAll 29 = .ok (.iload_n 1, 1) := by decide +kernel
theorem dX4_beatsAll_30 : decode cX4_beatsAll 30 = .ok (.ireturn, 1) := by decide +kernel
theorem dX4_beatsAll_31 : decode cX4_beatsAll 31 = .ok (.iinc 1 1, 3) := by decide +kernel
theorem dX4_beatsAll_34 : decode cX4_beatsAll 34 = .ok (.goto (-32), 3) := by decide +kernel
theorem dX4_beatsAll_37 : decode cX4_beatsAll 37 = .ok (.iconst (-1), 1) := by decide +kernel
theorem dX4_beatsAll_38 : decode cX4_beatsAll 38 = .ok (.ireturn, 1) := by decide +kernel
set_option maxRecDepth 20000 in
theorem ggX4_spoiled_X4_isBook : GoodIn wsX4_spoiled wsX4_isBook := goodIn_r _ [8, 9, 73, 74, 75, 76, 77, 78, 79, 80, 81, 82, 83, 84, 85, 86, 87, 88, 89, 90, 91] (by decide +kernel) (by decide +kernel)
set_option maxRecDepth 20000 in
theorem gX4_spoiled_X4_isBook : GoodIn wsX4_spoiled (wsV RX4 138 RX4 yX4_isBook wsX4_isBook) := goodIn_app (goodIn_of _ (by decide +kernel)) ggX4_spoiled_X4_isBook
set_option maxRecDepth 20000 in
theorem ggX4_spoiled_X4_has : GoodIn wsX4_spoiled wsX4_has := goodIn_r _ [12] (by decide +kernel) (by decide +kernel)
set_option maxRecDepth 20000 in
theorem gX4_spoiled_X4_has : GoodIn wsX4_spoiled (va_wsS RX4 223 yX4_has wsX4_has) := goodIn_app (goodIn_of _ (by decide +kernel)) ggX4_spoiled_X4_has
set_option maxRecDepth 20000 in
theorem ggX4_spoiled_X4_bit : GoodIn wsX4_spoiled wsX4_bit := goodIn_r _ [15] (by decide +kernel) (by decide +kernel)
set_option maxRecDepth 20000 in
theorem gX4_spoiled_X4_bit : GoodIn wsX4_spoiled (va_wsS RX4 120 yX4_bit wsX4_bit) := goodIn_app (goodIn_of _ (by decide +kernel)) ggX4_spoiled_X4_bit
set_option maxRecDepth 20000 in
theorem ggX4_spoiled_X4_winnerWithout : GoodIn wsX4_spoiled wsX4_winnerWithout := goodIn_r _ [19, 3, 20, 21, 22, 23, 7, 24, 25, 26, 27, 10, 11, 12, 28, 29, 30, 31, 9, 32, 33, 34, 35, 36, 37, 38, 39, 13, 14, 15, 40, 41, 42, 43, 44, 45, 46, 47, 48, 49, 50, 51, 52, 53, 54, 55, 56, 57, 58, 59, 60, 61, 62, 63, 64, 65, 66, 67, 68, 69, 70, 71, 72, 73, 74, 75, 76, 77, 78, 79, 80, 81, 82, 83, 84, 85, 86, 87, 88, 89, 90, 91, 92, 93, 94, 95, 96, 97, 98, 99, 100, 101, 102, 103, 104, 105, 106, 107, 108, 109, 110, 111, 112, 113, 114, 115, 116, 117, 118] (by decide +kernel) (by decide +kernel)
set_option maxRecDepth 20000 in
theorem gX4_spoiled_X4_winnerWithout : GoodIn wsX4_spoiled (wsV RX4 265 RX4 yX4_winnerWithout wsX4_winnerWithout) := goodIn_app (goodIn_of _ (by decide +kernel)) ggX4_spoiled_X4_winnerWithout
theorem dX4_spoiled_0 : decode cX4_spoiled 0 = .ok (.aload_n 0, 1) := by decide +kernel
theorem dX4_spoiled_1 : decode cX4_spoiled 1 = .ok (.iload_n 1, 1) := by decide +kernel
theorem dX4_spoiled_2 : decode cX4_spoiled 2 = .ok (.invokevirtual 138, 3) := by decide +kernel
theorem dX4_spoiled_5 : decode cX4_spoiled 5 = .ok (.ifCond .ne 13, 3) := by decide +kernel
theorem dX4_spoiled_8 : decode cX4_spoiled 8 = .ok (.new 68, 3) := by decide +kernel
theorem dX4_spoiled_11 : decode cX4_spoiled 11 = .ok (.dup, 1) := by decide +kernel
theorem dX4_spoiled_12 : decode cX4_spoiled 12 = .ok (.ldc 141, 2) := by decide +kernel
theorem dX4_spoiled_14 : decode cX4_spoiled 14 = .ok (.invokespecial 72, 3) := by decide +kernel
theorem dX4_spoiled_17 : decode cX4_spoiled 17 = .ok (.athrow, 1) := by decide +kernel
theorem dX4_spoiled_18 : decode cX4_spoiled 18 = .ok (.aload_n 0, 1) := by decide +kernel
theorem dX4_spoiled_19 : decode cX4_spoiled 19 = .ok (.getfield 246, 3) := by decide +kernel
theorem dX4_spoiled_22 : decode cX4_spoiled 22 = .ok (.iload_n 1, 1) := by decide +kernel
theorem dX4_spoiled_23 : decode cX4_spoiled 23 = .ok (.invokestatic 223, 3) := by decide +kernel
theorem dX4_spoiled_26 : decode cX4_spoiled 26 = .ok (.ifCond .eq 15, 3) := by decide +kernel
theorem dX4_spoiled_29 : decode cX4_spoiled 29 = .ok (.aload_n 0, 1) := by decide +kernel
theorem dX4_spoiled_30 : decode cX4_spoiled 30 = .ok (.iload_n 1, 1) := by decide +kernel
theorem dX4_spoiled_31 : decode cX4_spoiled 31 = .ok (.invokestatic 120, 3) := by decide +kernel
theorem dX4_spoiled_34 : decode cX4_spoiled 34 = .ok (.iconst 0, 1) := by decide +kernel
theorem dX4_spoiled_35 : decode cX4_spoiled 35 = .ok (.invokevirtual 265, 3) := by decide +kernel
theorem dX4_spoiled_38 : decode cX4_spoiled 38 = .ok (.goto 4, 3) := by decide +kernel
theorem dX4_spoiled_41 : decode cX4_spoiled 41 = .ok (.iconst (-1), 1) := by decide +kernel
theorem dX4_spoiled_42 : decode cX4_spoiled 42 = .ok (.ireturn, 1) := by decide +kernel
set_option maxRecDepth 20000 in
theorem ggX4_readIn_X2_daysLeft : GoodIn wsX4_readIn wsX2_daysLeft := goodIn_r _ [12, 13, 14, 15, 16, 17, 11, 18, 19, 20, 5, 6, 7, 40, 41, 42, 43, 44, 45, 46, 47, 48, 49, 50, 51, 52, 53, 54, 55] (by decide +kernel) (by decide +kernel)
set_option maxRecDepth 20000 in
theorem gX4_readIn_X2_daysLeft : GoodIn wsX4_readIn (wsV RX4 366 RX2 yX2_daysLeft wsX2_daysLeft) := goodIn_app (goodIn_of _ (by decide +kernel)) ggX4_readIn_X2_daysLeft
theorem dX4_readIn_0 : decode cX4_readIn 0 = .ok (.aload_n 0, 1) := by decide +kernel
theorem dX4_readIn_1 : decode cX4_readIn 1 = .ok (.getfield 37, 3) := by decide +kernel
theorem dX4_readIn_4 : decode cX4_readIn 4 = .ok (.iconst 1, 1) := by decide +kernel
theorem dX4_readIn_5 : decode cX4_readIn 5 = .ok (.if_icmp .eq 5, 3) := by decide +kernel
theorem dX4_readIn_8 : decode cX4_readIn 8 = .ok (.iconst (-1), 1) := by decide +kernel
theorem dX4_readIn_9 : decode cX4_readIn 9 = .ok (.ireturn, 1) := by decide +kernel
theorem dX4_readIn_10 : decode cX4_readIn 10 = .ok (.iconst 0, 1) := by decide +kernel
theorem dX4_readIn_11 : decode cX4_readIn 11 = .ok (.istore_n 1, 1) := by decide +kernel
theorem dX4_readIn_12 : decode cX4_readIn 12 = .ok (.iconst 0, 1) := by decide +kernel
theorem dX4_readIn_13 : decode cX4_readIn 13 = .ok (.istore_n 2, 1) := by decide +kernel
theorem dX4_readIn_14 : decode cX4_readIn 14 = .ok (.iload_n 2, 1) := by decide +kernel
theorem dX4_readIn_15 : decode cX4_readIn 15 = .ok (.aload_n 0, 1) := by decide +kernel
theorem dX4_readIn_16 : decode cX4_readIn 16 = .ok (.getfield 102, 3) := by decide +kernel
theorem dX4_readIn_19 : decode cX4_readIn 19 = .ok (.if_icmp .ge 23, 3) := by decide +kernel
theorem dX4_readIn_22 : decode cX4_readIn 22 = .ok (.iload_n 1, 1) := by decide +kernel
theorem dX4_readIn_23 : decode cX4_readIn 23 = .ok (.aload_n 0, 1) := by decide +kernel
theorem dX4_readIn_24 : decode cX4_readIn 24 = .ok (.getfield 23, 3) := by decide +kernel
theorem dX4_readIn_27 : decode cX4_readIn 27 = .ok (.iload_n 2, 1) := by decide +kernel
theorem dX4_readIn_28 : decode cX4_readIn 28 = .ok (.aaload, 1) := by decide +kernel
theorem dX4_readIn_29 : decode cX4_readIn 29 = .ok (.invokevirtual 366, 3) := by decide +kernel
theorem dX4_readIn_32 : decode cX4_readIn 32 = .ok (.invokestatic 369, 3) := by decide +kernel
theorem dX4_readIn_35 : decode cX4_readIn 35 = .ok (.istore_n 1, 1) := by decide +kernel
theorem dX4_readIn_36 : decode cX4_readIn 36 = .ok (.iinc 2 1, 3) := by decide +kernel
theorem dX4_readIn_39 : decode cX4_readIn 39 = .ok (.goto (-25), 3) := by decide +kernel
theorem dX4_readIn_42 : decode cX4_readIn 42 = .ok (.iload_n 1, 1) := by decide +kernel
theorem dX4_readIn_43 : decode cX4_readIn 43 = .ok (.ireturn, 1) := by decide +kernel
set_option maxRecDepth 20000 in
theorem ggX4_wouldMiss_X4_isWithin : GoodIn wsX4_wouldMiss wsX4_isWithin := goodIn_r _ [13] (by decide +kernel) (by decide +kernel)
set_option maxRecDepth 20000 in
theorem gX4_wouldMiss_X4_isWithin : GoodIn wsX4_wouldMiss (va_wsS RX4 76 yX4_isWithin wsX4_isWithin) := goodIn_app (goodIn_of _ (by decide +kernel)) ggX4_wouldMiss_X4_isWithin
set_option maxRecDepth 20000 in
theorem ggX4_wouldMiss_X4_askedInDay : GoodIn wsX4_wouldMiss wsX4_askedInDay := goodIn_r _ [17, 18, 19, 20, 21, 22, 23, 12, 24, 25, 26, 27, 28, 29, 30, 31, 32, 33, 34, 35, 36, 37, 38, 39, 40, 41, 42, 43] (by decide +kernel) (by decide +kernel)
set_option maxRecDepth 20000 in
theorem gX4_wouldMiss_X4_askedInDay : GoodIn wsX4_wouldMiss (wsV RX4 372 RX4 yX4_askedInDay wsX4_askedInDay) := goodIn_app (goodIn_of _ (by decide +kernel)) ggX4_wouldMiss_X4_askedInDay
theorem dX4_wouldMiss_0 : decode cX4_wouldMiss 0 = .ok (.iload_n 1, 1) := by decide +kernel
theorem dX4_wouldMiss_1 : decode cX4_wouldMiss 1 = .ok (.iconst 1, 1) := by decide +kernel
theorem dX4_wouldMiss_2 : decode cX4_wouldMiss 2 = .ok (.bipush 60, 2) := by decide +kernel
theorem dX4_wouldMiss_4 : decode cX4_wouldMiss 4 = .ok (.invokestatic 76, 3) := by decide +kernel
theorem dX4_wouldMiss_7 : decode cX4_wouldMiss 7 = .ok (.ifCond .ne 13, 3) := by decide +kernel
theorem dX4_wouldMiss_10 : decode cX4_wouldMiss 10 = .ok (.new 80, 3) := by decide +kernel
theorem dX4_wouldMiss_13 : decode cX4_wouldMiss 13 = .ok (.dup, 1) := by decide +kernel
theorem dX4_wouldMiss_14 : decode cX4_wouldMiss 14 = .ok (.ldc 195, 2) := by decide +kernel
theorem dX4_wouldMiss_16 : decode cX4_wouldMiss 16 = .ok (.invokespecial 84, 3) := by decide +kernel
theorem dX4_wouldMiss_19 : decode cX4_wouldMiss 19 = .ok (.athrow, 1) := by decide +kernel
theorem dX4_wouldMiss_20 : decode cX4_wouldMiss 20 = .ok (.iconst 0, 1) := by decide +kernel
theorem dX4_wouldMiss_21 : decode cX4_wouldMiss 21 = .ok (.istore_n 2, 1) := by decide +kernel
theorem dX4_wouldMiss_22 : decode cX4_wouldMiss 22 = .ok (.iconst 0, 1) := by decide +kernel
theorem dX4_wouldMiss_23 : decode cX4_wouldMiss 23 = .ok (.istore_n 3, 1) := by decide +kernel
theorem dX4_wouldMiss_24 : decode cX4_wouldMiss 24 = .ok (.iload_n 3, 1) := by decide +kernel
theorem dX4_wouldMiss_25 : decode cX4_wouldMiss 25 = .ok (.aload_n 0, 1) := by decide +kernel
theorem dX4_wouldMiss_26 : decode cX4_wouldMiss 26 = .ok (.getfield 85, 3) := by decide +kernel
theorem dX4_wouldMiss_29 : decode cX4_wouldMiss 29 = .ok (.if_icmp .ge 33, 3) := by decide +kernel
theorem dX4_wouldMiss_32 : decode cX4_wouldMiss 32 = .ok (.iload_n 2, 1) := by decide +kernel
theorem dX4_wouldMiss_33 : decode cX4_wouldMiss 33 = .ok (.iconst 0, 1) := by decide +kernel
theorem dX4_wouldMiss_34 : decode cX4_wouldMiss 34 = .ok (.aload_n 0, 1) := by decide +kernel
theorem dX4_wouldMiss_35 : decode cX4_wouldMiss 35 = .ok (.iload_n 3, 1) := by decide +kernel
theorem dX4_wouldMiss_36 : decode cX4_wouldMiss 36 = .ok (.invokevirtual 372, 3) := by decide +kernel
theorem dX4_wouldMiss_39 : decode cX4_wouldMiss 39 = .ok (.iload_n 1, 1) := by decide +kernel
theorem dX4_wouldMiss_40 : decode cX4_wouldMiss 40 = .ok (.imul, 1) := by decide +kernel
theorem dX4_wouldMiss_41 : decode cX4_wouldMiss 41 = .ok (.aload_n 0, 1) := by decide +kernel
theorem dX4_wouldMiss_42 : decode cX4_wouldMiss 42 = .ok (.getfield 17, 3) := by decide +kernel
theorem dX4_wouldMiss_45 : decode cX4_wouldMiss 45 = .ok (.iload_n 3, 1) := by decide +kernel
theorem dX4_wouldMiss_46 : decode cX4_wouldMiss 46 = .ok (.aaload, 1) := by decide +kernel
theorem dX4_wouldMiss_47 : decode cX4_wouldMiss 47 = .ok (.getfield 187, 3) := by decide +kernel
theorem dX4_wouldMiss_50 : decode cX4_wouldMiss 50 = .ok (.isub, 1) := by decide +kernel
theorem dX4_wouldMiss_51 : decode cX4_wouldMiss 51 = .ok (.invokestatic 369, 3) := by decide +kernel
theorem dX4_wouldMiss_54 : decode cX4_wouldMiss 54 = .ok (.iadd, 1) := by decide +kernel
theorem dX4_wouldMiss_55 : decode cX4_wouldMiss 55 = .ok (.istore_n 2, 1) := by decide +kernel
theorem dX4_wouldMiss_56 : decode cX4_wouldMiss 56 = .ok (.iinc 3 1, 3) := by decide +kernel
theorem dX4_wouldMiss_59 : decode cX4_wouldMiss 59 = .ok (.goto (-35), 3) := by decide +kernel
theorem dX4_wouldMiss_62 : decode cX4_wouldMiss 62 = .ok (.iload_n 2, 1) := by decide +kernel
theorem dX4_wouldMiss_63 : decode cX4_wouldMiss 63 = .ok (.ireturn, 1) := by decide +kernel
set_option maxRecDepth 20000 in
theorem ggX4_digest_X4_many : GoodIn wsX4_digest wsX4_many := goodIn_ca (goodIn_r _ [10, 11, 12, 13, 14, 15, 3, 4, 5, 16, 17, 18, 19, 20, 21, 22, 23, 24, 25, 9, 26, 27, 28, 29, 30, 31, 32, 33, 34, 35, 36, 37, 38, 39, 40, 41, 42, 43, 44, 45, 46, 47, 48, 49, 259, 260, 261, 262, 263, 264, 265, 266, 267, 268, 269, 270, 271, 272, 273, 274, 275, 276, 277, 278, 279, 280, 281, 282, 283, 284, 285, 286, 287, 288, 289, 290, 291, 292] (by decide +kernel) (by decide +kernel)) (goodIn_sub (fun _ h => List.mem_cons_of_mem _ (List.mem_append_left _ (List.mem_append_right _ h))) (by decide +kernel))
set_option maxRecDepth 20000 in
theorem gX4_digest_X4_many : GoodIn wsX4_digest (wsV RX4 379 RX4 yX4_many wsX4_many) := goodIn_app (goodIn_of _ (by decide +kernel)) ggX4_digest_X4_many
set_option maxRecDepth 20000 in
theorem ggX4_digest_X4_ofHouse : GoodIn wsX4_digest wsX4_ofHouse := goodIn_ca (goodIn_ca (goodIn_r _ [53, 54, 55, 11, 12, 56, 57, 58, 59, 20, 60, 61, 62, 9, 63, 3, 64, 65, 66, 67, 68, 69, 70, 71, 72, 73, 74, 75, 76, 4, 31, 77, 78, 79, 80, 81, 82, 83, 84, 85, 86, 87, 259, 260, 261, 262, 263, 264, 265, 266, 267, 268, 269, 270, 271, 272, 273, 274, 275, 276, 277, 293, 294, 282, 283, 284, 285, 286, 287, 288, 289, 290, 291, 292] (by decide +kernel) (by decide +kernel)) (goodIn_sub (fun _ h => List.mem_cons_of_mem _ (List.mem_append_right _ h)) (by decide +kernel))) (goodIn_sub (fun _ h => List.mem_cons_of_mem _ (List.mem_append_left _ (List.mem_append_right _ h))) (by decide +kernel))
set_option maxRecDepth 20000 in
theorem gX4_digest_X4_ofHouse : GoodIn wsX4_digest (wsV RX4 382 RX4 yX4_ofHouse wsX4_ofHouse) := goodIn_app (goodIn_of _ (by decide +kernel)) ggX4_digest_X4_ofHouse
set_option maxRecDepth 20000 in
theorem ggX4_digest_X4_ofBook : GoodIn wsX4_digest wsX4_ofBook := goodIn_ca (goodIn_ca (goodIn_r _ [91, 54, 55, 11, 12, 31, 77, 92, 93, 44, 49, 94, 95, 96, 9, 97, 4, 98, 99, 100, 101, 32, 13, 102, 21, 103, 104, 105, 106, 107, 108, 109, 110, 111, 112, 79, 80, 113, 114, 27, 28, 29, 30, 115, 116, 117, 118, 18, 17, 16, 78, 119, 120, 121, 122, 5, 123, 124, 125, 126, 127, 128, 129, 130, 131, 132, 133, 134, 135, 136, 137, 138, 139, 140, 141, 142, 143, 144, 145, 146, 147, 148, 149, 150, 151, 152, 153, 259, 260, 261, 262, 263, 264, 265, 266, 267, 268, 269, 270, 271, 272, 273, 274, 275, 276, 277, 282, 283, 284, 285, 286, 287, 288, 289, 290, 291, 292, 278, 279, 280, 281, 295, 296, 297, 298, 299, 300, 301, 302, 303, 304, 305, 306, 307, 308, 309, 310] (by decide +kernel) (by decide +kernel)) (goodIn_sub (fun _ h => List.mem_cons_of_mem _ (List.mem_append_right _ h)) (by decide +kernel))) (goodIn_sub (fun _ h => List.mem_cons_of_mem _ (List.mem_append_left _ (List.mem_append_right _ h))) (by decide +kernel))
set_option maxRecDepth 20000 in
theorem gX4_digest_X4_ofBook : GoodIn wsX4_digest (wsV RX4 385 RX4 yX4_ofBook wsX4_ofBook) := goodIn_app (goodIn_of _ (by decide +kernel)) ggX4_digest_X4_ofBook
set_option maxRecDepth 20000 in
theorem ggX4_digest_X4_spoiled : GoodIn wsX4_digest wsX4_spoiled := goodIn_ca (goodIn_r _ [157, 54, 55, 17, 94, 95, 96, 9, 97, 4, 78, 79, 80, 85, 86, 87, 158, 159, 160, 161, 20, 162, 163, 164, 165, 166, 5, 123, 167, 168, 169, 170, 31, 92, 129, 130, 131, 132, 133, 134, 171, 172, 173, 174, 175, 176, 177, 178, 179, 180, 181, 182, 183, 184, 119, 120, 121, 122, 124, 125, 126, 127, 128, 135, 136, 137, 138, 139, 140, 141, 142, 143, 144, 259, 260, 261, 262, 263, 264, 265, 266, 267, 268, 269, 270, 271, 272, 273, 274, 275, 276, 277, 282, 283, 284, 285, 286, 287, 288, 289, 290, 291, 292, 295, 296, 297, 298, 299, 300, 301, 302, 303, 304, 305, 306, 307, 308, 309, 310] (by decide +kernel) (by decide +kernel)) (goodIn_sub (fun _ h => List.mem_cons_of_mem _ (List.mem_append_right _ h)) (by decide +kernel))
set_option maxRecDepth 20000 in
theorem gX4_digest_X4_spoiled : GoodIn wsX4_digest (wsV RX4 388 RX4 yX4_spoiled wsX4_spoiled) := goodIn_app (goodIn_of _ (by decide +kernel)) ggX4_digest_X4_spoiled
set_option maxRecDepth 20000 in
theorem ggX4_digest_X4_ofJudge : GoodIn wsX4_digest wsX4_ofJudge := goodIn_ca (goodIn_ca (goodIn_r _ [188, 54, 55, 11, 12, 123, 189, 190, 191, 192, 193, 194, 195, 196, 9, 197, 5, 198, 199, 200, 132, 201, 202, 203, 204, 205, 206, 207, 175, 208, 209, 210, 211, 212, 259, 260, 261, 262, 263, 264, 265, 266, 267, 268, 269, 270, 271, 272, 273, 274, 275, 276, 277, 295, 296, 297, 298, 299, 300, 301, 302, 303, 304, 305, 306, 307, 308, 309, 310] (by decide +kernel) (by decide +kernel)) (goodIn_sub (fun _ h => List.mem_cons_of_mem _ (List.mem_append_right _ h)) (by decide +kernel))) (goodIn_sub (fun _ h => List.mem_cons_of_mem _ (List.mem_append_left _ (List.mem_append_right _ h))) (by decide +kernel))
set_option maxRecDepth 20000 in
theorem gX4_digest_X4_ofJudge : GoodIn wsX4_digest (wsV RX4 391 RX4 yX4_ofJudge wsX4_ofJudge) := goodIn_app (goodIn_of _ (by decide +kernel)) ggX4_digest_X4_ofJudge
set_option maxRecDepth 20000 in
theorem ggX4_digest_X4_mark : GoodIn wsX4_digest wsX4_mark := goodIn_ca (goodIn_r _ [216, 54, 55, 123, 124, 194, 195, 196, 9, 197, 5, 94, 95, 96, 97, 4, 259, 260, 261, 262, 263, 264, 265, 266, 267, 268, 269, 270, 271, 272, 273, 274, 275, 276, 277, 295, 296, 297, 298, 299, 300, 301, 302, 303, 304, 305, 306, 307, 308, 309, 310] (by decide +kernel) (by decide +kernel)) (goodIn_sub (fun _ h => List.mem_cons_of_mem _ (List.mem_append_right _ h)) (by decide +kernel))
set_option maxRecDepth 20000 in
theorem gX4_digest_X4_mark : GoodIn wsX4_digest (wsV RX4 394 RX4 yX4_mark wsX4_mark) := goodIn_app (goodIn_of _ (by decide +kernel)) ggX4_digest_X4_mark
set_option maxRecDepth 20000 in
theorem ggX4_digest_X4_wins : GoodIn wsX4_digest wsX4_wins := goodIn_ca (goodIn_r _ [220, 11, 12, 221, 113, 9, 114, 158, 159, 160, 161, 17, 20, 162, 163, 164, 165, 166, 5, 123, 78, 79, 80, 167, 168, 169, 170, 4, 31, 92, 129, 130, 131, 132, 133, 134, 85, 86, 87, 171, 172, 173, 174, 175, 176, 177, 178, 179, 180, 181, 182, 183, 184, 119, 120, 121, 122, 124, 125, 126, 127, 128, 135, 136, 137, 138, 139, 140, 141, 142, 143, 144, 259, 260, 261, 262, 263, 264, 265, 266, 267, 268, 269, 270, 271, 272, 273, 274, 275, 276, 277, 282, 283, 284, 285, 286, 287, 288, 289, 290, 291, 292, 295, 296, 297, 298, 299, 300, 301, 302, 303, 304, 305, 306, 307, 308, 309, 310] (by decide +kernel) (by decide +kernel)) (goodIn_sub (fun _ h => List.mem_cons_of_mem _ (List.mem_append_left _ (List.mem_append_right _ h))) (by decide +kernel))
set_option maxRecDepth 20000 in
theorem gX4_digest_X4_wins : GoodIn wsX4_digest (wsV RX4 397 RX4 yX4_wins wsX4_wins) := goodIn_app (goodIn_of _ (by decide +kernel)) ggX4_digest_X4_wins
set_option maxRecDepth 20000 in
theorem ggX4_digest_X4_beatsAll : GoodIn wsX4_digest wsX4_beatsAll := goodIn_r _ [225, 4, 17, 78, 79, 9, 80, 226, 227, 228, 229, 230, 231, 232, 233, 5, 123, 85, 86, 87, 204, 205, 206, 132, 207, 175, 167, 168, 169, 170, 31, 92, 129, 130, 131, 133, 134, 171, 172, 173, 174, 176, 259, 260, 261, 262, 263, 264, 265, 266, 267, 268, 269, 270, 271, 272, 273, 274, 275, 276, 277, 295, 296, 297, 298, 299, 300, 301, 302, 303, 304, 305, 306, 307, 308, 309, 310, 282, 283, 284, 285, 286, 287, 288, 289, 290, 291, 292] (by decide +kernel) (by decide +kernel)
set_option maxRecDepth 20000 in
theorem gX4_digest_X4_beatsAll : GoodIn wsX4_digest (wsV RX4 400 RX4 yX4_beatsAll wsX4_beatsAll) := goodIn_app (goodIn_of _ (by decide +kernel)) ggX4_digest_X4_beatsAll
set_option maxRecDepth 20000 in
theorem ggX4_digest_X4_readIn : GoodIn wsX4_digest wsX4_readIn := goodIn_r _ [237, 14, 5, 123, 238, 239, 71, 240, 241, 242, 243, 132, 244, 203, 202, 245, 246, 247, 248, 249, 250, 259, 260, 261, 262, 263, 264, 265, 266, 267, 268, 269, 270, 271, 272, 273, 274, 275, 276, 277, 295, 296, 297, 298, 299, 300, 301, 302, 303, 304, 305, 306, 307, 308, 309, 310] (by decide +kernel) (by decide +kernel)
set_option maxRecDepth 20000 in
theorem gX4_digest_X4_readIn : GoodIn wsX4_digest (wsV RX4 403 RX4 yX4_readIn wsX4_readIn) := goodIn_app (goodIn_of _ (by decide +kernel)) ggX4_digest_X4_readIn
set_option maxRecDepth 20000 in
theorem ggX4_digest_X4_wouldMiss : GoodIn wsX4_digest wsX4_wouldMiss := goodIn_ca (goodIn_r _ [254, 11, 12, 4, 31, 93, 238, 239, 71, 240, 221, 113, 9, 114, 255, 256, 257, 258, 18, 19, 17, 16, 78, 79, 80, 259, 260, 261, 262, 263, 264, 265, 266, 267, 268, 269, 270, 271, 272, 273, 274, 275, 276, 277, 282, 283, 284, 285, 286, 287, 288, 289, 290, 291, 292] (by decide +kernel) (by decide +kernel)) (goodIn_sub (fun _ h => List.mem_cons_of_mem _ (List.mem_append_left _ (List.mem_append_right _ h))) (by decide +kernel))
set_option maxRecDepth 20000 in
theorem gX4_digest_X4_wouldMiss : GoodIn wsX4_digest (wsV RX4 406 RX4 yX4_wouldMiss wsX4_wouldMiss) := goodIn_app (goodIn_of _ (by decide +kernel)) ggX4_digest_X4_wouldMiss
theorem dX4_digest_0 : decode cX4_digest 0 = .ok (.ldc2_w 375, 3) := by decide +kernel
theorem dX4_digest_3 : decode cX4_digest 3 = .ok (.lstore_n 1, 1) := by decide +kernel
theorem dX4_digest_4 : decode cX4_digest 4 = .ok (.iconst 0, 1) := by decide +kernel
theorem dX4_digest_5 : decode cX4_digest 5 = .ok (.istore_n 3, 1) := by decide +kernel
theorem dX4_digest_6 : decode cX4_digest 6 = .ok (.iload_n 3, 1) := by decide +kernel
theorem dX4_digest_7 : decode cX4_digest 7 = .ok (.bipush 14, 2) := by decide +kernel
theorem dX4_digest_9 : decode cX4_digest 9 = .ok (.if_icmp .gt 22, 3) := by decide +kernel
theorem dX4_digest_12 : decode cX4_digest 12 = .ok (.lload_n 1, 1) := by decide +kernel
theorem dX4_digest_13 : decode cX4_digest 13 = .ok (.ldc2_w 377, 3) := by decide +kernel
theorem dX4_digest_16 : decode cX4_digest 16 = .ok (.lmul, 1) := by decide +kernel
theorem dX4_digest_17 : decode cX4_digest 17 = .ok (.aload_n 0, 1) := by decide +kernel
theorem dX4_digest_18 : decode cX4_digest 18 = .ok (.iload_n 3, 1) := by decide +kernel
theorem dX4_digest_19 : decode cX4_digest 19 = .ok (.invokevirtual 379, 3) := by decide +kernel
theorem dX4_digest_22 : decode cX4_digest 22 = .ok (.i2l, 1) := by decide +kernel
theorem dX4_digest_23 : decode cX4_digest 23 = .ok (.ladd, 1) := by decide +kernel
theorem dX4_digest_24 : decode cX4_digest 24 = .ok (.lstore_n 1, 1) := by decide +kernel
theorem dX4_digest_25 : decode cX4_digest 25 = .ok (.iinc 3 1, 3) := by decide +kernel
theorem dX4_digest_28 : decode cX4_digest 28 = .ok (.goto (-22), 3) := by decide +kernel
theorem dX4_digest_31 : decode cX4_digest 31 = .ok (.iconst 0, 1) := by decide +kernel
theorem dX4_digest_32 : decode cX4_digest 32 = .ok (.istore_n 3, 1) := by decide +kernel
theorem dX4_digest_33 : decode cX4_digest 33 = .ok (.iload_n 3, 1) := by decide +kernel
theorem dX4_digest_34 : decode cX4_digest 34 = .ok (.aload_n 0, 1) := by decide +kernel
theorem dX4_digest_35 : decode cX4_digest 35 = .ok (.getfield 54, 3) := by decide +kernel
theorem dX4_digest_38 : decode cX4_digest 38 = .ok (.if_icmp .ge 39, 3) := by decide +kernel
theorem dX4_digest_41 : decode cX4_digest 41 = .ok (.iconst 0, 1) := by decide +kernel
theorem dX4_digest_42 : decode cX4_digest 42 = .ok (.istore 4, 2) := by decide +kernel
theorem dX4_digest_44 : decode cX4_digest 44 = .ok (.iload 4, 2) := by decide +kernel
theorem dX4_digest_46 : decode cX4_digest 46 = .ok (.iconst 4, 1) := by decide +kernel
theorem dX4_digest_47 : decode cX4_digest 47 = .ok (.if_icmp .gt 24, 3) := by decide +kernel
theorem dX4_digest_50 : decode cX4_digest 50 = .ok (.lload_n 1, 1) := by decide +kernel
theorem dX4_digest_51 : decode cX4_digest 51 = .ok (.ldc2_w 377, 3) := by decide +kernel
theorem dX4_digest_54 : decode cX4_digest 54 = .ok (.lmul, 1) := by decide +kernel
theorem dX4_digest_55 : decode cX4_digest 55 = .ok (.aload_n 0, 1) := by decide +kernel
theorem dX4_digest_56 : decode cX4_digest 56 = .ok (.iload_n 3, 1) := by decide +kernel
theorem dX4_digest_57 : decode cX4_digest 57 = .ok (.iload 4, 2) := by decide +kernel
theorem dX4_digest_59 : decode cX4_digest 59 = .ok (.invokevirtual 382, 3) := by decide +kernel
theorem dX4_digest_62 : decode cX4_digest 62 = .ok (.i2l, 1) := by decide +kernel
theorem dX4_digest_63 : decode cX4_digest 63 = .ok (.ladd, 1) := by decide +kernel
theorem dX4_digest_64 : decode cX4_digest 64 = .ok (.lstore_n 1, 1) := by decide +kernel
theorem dX4_digest_65 : decode cX4_digest 65 = .ok (.iinc 4 1, 3) := by decide +kernel
theorem dX4_digest_68 : decode cX4_digest 68 = .ok (.goto (-24), 3) := by decide +kernel
theorem dX4_digest_71 : decode cX4_digest 71 = .ok (.iinc 3 1, 3) := by decide +kernel
theorem dX4_digest_74 : decode cX4_digest 74 = .ok (.goto (-41), 3) := by decide +kernel
theorem dX4_digest_77 : decode cX4_digest 77 = .ok (.iconst 0, 1) := by decide +kernel
theorem dX4_digest_78 : decode cX4_digest 78 = .ok (.istore_n 3, 1) := by decide +kernel
theorem dX4_digest_79 : decode cX4_digest 79 = .ok (.iload_n 3, 1) := by decide +kernel
theorem dX4_digest_80 : decode cX4_digest 80 = .ok (.aload_n 0, 1) := by decide +kernel
theorem dX4_digest_81 : decode cX4_digest 81 = .ok (.getfield 85, 3) := by decide +kernel
theorem dX4_digest_84 : decode cX4_digest 84 = .ok (.if_icmp .ge 53, 3) := by decide +kernel
theorem dX4_digest_87 : decode cX4_digest 87 = .ok (.iconst 0, 1) := by decide +kernel
theorem dX4_digest_88 : decode cX4_digest 88 = .ok (.istore 4, 2) := by decide +kernel
theorem dX4_digest_90 : decode cX4_digest 90 = .ok (.iload 4, 2) := by decide +kernel
theorem dX4_digest_92 : decode cX4_digest 92 = .ok (.bipush 10, 2) := by decide +kernel
theorem dX4_digest_94 : decode cX4_digest 94 = .ok (.if_icmp .gt 24, 3) := by decide +kernel
theorem dX4_digest_97 : decode cX4_digest 97 = .ok (.lload_n 1, 1) := by decide +kernel
theorem dX4_digest_98 : decode cX4_digest 98 = .ok (.ldc2_w 377, 3) := by decide +kernel
theorem dX4_digest_101 : decode cX4_digest 101 = .ok (.lmul, 1) := by decide +kernel
theorem dX4_digest_102 : decode cX4_digest 102 = .ok (.aload_n 0, 1) := by decide +kernel
theorem dX4_digest_103 : decode cX4_digest 103 = .ok (.iload_n 3, 1) := by decide +kernel
theorem dX4_digest_104 : decode cX4_digest 104 = .ok (.iload 4, 2) := by decide +kernel
theorem dX4_digest_106 : decode cX4_digest 106 = .ok (.invokevirtual 385, 3) := by decide +kernel
theorem dX4_digest_109 : decode cX4_digest 109 = .ok (.i2l, 1) := by decide +kernel
theorem dX4_digest_110 : decode cX4_digest 110 = .ok (.ladd, 1) := by decide +kernel
theorem dX4_digest_111 : decode cX4_digest 111 = .ok (.lstore_n 1, 1) := by decide +kernel
theorem dX4_digest_112 : decode cX4_digest 112 = .ok (.iinc 4 1, 3) := by decide +kernel
theorem dX4_digest_115 : decode cX4_digest 115 = .ok (.goto (-25), 3) := by decide +kernel
theorem dX4_digest_118 : decode cX4_digest 118 = .ok (.lload_n 1, 1) := by decide +kernel
theorem dX4_digest_119 : decode cX4_digest 119 = .ok (.ldc2_w 377, 3) := by decide +kernel
theorem dX4_digest_122 : decode cX4_digest 122 = .ok (.lmul, 1) := by decide +kernel
theorem dX4_digest_123 : decode cX4_digest 123 = .ok (.aload_n 0, 1) := by decide +kernel
theorem dX4_digest_124 : decode cX4_digest 124 = .ok (.iload_n 3, 1) := by decide +kernel
theorem dX4_digest_125 : decode cX4_digest 125 = .ok (.invokevirtual 388, 3) := by decide +kernel
theorem dX4_digest_128 : decode cX4_digest 128 = .ok (.i2l, 1) := by decide +kernel
theorem dX4_digest_129 : decode cX4_digest 129 = .ok (.ladd, 1) := by decide +kernel
theorem dX4_digest_130 : decode cX4_digest 130 = .ok (.lstore_n 1, 1) := by decide +kernel
theorem dX4_digest_131 : decode cX4_digest 131 = .ok (.iinc 3 1, 3) := by decide +kernel
theorem dX4_digest_134 : decode cX4_digest 134 = .ok (.goto (-55), 3) := by decide +kernel
theorem dX4_digest_137 : decode cX4_digest 137 = .ok (.iconst 0, 1) := by decide +kernel
theorem dX4_digest_138 : decode cX4_digest 138 = .ok (.istore_n 3, 1) := by decide +kernel
theorem dX4_digest_139 : decode cX4_digest 139 = .ok (.iload_n 3, 1) := by decide +kernel
theorem dX4_digest_140 : decode cX4_digest 140 = .ok (.aload_n 0, 1) := by decide +kernel
theorem dX4_digest_141 : decode cX4_digest 141 = .ok (.getfield 102, 3) := by decide +kernel
theorem dX4_digest_144 : decode cX4_digest 144 = .ok (.if_icmp .ge 73, 3) := by decide +kernel
theorem dX4_digest_147 : decode cX4_digest 147 = .ok (.iconst 0, 1) := by decide +kernel
theorem dX4_digest_148 : decode cX4_digest 148 = .ok (.istore 4, 2) := by decide +kernel
theorem dX4_digest_150 : decode cX4_digest 150 = .ok (.iload 4, 2) := by decide +kernel
theorem dX4_digest_152 : decode cX4_digest 152 = .ok (.bipush 7, 2) := by decide +kernel
theorem dX4_digest_154 : decode cX4_digest 154 = .ok (.if_icmp .gt 24, 3) := by decide +kernel
theorem dX4_digest_157 : decode cX4_digest 157 = .ok (.lload_n 1, 1) := by decide +kernel
theorem dX4_digest_158 : decode cX4_digest 158 = .ok (.ldc2_w 377, 3) := by decide +kernel
theorem dX4_digest_161 : decode cX4_digest 161 = .ok (.lmul, 1) := by decide +kernel
theorem dX4_digest_162 : decode cX4_digest 162 = .ok (.aload_n 0, 1) := by decide +kernel
theorem dX4_digest_163 : decode cX4_digest 163 = .ok (.iload_n 3, 1) := by decide +kernel
theorem dX4_digest_164 : decode cX4_digest 164 = .ok (.iload 4, 2) := by decide +kernel
theorem dX4_digest_166 : decode cX4_digest 166 = .ok (.invokevirtual 391, 3) := by decide +kernel
theorem dX4_digest_169 : decode cX4_digest 169 = .ok (.i2l, 1) := by decide +kernel
theorem dX4_digest_170 : decode cX4_digest 170 = .ok (.ladd, 1) := by decide +kernel
theorem dX4_digest_171 : decode cX4_digest 171 = .ok (.lstore_n 1, 1) := by decide +kernel
theorem dX4_digest_172 : decode cX4_digest 172 = .ok (.iinc 4 1, 3) := by decide +kernel
theorem dX4_digest_175 : decode cX4_digest 175 = .ok (.goto (-25), 3) := by decide +kernel
theorem dX4_digest_178 : decode cX4_digest 178 = .ok (.iconst 0, 1) := by decide +kernel
theorem dX4_digest_179 : decode cX4_digest 179 = .ok (.istore 4, 2) := by decide +kernel
theorem dX4_digest_181 : decode cX4_digest 181 = .ok (.iload 4, 2) := by decide +kernel
theorem dX4_digest_183 : decode cX4_digest 183 = .ok (.aload_n 0, 1) := by decide +kernel
theorem dX4_digest_184 : decode cX4_digest 184 = .ok (.getfield 85, 3) := by decide +kernel
theorem dX4_digest_187 : decode cX4_digest 187 = .ok (.if_icmp .ge 24, 3) := by decide +kernel
theorem dX4_digest_190 : decode cX4_digest 190 = .ok (.lload_n 1, 1) := by decide +kernel
theorem dX4_digest_191 : decode cX4_digest 191 = .ok (.ldc2_w 377, 3) := by decide +kernel
theorem dX4_digest_194 : decode cX4_digest 194 = .ok (.lmul, 1) := by decide +kernel
theorem dX4_digest_195 : decode cX4_digest 195 = .ok (.aload_n 0, 1) := by decide +kernel
theorem dX4_digest_196 : decode cX4_digest 196 = .ok (.iload_n 3, 1) := by decide +kernel
theorem dX4_digest_197 : decode cX4_digest 197 = .ok (.iload 4, 2) := by decide +kernel
theorem dX4_digest_199 : decode cX4_digest 199 = .ok (.invokevirtual 394, 3) := by decide +kernel
theorem dX4_digest_202 : decode cX4_digest 202 = .ok (.i2l, 1) := by decide +kernel
theorem dX4_digest_203 : decode cX4_digest 203 = .ok (.ladd, 1) := by decide +kernel
theorem dX4_digest_204 : decode cX4_digest 204 = .ok (.lstore_n 1, 1) := by decide +kernel
theorem dX4_digest_205 : decode cX4_digest 205 = .ok (.iinc 4 1, 3) := by decide +kernel
theorem dX4_digest_208 : decode cX4_digest 208 = .ok (.goto (-27), 3) := by decide +kernel
theorem dX4_digest_211 : decode cX4_digest 211 = .ok (.iinc 3 1, 3) := by decide +kernel
theorem dX4_digest_214 : decode cX4_digest 214 = .ok (.goto (-75), 3) := by decide +kernel
theorem dX4_digest_217 : decode cX4_digest 217 = .ok (.lload_n 1, 1) := by decide +kernel
theorem dX4_digest_218 : decode cX4_digest 218 = .ok (.ldc2_w 377, 3) := by decide +kernel
theorem dX4_digest_221 : decode cX4_digest 221 = .ok (.lmul, 1) := by decide +kernel
theorem dX4_digest_222 : decode cX4_digest 222 = .ok (.aload_n 0, 1) := by decide +kernel
theorem dX4_digest_223 : decode cX4_digest 223 = .ok (.iconst 0, 1) := by decide +kernel
theorem dX4_digest_224 : decode cX4_digest 224 = .ok (.invokevirtual 397, 3) := by decide +kernel
theorem dX4_digest_227 : decode cX4_digest 227 = .ok (.i2l, 1) := by decide +kernel
theorem dX4_digest_228 : decode cX4_digest 228 = .ok (.ladd, 1) := by decide +kernel
theorem dX4_digest_229 : decode cX4_digest 229 = .ok (.lstore_n 1, 1) := by decide +kernel
theorem dX4_digest_230 : decode cX4_digest 230 = .ok (.lload_n 1, 1) := by decide +kernel
theorem dX4_digest_231 : decode cX4_digest 231 = .ok (.ldc2_w 377, 3) := by decide +kernel
theorem dX4_digest_234 : decode cX4_digest 234 = .ok (.lmul, 1) := by decide +kernel
theorem dX4_digest_235 : decode cX4_digest 235 = .ok (.aload_n 0, 1) := by decide +kernel
theorem dX4_digest_236 : decode cX4_digest 236 = .ok (.iconst 1, 1) := by decide +kernel
theorem dX4_digest_237 : decode cX4_digest 237 = .ok (.invokevirtual 397, 3) := by decide +kernel
theorem dX4_digest_240 : decode cX4_digest 240 = .ok (.i2l, 1) := by decide +kernel
theorem dX4_digest_241 : decode cX4_digest 241 = .ok (.ladd, 1) := by decide +kernel
theorem dX4_digest_242 : decode cX4_digest 242 = .ok (.lstore_n 1, 1) := by decide +kernel
theorem dX4_digest_243 : decode cX4_digest 243 = .ok (.lload_n 1, 1) := by decide +kernel
theorem dX4_digest_244 : decode cX4_digest 244 = .ok (.ldc2_w 377, 3) := by decide +kernel
theorem dX4_digest_247 : decode cX4_digest 247 = .ok (.lmul, 1) := by decide +kernel
theorem dX4_digest_248 : decode cX4_digest 248 = .ok (.aload_n 0, 1) := by decide +kernel
theorem dX4_digest_249 : decode cX4_digest 249 = .ok (.invokevirtual 400, 3) := by decide +kernel
theorem dX4_digest_252 : decode cX4_digest 252 = .ok (.i2l, 1) := by decide +kernel
theorem dX4_digest_253 : decode cX4_digest 253 = .ok (.ladd, 1) := by decide +kernel
theorem dX4_digest_254 : decode cX4_digest 254 = .ok (.lstore_n 1, 1) := by decide +kernel
theorem dX4_digest_255 : decode cX4_digest 255 = .ok (.lload_n 1, 1) := by decide +kernel
theorem dX4_digest_256 : decode cX4_digest 256 = .ok (.ldc2_w 377, 3) := by decide +kernel
theorem dX4_digest_259 : decode cX4_digest 259 = .ok (.lmul, 1) := by decide +kernel
theorem dX4_digest_260 : decode cX4_digest 260 = .ok (.aload_n 0, 1) := by decide +kernel
theorem dX4_digest_261 : decode cX4_digest 261 = .ok (.invokevirtual 403, 3) := by decide +kernel
theorem dX4_digest_264 : decode cX4_digest 264 = .ok (.i2l, 1) := by decide +kernel
theorem dX4_digest_265 : decode cX4_digest 265 = .ok (.ladd, 1) := by decide +kernel
theorem dX4_digest_266 : decode cX4_digest 266 = .ok (.lstore_n 1, 1) := by decide +kernel
theorem dX4_digest_267 : decode cX4_digest 267 = .ok (.lload_n 1, 1) := by decide +kernel
theorem dX4_digest_268 : decode cX4_digest 268 = .ok (.ldc2_w 377, 3) := by decide +kernel
theorem dX4_digest_271 : decode cX4_digest 271 = .ok (.lmul, 1) := by decide +kernel
theorem dX4_digest_272 : decode cX4_digest 272 = .ok (.aload_n 0, 1) := by decide +kernel
theorem dX4_digest_273 : decode cX4_digest 273 = .ok (.bipush 7, 2) := by decide +kernel
theorem dX4_digest_275 : decode cX4_digest 275 = .ok (.invokevirtual 406, 3) := by decide +kernel
theorem dX4_digest_278 : decode cX4_digest 278 = .ok (.i2l, 1) := by decide +kernel
theorem dX4_digest_279 : decode cX4_digest 279 = .ok (.ladd, 1) := by decide +kernel
theorem dX4_digest_280 : decode cX4_digest 280 = .ok (.lreturn, 1) := by decide +kernel
theorem dX4_isWithin_0 : decode cX4_isWithin 0 = .ok (.iload_n 0, 1) := by decide +kernel
theorem dX4_isWithin_1 : decode cX4_isWithin 1 = .ok (.iload_n 1, 1) := by decide +kernel
theorem dX4_isWithin_2 : decode cX4_isWithin 2 = .ok (.if_icmp .lt 12, 3) := by decide +kernel
theorem dX4_isWithin_5 : decode cX4_isWithin 5 = .ok (.iload_n 0, 1) := by decide +kernel
theorem dX4_isWithin_6 : decode cX4_isWithin 6 = .ok (.iload_n 2, 1) := by decide +kernel
theorem dX4_isWithin_7 : decode cX4_isWithin 7 = .ok (.if_icmp .gt 7, 3) := by decide +kernel
theorem dX4_isWithin_10 : decode cX4_isWithin 10 = .ok (.iconst 1, 1) := by decide +kernel
theorem dX4_isWithin_11 : decode cX4_isWithin 11 = .ok (.goto 4, 3) := by decide +kernel
theorem dX4_isWithin_14 : decode cX4_isWithin 14 = .ok (.iconst 0, 1) := by decide +kernel
theorem dX4_isWithin_15 : decode cX4_isWithin 15 = .ok (.ireturn, 1) := by decide +kernel
set_option maxRecDepth 20000 in
theorem ggX4_isAuthor_X4_isWithin : GoodIn wsX4_isAuthor wsX4_isWithin := goodIn_r _ [4] (by decide +kernel) (by decide +kernel)
set_option maxRecDepth 20000 in
theorem gX4_isAuthor_X4_isWithin : GoodIn wsX4_isAuthor (va_wsS RX4 76 yX4_isWithin wsX4_isWithin) := goodIn_app (goodIn_of _ (by decide +kernel)) ggX4_isAuthor_X4_isWithin
theorem dX4_isAuthor_0 : decode cX4_isAuthor 0 = .ok (.iload_n 0, 1) := by decide +kernel
theorem dX4_isAuthor_1 : decode cX4_isAuthor 1 = .ok (.iconst 0, 1) := by decide +kernel
theorem dX4_isAuthor_2 : decode cX4_isAuthor 2 = .ok (.bipush 9, 2) := by decide +kernel
theorem dX4_isAuthor_4 : decode cX4_isAuthor 4 = .ok (.invokestatic 76, 3) := by decide +kernel
theorem dX4_isAuthor_7 : decode cX4_isAuthor 7 = .ok (.ireturn, 1) := by decide +kernel
theorem dX4_isHouse_0 : decode cX4_isHouse 0 = .ok (.iload_n 1, 1) := by decide +kernel
theorem dX4_isHouse_1 : decode cX4_isHouse 1 = .ok (.ifCond .lt 15, 3) := by decide +kernel
theorem dX4_isHouse_4 : decode cX4_isHouse 4 = .ok (.iload_n 1, 1) := by decide +kernel
theorem dX4_isHouse_5 : decode cX4_isHouse 5 = .ok (.aload_n 0, 1) := by decide +kernel
theorem dX4_isHouse_6 : decode cX4_isHouse 6 = .ok (.getfield 54, 3) := by decide +kernel
theorem dX4_isHouse_9 : decode cX4_isHouse 9 = .ok (.if_icmp .ge 7, 3) := by decide +kernel
theorem dX4_isHouse_12 : decode cX4_isHouse 12 = .ok (.iconst 1, 1) := by decide +kernel
theorem dX4_isHouse_13 : decode cX4_isHouse 13 = .ok (.goto 4, 3) := by decide +kernel
theorem dX4_isHouse_16 : decode cX4_isHouse 16 = .ok (.iconst 0, 1) := by decide +kernel
theorem dX4_isHouse_17 : decode cX4_isHouse 17 = .ok (.ireturn, 1) := by decide +kernel
theorem dX4_isBook_0 : decode cX4_isBook 0 = .ok (.iload_n 1, 1) := by decide +kernel
theorem dX4_isBook_1 : decode cX4_isBook 1 = .ok (.ifCond .lt 15, 3) := by decide +kernel
theorem dX4_isBook_4 : decode cX4_isBook 4 = .ok (.iload_n 1, 1) := by decide +kernel
theorem dX4_isBook_5 : decode cX4_isBook 5 = .ok (.aload_n 0, 1) := by decide +kernel
theorem dX4_isBook_6 : decode cX4_isBook 6 = .ok (.getfield 85, 3) := by decide +kernel
theorem dX4_isBook_9 : decode cX4_isBook 9 = .ok (.if_icmp .ge 7, 3) := by decide +kernel
theorem dX4_isBook_12 : decode cX4_isBook 12 = .ok (.iconst 1, 1) := by decide +kernel
theorem dX4_isBook_13 : decode cX4_isBook 13 = .ok (.goto 4, 3) := by decide +kernel
theorem dX4_isBook_16 : decode cX4_isBook 16 = .ok (.iconst 0, 1) := by decide +kernel
theorem dX4_isBook_17 : decode cX4_isBook 17 = .ok (.ireturn, 1) := by decide +kernel
theorem dX4_isJudge_0 : decode cX4_isJudge 0 = .ok (.iload_n 1, 1) := by decide +kernel
theorem dX4_isJudge_1 : decode cX4_isJudge 1 = .ok (.ifCond .lt 15, 3) := by decide +kernel
theorem dX4_isJudge_4 : decode cX4_isJudge 4 = .ok (.iload_n 1, 1) := by decide +kernel
theorem dX4_isJudge_5 : decode cX4_isJudge 5 = .ok (.aload_n 0, 1) := by decide +kernel
theorem dX4_isJudge_6 : decode cX4_isJudge 6 = .ok (.getfield 102, 3) := by decide +kernel
theorem dX4_isJudge_9 : decode cX4_isJudge 9 = .ok (.if_icmp .ge 7, 3) := by decide +kernel
theorem dX4_isJudge_12 : decode cX4_isJudge 12 = .ok (.iconst 1, 1) := by decide +kernel
theorem dX4_isJudge_13 : decode cX4_isJudge 13 = .ok (.goto 4, 3) := by decide +kernel
theorem dX4_isJudge_16 : decode cX4_isJudge 16 = .ok (.iconst 0, 1) := by decide +kernel
theorem dX4_isJudge_17 : decode cX4_isJudge 17 = .ok (.ireturn, 1) := by decide +kernel
theorem dX4_bit_0 : decode cX4_bit 0 = .ok (.iconst 1, 1) := by decide +kernel
theorem dX4_bit_1 : decode cX4_bit 1 = .ok (.iload_n 0, 1) := by decide +kernel
theorem dX4_bit_2 : decode cX4_bit 2 = .ok (.ishl, 1) := by decide +kernel
theorem dX4_bit_3 : decode cX4_bit 3 = .ok (.ireturn, 1) := by decide +kernel
theorem dX4_has_0 : decode cX4_has 0 = .ok (.iload_n 0, 1) := by decide +kernel
theorem dX4_has_1 : decode cX4_has 1 = .ok (.iconst 1, 1) := by decide +kernel
theorem dX4_has_2 : decode cX4_has 2 = .ok (.iload_n 1, 1) := by decide +kernel
theorem dX4_has_3 : decode cX4_has 3 = .ok (.ishl, 1) := by decide +kernel
theorem dX4_has_4 : decode cX4_has 4 = .ok (.iand, 1) := by decide +kernel
theorem dX4_has_5 : decode cX4_has 5 = .ok (.ifCond .eq 7, 3) := by decide +kernel
theorem dX4_has_8 : decode cX4_has 8 = .ok (.iconst 1, 1) := by decide +kernel
theorem dX4_has_9 : decode cX4_has 9 = .ok (.goto 4, 3) := by decide +kernel
theorem dX4_has_12 : decode cX4_has 12 = .ok (.iconst 0, 1) := by decide +kernel
theorem dX4_has_13 : decode cX4_has 13 = .ok (.ireturn, 1) := by decide +kernel
set_option maxRecDepth 20000 in
theorem ggX4_allBooks_X4_bit : GoodIn wsX4_allBooks wsX4_bit := goodIn_r _ [5] (by decide +kernel) (by decide +kernel)
set_option maxRecDepth 20000 in
theorem gX4_allBooks_X4_bit : GoodIn wsX4_allBooks (va_wsS RX4 120 yX4_bit wsX4_bit) := goodIn_app (goodIn_of _ (by decide +kernel)) ggX4_allBooks_X4_bit
theorem dX4_allBooks_0 : decode cX4_allBooks 0 = .ok (.aload_n 0, 1) := by decide +kernel
theorem dX4_allBooks_1 : decode cX4_allBooks 1 = .ok (.getfield 85, 3) := by decide +kernel
theorem dX4_allBooks_4 : decode cX4_allBooks 4 = .ok (.invokestatic 120, 3) := by decide +kernel
theorem dX4_allBooks_7 : decode cX4_allBooks 7 = .ok (.iconst 1, 1) := by decide +kernel
theorem dX4_allBooks_8 : decode cX4_allBooks 8 = .ok (.isub, 1) := by decide +kernel
theorem dX4_allBooks_9 : decode cX4_allBooks 9 = .ok (.ireturn, 1) := by decide +kernel
set_option maxRecDepth 20000 in
theorem ggX4_countOfHouse_X4_has : GoodIn wsX4_countOfHouse wsX4_has := goodIn_r _ [7] (by decide +kernel) (by decide +kernel)
set_option maxRecDepth 20000 in
theorem gX4_countOfHouse_X4_has : GoodIn wsX4_countOfHouse (va_wsS RX4 223 yX4_has wsX4_has) := goodIn_app (goodIn_of _ (by decide +kernel)) ggX4_countOfHouse_X4_has
theorem dX4_countOfHouse_0 : decode cX4_countOfHouse 0 = .ok (.iconst 0, 1) := by decide +kernel
theorem dX4_countOfHouse_1 : decode cX4_countOfHouse 1 = .ok (.istore_n 3, 1) := by decide +kernel
theorem dX4_countOfHouse_2 : decode cX4_countOfHouse 2 = .ok (.iconst 0, 1) := by decide +kernel
theorem dX4_countOfHouse_3 : decode cX4_countOfHouse 3 = .ok (.istore 4, 2) := by decide +kernel
theorem dX4_countOfHouse_5 : decode cX4_countOfHouse 5 = .ok (.iload 4, 2) := by decide +kernel
theorem dX4_countOfHouse_7 : decode cX4_countOfHouse 7 = .ok (.aload_n 0, 1) := by decide +kernel
theorem dX4_countOfHouse_8 : decode cX4_countOfHouse 8 = .ok (.getfield 85, 3) := by decide +kernel
theorem dX4_countOfHouse_11 : decode cX4_countOfHouse 11 = .ok (.if_icmp .ge 35, 3) := by decide +kernel
theorem dX4_countOfHouse_14 : decode cX4_countOfHouse 14 = .ok (.iload_n 2, 1) := by decide +kernel
theorem dX4_countOfHouse_15 : decode cX4_countOfHouse 15 = .ok (.iload 4, 2) := by decide +kernel
theorem dX4_countOfHouse_17 : decode cX4_countOfHouse 17 = .ok (.invokestatic 223, 3) := by decide +kernel
theorem dX4_countOfHouse_20 : decode cX4_countOfHouse 20 = .ok (.ifCond .eq 20, 3) := by decide +kernel
theorem dX4_countOfHouse_23 : decode cX4_countOfHouse 23 = .ok (.aload_n 0, 1) := by decide +kernel
theorem dX4_countOfHouse_24 : decode cX4_countOfHouse 24 = .ok (.getfield 17, 3) := by decide +kernel
theorem dX4_countOfHouse_27 : decode cX4_countOfHouse 27 = .ok (.iload 4, 2) := by decide +kernel
theorem dX4_countOfHouse_29 : decode cX4_countOfHouse 29 = .ok (.aaload, 1) := by decide +kernel
theorem dX4_countOfHouse_30 : decode cX4_countOfHouse 30 = .ok (.getfield 151, 3) := by decide +kernel
theorem dX4_countOfHouse_33 : decode cX4_countOfHouse 33 = .ok (.iload_n 1, 1) := by decide +kernel
theorem dX4_countOfHouse_34 : decode cX4_countOfHouse 34 = .ok (.if_icmp .ne 6, 3) := by decide +kernel
theorem dX4_countOfHouse_37 : decode cX4_countOfHouse 37 = .ok (.iinc 3 1, 3) := by decide +kernel
theorem dX4_countOfHouse_40 : decode cX4_countOfHouse 40 = .ok (.iinc 4 1, 3) := by decide +kernel
theorem dX4_countOfHouse_43 : decode cX4_countOfHouse 43 = .ok (.goto (-38), 3) := by decide +kernel
theorem dX4_countOfHouse_46 : decode cX4_countOfHouse 46 = .ok (.iload_n 3, 1) := by decide +kernel
theorem dX4_countOfHouse_47 : decode cX4_countOfHouse 47 = .ok (.ireturn, 1) := by decide +kernel
set_option maxRecDepth 20000 in
theorem ggX4_quotaOf_X4_countOfHouse : GoodIn wsX4_quotaOf wsX4_countOfHouse := goodIn_r _ [10, 11, 12, 13, 14, 15, 9, 16, 17, 18, 19, 20, 21, 22, 23, 24, 25, 26, 27, 28, 29, 30, 31, 32, 33, 34, 35, 36, 37, 38, 39, 40, 41, 42, 43, 44, 45, 46] (by decide +kernel) (by decide +kernel)
set_option maxRecDepth 20000 in
theorem gX4_quotaOf_X4_countOfHouse : GoodIn wsX4_quotaOf (wsV RX4 299 RX4 yX4_countOfHouse wsX4_countOfHouse) := goodIn_app (goodIn_of _ (by decide +kernel)) ggX4_quotaOf_X4_countOfHouse
theorem dX4_quotaOf_0 : decode cX4_quotaOf 0 = .ok (.iconst 4, 1) := by decide +kernel
theorem dX4_quotaOf_1 : decode cX4_quotaOf 1 = .ok (.iconst 2, 1) := by decide +kernel
theorem dX4_quotaOf_2 : decode cX4_quotaOf 2 = .ok (.aload_n 0, 1) := by decide +kernel
theorem dX4_quotaOf_3 : decode cX4_quotaOf 3 = .ok (.iload_n 1, 1) := by decide +kernel
theorem dX4_quotaOf_4 : decode cX4_quotaOf 4 = .ok (.aload_n 0, 1) := by decide +kernel
theorem dX4_quotaOf_5 : decode cX4_quotaOf 5 = .ok (.getfield 287, 3) := by decide +kernel
theorem dX4_quotaOf_8 : decode cX4_quotaOf 8 = .ok (.invokevirtual 299, 3) := by decide +kernel
theorem dX4_quotaOf_11 : decode cX4_quotaOf 11 = .ok (.iadd, 1) := by decide +kernel
theorem dX4_quotaOf_12 : decode cX4_quotaOf 12 = .ok (.invokestatic 190, 3) := by decide +kernel
theorem dX4_quotaOf_15 : decode cX4_quotaOf 15 = .ok (.ireturn, 1) := by decide +kernel
theorem dX4_isEntered_0 : decode cX4_isEntered 0 = .ok (.aload_n 0, 1) := by decide +kernel
theorem dX4_isEntered_1 : decode cX4_isEntered 1 = .ok (.getfield 17, 3) := by decide +kernel
theorem dX4_isEntered_4 : decode cX4_isEntered 4 = .ok (.iload_n 1, 1) := by decide +kernel
theorem dX4_isEntered_5 : decode cX4_isEntered 5 = .ok (.aaload, 1) := by decide +kernel
theorem dX4_isEntered_6 : decode cX4_isEntered 6 = .ok (.getfield 409, 3) := by decide +kernel
theorem dX4_isEntered_9 : decode cX4_isEntered 9 = .ok (.aload_n 0, 1) := by decide +kernel
theorem dX4_isEntered_10 : decode cX4_isEntered 10 = .ok (.getfield 94, 3) := by decide +kernel
theorem dX4_isEntered_13 : decode cX4_isEntered 13 = .ok (.if_icmp .ne 7, 3) := by decide +kernel
theorem dX4_isEntered_16 : decode cX4_isEntered 16 = .ok (.iconst 1, 1) := by decide +kernel
theorem dX4_isEntered_17 : decode cX4_isEntered 17 = .ok (.goto 4, 3) := by decide +kernel
theorem dX4_isEntered_20 : decode cX4_isEntered 20 = .ok (.iconst 0, 1) := by decide +kernel
theorem dX4_isEntered_21 : decode cX4_isEntered 21 = .ok (.ireturn, 1) := by decide +kernel
set_option maxRecDepth 20000 in
theorem ggX4_isEligible_X3_admit : GoodIn wsX4_isEligible wsX3_admit := goodIn_r _ [12, 13, 14, 15, 16, 17, 18, 19, 20, 51, 52, 53, 54] (by decide +kernel) (by decide +kernel)
set_option maxRecDepth 20000 in
theorem gX4_isEligible_X3_admit : GoodIn wsX4_isEligible (wsV RX4 418 RX3 yX3_admit wsX3_admit) := goodIn_app (goodIn_of _ (by decide +kernel)) ggX4_isEligible_X3_admit
theorem dX4_isEligible_0 : decode cX4_isEligible 0 = .ok (.aload_n 0, 1) := by decide +kernel
theorem dX4_isEligible_1 : decode cX4_isEligible 1 = .ok (.getfield 17, 3) := by decide +kernel
theorem dX4_isEligible_4 : decode cX4_isEligible 4 = .ok (.iload_n 1, 1) := by decide +kernel
theorem dX4_isEligible_5 : decode cX4_isEligible 5 = .ok (.aaload, 1) := by decide +kernel
theorem dX4_isEligible_6 : decode cX4_isEligible 6 = .ok (.astore_n 2, 1) := by decide +kernel
theorem dX4_isEligible_7 : decode cX4_isEligible 7 = .ok (.aload_n 2, 1) := by decide +kernel
theorem dX4_isEligible_8 : decode cX4_isEligible 8 = .ok (.getfield 409, 3) := by decide +kernel
theorem dX4_isEligible_11 : decode cX4_isEligible 11 = .ok (.iconst (-1), 1) := by decide +kernel
theorem dX4_isEligible_12 : decode cX4_isEligible 12 = .ok (.if_icmp .eq 14, 3) := by decide +kernel
theorem dX4_isEligible_15 : decode cX4_isEligible 15 = .ok (.aload_n 2, 1) := by decide +kernel
theorem dX4_isEligible_16 : decode cX4_isEligible 16 = .ok (.getfield 409, 3) := by decide +kernel
theorem dX4_isEligible_19 : decode cX4_isEligible 19 = .ok (.aload_n 0, 1) := by decide +kernel
theorem dX4_isEligible_20 : decode cX4_isEligible 20 = .ok (.getfield 94, 3) := by decide +kernel
theorem dX4_isEligible_23 : decode cX4_isEligible 23 = .ok (.if_icmp .ne 7, 3) := by decide +kernel
theorem dX4_isEligible_26 : decode cX4_isEligible 26 = .ok (.iconst 1, 1) := by decide +kernel
theorem dX4_isEligible_27 : decode cX4_isEligible 27 = .ok (.goto 4, 3) := by decide +kernel
theorem dX4_isEligible_30 : decode cX4_isEligible 30 = .ok (.iconst 0, 1) := by decide +kernel
theorem dX4_isEligible_31 : decode cX4_isEligible 31 = .ok (.istore_n 3, 1) := by decide +kernel
theorem dX4_isEligible_32 : decode cX4_isEligible 32 = .ok (.iload_n 3, 1) := by decide +kernel
theorem dX4_isEligible_33 : decode cX4_isEligible 33 = .ok (.ifCond .eq 38, 3) := by decide +kernel
theorem dX4_isEligible_36 : decode cX4_isEligible 36 = .ok (.aload_n 0, 1) := by decide +kernel
theorem dX4_isEligible_37 : decode cX4_isEligible 37 = .ok (.getfield 94, 3) := by decide +kernel
theorem dX4_isEligible_40 : decode cX4_isEligible 40 = .ok (.aload_n 2, 1) := by decide +kernel
theorem dX4_isEligible_41 : decode cX4_isEligible 41 = .ok (.getfield 97, 3) := by decide +kernel
theorem dX4_isEligible_44 : decode cX4_isEligible 44 = .ok (.isub, 1) := by decide +kernel
theorem dX4_isEligible_45 : decode cX4_isEligible 45 = .ok (.iconst 1, 1) := by decide +kernel
theorem dX4_isEligible_46 : decode cX4_isEligible 46 = .ok (.if_icmp .gt 25, 3) := by decide +kernel
theorem dX4_isEligible_49 : decode cX4_isEligible 49 = .ok (.aload_n 0, 1) := by decide +kernel
theorem dX4_isEligible_50 : decode cX4_isEligible 50 = .ok (.getfield 30, 3) := by decide +kernel
theorem dX4_isEligible_53 : decode cX4_isEligible 53 = .ok (.aload_n 2, 1) := by decide +kernel
theorem dX4_isEligible_54 : decode cX4_isEligible 54 = .ok (.getfield 412, 3) := by decide +kernel
theorem dX4_isEligible_57 : decode cX4_isEligible 57 = .ok (.aload_n 2, 1) := by decide +kernel
theorem dX4_isEligible_58 : decode cX4_isEligible 58 = .ok (.getfield 415, 3) := by decide +kernel
theorem dX4_isEligible_61 : decode cX4_isEligible 61 = .ok (.invokevirtual 418, 3) := by decide +kernel
theorem dX4_isEligible_64 : decode cX4_isEligible 64 = .ok (.ifCond .eq 7, 3) := by decide +kernel
theorem dX4_isEligible_67 : decode cX4_isEligible 67 = .ok (.iconst 1, 1) := by decide +kernel
theorem dX4_isEligible_68 : decode cX4_isEligible 68 = .ok (.goto 4, 3) := by decide +kernel
theorem dX4_isEligible_71 : decode cX4_isEligible 71 = .ok (.iconst 0, 1) := by decide +kernel
theorem dX4_isEligible_72 : decode cX4_isEligible 72 = .ok (.ireturn, 1) := by decide +kernel
set_option maxRecDepth 20000 in
theorem ggX4_enteredCount_X4_isEntered : GoodIn wsX4_enteredCount wsX4_isEntered := goodIn_r _ [6, 7, 8, 9, 10, 11, 12, 13, 14, 15, 16, 17, 18, 19, 20, 21, 22, 23, 24, 25, 26, 27, 28, 29, 30, 31, 32, 33, 34, 35, 36, 37, 38, 39] (by decide +kernel) (by decide +kernel)
set_option maxRecDepth 20000 in
theorem gX4_enteredCount_X4_isEntered : GoodIn wsX4_enteredCount (wsV RX4 143 RX4 yX4_isEntered wsX4_isEntered) := goodIn_app (goodIn_of _ (by decide +kernel)) ggX4_enteredCount_X4_isEntered
theorem dX4_enteredCount_0 : decode cX4_enteredCount 0 = .ok (.iconst 0, 1) := by decide +kernel
theorem dX4_enteredCount_1 : decode cX4_enteredCount 1 = .ok (.istore_n 1, 1) := by decide +kernel
theorem dX4_enteredCount_2 : decode cX4_enteredCount 2 = .ok (.iconst 0, 1) := by decide +kernel
theorem dX4_enteredCount_3 : decode cX4_enteredCount 3 = .ok (.istore_n 2, 1) := by decide +kernel
theorem dX4_enteredCount_4 : decode cX4_enteredCount 4 = .ok (.iload_n 2, 1) := by decide +kernel
theorem dX4_enteredCount_5 : decode cX4_enteredCount 5 = .ok (.aload_n 0, 1) := by decide +kernel
theorem dX4_enteredCount_6 : decode cX4_enteredCount 6 = .ok (.getfield 85, 3) := by decide +kernel
theorem dX4_enteredCount_9 : decode cX4_enteredCount 9 = .ok (.if_icmp .ge 20, 3) := by decide +kernel
theorem dX4_enteredCount_12 : decode cX4_enteredCount 12 = .ok (.aload_n 0, 1) := by decide +kernel
theorem dX4_enteredCount_13 : decode cX4_enteredCount 13 = .ok (.iload_n 2, 1) := by decide +kernel
theorem dX4_enteredCount_14 : decode cX4_enteredCount 14 = .ok (.invokevirtual 143, 3) := by decide +kernel
theorem dX4_enteredCount_17 : decode cX4_enteredCount 17 = .ok (.ifCond .eq 6, 3) := by decide +kernel
theorem dX4_enteredCount_20 : decode cX4_enteredCount 20 = .ok (.iinc 1 1, 3) := by decide +kernel
theorem dX4_enteredCount_23 : decode cX4_enteredCount 23 = .ok (.iinc 2 1, 3) := by decide +kernel
theorem dX4_enteredCount_26 : decode cX4_enteredCount 26 = .ok (.goto (-22), 3) := by decide +kernel
theorem dX4_enteredCount_29 : decode cX4_enteredCount 29 = .ok (.iload_n 1, 1) := by decide +kernel
theorem dX4_enteredCount_30 : decode cX4_enteredCount 30 = .ok (.ireturn, 1) := by decide +kernel
set_option maxRecDepth 20000 in
theorem ggX4_enterFor_X4_enteredCount : GoodIn wsX4_enterFor wsX4_enteredCount := goodIn_r _ [11, 12, 13, 14, 15, 10, 16, 1, 3, 2, 17, 18, 19, 20, 21, 22, 23, 24, 25, 26, 27, 28, 29, 30, 31, 32, 33, 34, 35, 36, 37, 38, 39, 40, 41, 42, 43, 44, 45, 46] (by decide +kernel) (by decide +kernel)
set_option maxRecDepth 20000 in
theorem gX4_enterFor_X4_enteredCount : GoodIn wsX4_enterFor (wsV RX4 176 RX4 yX4_enteredCount wsX4_enteredCount) := goodIn_app (goodIn_of _ (by decide +kernel)) ggX4_enterFor_X4_enteredCount
theorem dX4_enterFor_0 : decode cX4_enterFor 0 = .ok (.aload_n 0, 1) := by decide +kernel
theorem dX4_enterFor_1 : decode cX4_enterFor 1 = .ok (.getfield 17, 3) := by decide +kernel
theorem dX4_enterFor_4 : decode cX4_enterFor 4 = .ok (.iload_n 1, 1) := by decide +kernel
theorem dX4_enterFor_5 : decode cX4_enterFor 5 = .ok (.aaload, 1) := by decide +kernel
theorem dX4_enterFor_6 : decode cX4_enterFor 6 = .ok (.aload_n 0, 1) := by decide +kernel
theorem dX4_enterFor_7 : decode cX4_enterFor 7 = .ok (.getfield 94, 3) := by decide +kernel
theorem dX4_enterFor_10 : decode cX4_enterFor 10 = .ok (.putfield 409, 3) := by decide +kernel
theorem dX4_enterFor_13 : decode cX4_enterFor 13 = .ok (.aload_n 0, 1) := by decide +kernel
theorem dX4_enterFor_14 : decode cX4_enterFor 14 = .ok (.getfield 11, 3) := by decide +kernel
theorem dX4_enterFor_17 : decode cX4_enterFor 17 = .ok (.aload_n 0, 1) := by decide +kernel
theorem dX4_enterFor_18 : decode cX4_enterFor 18 = .ok (.getfield 17, 3) := by decide +kernel
theorem dX4_enterFor_21 : decode cX4_enterFor 21 = .ok (.iload_n 1, 1) := by decide +kernel
theorem dX4_enterFor_22 : decode cX4_enterFor 22 = .ok (.aaload, 1) := by decide +kernel
theorem dX4_enterFor_23 : decode cX4_enterFor 23 = .ok (.getfield 151, 3) := by decide +kernel
theorem dX4_enterFor_26 : decode cX4_enterFor 26 = .ok (.aaload, 1) := by decide +kernel
theorem dX4_enterFor_27 : decode cX4_enterFor 27 = .ok (.dup, 1) := by decide +kernel
theorem dX4_enterFor_28 : decode cX4_enterFor 28 = .ok (.getfield 293, 3) := by decide +kernel
theorem dX4_enterFor_31 : decode cX4_enterFor 31 = .ok (.iload_n 2, 1) := by decide +kernel
theorem dX4_enterFor_32 : decode cX4_enterFor 32 = .ok (.isub, 1) := by decide +kernel
theorem dX4_enterFor_33 : decode cX4_enterFor 33 = .ok (.putfield 293, 3) := by decide +kernel
theorem dX4_enterFor_36 : decode cX4_enterFor 36 = .ok (.aload_n 0, 1) := by decide +kernel
theorem dX4_enterFor_37 : decode cX4_enterFor 37 = .ok (.invokevirtual 176, 3) := by decide +kernel
theorem dX4_enterFor_40 : decode cX4_enterFor 40 = .ok (.ireturn, 1) := by decide +kernel
set_option maxRecDepth 20000 in
theorem ggX4_handOut_X4_lightestWithout : GoodIn wsX4_handOut wsX4_lightestWithout := goodIn_r _ [9, 10, 3, 11, 12, 13, 8, 14, 15, 16, 17, 18, 19, 20, 39, 40, 41, 42, 43, 44, 45, 46, 47, 48, 49, 50, 51, 52, 53, 54, 55, 56, 57, 69, 70, 71, 72, 73, 74, 75, 76, 77, 78, 79, 80, 81, 82, 83, 84] (by decide +kernel) (by decide +kernel)
set_option maxRecDepth 20000 in
theorem gX4_handOut_X4_lightestWithout : GoodIn wsX4_handOut (wsV RX4 421 RX4 yX4_lightestWithout wsX4_lightestWithout) := goodIn_app (goodIn_of _ (by decide +kernel)) ggX4_handOut_X4_lightestWithout
set_option maxRecDepth 20000 in
theorem ggX4_handOut_X2_takeIn : GoodIn wsX4_handOut wsX2_takeIn := goodIn_r _ [24, 25, 26, 27, 28, 69, 70, 71, 72, 73, 74, 75, 76, 77, 78, 79, 80, 81, 82, 83, 84] (by decide +kernel) (by decide +kernel)
set_option maxRecDepth 20000 in
theorem gX4_handOut_X2_takeIn : GoodIn wsX4_handOut (wsV RX4 424 RX2 yX2_takeIn wsX2_takeIn) := goodIn_app (goodIn_of _ (by decide +kernel)) ggX4_handOut_X2_takeIn
set_option maxRecDepth 20000 in
theorem ggX4_handOut_X4_bit : GoodIn wsX4_handOut wsX4_bit := goodIn_r _ [31] (by decide +kernel) (by decide +kernel)
set_option maxRecDepth 20000 in
theorem gX4_handOut_X4_bit : GoodIn wsX4_handOut (va_wsS RX4 120 yX4_bit wsX4_bit) := goodIn_app (goodIn_of _ (by decide +kernel)) ggX4_handOut_X4_bit
set_option maxRecDepth 20000 in
theorem ggX4_handOut_J6_bitCount_0f7a4 : GoodIn wsX4_handOut wsJ6_bitCount_0f7a4 := goodIn_r _ [35, 36, 37, 38] (by decide +kernel) (by decide +kernel)
set_option maxRecDepth 20000 in
theorem gX4_handOut_J6_bitCount_0f7a4 : GoodIn wsX4_handOut (va_wsS RX4 124 yJ6_bitCount_0f7a4 wsJ6_bitCount_0f7a4) := goodIn_app (goodIn_of _ (by decide +kernel)) ggX4_handOut_J6_bitCount_0f7a4
theorem dX4_handOut_0 : decode cX4_handOut 0 = .ok (.iconst 0, 1) := by decide +kernel
theorem dX4_handOut_1 : decode cX4_handOut 1 = .ok (.istore_n 2, 1) := by decide +kernel
theorem dX4_handOut_2 : decode cX4_handOut 2 = .ok (.iconst 0, 1) := by decide +kernel
theorem dX4_handOut_3 : decode cX4_handOut 3 = .ok (.istore_n 3, 1) := by decide +kernel
theorem dX4_handOut_4 : decode cX4_handOut 4 = .ok (.iload_n 3, 1) := by decide +kernel
theorem dX4_handOut_5 : decode cX4_handOut 5 = .ok (.iconst 3, 1) := by decide +kernel
theorem dX4_handOut_6 : decode cX4_handOut 6 = .ok (.if_icmp .ge 59, 3) := by decide +kernel
theorem dX4_handOut_9 : decode cX4_handOut 9 = .ok (.aload_n 0, 1) := by decide +kernel
theorem dX4_handOut_10 : decode cX4_handOut 10 = .ok (.iload_n 2, 1) := by decide +kernel
theorem dX4_handOut_11 : decode cX4_handOut 11 = .ok (.aload_n 0, 1) := by decide +kernel
theorem dX4_handOut_12 : decode cX4_handOut 12 = .ok (.getfield 17, 3) := by decide +kernel
theorem dX4_handOut_15 : decode cX4_handOut 15 = .ok (.iload_n 1, 1) := by decide +kernel
theorem dX4_handOut_16 : decode cX4_handOut 16 = .ok (.aaload, 1) := by decide +kernel
theorem dX4_handOut_17 : decode cX4_handOut 17 = .ok (.getfield 170, 3) := by decide +kernel
theorem dX4_handOut_20 : decode cX4_handOut 20 = .ok (.invokevirtual 421, 3) := by decide +kernel
theorem dX4_handOut_23 : decode cX4_handOut 23 = .ok (.istore 4, 2) := by decide +kernel
theorem dX4_handOut_25 : decode cX4_handOut 25 = .ok (.iload 4, 2) := by decide +kernel
theorem dX4_handOut_27 : decode cX4_handOut 27 = .ok (.iconst (-1), 1) := by decide +kernel
theorem dX4_handOut_28 : decode cX4_handOut 28 = .ok (.if_icmp .eq 31, 3) := by decide +kernel
theorem dX4_handOut_31 : decode cX4_handOut 31 = .ok (.aload_n 0, 1) := by decide +kernel
theorem dX4_handOut_32 : decode cX4_handOut 32 = .ok (.getfield 23, 3) := by decide +kernel
theorem dX4_handOut_35 : decode cX4_handOut 35 = .ok (.iload 4, 2) := by decide +kernel
theorem dX4_handOut_37 : decode cX4_handOut 37 = .ok (.aaload, 1) := by decide +kernel
theorem dX4_handOut_38 : decode cX4_handOut 38 = .ok (.iload_n 1, 1) := by decide +kernel
theorem dX4_handOut_39 : decode cX4_handOut 39 = .ok (.aload_n 0, 1) := by decide +kernel
theorem dX4_handOut_40 : decode cX4_handOut 40 = .ok (.getfield 17, 3) := by decide +kernel
theorem dX4_handOut_43 : decode cX4_handOut 43 = .ok (.iload_n 1, 1) := by decide +kernel
theorem dX4_handOut_44 : decode cX4_handOut 44 = .ok (.aaload, 1) := by decide +kernel
theorem dX4_handOut_45 : decode cX4_handOut 45 = .ok (.getfield 415, 3) := by decide +kernel
theorem dX4_handOut_48 : decode cX4_handOut 48 = .ok (.invokevirtual 424, 3) := by decide +kernel
theorem dX4_handOut_51 : decode cX4_handOut 51 = .ok (.iload_n 2, 1) := by decide +kernel
theorem dX4_handOut_52 : decode cX4_handOut 52 = .ok (.iload 4, 2) := by decide +kernel
theorem dX4_handOut_54 : decode cX4_handOut 54 = .ok (.invokestatic 120, 3) := by decide +kernel
theorem dX4_handOut_57 : decode cX4_handOut 57 = .ok (.ior, 1) := by decide +kernel
theorem dX4_handOut_58 : decode cX4_handOut 58 = .ok (.istore_n 2, 1) := by decide +kernel
theorem dX4_handOut_59 : decode cX4_handOut 59 = .ok (.iinc 3 1, 3) := by decide +kernel
theorem dX4_handOut_62 : decode cX4_handOut 62 = .ok (.goto (-58), 3) := by decide +kernel
theorem dX4_handOut_65 : decode cX4_handOut 65 = .ok (.iload_n 2, 1) := by decide +kernel
theorem dX4_handOut_66 : decode cX4_handOut 66 = .ok (.invokestatic 124, 3) := by decide +kernel
theorem dX4_handOut_69 : decode cX4_handOut 69 = .ok (.ireturn, 1) := by decide +kernel
set_option maxRecDepth 20000 in
theorem ggX4_lightestWithout_X4_has : GoodIn wsX4_lightestWithout wsX4_has := goodIn_r _ [7] (by decide +kernel) (by decide +kernel)
set_option maxRecDepth 20000 in
theorem gX4_lightestWithout_X4_has : GoodIn wsX4_lightestWithout (va_wsS RX4 223 yX4_has wsX4_has) := goodIn_app (goodIn_of _ (by decide +kernel)) ggX4_lightestWithout_X4_has
set_option maxRecDepth 20000 in
theorem ggX4_lightestWithout_X2_isAgainst : GoodIn wsX4_lightestWithout wsX2_isAgainst := goodIn_r _ [12, 13, 33, 34, 35, 36, 37, 38, 39, 40, 41, 42, 43, 44, 45, 46, 47, 48] (by decide +kernel) (by decide +kernel)
set_option maxRecDepth 20000 in
theorem gX4_lightestWithout_X2_isAgainst : GoodIn wsX4_lightestWithout (wsV RX4 173 RX2 yX2_isAgainst wsX2_isAgainst) := goodIn_app (goodIn_of _ (by decide +kernel)) ggX4_lightestWithout_X2_isAgainst
theorem dX4_lightestWithout_0 : decode cX4_lightestWithout 0 = .ok (.iconst (-1), 1) := by decide +kernel
theorem dX4_lightestWithout_1 : decode cX4_lightestWithout 1 = .ok (.istore_n 3, 1) := by decide +kernel
theorem dX4_lightestWithout_2 : decode cX4_lightestWithout 2 = .ok (.iconst 0, 1) := by decide +kernel
theorem dX4_lightestWithout_3 : decode cX4_lightestWithout 3 = .ok (.istore 4, 2) := by decide +kernel
theorem dX4_lightestWithout_5 : decode cX4_lightestWithout 5 = .ok (.iload 4, 2) := by decide +kernel
theorem dX4_lightestWithout_7 : decode cX4_lightestWithout 7 = .ok (.aload_n 0, 1) := by decide +kernel
theorem dX4_lightestWithout_8 : decode cX4_lightestWithout 8 = .ok (.getfield 102, 3) := by decide +kernel
theorem dX4_lightestWithout_11 : decode cX4_lightestWithout 11 = .ok (.if_icmp .ge 62, 3) := by decide +kernel
theorem dX4_lightestWithout_14 : decode cX4_lightestWithout 14 = .ok (.iload_n 1, 1) := by decide +kernel
theorem dX4_lightestWithout_15 : decode cX4_lightestWithout 15 = .ok (.iload 4, 2) := by decide +kernel
theorem dX4_lightestWithout_17 : decode cX4_lightestWithout 17 = .ok (.invokestatic 223, 3) := by decide +kernel
theorem dX4_lightestWithout_20 : decode cX4_lightestWithout 20 = .ok (.ifCond .ne 47, 3) := by decide +kernel
theorem dX4_lightestWithout_23 : decode cX4_lightestWithout 23 = .ok (.aload_n 0, 1) := by decide +kernel
theorem dX4_lightestWithout_24 : decode cX4_lightestWithout 24 = .ok (.getfield 23, 3) := by decide +kernel
theorem dX4_lightestWithout_27 : decode cX4_lightestWithout 27 = .ok (.iload 4, 2) := by decide +kernel
theorem dX4_lightestWithout_29 : decode cX4_lightestWithout 29 = .ok (.aaload, 1) := by decide +kernel
theorem dX4_lightestWithout_30 : decode cX4_lightestWithout 30 = .ok (.iload_n 2, 1) := by decide +kernel
theorem dX4_lightestWithout_31 : decode cX4_lightestWithout 31 = .ok (.invokevirtual 173, 3) := by decide +kernel
theorem dX4_lightestWithout_34 : decode cX4_lightestWithout 34 = .ok (.ifCond .ne 33, 3) := by decide +kernel
theorem dX4_lightestWithout_37 : decode cX4_lightestWithout 37 = .ok (.iload_n 3, 1) := by decide +kernel
theorem dX4_lightestWithout_38 : decode cX4_lightestWithout 38 = .ok (.iconst (-1), 1) := by decide +kernel
theorem dX4_lightestWithout_39 : decode cX4_lightestWithout 39 = .ok (.if_icmp .eq 25, 3) := by decide +kernel
theorem dX4_lightestWithout_42 : decode cX4_lightestWithout 42 = .ok (.aload_n 0, 1) := by decide +kernel
theorem dX4_lightestWithout_43 : decode cX4_lightestWithout 43 = .ok (.getfield 23, 3) := by decide +kernel
theorem dX4_lightestWithout_46 : decode cX4_lightestWithout 46 = .ok (.iload 4, 2) := by decide +kernel
theorem dX4_lightestWithout_48 : decode cX4_lightestWithout 48 = .ok (.aaload, 1) := by decide +kernel
theorem dX4_lightestWithout_49 : decode cX4_lightestWithout 49 = .ok (.getfield 428, 3) := by decide +kernel
theorem dX4_lightestWithout_52 : decode cX4_lightestWithout 52 = .ok (.aload_n 0, 1) := by decide +kernel
theorem dX4_lightestWithout_53 : decode cX4_lightestWithout 53 = .ok (.getfield 23, 3) := by decide +kernel
theorem dX4_lightestWithout_56 : decode cX4_lightestWithout 56 = .ok (.iload_n 3, 1) := by decide +kernel
theorem dX4_lightestWithout_57 : decode cX4_lightestWithout 57 = .ok (.aaload, 1) := by decide +kernel
theorem dX4_lightestWithout_58 : decode cX4_lightestWithout 58 = .ok (.getfield 428, 3) := by decide +kernel
theorem dX4_lightestWithout_61 : decode cX4_lightestWithout 61 = .ok (.if_icmp .ge 6, 3) := by decide +kernel
theorem dX4_lightestWithout_64 : decode cX4_lightestWithout 64 = .ok (.iload 4, 2) := by decide +kernel
theorem dX4_lightestWithout_66 : decode cX4_lightestWithout 66 = .ok (.istore_n 3, 1) := by decide +kernel
theorem dX4_lightestWithout_67 : decode cX4_lightestWithout 67 = .ok (.iinc 4 1, 3) := by decide +kernel
theorem dX4_lightestWithout_70 : decode cX4_lightestWithout 70 = .ok (.goto (-65), 3) := by decide +kernel
theorem dX4_lightestWithout_73 : decode cX4_lightestWithout 73 = .ok (.iload_n 3, 1) := by decide +kernel
theorem dX4_lightestWithout_74 : decode cX4_lightestWithout 74 = .ok (.ireturn, 1) := by decide +kernel
set_option maxRecDepth 20000 in
theorem ggX4_readForDay_X2_readForDay : GoodIn wsX4_readForDay wsX2_readForDay := goodIn_r _ [9, 10, 11, 12, 13, 14, 15, 16, 17, 18, 19, 20, 21, 22, 23, 8, 24, 25, 26, 27, 28, 29, 30, 31, 32, 33, 34, 35, 36, 37, 38, 39, 40, 41, 42, 43, 44, 64, 65, 66, 67, 68, 69, 70, 71, 72, 73, 74, 75, 76, 77, 78, 79, 80, 81, 82, 83, 84, 85, 86, 87, 88, 89, 90] (by decide +kernel) (by decide +kernel)
set_option maxRecDepth 20000 in
theorem gX4_readForDay_X2_readForDay : GoodIn wsX4_readForDay (wsV RX4 431 RX2 yX2_readForDay wsX2_readForDay) := goodIn_app (goodIn_of _ (by decide +kernel)) ggX4_readForDay_X2_readForDay
theorem dX4_readForDay_0 : decode cX4_readForDay 0 = .ok (.iconst 0, 1) := by decide +kernel
theorem dX4_readForDay_1 : decode cX4_readForDay 1 = .ok (.istore_n 1, 1) := by decide +kernel
theorem dX4_readForDay_2 : decode cX4_readForDay 2 = .ok (.aload_n 0, 1) := by decide +kernel
theorem dX4_readForDay_3 : decode cX4_readForDay 3 = .ok (.getfield 37, 3) := by decide +kernel
theorem dX4_readForDay_6 : decode cX4_readForDay 6 = .ok (.iconst 1, 1) := by decide +kernel
theorem dX4_readForDay_7 : decode cX4_readForDay 7 = .ok (.if_icmp .ne 35, 3) := by decide +kernel
theorem dX4_readForDay_10 : decode cX4_readForDay 10 = .ok (.iconst 0, 1) := by decide +kernel
theorem dX4_readForDay_11 : decode cX4_readForDay 11 = .ok (.istore_n 2, 1) := by decide +kernel
theorem dX4_readForDay_12 : decode cX4_readForDay 12 = .ok (.iload_n 2, 1) := by decide +kernel
theorem dX4_readForDay_13 : decode cX4_readForDay 13 = .ok (.aload_n 0, 1) := by decide +kernel
theorem dX4_readForDay_14 : decode cX4_readForDay 14 = .ok (.getfield 102, 3) := by decide +kernel
theorem dX4_readForDay_17 : decode cX4_readForDay 17 = .ok (.if_icmp .ge 25, 3) := by decide +kernel
theorem dX4_readForDay_20 : decode cX4_readForDay 20 = .ok (.iload_n 1, 1) := by decide +kernel
theorem dX4_readForDay_21 : decode cX4_readForDay 21 = .ok (.aload_n 0, 1) := by decide +kernel
theorem dX4_readForDay_22 : decode cX4_readForDay 22 = .ok (.getfield 23, 3) := by decide +kernel
theorem dX4_readForDay_25 : decode cX4_readForDay 25 = .ok (.iload_n 2, 1) := by decide +kernel
theorem dX4_readForDay_26 : decode cX4_readForDay 26 = .ok (.aaload, 1) := by decide +kernel
theorem dX4_readForDay_27 : decode cX4_readForDay 27 = .ok (.aload_n 0, 1) := by decide +kernel
theorem dX4_readForDay_28 : decode cX4_readForDay 28 = .ok (.getfield 17, 3) := by decide +kernel
theorem dX4_readForDay_31 : decode cX4_readForDay 31 = .ok (.invokevirtual 431, 3) := by decide +kernel
theorem dX4_readForDay_34 : decode cX4_readForDay 34 = .ok (.iadd, 1) := by decide +kernel
theorem dX4_readForDay_35 : decode cX4_readForDay 35 = .ok (.istore_n 1, 1) := by decide +kernel
theorem dX4_readForDay_36 : decode cX4_readForDay 36 = .ok (.iinc 2 1, 3) := by decide +kernel
theorem dX4_readForDay_39 : decode cX4_readForDay 39 = .ok (.goto (-27), 3) := by decide +kernel
theorem dX4_readForDay_42 : decode cX4_readForDay 42 = .ok (.iload_n 1, 1) := by decide +kernel
theorem dX4_readForDay_43 : decode cX4_readForDay 43 = .ok (.ireturn, 1) := by decide +kernel
set_option maxRecDepth 20000 in
theorem ggX4_areCratesRead_X2_pagesLeft : GoodIn wsX4_areCratesRead wsX2_pagesLeft := goodIn_r _ [7, 8, 9, 29, 30, 31, 32, 33, 34, 35, 36, 37, 38, 39, 40, 41, 42, 43, 44] (by decide +kernel) (by decide +kernel)
set_option maxRecDepth 20000 in
theorem gX4_areCratesRead_X2_pagesLeft : GoodIn wsX4_areCratesRead (wsV RX4 333 RX2 yX2_pagesLeft wsX2_pagesLeft) := goodIn_app (goodIn_of _ (by decide +kernel)) ggX4_areCratesRead_X2_pagesLeft
theorem dX4_areCratesRead_0 : decode cX4_areCratesRead 0 = .ok (.iconst 0, 1) := by decide +kernel
theorem dX4_areCratesRead_1 : decode cX4_areCratesRead 1 = .ok (.istore_n 1, 1) := by decide +kernel
theorem dX4_areCratesRead_2 : decode cX4_areCratesRead 2 = .ok (.iload_n 1, 1) := by decide +kernel
theorem dX4_areCratesRead_3 : decode cX4_areCratesRead 3 = .ok (.aload_n 0, 1) := by decide +kernel
theorem dX4_areCratesRead_4 : decode cX4_areCratesRead 4 = .ok (.getfield 102, 3) := by decide +kernel
theorem dX4_areCratesRead_7 : decode cX4_areCratesRead 7 = .ok (.if_icmp .ge 23, 3) := by decide +kernel
theorem dX4_areCratesRead_10 : decode cX4_areCratesRead 10 = .ok (.aload_n 0, 1) := by decide +kernel
theorem dX4_areCratesRead_11 : decode cX4_areCratesRead 11 = .ok (.getfield 23, 3) := by decide +kernel
theorem dX4_areCratesRead_14 : decode cX4_areCratesRead 14 = .ok (.iload_n 1, 1) := by decide +kernel
theorem dX4_areCratesRead_15 : decode cX4_areCratesRead 15 = .ok (.aaload, 1) := by decide +kernel
theorem dX4_areCratesRead_16 : decode cX4_areCratesRead 16 = .ok (.invokevirtual 333, 3) := by decide +kernel
theorem dX4_areCratesRead_19 : decode cX4_areCratesRead 19 = .ok (.ifCond .le 5, 3) := by decide +kernel
theorem dX4_areCratesRead_22 : decode cX4_areCratesRead 22 = .ok (.iconst 0, 1) := by decide +kernel
theorem dX4_areCratesRead_23 : decode cX4_areCratesRead 23 = .ok (.ireturn, 1) := by decide +kernel
theorem dX4_areCratesRead_24 : decode cX4_areCratesRead 24 = .ok (.iinc 1 1, 3) := by decide +kernel
theorem dX4_areCratesRead_27 : decode cX4_areCratesRead 27 = .ok (.goto (-25), 3) := by decide +kernel
theorem dX4_areCratesRead_30 : decode cX4_areCratesRead 30 = .ok (.iconst 1, 1) := by decide +kernel
theorem dX4_areCratesRead_31 : decode cX4_areCratesRead 31 = .ok (.ireturn, 1) := by decide +kernel
set_option maxRecDepth 20000 in
theorem ggX4_askedInDay_X4_has : GoodIn wsX4_askedInDay wsX4_has := goodIn_r _ [8] (by decide +kernel) (by decide +kernel)
set_option maxRecDepth 20000 in
theorem gX4_askedInDay_X4_has : GoodIn wsX4_askedInDay (va_wsS RX4 223 yX4_has wsX4_has) := goodIn_app (goodIn_of _ (by decide +kernel)) ggX4_askedInDay_X4_has
theorem dX4_askedInDay_0 : decode cX4_askedInDay 0 = .ok (.iload_n 1, 1) := by decide +kernel
theorem dX4_askedInDay_1 : decode cX4_askedInDay 1 = .ok (.aload_n 0, 1) := by decide +kernel
theorem dX4_askedInDay_2 : decode cX4_askedInDay 2 = .ok (.getfield 41, 3) := by decide +kernel
theorem dX4_askedInDay_5 : decode cX4_askedInDay 5 = .ok (.if_icmp .eq 11, 3) := by decide +kernel
theorem dX4_askedInDay_8 : decode cX4_askedInDay 8 = .ok (.iload_n 1, 1) := by decide +kernel
theorem dX4_askedInDay_9 : decode cX4_askedInDay 9 = .ok (.aload_n 0, 1) := by decide +kernel
theorem dX4_askedInDay_10 : decode cX4_askedInDay 10 = .ok (.getfield 44, 3) := by decide +kernel
theorem dX4_askedInDay_13 : decode cX4_askedInDay 13 = .ok (.if_icmp .ne 6, 3) := by decide +kernel
theorem dX4_askedInDay_16 : decode cX4_askedInDay 16 = .ok (.bipush 90, 2) := by decide +kernel
theorem dX4_askedInDay_18 : decode cX4_askedInDay 18 = .ok (.ireturn, 1) := by decide +kernel
theorem dX4_askedInDay_19 : decode cX4_askedInDay 19 = .ok (.aload_n 0, 1) := by decide +kernel
theorem dX4_askedInDay_20 : decode cX4_askedInDay 20 = .ok (.getfield 246, 3) := by decide +kernel
theorem dX4_askedInDay_23 : decode cX4_askedInDay 23 = .ok (.iload_n 1, 1) := by decide +kernel
theorem dX4_askedInDay_24 : decode cX4_askedInDay 24 = .ok (.invokestatic 223, 3) := by decide +kernel
theorem dX4_askedInDay_27 : decode cX4_askedInDay 27 = .ok (.ifCond .eq 6, 3) := by decide +kernel
theorem dX4_askedInDay_30 : decode cX4_askedInDay 30 = .ok (.bipush 20, 2) := by decide +kernel
theorem dX4_askedInDay_32 : decode cX4_askedInDay 32 = .ok (.ireturn, 1) := by decide +kernel
theorem dX4_askedInDay_33 : decode cX4_askedInDay 33 = .ok (.aload_n 0, 1) := by decide +kernel
theorem dX4_askedInDay_34 : decode cX4_askedInDay 34 = .ok (.getfield 220, 3) := by decide +kernel
theorem dX4_askedInDay_37 : decode cX4_askedInDay 37 = .ok (.iload_n 1, 1) := by decide +kernel
theorem dX4_askedInDay_38 : decode cX4_askedInDay 38 = .ok (.invokestatic 223, 3) := by decide +kernel
theorem dX4_askedInDay_41 : decode cX4_askedInDay 41 = .ok (.ifCond .eq 7, 3) := by decide +kernel
theorem dX4_askedInDay_44 : decode cX4_askedInDay 44 = .ok (.iconst 5, 1) := by decide +kernel
theorem dX4_askedInDay_45 : decode cX4_askedInDay 45 = .ok (.goto 4, 3) := by decide +kernel
theorem dX4_askedInDay_48 : decode cX4_askedInDay 48 = .ok (.iconst 1, 1) := by decide +kernel
theorem dX4_askedInDay_49 : decode cX4_askedInDay 49 = .ok (.ireturn, 1) := by decide +kernel
set_option maxRecDepth 20000 in
theorem ggX4_sellFor_X4_askedInDay : GoodIn wsX4_sellFor wsX4_askedInDay := goodIn_r _ [10, 11, 12, 13, 14, 15, 16, 9, 17, 30, 31, 32, 33, 34, 35, 36, 37, 38, 39, 40, 41, 42, 43, 44, 45, 46, 47, 48] (by decide +kernel) (by decide +kernel)
set_option maxRecDepth 20000 in
theorem gX4_sellFor_X4_askedInDay : GoodIn wsX4_sellFor (wsV RX4 372 RX4 yX4_askedInDay wsX4_askedInDay) := goodIn_app (goodIn_of _ (by decide +kernel)) ggX4_sellFor_X4_askedInDay
set_option maxRecDepth 20000 in
theorem ggX4_sellFor_X0_sell : GoodIn wsX4_sellFor wsX0_sell := goodIn_r _ [22, 23, 24, 25, 26, 27, 28, 29, 49, 50, 51, 52, 53, 54, 55, 56, 57, 58, 59] (by decide +kernel) (by decide +kernel)
set_option maxRecDepth 20000 in
theorem gX4_sellFor_X0_sell : GoodIn wsX4_sellFor (wsV RX4 434 RX0 yX0_sell wsX0_sell) := goodIn_app (goodIn_of _ (by decide +kernel)) ggX4_sellFor_X0_sell
theorem dX4_sellFor_0 : decode cX4_sellFor 0 = .ok (.iconst 0, 1) := by decide +kernel
theorem dX4_sellFor_1 : decode cX4_sellFor 1 = .ok (.istore_n 2, 1) := by decide +kernel
theorem dX4_sellFor_2 : decode cX4_sellFor 2 = .ok (.iload_n 2, 1) := by decide +kernel
theorem dX4_sellFor_3 : decode cX4_sellFor 3 = .ok (.aload_n 0, 1) := by decide +kernel
theorem dX4_sellFor_4 : decode cX4_sellFor 4 = .ok (.getfield 85, 3) := by decide +kernel
theorem dX4_sellFor_7 : decode cX4_sellFor 7 = .ok (.if_icmp .ge 49, 3) := by decide +kernel
theorem dX4_sellFor_10 : decode cX4_sellFor 10 = .ok (.aload_n 0, 1) := by decide +kernel
theorem dX4_sellFor_11 : decode cX4_sellFor 11 = .ok (.getfield 17, 3) := by decide +kernel
theorem dX4_sellFor_14 : decode cX4_sellFor 14 = .ok (.iload_n 2, 1) := by decide +kernel
theorem dX4_sellFor_15 : decode cX4_sellFor 15 = .ok (.aaload, 1) := by decide +kernel
theorem dX4_sellFor_16 : decode cX4_sellFor 16 = .ok (.aload_n 0, 1) := by decide +kernel
theorem dX4_sellFor_17 : decode cX4_sellFor 17 = .ok (.iload_n 2, 1) := by decide +kernel
theorem dX4_sellFor_18 : decode cX4_sellFor 18 = .ok (.invokevirtual 372, 3) := by decide +kernel
theorem dX4_sellFor_21 : decode cX4_sellFor 21 = .ok (.iload_n 1, 1) := by decide +kernel
theorem dX4_sellFor_22 : decode cX4_sellFor 22 = .ok (.imul, 1) := by decide +kernel
theorem dX4_sellFor_23 : decode cX4_sellFor 23 = .ok (.invokevirtual 434, 3) := by decide +kernel
theorem dX4_sellFor_26 : decode cX4_sellFor 26 = .ok (.istore_n 3, 1) := by decide +kernel
theorem dX4_sellFor_27 : decode cX4_sellFor 27 = .ok (.aload_n 0, 1) := by decide +kernel
theorem dX4_sellFor_28 : decode cX4_sellFor 28 = .ok (.getfield 11, 3) := by decide +kernel
theorem dX4_sellFor_31 : decode cX4_sellFor 31 = .ok (.aload_n 0, 1) := by decide +kernel
theorem dX4_sellFor_32 : decode cX4_sellFor 32 = .ok (.getfield 17, 3) := by decide +kernel
theorem dX4_sellFor_35 : decode cX4_sellFor 35 = .ok (.iload_n 2, 1) := by decide +kernel
theorem dX4_sellFor_36 : decode cX4_sellFor 36 = .ok (.aaload, 1) := by decide +kernel
theorem dX4_sellFor_37 : decode cX4_sellFor 37 = .ok (.getfield 151, 3) := by decide +kernel
theorem dX4_sellFor_40 : decode cX4_sellFor 40 = .ok (.aaload, 1) := by decide +kernel
theorem dX4_sellFor_41 : decode cX4_sellFor 41 = .ok (.dup, 1) := by decide +kernel
theorem dX4_sellFor_42 : decode cX4_sellFor 42 = .ok (.getfield 293, 3) := by decide +kernel
theorem dX4_sellFor_45 : decode cX4_sellFor 45 = .ok (.iload_n 3, 1) := by decide +kernel
theorem dX4_sellFor_46 : decode cX4_sellFor 46 = .ok (.iadd, 1) := by decide +kernel
theorem dX4_sellFor_47 : decode cX4_sellFor 47 = .ok (.putfield 293, 3) := by decide +kernel
theorem dX4_sellFor_50 : decode cX4_sellFor 50 = .ok (.iinc 2 1, 3) := by decide +kernel
theorem dX4_sellFor_53 : decode cX4_sellFor 53 = .ok (.goto (-51), 3) := by decide +kernel
theorem dX4_sellFor_56 : decode cX4_sellFor 56 = .ok (.return_, 1) := by decide +kernel
theorem dX4_soldEver_0 : decode cX4_soldEver 0 = .ok (.iconst 0, 1) := by decide +kernel
theorem dX4_soldEver_1 : decode cX4_soldEver 1 = .ok (.istore_n 1, 1) := by decide +kernel
theorem dX4_soldEver_2 : decode cX4_soldEver 2 = .ok (.iconst 0, 1) := by decide +kernel
theorem dX4_soldEver_3 : decode cX4_soldEver 3 = .ok (.istore_n 2, 1) := by decide +kernel
theorem dX4_soldEver_4 : decode cX4_soldEver 4 = .ok (.iload_n 2, 1) := by decide +kernel
theorem dX4_soldEver_5 : decode cX4_soldEver 5 = .ok (.aload_n 0, 1) := by decide +kernel
theorem dX4_soldEver_6 : decode cX4_soldEver 6 = .ok (.getfield 85, 3) := by decide +kernel
theorem dX4_soldEver_9 : decode cX4_soldEver 9 = .ok (.if_icmp .ge 21, 3) := by decide +kernel
theorem dX4_soldEver_12 : decode cX4_soldEver 12 = .ok (.iload_n 1, 1) := by decide +kernel
theorem dX4_soldEver_13 : decode cX4_soldEver 13 = .ok (.aload_n 0, 1) := by decide +kernel
theorem dX4_soldEver_14 : decode cX4_soldEver 14 = .ok (.getfield 17, 3) := by decide +kernel
theorem dX4_soldEver_17 : decode cX4_soldEver 17 = .ok (.iload_n 2, 1) := by decide +kernel
theorem dX4_soldEver_18 : decode cX4_soldEver 18 = .ok (.aaload, 1) := by decide +kernel
theorem dX4_soldEver_19 : decode cX4_soldEver 19 = .ok (.getfield 307, 3) := by decide +kernel
theorem dX4_soldEver_22 : decode cX4_soldEver 22 = .ok (.iadd, 1) := by decide +kernel
theorem dX4_soldEver_23 : decode cX4_soldEver 23 = .ok (.istore_n 1, 1) := by decide +kernel
theorem dX4_soldEver_24 : decode cX4_soldEver 24 = .ok (.iinc 2 1, 3) := by decide +kernel
theorem dX4_soldEver_27 : decode cX4_soldEver 27 = .ok (.goto (-23), 3) := by decide +kernel
theorem dX4_soldEver_30 : decode cX4_soldEver 30 = .ok (.iload_n 1, 1) := by decide +kernel
theorem dX4_soldEver_31 : decode cX4_soldEver 31 = .ok (.ireturn, 1) := by decide +kernel
theorem dX4_missedEver_0 : decode cX4_missedEver 0 = .ok (.iconst 0, 1) := by decide +kernel
theorem dX4_missedEver_1 : decode cX4_missedEver 1 = .ok (.istore_n 1, 1) := by decide +kernel
theorem dX4_missedEver_2 : decode cX4_missedEver 2 = .ok (.iconst 0, 1) := by decide +kernel
theorem dX4_missedEver_3 : decode cX4_missedEver 3 = .ok (.istore_n 2, 1) := by decide +kernel
theorem dX4_missedEver_4 : decode cX4_missedEver 4 = .ok (.iload_n 2, 1) := by decide +kernel
theorem dX4_missedEver_5 : decode cX4_missedEver 5 = .ok (.aload_n 0, 1) := by decide +kernel
theorem dX4_missedEver_6 : decode cX4_missedEver 6 = .ok (.getfield 85, 3) := by decide +kernel
theorem dX4_missedEver_9 : decode cX4_missedEver 9 = .ok (.if_icmp .ge 21, 3) := by decide +kernel
theorem dX4_missedEver_12 : decode cX4_missedEver 12 = .ok (.iload_n 1, 1) := by decide +kernel
theorem dX4_missedEver_13 : decode cX4_missedEver 13 = .ok (.aload_n 0, 1) := by decide +kernel
theorem dX4_missedEver_14 : decode cX4_missedEver 14 = .ok (.getfield 17, 3) := by decide +kernel
theorem dX4_missedEver_17 : decode cX4_missedEver 17 = .ok (.iload_n 2, 1) := by decide +kernel
theorem dX4_missedEver_18 : decode cX4_missedEver 18 = .ok (.aaload, 1) := by decide +kernel
theorem dX4_missedEver_19 : decode cX4_missedEver 19 = .ok (.getfield 310, 3) := by decide +kernel
theorem dX4_missedEver_22 : decode cX4_missedEver 22 = .ok (.iadd, 1) := by decide +kernel
theorem dX4_missedEver_23 : decode cX4_missedEver 23 = .ok (.istore_n 1, 1) := by decide +kernel
theorem dX4_missedEver_24 : decode cX4_missedEver 24 = .ok (.iinc 2 1, 3) := by decide +kernel
theorem dX4_missedEver_27 : decode cX4_missedEver 27 = .ok (.goto (-23), 3) := by decide +kernel
theorem dX4_missedEver_30 : decode cX4_missedEver 30 = .ok (.iload_n 1, 1) := by decide +kernel
theorem dX4_missedEver_31 : decode cX4_missedEver 31 = .ok (.ireturn, 1) := by decide +kernel
set_option maxRecDepth 20000 in
theorem ggX4_isFairMark_X2_isAgainst : GoodIn wsX4_isFairMark wsX2_isAgainst := goodIn_r _ [9, 10, 30, 31, 32, 33, 34, 35, 36, 37, 38, 39, 40, 41, 42, 43, 44, 45] (by decide +kernel) (by decide +kernel)
set_option maxRecDepth 20000 in
theorem gX4_isFairMark_X2_isAgainst : GoodIn wsX4_isFairMark (wsV RX4 173 RX2 yX2_isAgainst wsX2_isAgainst) := goodIn_app (goodIn_of _ (by decide +kernel)) ggX4_isFairMark_X2_isAgainst
theorem dX4_isFairMark_0 : decode cX4_isFairMark 0 = .ok (.aload_n 0, 1) := by decide +kernel
theorem dX4_isFairMark_1 : decode cX4_isFairMark 1 = .ok (.getfield 23, 3) := by decide +kernel
theorem dX4_isFairMark_4 : decode cX4_isFairMark 4 = .ok (.iload_n 1, 1) := by decide +kernel
theorem dX4_isFairMark_5 : decode cX4_isFairMark 5 = .ok (.aaload, 1) := by decide +kernel
theorem dX4_isFairMark_6 : decode cX4_isFairMark 6 = .ok (.getfield 347, 3) := by decide +kernel
theorem dX4_isFairMark_9 : decode cX4_isFairMark 9 = .ok (.iload_n 2, 1) := by decide +kernel
theorem dX4_isFairMark_10 : decode cX4_isFairMark 10 = .ok (.iaload, 1) := by decide +kernel
theorem dX4_isFairMark_11 : decode cX4_isFairMark 11 = .ok (.iconst (-1), 1) := by decide +kernel
theorem dX4_isFairMark_12 : decode cX4_isFairMark 12 = .ok (.if_icmp .eq 28, 3) := by decide +kernel
theorem dX4_isFairMark_15 : decode cX4_isFairMark 15 = .ok (.aload_n 0, 1) := by decide +kernel
theorem dX4_isFairMark_16 : decode cX4_isFairMark 16 = .ok (.getfield 23, 3) := by decide +kernel
theorem dX4_isFairMark_19 : decode cX4_isFairMark 19 = .ok (.iload_n 1, 1) := by decide +kernel
theorem dX4_isFairMark_20 : decode cX4_isFairMark 20 = .ok (.aaload, 1) := by decide +kernel
theorem dX4_isFairMark_21 : decode cX4_isFairMark 21 = .ok (.aload_n 0, 1) := by decide +kernel
theorem dX4_isFairMark_22 : decode cX4_isFairMark 22 = .ok (.getfield 17, 3) := by decide +kernel
theorem dX4_isFairMark_25 : decode cX4_isFairMark 25 = .ok (.iload_n 2, 1) := by decide +kernel
theorem dX4_isFairMark_26 : decode cX4_isFairMark 26 = .ok (.aaload, 1) := by decide +kernel
theorem dX4_isFairMark_27 : decode cX4_isFairMark 27 = .ok (.getfield 170, 3) := by decide +kernel
theorem dX4_isFairMark_30 : decode cX4_isFairMark 30 = .ok (.invokevirtual 173, 3) := by decide +kernel
theorem dX4_isFairMark_33 : decode cX4_isFairMark 33 = .ok (.ifCond .ne 7, 3) := by decide +kernel
theorem dX4_isFairMark_36 : decode cX4_isFairMark 36 = .ok (.iconst 1, 1) := by decide +kernel
theorem dX4_isFairMark_37 : decode cX4_isFairMark 37 = .ok (.goto 4, 3) := by decide +kernel
theorem dX4_isFairMark_40 : decode cX4_isFairMark 40 = .ok (.iconst 0, 1) := by decide +kernel
theorem dX4_isFairMark_41 : decode cX4_isFairMark 41 = .ok (.ireturn, 1) := by decide +kernel
set_option maxRecDepth 20000 in
theorem ggX4_fairMarksOf_X4_isFairMark : GoodIn wsX4_fairMarksOf wsX4_isFairMark := goodIn_r _ [6, 7, 8, 9, 10, 11, 12, 13, 14, 15, 16, 17, 18, 19, 20, 21, 22, 23, 24, 25, 26, 27, 28, 29, 30, 31, 32, 33, 34, 35, 36, 37, 38, 39, 40, 41, 42, 43, 44, 45, 46, 47, 48, 49, 50, 51, 52, 53, 54, 55, 56, 57, 58, 59, 60, 61, 62] (by decide +kernel) (by decide +kernel)
set_option maxRecDepth 20000 in
theorem gX4_fairMarksOf_X4_isFairMark : GoodIn wsX4_fairMarksOf (wsV RX4 437 RX4 yX4_isFairMark wsX4_isFairMark) := goodIn_app (goodIn_of _ (by decide +kernel)) ggX4_fairMarksOf_X4_isFairMark
theorem dX4_fairMarksOf_0 : decode cX4_fairMarksOf 0 = .ok (.iconst 0, 1) := by decide +kernel
theorem dX4_fairMarksOf_1 : decode cX4_fairMarksOf 1 = .ok (.istore_n 2, 1) := by decide +kernel
theorem dX4_fairMarksOf_2 : decode cX4_fairMarksOf 2 = .ok (.iconst 0, 1) := by decide +kernel
theorem dX4_fairMarksOf_3 : decode cX4_fairMarksOf 3 = .ok (.istore_n 3, 1) := by decide +kernel
theorem dX4_fairMarksOf_4 : decode cX4_fairMarksOf 4 = .ok (.iload_n 3, 1) := by decide +kernel
theorem dX4_fairMarksOf_5 : decode cX4_fairMarksOf 5 = .ok (.aload_n 0, 1) := by decide +kernel
theorem dX4_fairMarksOf_6 : decode cX4_fairMarksOf 6 = .ok (.getfield 102, 3) := by decide +kernel
theorem dX4_fairMarksOf_9 : decode cX4_fairMarksOf 9 = .ok (.if_icmp .ge 21, 3) := by decide +kernel
theorem dX4_fairMarksOf_12 : decode cX4_fairMarksOf 12 = .ok (.aload_n 0, 1) := by decide +kernel
theorem dX4_fairMarksOf_13 : decode cX4_fairMarksOf 13 = .ok (.iload_n 3, 1) := by decide +kernel
theorem dX4_fairMarksOf_14 : decode cX4_fairMarksOf 14 = .ok (.iload_n 1, 1) := by decide +kernel
theorem dX4_fairMarksOf_15 : decode cX4_fairMarksOf 15 = .ok (.invokevirtual 437, 3) := by decide +kernel
theorem dX4_fairMarksOf_18 : decode cX4_fairMarksOf 18 = .ok (.ifCond .eq 6, 3) := by decide +kernel
theorem dX4_fairMarksOf_21 : decode cX4_fairMarksOf 21 = .ok (.iinc 2 1, 3) := by decide +kernel
theorem dX4_fairMarksOf_24 : decode cX4_fairMarksOf 24 = .ok (.iinc 3 1, 3) := by decide +kernel
theorem dX4_fairMarksOf_27 : decode cX4_fairMarksOf 27 = .ok (.goto (-23), 3) := by decide +kernel
theorem dX4_fairMarksOf_30 : decode cX4_fairMarksOf 30 = .ok (.iload_n 2, 1) := by decide +kernel
theorem dX4_fairMarksOf_31 : decode cX4_fairMarksOf 31 = .ok (.ireturn, 1) := by decide +kernel
set_option maxRecDepth 20000 in
theorem ggX4_scoreOf_X4_isFairMark : GoodIn wsX4_scoreOf wsX4_isFairMark := goodIn_r _ [8, 2, 3, 9, 10, 11, 12, 13, 14, 15, 16, 27, 28, 29, 30, 31, 32, 33, 34, 35, 36, 37, 38, 39, 40, 41, 42, 43, 44, 45, 46, 47, 48, 49, 50, 51, 52, 53, 54, 55, 56, 57, 58, 59, 60, 61, 62, 63, 64, 65, 66, 67, 68, 69, 70, 71, 72] (by decide +kernel) (by decide +kernel)
set_option maxRecDepth 20000 in
theorem gX4_scoreOf_X4_isFairMark : GoodIn wsX4_scoreOf (wsV RX4 437 RX4 yX4_isFairMark wsX4_isFairMark) := goodIn_app (goodIn_of _ (by decide +kernel)) ggX4_scoreOf_X4_isFairMark
set_option maxRecDepth 20000 in
theorem ggX4_scoreOf_X2_meanOfTenfoldMarks : GoodIn wsX4_scoreOf wsX2_meanOfTenfoldMarks := goodIn_r _ [20, 21, 22, 46, 47, 48, 49, 50, 51, 52, 53, 54, 55, 56, 57, 58, 59, 60, 61] (by decide +kernel) (by decide +kernel)
set_option maxRecDepth 20000 in
theorem gX4_scoreOf_X2_meanOfTenfoldMarks : GoodIn wsX4_scoreOf (wsV RX4 440 RX2 yX2_meanOfTenfoldMarks wsX2_meanOfTenfoldMarks) := goodIn_app (goodIn_of _ (by decide +kernel)) ggX4_scoreOf_X2_meanOfTenfoldMarks
set_option maxRecDepth 20000 in
theorem ggX4_scoreOf_J9_floorDiv_7cf53 : GoodIn wsX4_scoreOf wsJ9_floorDiv_7cf53 := goodIn_r _ [26] (by decide +kernel) (by decide +kernel)
set_option maxRecDepth 20000 in
theorem gX4_scoreOf_J9_floorDiv_7cf53 : GoodIn wsX4_scoreOf (va_wsS RX4 443 yJ9_floorDiv_7cf53 wsJ9_floorDiv_7cf53) := goodIn_app (goodIn_of _ (by decide +kernel)) ggX4_scoreOf_J9_floorDiv_7cf53
theorem dX4_scoreOf_0 : decode cX4_scoreOf 0 = .ok (.iconst 0, 1) := by decide +kernel
theorem dX4_scoreOf_1 : decode cX4_scoreOf 1 = .ok (.istore_n 2, 1) := by decide +kernel
theorem dX4_scoreOf_2 : decode cX4_scoreOf 2 = .ok (.iconst 0, 1) := by decide +kernel
theorem dX4_scoreOf_3 : decode cX4_scoreOf 3 = .ok (.istore_n 3, 1) := by decide +kernel
theorem dX4_scoreOf_4 : decode cX4_scoreOf 4 = .ok (.iconst 0, 1) := by decide +kernel
theorem dX4_scoreOf_5 : decode cX4_scoreOf 5 = .ok (.istore 4, 2) := by decide +kernel
theorem dX4_scoreOf_7 : decode cX4_scoreOf 7 = .ok (.iload 4, 2) := by decide +kernel
theorem dX4_scoreOf_9 : decode cX4_scoreOf 9 = .ok (.aload_n 0, 1) := by decide +kernel
theorem dX4_scoreOf_10 : decode cX4_scoreOf 10 = .ok (.getfield 102, 3) := by decide +kernel
theorem dX4_scoreOf_13 : decode cX4_scoreOf 13 = .ok (.if_icmp .ge 51, 3) := by decide +kernel
theorem dX4_scoreOf_16 : decode cX4_scoreOf 16 = .ok (.aload_n 0, 1) := by decide +kernel
theorem dX4_scoreOf_17 : decode cX4_scoreOf 17 = .ok (.iload 4, 2) := by decide +kernel
theorem dX4_scoreOf_19 : decode cX4_scoreOf 19 = .ok (.iload_n 1, 1) := by decide +kernel
theorem dX4_scoreOf_20 : decode cX4_scoreOf 20 = .ok (.invokevirtual 437, 3) := by decide +kernel
theorem dX4_scoreOf_23 : decode cX4_scoreOf 23 = .ok (.ifCond .eq 35, 3) := by decide +kernel
theorem dX4_scoreOf_26 : decode cX4_scoreOf 26 = .ok (.iload_n 2, 1) := by decide +kernel
theorem dX4_scoreOf_27 : decode cX4_scoreOf 27 = .ok (.bipush 10, 2) := by decide +kernel
theorem dX4_scoreOf_29 : decode cX4_scoreOf 29 = .ok (.aload_n 0, 1) := by decide +kernel
theorem dX4_scoreOf_30 : decode cX4_scoreOf 30 = .ok (.getfield 23, 3) := by decide +kernel
theorem dX4_scoreOf_33 : decode cX4_scoreOf 33 = .ok (.iload 4, 2) := by decide +kernel
theorem dX4_scoreOf_35 : decode cX4_scoreOf 35 = .ok (.aaload, 1) := by decide +kernel
theorem dX4_scoreOf_36 : decode cX4_scoreOf 36 = .ok (.getfield 347, 3) := by decide +kernel
theorem dX4_scoreOf_39 : decode cX4_scoreOf 39 = .ok (.iload_n 1, 1) := by decide +kernel
theorem dX4_scoreOf_40 : decode cX4_scoreOf 40 = .ok (.iaload, 1) := by decide +kernel
theorem dX4_scoreOf_41 : decode cX4_scoreOf 41 = .ok (.imul, 1) := by decide +kernel
theorem dX4_scoreOf_42 : decode cX4_scoreOf 42 = .ok (.aload_n 0, 1) := by decide +kernel
theorem dX4_scoreOf_43 : decode cX4_scoreOf 43 = .ok (.getfield 23, 3) := by decide +kernel
theorem dX4_scoreOf_46 : decode cX4_scoreOf 46 = .ok (.iload 4, 2) := by decide +kernel
theorem dX4_scoreOf_48 : decode cX4_scoreOf 48 = .ok (.aaload, 1) := by decide +kernel
theorem dX4_scoreOf_49 : decode cX4_scoreOf 49 = .ok (.invokevirtual 440, 3) := by decide +kernel
theorem dX4_scoreOf_52 : decode cX4_scoreOf 52 = .ok (.isub, 1) := by decide +kernel
theorem dX4_scoreOf_53 : decode cX4_scoreOf 53 = .ok (.iadd, 1) := by decide +kernel
theorem dX4_scoreOf_54 : decode cX4_scoreOf 54 = .ok (.istore_n 2, 1) := by decide +kernel
theorem dX4_scoreOf_55 : decode cX4_scoreOf 55 = .ok (.iinc 3 1, 3) := by decide +kernel
theorem dX4_scoreOf_58 : decode cX4_scoreOf 58 = .ok (.iinc 4 1, 3) := by decide +kernel
theorem dX4_scoreOf_61 : decode cX4_scoreOf 61 = .ok (.goto (-54), 3) := by decide +kernel
theorem dX4_scoreOf_64 : decode cX4_scoreOf 64 = .ok (.iload_n 3, 1) := by decide +kernel
theorem dX4_scoreOf_65 : decode cX4_scoreOf 65 = .ok (.ifCond .ne 7, 3) := by decide +kernel
theorem dX4_scoreOf_68 : decode cX4_scoreOf 68 = .ok (.iconst 0, 1) := by decide +kernel
theorem dX4_scoreOf_69 : decode cX4_scoreOf 69 = .ok (.goto 12, 3) := by decide +kernel
theorem dX4_scoreOf_72 : decode cX4_scoreOf 72 = .ok (.iload_n 2, 1) := by decide +kernel
theorem dX4_scoreOf_73 : decode cX4_scoreOf 73 = .ok (.iload_n 3, 1) := by decide +kernel
theorem dX4_scoreOf_74 : decode cX4_scoreOf 74 = .ok (.invokestatic 443, 3) := by decide +kernel
theorem dX4_scoreOf_77 : decode cX4_scoreOf 77 = .ok (.sipush 500, 3) := by decide +kernel
theorem dX4_scoreOf_80 : decode cX4_scoreOf 80 = .ok (.iadd, 1) := by decide +kernel
theorem dX4_scoreOf_81 : decode cX4_scoreOf 81 = .ok (.ireturn, 1) := by decide +kernel
set_option maxRecDepth 20000 in
theorem ggX4_pointsOf_X2_isAgainst : GoodIn wsX4_pointsOf wsX2_isAgainst := goodIn_r _ [10, 11, 42, 43, 44, 45, 46, 47, 48, 49, 50, 51, 52, 53, 54, 55, 56, 57] (by decide +kernel) (by decide +kernel)
set_option maxRecDepth 20000 in
theorem gX4_pointsOf_X2_isAgainst : GoodIn wsX4_pointsOf (wsV RX4 173 RX2 yX2_isAgainst wsX2_isAgainst) := goodIn_app (goodIn_of _ (by decide +kernel)) ggX4_pointsOf_X2_isAgainst
theorem dX4_pointsOf_0 : decode cX4_pointsOf 0 = .ok (.iconst 0, 1) := by decide +kernel
theorem dX4_pointsOf_1 : decode cX4_pointsOf 1 = .ok (.istore_n 2, 1) := by decide +kernel
theorem dX4_pointsOf_2 : decode cX4_pointsOf 2 = .ok (.iconst 0, 1) := by decide +kernel
theorem dX4_pointsOf_3 : decode cX4_pointsOf 3 = .ok (.istore_n 3, 1) := by decide +kernel
theorem dX4_pointsOf_4 : decode cX4_pointsOf 4 = .ok (.iload_n 3, 1) := by decide +kernel
theorem dX4_pointsOf_5 : decode cX4_pointsOf 5 = .ok (.aload_n 0, 1) := by decide +kernel
theorem dX4_pointsOf_6 : decode cX4_pointsOf 6 = .ok (.getfield 102, 3) := by decide +kernel
theorem dX4_pointsOf_9 : decode cX4_pointsOf 9 = .ok (.if_icmp .ge 44, 3) := by decide +kernel
theorem dX4_pointsOf_12 : decode cX4_pointsOf 12 = .ok (.aload_n 0, 1) := by decide +kernel
theorem dX4_pointsOf_13 : decode cX4_pointsOf 13 = .ok (.getfield 23, 3) := by decide +kernel
theorem dX4_pointsOf_16 : decode cX4_pointsOf 16 = .ok (.iload_n 3, 1) := by decide +kernel
theorem dX4_pointsOf_17 : decode cX4_pointsOf 17 = .ok (.aaload, 1) := by decide +kernel
theorem dX4_pointsOf_18 : decode cX4_pointsOf 18 = .ok (.aload_n 0, 1) := by decide +kernel
theorem dX4_pointsOf_19 : decode cX4_pointsOf 19 = .ok (.getfield 17, 3) := by decide +kernel
theorem dX4_pointsOf_22 : decode cX4_pointsOf 22 = .ok (.iload_n 1, 1) := by decide +kernel
theorem dX4_pointsOf_23 : decode cX4_pointsOf 23 = .ok (.aaload, 1) := by decide +kernel
theorem dX4_pointsOf_24 : decode cX4_pointsOf 24 = .ok (.getfield 170, 3) := by decide +kernel
theorem dX4_pointsOf_27 : decode cX4_pointsOf 27 = .ok (.invokevirtual 173, 3) := by decide +kernel
theorem dX4_pointsOf_30 : decode cX4_pointsOf 30 = .ok (.ifCond .ne 17, 3) := by decide +kernel
theorem dX4_pointsOf_33 : decode cX4_pointsOf 33 = .ok (.iload_n 2, 1) := by decide +kernel
theorem dX4_pointsOf_34 : decode cX4_pointsOf 34 = .ok (.aload_n 0, 1) := by decide +kernel
theorem dX4_pointsOf_35 : decode cX4_pointsOf 35 = .ok (.getfield 23, 3) := by decide +kernel
theorem dX4_pointsOf_38 : decode cX4_pointsOf 38 = .ok (.iload_n 3, 1) := by decide +kernel
theorem dX4_pointsOf_39 : decode cX4_pointsOf 39 = .ok (.aaload, 1) := by decide +kernel
theorem dX4_pointsOf_40 : decode cX4_pointsOf 40 = .ok (.getfield 234, 3) := by decide +kernel
theorem dX4_pointsOf_43 : decode cX4_pointsOf 43 = .ok (.iload_n 1, 1) := by decide +kernel
theorem dX4_pointsOf_44 : decode cX4_pointsOf 44 = .ok (.iaload, 1) := by decide +kernel
theorem dX4_pointsOf_45 : decode cX4_pointsOf 45 = .ok (.iadd, 1) := by decide +kernel
theorem dX4_pointsOf_46 : decode cX4_pointsOf 46 = .ok (.istore_n 2, 1) := by decide +kernel
theorem dX4_pointsOf_47 : decode cX4_pointsOf 47 = .ok (.iinc 3 1, 3) := by decide +kernel
theorem dX4_pointsOf_50 : decode cX4_pointsOf 50 = .ok (.goto (-46), 3) := by decide +kernel
theorem dX4_pointsOf_53 : decode cX4_pointsOf 53 = .ok (.iload_n 2, 1) := by decide +kernel
theorem dX4_pointsOf_54 : decode cX4_pointsOf 54 = .ok (.ireturn, 1) := by decide +kernel
set_option maxRecDepth 20000 in
theorem ggX4_giversTo_X2_isAgainst : GoodIn wsX4_giversTo wsX2_isAgainst := goodIn_r _ [10, 11, 31, 32, 33, 34, 35, 36, 37, 38, 39, 40, 41, 42, 43, 44, 45, 46] (by decide +kernel) (by decide +kernel)
set_option maxRecDepth 20000 in
theorem gX4_giversTo_X2_isAgainst : GoodIn wsX4_giversTo (wsV RX4 173 RX2 yX2_isAgainst wsX2_isAgainst) := goodIn_app (goodIn_of _ (by decide +kernel)) ggX4_giversTo_X2_isAgainst
theorem dX4_giversTo_0 : decode cX4_giversTo 0 = .ok (.iconst 0, 1) := by decide +kernel
theorem dX4_giversTo_1 : decode cX4_giversTo 1 = .ok (.istore_n 2, 1) := by decide +kernel
theorem dX4_giversTo_2 : decode cX4_giversTo 2 = .ok (.iconst 0, 1) := by decide +kernel
theorem dX4_giversTo_3 : decode cX4_giversTo 3 = .ok (.istore_n 3, 1) := by decide +kernel
theorem dX4_giversTo_4 : decode cX4_giversTo 4 = .ok (.iload_n 3, 1) := by decide +kernel
theorem dX4_giversTo_5 : decode cX4_giversTo 5 = .ok (.aload_n 0, 1) := by decide +kernel
theorem dX4_giversTo_6 : decode cX4_giversTo 6 = .ok (.getfield 102, 3) := by decide +kernel
theorem dX4_giversTo_9 : decode cX4_giversTo 9 = .ok (.if_icmp .ge 47, 3) := by decide +kernel
theorem dX4_giversTo_12 : decode cX4_giversTo 12 = .ok (.aload_n 0, 1) := by decide +kernel
theorem dX4_giversTo_13 : decode cX4_giversTo 13 = .ok (.getfield 23, 3) := by decide +kernel
theorem dX4_giversTo_16 : decode cX4_giversTo 16 = .ok (.iload_n 3, 1) := by decide +kernel
theorem dX4_giversTo_17 : decode cX4_giversTo 17 = .ok (.aaload, 1) := by decide +kernel
theorem dX4_giversTo_18 : decode cX4_giversTo 18 = .ok (.getfield 234, 3) := by decide +kernel
theorem dX4_giversTo_21 : decode cX4_giversTo 21 = .ok (.iload_n 1, 1) := by decide +kernel
theorem dX4_giversTo_22 : decode cX4_giversTo 22 = .ok (.iaload, 1) := by decide +kernel
theorem dX4_giversTo_23 : decode cX4_giversTo 23 = .ok (.ifCond .le 27, 3) := by decide +kernel
theorem dX4_giversTo_26 : decode cX4_giversTo 26 = .ok (.aload_n 0, 1) := by decide +kernel
theorem dX4_giversTo_27 : decode cX4_giversTo 27 = .ok (.getfield 23, 3) := by decide +kernel
theorem dX4_giversTo_30 : decode cX4_giversTo 30 = .ok (.iload_n 3, 1) := by decide +kernel
theorem dX4_giversTo_31 : decode cX4_giversTo 31 = .ok (.aaload, 1) := by decide +kernel
theorem dX4_giversTo_32 : decode cX4_giversTo 32 = .ok (.aload_n 0, 1) := by decide +kernel
theorem dX4_giversTo_33 : decode cX4_giversTo 33 = .ok (.getfield 17, 3) := by decide +kernel
theorem dX4_giversTo_36 : decode cX4_giversTo 36 = .ok (.iload_n 1, 1) := by decide +kernel
theorem dX4_giversTo_37 : decode cX4_giversTo 37 = .ok (.aaload, 1) := by decide +kernel
theorem dX4_giversTo_38 : decode cX4_giversTo 38 = .ok (.getfield 170, 3) := by decide +kernel
theorem dX4_giversTo_41 : decode cX4_giversTo 41 = .ok (.invokevirtual 173, 3) := by decide +kernel
theorem dX4_giversTo_44 : decode cX4_giversTo 44 = .ok (.ifCond .ne 6, 3) := by decide +kernel
theorem dX4_giversTo_47 : decode cX4_giversTo 47 = .ok (.iinc 2 1, 3) := by decide +kernel
theorem dX4_giversTo_50 : decode cX4_giversTo 50 = .ok (.iinc 3 1, 3) := by decide +kernel
theorem dX4_giversTo_53 : decode cX4_giversTo 53 = .ok (.goto (-49), 3) := by decide +kernel
theorem dX4_giversTo_56 : decode cX4_giversTo 56 = .ok (.iload_n 2, 1) := by decide +kernel
theorem dX4_giversTo_57 : decode cX4_giversTo 57 = .ok (.ireturn, 1) := by decide +kernel
set_option maxRecDepth 20000 in
theorem ggX4_standingOf_X4_has : GoodIn wsX4_standingOf wsX4_has := goodIn_r _ [7] (by decide +kernel) (by decide +kernel)
set_option maxRecDepth 20000 in
theorem gX4_standingOf_X4_has : GoodIn wsX4_standingOf (va_wsS RX4 223 yX4_has wsX4_has) := goodIn_app (goodIn_of _ (by decide +kernel)) ggX4_standingOf_X4_has
theorem dX4_standingOf_0 : decode cX4_standingOf 0 = .ok (.iload_n 1, 1) := by decide +kernel
theorem dX4_standingOf_1 : decode cX4_standingOf 1 = .ok (.aload_n 0, 1) := by decide +kernel
theorem dX4_standingOf_2 : decode cX4_standingOf 2 = .ok (.getfield 41, 3) := by decide +kernel
theorem dX4_standingOf_5 : decode cX4_standingOf 5 = .ok (.if_icmp .ne 5, 3) := by decide +kernel
theorem dX4_standingOf_8 : decode cX4_standingOf 8 = .ok (.iconst 3, 1) := by decide +kernel
theorem dX4_standingOf_9 : decode cX4_standingOf 9 = .ok (.ireturn, 1) := by decide +kernel
theorem dX4_standingOf_10 : decode cX4_standingOf 10 = .ok (.aload_n 0, 1) := by decide +kernel
theorem dX4_standingOf_11 : decode cX4_standingOf 11 = .ok (.getfield 246, 3) := by decide +kernel
theorem dX4_standingOf_14 : decode cX4_standingOf 14 = .ok (.iload_n 1, 1) := by decide +kernel
theorem dX4_standingOf_15 : decode cX4_standingOf 15 = .ok (.invokestatic 223, 3) := by decide +kernel
theorem dX4_standingOf_18 : decode cX4_standingOf 18 = .ok (.ifCond .eq 5, 3) := by decide +kernel
theorem dX4_standingOf_21 : decode cX4_standingOf 21 = .ok (.iconst 2, 1) := by decide +kernel
theorem dX4_standingOf_22 : decode cX4_standingOf 22 = .ok (.ireturn, 1) := by decide +kernel
theorem dX4_standingOf_23 : decode cX4_standingOf 23 = .ok (.aload_n 0, 1) := by decide +kernel
theorem dX4_standingOf_24 : decode cX4_standingOf 24 = .ok (.getfield 220, 3) := by decide +kernel
theorem dX4_standingOf_27 : decode cX4_standingOf 27 = .ok (.iload_n 1, 1) := by decide +kernel
theorem dX4_standingOf_28 : decode cX4_standingOf 28 = .ok (.invokestatic 223, 3) := by decide +kernel
theorem dX4_standingOf_31 : decode cX4_standingOf 31 = .ok (.ifCond .eq 7, 3) := by decide +kernel
theorem dX4_standingOf_34 : decode cX4_standingOf 34 = .ok (.iconst 1, 1) := by decide +kernel
theorem dX4_standingOf_35 : decode cX4_standingOf 35 = .ok (.goto 4, 3) := by decide +kernel
theorem dX4_standingOf_38 : decode cX4_standingOf 38 = .ok (.iconst 0, 1) := by decide +kernel
theorem dX4_standingOf_39 : decode cX4_standingOf 39 = .ok (.ireturn, 1) := by decide +kernel
set_option maxRecDepth 20000 in
theorem ggX4_fairJudgesOf_X2_isAgainst : GoodIn wsX4_fairJudgesOf wsX2_isAgainst := goodIn_r _ [7, 8, 28, 29, 30, 31, 32, 33, 34, 35, 36, 37, 38, 39, 40, 41, 42, 43] (by decide +kernel) (by decide +kernel)
set_option maxRecDepth 20000 in
theorem gX4_fairJudgesOf_X2_isAgainst : GoodIn wsX4_fairJudgesOf (wsV RX4 173 RX2 yX2_isAgainst wsX2_isAgainst) := goodIn_app (goodIn_of _ (by decide +kernel)) ggX4_fairJudgesOf_X2_isAgainst
theorem dX4_fairJudgesOf_0 : decode cX4_fairJudgesOf 0 = .ok (.iconst 0, 1) := by decide +kernel
theorem dX4_fairJudgesOf_1 : decode cX4_fairJudgesOf 1 = .ok (.istore_n 2, 1) := by decide +kernel
theorem dX4_fairJudgesOf_2 : decode cX4_fairJudgesOf 2 = .ok (.iconst 0, 1) := by decide +kernel
theorem dX4_fairJudgesOf_3 : decode cX4_fairJudgesOf 3 = .ok (.istore_n 3, 1) := by decide +kernel
theorem dX4_fairJudgesOf_4 : decode cX4_fairJudgesOf 4 = .ok (.iload_n 3, 1) := by decide +kernel
theorem dX4_fairJudgesOf_5 : decode cX4_fairJudgesOf 5 = .ok (.aload_n 0, 1) := by decide +kernel
theorem dX4_fairJudgesOf_6 : decode cX4_fairJudgesOf 6 = .ok (.getfield 102, 3) := by decide +kernel
theorem dX4_fairJudgesOf_9 : decode cX4_fairJudgesOf 9 = .ok (.if_icmp .ge 25, 3) := by decide +kernel
theorem dX4_fairJudgesOf_12 : decode cX4_fairJudgesOf 12 = .ok (.aload_n 0, 1) := by decide +kernel
theorem dX4_fairJudgesOf_13 : decode cX4_fairJudgesOf 13 = .ok (.getfield 23, 3) := by decide +kernel
theorem dX4_fairJudgesOf_16 : decode cX4_fairJudgesOf 16 = .ok (.iload_n 3, 1) := by decide +kernel
theorem dX4_fairJudgesOf_17 : decode cX4_fairJudgesOf 17 = .ok (.aaload, 1) := by decide +kernel
theorem dX4_fairJudgesOf_18 : decode cX4_fairJudgesOf 18 = .ok (.iload_n 1, 1) := by decide +kernel
theorem dX4_fairJudgesOf_19 : decode cX4_fairJudgesOf 19 = .ok (.invokevirtual 173, 3) := by decide +kernel
theorem dX4_fairJudgesOf_22 : decode cX4_fairJudgesOf 22 = .ok (.ifCond .ne 6, 3) := by decide +kernel
theorem dX4_fairJudgesOf_25 : decode cX4_fairJudgesOf 25 = .ok (.iinc 2 1, 3) := by decide +kernel
theorem dX4_fairJudgesOf_28 : decode cX4_fairJudgesOf 28 = .ok (.iinc 3 1, 3) := by decide +kernel
theorem dX4_fairJudgesOf_31 : decode cX4_fairJudgesOf 31 = .ok (.goto (-27), 3) := by decide +kernel
theorem dX4_fairJudgesOf_34 : decode cX4_fairJudgesOf 34 = .ok (.iload_n 2, 1) := by decide +kernel
theorem dX4_fairJudgesOf_35 : decode cX4_fairJudgesOf 35 = .ok (.ireturn, 1) := by decide +kernel
set_option maxRecDepth 20000 in
theorem ggX4_hasMarksEnough_X4_fairMarksOf : GoodIn wsX4_hasMarksEnough wsX4_fairMarksOf := goodIn_r _ [7, 8, 9, 10, 11, 6, 12, 13, 14, 1, 2, 15, 16, 17, 18, 19, 20, 25, 26, 27, 28, 29, 30, 31, 32, 33, 34, 35, 36, 37, 38, 39, 40, 41, 42, 43, 55, 56, 57, 58, 59, 60, 61, 62, 63, 64, 65, 66, 67, 68, 69, 70, 44, 45, 46, 47, 48, 49, 50, 51, 52, 53, 54] (by decide +kernel) (by decide +kernel)
set_option maxRecDepth 20000 in
theorem gX4_hasMarksEnough_X4_fairMarksOf : GoodIn wsX4_hasMarksEnough (wsV RX4 319 RX4 yX4_fairMarksOf wsX4_fairMarksOf) := goodIn_app (goodIn_of _ (by decide +kernel)) ggX4_hasMarksEnough_X4_fairMarksOf
set_option maxRecDepth 20000 in
theorem ggX4_hasMarksEnough_X4_fairJudgesOf : GoodIn wsX4_hasMarksEnough wsX4_fairJudgesOf := goodIn_r _ [24, 8, 13, 15, 16, 17, 18, 19, 20, 25, 26, 27, 28, 29, 30, 31, 32, 33, 34, 35, 36, 37, 38, 39, 40, 41, 42, 43, 55, 56, 57, 58, 59, 60, 61, 62, 63, 64, 65, 66, 67, 68, 69, 70] (by decide +kernel) (by decide +kernel)
set_option maxRecDepth 20000 in
theorem gX4_hasMarksEnough_X4_fairJudgesOf : GoodIn wsX4_hasMarksEnough (wsV RX4 446 RX4 yX4_fairJudgesOf wsX4_fairJudgesOf) := goodIn_app (goodIn_of _ (by decide +kernel)) ggX4_hasMarksEnough_X4_fairJudgesOf
theorem dX4_hasMarksEnough_0 : decode cX4_hasMarksEnough 0 = .ok (.aload_n 0, 1) := by decide +kernel
theorem dX4_hasMarksEnough_1 : decode cX4_hasMarksEnough 1 = .ok (.iload_n 1, 1) := by decide +kernel
theorem dX4_hasMarksEnough_2 : decode cX4_hasMarksEnough 2 = .ok (.invokevirtual 319, 3) := by decide +kernel
theorem dX4_hasMarksEnough_5 : decode cX4_hasMarksEnough 5 = .ok (.istore_n 2, 1) := by decide +kernel
theorem dX4_hasMarksEnough_6 : decode cX4_hasMarksEnough 6 = .ok (.iload_n 2, 1) := by decide +kernel
theorem dX4_hasMarksEnough_7 : decode cX4_hasMarksEnough 7 = .ok (.iconst 2, 1) := by decide +kernel
theorem dX4_hasMarksEnough_8 : decode cX4_hasMarksEnough 8 = .ok (.if_icmp .ge 25, 3) := by decide +kernel
theorem dX4_hasMarksEnough_11 : decode cX4_hasMarksEnough 11 = .ok (.iload_n 2, 1) := by decide +kernel
theorem dX4_hasMarksEnough_12 : decode cX4_hasMarksEnough 12 = .ok (.iconst 1, 1) := by decide +kernel
theorem dX4_hasMarksEnough_13 : decode cX4_hasMarksEnough 13 = .ok (.if_icmp .ne 24, 3) := by decide +kernel
theorem dX4_hasMarksEnough_16 : decode cX4_hasMarksEnough 16 = .ok (.aload_n 0, 1) := by decide +kernel
theorem dX4_hasMarksEnough_17 : decode cX4_hasMarksEnough 17 = .ok (.aload_n 0, 1) := by decide +kernel
theorem dX4_hasMarksEnough_18 : decode cX4_hasMarksEnough 18 = .ok (.getfield 17, 3) := by decide +kernel
theorem dX4_hasMarksEnough_21 : decode cX4_hasMarksEnough 21 = .ok (.iload_n 1, 1) := by decide +kernel
theorem dX4_hasMarksEnough_22 : decode cX4_hasMarksEnough 22 = .ok (.aaload, 1) := by decide +kernel
theorem dX4_hasMarksEnough_23 : decode cX4_hasMarksEnough 23 = .ok (.getfield 170, 3) := by decide +kernel
theorem dX4_hasMarksEnough_26 : decode cX4_hasMarksEnough 26 = .ok (.invokevirtual 446, 3) := by decide +kernel
theorem dX4_hasMarksEnough_29 : decode cX4_hasMarksEnough 29 = .ok (.iconst 1, 1) := by decide +kernel
theorem dX4_hasMarksEnough_30 : decode cX4_hasMarksEnough 30 = .ok (.if_icmp .ne 7, 3) := by decide +kernel
theorem dX4_hasMarksEnough_33 : decode cX4_hasMarksEnough 33 = .ok (.iconst 1, 1) := by decide +kernel
theorem dX4_hasMarksEnough_34 : decode cX4_hasMarksEnough 34 = .ok (.goto 4, 3) := by decide +kernel
theorem dX4_hasMarksEnough_37 : decode cX4_hasMarksEnough 37 = .ok (.iconst 0, 1) := by decide +kernel
theorem dX4_hasMarksEnough_38 : decode cX4_hasMarksEnough 38 = .ok (.ireturn, 1) := by decide +kernel
set_option maxRecDepth 20000 in
theorem ggX4_fillLongList_X4_longListable : GoodIn wsX4_fillLongList wsX4_longListable := goodIn_r _ [8, 9, 10, 11, 12, 7, 13, 2, 14, 15, 16, 17, 18, 19, 20, 21, 22, 23, 24, 25, 26, 27, 28, 29, 30, 31, 32, 33, 34, 35, 36, 37, 38, 39, 40, 41, 42, 43, 44, 93, 94, 95, 96, 97, 98, 99, 100, 101, 102, 103, 104, 105, 106, 107, 108, 109, 110, 111, 112, 113, 114, 115, 116, 117, 118, 119, 120, 121, 122, 123, 124, 125, 126, 127, 128, 129, 130, 131, 132, 133, 134, 135, 136, 137, 138] (by decide +kernel) (by decide +kernel)
set_option maxRecDepth 20000 in
theorem gX4_fillLongList_X4_longListable : GoodIn wsX4_fillLongList (wsV RX4 449 RX4 yX4_longListable wsX4_longListable) := goodIn_app (goodIn_of _ (by decide +kernel)) ggX4_fillLongList_X4_longListable
set_option maxRecDepth 20000 in
theorem ggX4_fillLongList_J6_bitCount_0f7a4 : GoodIn wsX4_fillLongList wsJ6_bitCount_0f7a4 := goodIn_r _ [48, 49, 50, 51] (by decide +kernel) (by decide +kernel)
set_option maxRecDepth 20000 in
theorem gX4_fillLongList_J6_bitCount_0f7a4 : GoodIn wsX4_fillLongList (va_wsS RX4 124 yJ6_bitCount_0f7a4 wsJ6_bitCount_0f7a4) := goodIn_app (goodIn_of _ (by decide +kernel)) ggX4_fillLongList_J6_bitCount_0f7a4
set_option maxRecDepth 20000 in
theorem ggX4_fillLongList_X4_bestOf : GoodIn wsX4_fillLongList wsX4_bestOf := goodIn_r _ [55, 9, 56, 57, 7, 58, 59, 60, 61, 62, 63, 64, 65, 66, 25, 30, 2, 20, 67, 32, 33, 34, 35, 36, 37, 68, 69, 47, 70, 71, 72, 73, 74, 75, 76, 77, 78, 31, 26, 27, 28, 29, 79, 80, 81, 82, 83, 84, 85, 86, 87, 88, 93, 94, 95, 96, 97, 98, 99, 100, 101, 102, 103, 104, 105, 106, 107, 108, 109, 110, 111, 112, 113, 114, 115, 116, 117, 118, 119, 120, 121, 122, 123, 124, 125, 126, 127, 128, 129, 130, 131, 132, 133, 134, 135, 136, 137, 138] (by decide +kernel) (by decide +kernel)
set_option maxRecDepth 20000 in
theorem gX4_fillLongList_X4_bestOf : GoodIn wsX4_fillLongList (wsV RX4 452 RX4 yX4_bestOf wsX4_bestOf) := goodIn_app (goodIn_of _ (by decide +kernel)) ggX4_fillLongList_X4_bestOf
set_option maxRecDepth 20000 in
theorem ggX4_fillLongList_X4_bit : GoodIn wsX4_fillLongList wsX4_bit := goodIn_r _ [44] (by decide +kernel) (by decide +kernel)
set_option maxRecDepth 20000 in
theorem gX4_fillLongList_X4_bit : GoodIn wsX4_fillLongList (va_wsS RX4 120 yX4_bit wsX4_bit) := goodIn_app (goodIn_of _ (by decide +kernel)) ggX4_fillLongList_X4_bit
set_option maxRecDepth 20000 in
theorem ggX4_fillLongList_X4_countOfHouse : GoodIn wsX4_fillLongList wsX4_countOfHouse := goodIn_r _ [92, 9, 2, 3, 56, 57, 7, 58, 93, 94, 95, 96, 97, 98, 99, 100, 101, 102, 103, 104, 105, 106, 107, 108, 109, 110, 111, 112, 113, 114, 115, 116, 117, 118, 119, 120, 121, 122] (by decide +kernel) (by decide +kernel)
set_option maxRecDepth 20000 in
theorem gX4_fillLongList_X4_countOfHouse : GoodIn wsX4_fillLongList (wsV RX4 299 RX4 yX4_countOfHouse wsX4_countOfHouse) := goodIn_app (goodIn_of _ (by decide +kernel)) ggX4_fillLongList_X4_countOfHouse
theorem dX4_fillLongList_0 : decode cX4_fillLongList 0 = .ok (.aload_n 0, 1) := by decide +kernel
theorem dX4_fillLongList_1 : decode cX4_fillLongList 1 = .ok (.invokevirtual 449, 3) := by decide +kernel
theorem dX4_fillLongList_4 : decode cX4_fillLongList 4 = .ok (.istore_n 2, 1) := by decide +kernel
theorem dX4_fillLongList_5 : decode cX4_fillLongList 5 = .ok (.iconst 0, 1) := by decide +kernel
theorem dX4_fillLongList_6 : decode cX4_fillLongList 6 = .ok (.istore_n 3, 1) := by decide +kernel
theorem dX4_fillLongList_7 : decode cX4_fillLongList 7 = .ok (.iload_n 3, 1) := by decide +kernel
theorem dX4_fillLongList_8 : decode cX4_fillLongList 8 = .ok (.bipush 16, 2) := by decide +kernel
theorem dX4_fillLongList_10 : decode cX4_fillLongList 10 = .ok (.if_icmp .ge 80, 3) := by decide +kernel
theorem dX4_fillLongList_13 : decode cX4_fillLongList 13 = .ok (.aload_n 0, 1) := by decide +kernel
theorem dX4_fillLongList_14 : decode cX4_fillLongList 14 = .ok (.getfield 220, 3) := by decide +kernel
theorem dX4_fillLongList_17 : decode cX4_fillLongList 17 = .ok (.invokestatic 124, 3) := by decide +kernel
theorem dX4_fillLongList_20 : decode cX4_fillLongList 20 = .ok (.iload_n 1, 1) := by decide +kernel
theorem dX4_fillLongList_21 : decode cX4_fillLongList 21 = .ok (.if_icmp .ge 69, 3) := by decide +kernel
theorem dX4_fillLongList_24 : decode cX4_fillLongList 24 = .ok (.aload_n 0, 1) := by decide +kernel
theorem dX4_fillLongList_25 : decode cX4_fillLongList 25 = .ok (.iload_n 2, 1) := by decide +kernel
theorem dX4_fillLongList_26 : decode cX4_fillLongList 26 = .ok (.invokevirtual 452, 3) := by decide +kernel
theorem dX4_fillLongList_29 : decode cX4_fillLongList 29 = .ok (.istore 4, 2) := by decide +kernel
theorem dX4_fillLongList_31 : decode cX4_fillLongList 31 = .ok (.iload 4, 2) := by decide +kernel
theorem dX4_fillLongList_33 : decode cX4_fillLongList 33 = .ok (.iconst (-1), 1) := by decide +kernel
theorem dX4_fillLongList_34 : decode cX4_fillLongList 34 = .ok (.if_icmp .ne 4, 3) := by decide +kernel
theorem dX4_fillLongList_37 : decode cX4_fillLongList 37 = .ok (.return_, 1) := by decide +kernel
theorem dX4_fillLongList_38 : decode cX4_fillLongList 38 = .ok (.iload_n 2, 1) := by decide +kernel
theorem dX4_fillLongList_39 : decode cX4_fillLongList 39 = .ok (.iload 4, 2) := by decide +kernel
theorem dX4_fillLongList_41 : decode cX4_fillLongList 41 = .ok (.invokestatic 120, 3) := by decide +kernel
theorem dX4_fillLongList_44 : decode cX4_fillLongList 44 = .ok (.iconst (-1), 1) := by decide +kernel
theorem dX4_fillLongList_45 : decode cX4_fillLongList 45 = .ok (.ixor, 1) := by decide +kernel
theorem dX4_fillLongList_46 : decode cX4_fillLongList 46 = .ok (.iand, 1) := by decide +kernel
theorem dX4_fillLongList_47 : decode cX4_fillLongList 47 = .ok (.istore_n 2, 1) := by decide +kernel
theorem dX4_fillLongList_48 : decode cX4_fillLongList 48 = .ok (.aload_n 0, 1) := by decide +kernel
theorem dX4_fillLongList_49 : decode cX4_fillLongList 49 = .ok (.aload_n 0, 1) := by decide +kernel
theorem dX4_fillLongList_50 : decode cX4_fillLongList 50 = .ok (.getfield 17, 3) := by decide +kernel
theorem dX4_fillLongList_53 : decode cX4_fillLongList 53 = .ok (.iload 4, 2) := by decide +kernel
theorem dX4_fillLongList_55 : decode cX4_fillLongList 55 = .ok (.aaload, 1) := by decide +kernel
theorem dX4_fillLongList_56 : decode cX4_fillLongList 56 = .ok (.getfield 151, 3) := by decide +kernel
theorem dX4_fillLongList_59 : decode cX4_fillLongList 59 = .ok (.aload_n 0, 1) := by decide +kernel
theorem dX4_fillLongList_60 : decode cX4_fillLongList 60 = .ok (.getfield 220, 3) := by decide +kernel
theorem dX4_fillLongList_63 : decode cX4_fillLongList 63 = .ok (.invokevirtual 299, 3) := by decide +kernel
theorem dX4_fillLongList_66 : decode cX4_fillLongList 66 = .ok (.iconst 2, 1) := by decide +kernel
theorem dX4_fillLongList_67 : decode cX4_fillLongList 67 = .ok (.if_icmp .ge 17, 3) := by decide +kernel
theorem dX4_fillLongList_70 : decode cX4_fillLongList 70 = .ok (.aload_n 0, 1) := by decide +kernel
theorem dX4_fillLongList_71 : decode cX4_fillLongList 71 = .ok (.dup, 1) := by decide +kernel
theorem dX4_fillLongList_72 : decode cX4_fillLongList 72 = .ok (.getfield 220, 3) := by decide +kernel
theorem dX4_fillLongList_75 : decode cX4_fillLongList 75 = .ok (.iload 4, 2) := by decide +kernel
theorem dX4_fillLongList_77 : decode cX4_fillLongList 77 = .ok (.invokestatic 120, 3) := by decide +kernel
theorem dX4_fillLongList_80 : decode cX4_fillLongList 80 = .ok (.ior, 1) := by decide +kernel
theorem dX4_fillLongList_81 : decode cX4_fillLongList 81 = .ok (.putfield 220, 3) := by decide +kernel
theorem dX4_fillLongList_84 : decode cX4_fillLongList 84 = .ok (.iinc 3 1, 3) := by decide +kernel
theorem dX4_fillLongList_87 : decode cX4_fillLongList 87 = .ok (.goto (-80), 3) := by decide +kernel
theorem dX4_fillLongList_90 : decode cX4_fillLongList 90 = .ok (.return_, 1) := by decide +kernel
set_option maxRecDepth 20000 in
theorem ggX4_longListable_X4_isEntered : GoodIn wsX4_longListable wsX4_isEntered := goodIn_r _ [6, 7, 8, 9, 39, 40, 41, 42, 43, 44, 45, 46, 47, 48, 49, 50, 51, 52, 53, 54, 55, 56, 57, 58, 59, 60, 61, 62, 63, 64, 65, 66, 67, 68] (by decide +kernel) (by decide +kernel)
set_option maxRecDepth 20000 in
theorem gX4_longListable_X4_isEntered : GoodIn wsX4_longListable (wsV RX4 143 RX4 yX4_isEntered wsX4_isEntered) := goodIn_app (goodIn_of _ (by decide +kernel)) ggX4_longListable_X4_isEntered
set_option maxRecDepth 20000 in
theorem ggX4_longListable_X4_hasMarksEnough : GoodIn wsX4_longListable wsX4_hasMarksEnough := goodIn_r _ [13, 7, 14, 15, 16, 17, 5, 18, 19, 20, 21, 22, 23, 24, 25, 26, 27, 28, 29, 30, 31, 32, 33, 34, 35, 39, 40, 41, 42, 43, 44, 45, 46, 47, 48, 49, 50, 51, 52, 53, 54, 55, 56, 57, 58, 59, 60, 61, 62, 63, 64, 65, 66, 67, 68, 69, 70, 71, 72, 73, 74, 75, 76, 77, 78, 79, 80, 81, 82, 83, 84] (by decide +kernel) (by decide +kernel)
set_option maxRecDepth 20000 in
theorem gX4_longListable_X4_hasMarksEnough : GoodIn wsX4_longListable (wsV RX4 455 RX4 yX4_hasMarksEnough wsX4_hasMarksEnough) := goodIn_app (goodIn_of _ (by decide +kernel)) ggX4_longListable_X4_hasMarksEnough
set_option maxRecDepth 20000 in
theorem ggX4_longListable_X4_bit : GoodIn wsX4_longListable wsX4_bit := goodIn_r _ [38] (by decide +kernel) (by decide +kernel)
set_option maxRecDepth 20000 in
theorem gX4_longListable_X4_bit : GoodIn wsX4_longListable (va_wsS RX4 120 yX4_bit wsX4_bit) := goodIn_app (goodIn_of _ (by decide +kernel)) ggX4_longListable_X4_bit
theorem dX4_longListable_0 : decode cX4_longListable 0 = .ok (.iconst 0, 1) := by decide +kernel
theorem dX4_longListable_1 : decode cX4_longListable 1 = .ok (.istore_n 1, 1) := by decide +kernel
theorem dX4_longListable_2 : decode cX4_longListable 2 = .ok (.iconst 0, 1) := by decide +kernel
theorem dX4_longListable_3 : decode cX4_longListable 3 = .ok (.istore_n 2, 1) := by decide +kernel
theorem dX4_longListable_4 : decode cX4_longListable 4 = .ok (.iload_n 2, 1) := by decide +kernel
theorem dX4_longListable_5 : decode cX4_longListable 5 = .ok (.aload_n 0, 1) := by decide +kernel
theorem dX4_longListable_6 : decode cX4_longListable 6 = .ok (.getfield 85, 3) := by decide +kernel
theorem dX4_longListable_9 : decode cX4_longListable 9 = .ok (.if_icmp .ge 32, 3) := by decide +kernel
theorem dX4_longListable_12 : decode cX4_longListable 12 = .ok (.aload_n 0, 1) := by decide +kernel
theorem dX4_longListable_13 : decode cX4_longListable 13 = .ok (.iload_n 2, 1) := by decide +kernel
theorem dX4_longListable_14 : decode cX4_longListable 14 = .ok (.invokevirtual 143, 3) := by decide +kernel
theorem dX4_longListable_17 : decode cX4_longListable 17 = .ok (.ifCond .eq 18, 3) := by decide +kernel
theorem dX4_longListable_20 : decode cX4_longListable 20 = .ok (.aload_n 0, 1) := by decide +kernel
theorem dX4_longListable_21 : decode cX4_longListable 21 = .ok (.iload_n 2, 1) := by decide +kernel
theorem dX4_longListable_22 : decode cX4_longListable 22 = .ok (.invokevirtual 455, 3) := by decide +kernel
theorem dX4_longListable_25 : decode cX4_longListable 25 = .ok (.ifCond .eq 10, 3) := by decide +kernel
theorem dX4_longListable_28 : decode cX4_longListable 28 = .ok (.iload_n 1, 1) := by decide +kernel
theorem dX4_longListable_29 : decode cX4_longListable 29 = .ok (.iload_n 2, 1) := by decide +kernel
theorem dX4_longListable_30 : decode cX4_longListable 30 = .ok (.invokestatic 120, 3) := by decide +kernel
theorem dX4_longListable_33 : decode cX4_longListable 33 = .ok (.ior, 1) := by decide +kernel
theorem dX4_longListable_34 : decode cX4_longListable 34 = .ok (.istore_n 1, 1) := by decide +kernel
theorem dX4_longListable_35 : decode cX4_longListable 35 = .ok (.iinc 2 1, 3) := by decide +kernel
theorem dX4_longListable_38 : decode cX4_longListable 38 = .ok (.goto (-34), 3) := by decide +kernel
theorem dX4_longListable_41 : decode cX4_longListable 41 = .ok (.iload_n 1, 1) := by decide +kernel
theorem dX4_longListable_42 : decode cX4_longListable 42 = .ok (.ireturn, 1) := by decide +kernel
set_option maxRecDepth 20000 in
theorem ggX4_fillShortList_X4_bestOf : GoodIn wsX4_fillShortList wsX4_bestOf := goodIn_r _ [7, 8, 9, 10, 6, 11, 12, 13, 14, 15, 16, 17, 18, 19, 20, 21, 22, 23, 24, 25, 26, 27, 28, 29, 30, 31, 32, 33, 34, 35, 36, 37, 38, 39, 40, 41, 42, 43, 44, 45, 46, 47, 48, 49, 50, 51, 52, 53, 54, 55, 56, 57, 61, 62, 63, 64, 65, 66, 67, 68, 69, 70, 71, 72, 73, 74, 75, 76, 77, 78, 79, 80, 81, 82, 83, 84, 85, 86, 87, 88, 89, 90, 91, 92, 93, 94, 95, 96, 97, 98, 99, 100, 101, 102, 103, 104, 105, 106] (by decide +kernel) (by decide +kernel)
set_option maxRecDepth 20000 in
theorem gX4_fillShortList_X4_bestOf : GoodIn wsX4_fillShortList (wsV RX4 452 RX4 yX4_bestOf wsX4_bestOf) := goodIn_app (goodIn_of _ (by decide +kernel)) ggX4_fillShortList_X4_bestOf
set_option maxRecDepth 20000 in
theorem ggX4_fillShortList_X4_bit : GoodIn wsX4_fillShortList wsX4_bit := goodIn_r _ [60] (by decide +kernel) (by decide +kernel)
set_option maxRecDepth 20000 in
theorem gX4_fillShortList_X4_bit : GoodIn wsX4_fillShortList (va_wsS RX4 120 yX4_bit wsX4_bit) := goodIn_app (goodIn_of _ (by decide +kernel)) ggX4_fillShortList_X4_bit
theorem dX4_fillShortList_0 : decode cX4_fillShortList 0 = .ok (.iconst 0, 1) := by decide +kernel
theorem dX4_fillShortList_1 : decode cX4_fillShortList 1 = .ok (.istore_n 2, 1) := by decide +kernel
theorem dX4_fillShortList_2 : decode cX4_fillShortList 2 = .ok (.iload_n 2, 1) := by decide +kernel
theorem dX4_fillShortList_3 : decode cX4_fillShortList 3 = .ok (.iload_n 1, 1) := by decide +kernel
theorem dX4_fillShortList_4 : decode cX4_fillShortList 4 = .ok (.if_icmp .ge 44, 3) := by decide +kernel
theorem dX4_fillShortList_7 : decode cX4_fillShortList 7 = .ok (.aload_n 0, 1) := by decide +kernel
theorem dX4_fillShortList_8 : decode cX4_fillShortList 8 = .ok (.aload_n 0, 1) := by decide +kernel
theorem dX4_fillShortList_9 : decode cX4_fillShortList 9 = .ok (.getfield 220, 3) := by decide +kernel
theorem dX4_fillShortList_12 : decode cX4_fillShortList 12 = .ok (.aload_n 0, 1) := by decide +kernel
theorem dX4_fillShortList_13 : decode cX4_fillShortList 13 = .ok (.getfield 246, 3) := by decide +kernel
theorem dX4_fillShortList_16 : decode cX4_fillShortList 16 = .ok (.iconst (-1), 1) := by decide +kernel
theorem dX4_fillShortList_17 : decode cX4_fillShortList 17 = .ok (.ixor, 1) := by decide +kernel
theorem dX4_fillShortList_18 : decode cX4_fillShortList 18 = .ok (.iand, 1) := by decide +kernel
theorem dX4_fillShortList_19 : decode cX4_fillShortList 19 = .ok (.invokevirtual 452, 3) := by decide +kernel
theorem dX4_fillShortList_22 : decode cX4_fillShortList 22 = .ok (.istore_n 3, 1) := by decide +kernel
theorem dX4_fillShortList_23 : decode cX4_fillShortList 23 = .ok (.iload_n 3, 1) := by decide +kernel
theorem dX4_fillShortList_24 : decode cX4_fillShortList 24 = .ok (.iconst (-1), 1) := by decide +kernel
theorem dX4_fillShortList_25 : decode cX4_fillShortList 25 = .ok (.if_icmp .ne 4, 3) := by decide +kernel
theorem dX4_fillShortList_28 : decode cX4_fillShortList 28 = .ok (.return_, 1) := by decide +kernel
theorem dX4_fillShortList_29 : decode cX4_fillShortList 29 = .ok (.aload_n 0, 1) := by decide +kernel
theorem dX4_fillShortList_30 : decode cX4_fillShortList 30 = .ok (.dup, 1) := by decide +kernel
theorem dX4_fillShortList_31 : decode cX4_fillShortList 31 = .ok (.getfield 246, 3) := by decide +kernel
theorem dX4_fillShortList_34 : decode cX4_fillShortList 34 = .ok (.iload_n 3, 1) := by decide +kernel
theorem dX4_fillShortList_35 : decode cX4_fillShortList 35 = .ok (.invokestatic 120, 3) := by decide +kernel
theorem dX4_fillShortList_38 : decode cX4_fillShortList 38 = .ok (.ior, 1) := by decide +kernel
theorem dX4_fillShortList_39 : decode cX4_fillShortList 39 = .ok (.putfield 246, 3) := by decide +kernel
theorem dX4_fillShortList_42 : decode cX4_fillShortList 42 = .ok (.iinc 2 1, 3) := by decide +kernel
theorem dX4_fillShortList_45 : decode cX4_fillShortList 45 = .ok (.goto (-43), 3) := by decide +kernel
theorem dX4_fillShortList_48 : decode cX4_fillShortList 48 = .ok (.return_, 1) := by decide +kernel
set_option maxRecDepth 20000 in
theorem ggX4_bestOf_X4_has : GoodIn wsX4_bestOf wsX4_has := goodIn_r _ [5] (by decide +kernel) (by decide +kernel)
set_option maxRecDepth 20000 in
theorem gX4_bestOf_X4_has : GoodIn wsX4_bestOf (va_wsS RX4 223 yX4_has wsX4_has) := goodIn_app (goodIn_of _ (by decide +kernel)) ggX4_bestOf_X4_has
set_option maxRecDepth 20000 in
theorem ggX4_bestOf_X4_isBetter : GoodIn wsX4_bestOf wsX4_isBetter := goodIn_r _ [9, 10, 11, 12, 4, 13, 14, 15, 16, 17, 18, 19, 20, 21, 22, 23, 24, 25, 26, 27, 28, 29, 30, 31, 32, 33, 34, 35, 36, 37, 38, 39, 40, 41, 42, 43, 44, 45, 46, 47, 48, 49, 50, 51, 52, 53, 54, 55, 56, 57, 58, 59, 60, 61, 62, 63, 64, 65, 66, 67, 68, 69, 70, 71, 72, 73, 74, 75, 76, 77, 78, 79, 80, 81, 82, 83, 84, 85, 86, 87, 88, 89, 90, 91, 92, 93, 94, 95, 96, 97] (by decide +kernel) (by decide +kernel)
set_option maxRecDepth 20000 in
theorem gX4_bestOf_X4_isBetter : GoodIn wsX4_bestOf (wsV RX4 458 RX4 yX4_isBetter wsX4_isBetter) := goodIn_app (goodIn_of _ (by decide +kernel)) ggX4_bestOf_X4_isBetter
theorem dX4_bestOf_0 : decode cX4_bestOf 0 = .ok (.iconst (-1), 1) := by decide +kernel
theorem dX4_bestOf_1 : decode cX4_bestOf 1 = .ok (.istore_n 2, 1) := by decide +kernel
theorem dX4_bestOf_2 : decode cX4_bestOf 2 = .ok (.iconst 0, 1) := by decide +kernel
theorem dX4_bestOf_3 : decode cX4_bestOf 3 = .ok (.istore_n 3, 1) := by decide +kernel
theorem dX4_bestOf_4 : decode cX4_bestOf 4 = .ok (.iload_n 3, 1) := by decide +kernel
theorem dX4_bestOf_5 : decode cX4_bestOf 5 = .ok (.aload_n 0, 1) := by decide +kernel
theorem dX4_bestOf_6 : decode cX4_bestOf 6 = .ok (.getfield 85, 3) := by decide +kernel
theorem dX4_bestOf_9 : decode cX4_bestOf 9 = .ok (.if_icmp .ge 33, 3) := by decide +kernel
theorem dX4_bestOf_12 : decode cX4_bestOf 12 = .ok (.iload_n 1, 1) := by decide +kernel
theorem dX4_bestOf_13 : decode cX4_bestOf 13 = .ok (.iload_n 3, 1) := by decide +kernel
theorem dX4_bestOf_14 : decode cX4_bestOf 14 = .ok (.invokestatic 223, 3) := by decide +kernel
theorem dX4_bestOf_17 : decode cX4_bestOf 17 = .ok (.ifCond .eq 19, 3) := by decide +kernel
theorem dX4_bestOf_20 : decode cX4_bestOf 20 = .ok (.iload_n 2, 1) := by decide +kernel
theorem dX4_bestOf_21 : decode cX4_bestOf 21 = .ok (.iconst (-1), 1) := by decide +kernel
theorem dX4_bestOf_22 : decode cX4_bestOf 22 = .ok (.if_icmp .eq 12, 3) := by decide +kernel
theorem dX4_bestOf_25 : decode cX4_bestOf 25 = .ok (.aload_n 0, 1) := by decide +kernel
theorem dX4_bestOf_26 : decode cX4_bestOf 26 = .ok (.iload_n 3, 1) := by decide +kernel
theorem dX4_bestOf_27 : decode cX4_bestOf 27 = .ok (.iload_n 2, 1) := by decide +kernel
theorem dX4_bestOf_28 : decode cX4_bestOf 28 = .ok (.invokevirtual 458, 3) := by decide +kernel
theorem dX4_bestOf_31 : decode cX4_bestOf 31 = .ok (.ifCond .eq 5, 3) := by decide +kernel
theorem dX4_bestOf_34 : decode cX4_bestOf 34 = .ok (.iload_n 3, 1) := by decide +kernel
theorem dX4_bestOf_35 : decode cX4_bestOf 35 = .ok (.istore_n 2, 1) := by decide +kernel
theorem dX4_bestOf_36 : decode cX4_bestOf 36 = .ok (.iinc 3 1, 3) := by decide +kernel
theorem dX4_bestOf_39 : decode cX4_bestOf 39 = .ok (.goto (-35), 3) := by decide +kernel
theorem dX4_bestOf_42 : decode cX4_bestOf 42 = .ok (.iload_n 2, 1) := by decide +kernel
theorem dX4_bestOf_43 : decode cX4_bestOf 43 = .ok (.ireturn, 1) := by decide +kernel
set_option maxRecDepth 20000 in
theorem ggX4_isBetter_X4_pointsOf : GoodIn wsX4_isBetter wsX4_pointsOf := goodIn_r _ [5, 6, 7, 8, 9, 10, 11, 12, 13, 14, 15, 16, 44, 45, 46, 47, 48, 49, 50, 51, 52, 53, 54, 55, 56, 57, 58, 59, 60, 61, 62, 63, 64, 65, 66, 67, 68, 69, 70, 71, 72, 73, 74, 75, 76, 77, 78, 79, 80, 81, 82, 83, 84, 85, 86, 87, 88, 89] (by decide +kernel) (by decide +kernel)
set_option maxRecDepth 20000 in
theorem gX4_isBetter_X4_pointsOf : GoodIn wsX4_isBetter (wsV RX4 322 RX4 yX4_pointsOf wsX4_pointsOf) := goodIn_app (goodIn_of _ (by decide +kernel)) ggX4_isBetter_X4_pointsOf
set_option maxRecDepth 20000 in
theorem ggX4_isBetter_J6_compare_7cf53 : GoodIn wsX4_isBetter wsJ6_compare_7cf53 := goodIn_r _ [20] (by decide +kernel) (by decide +kernel)
set_option maxRecDepth 20000 in
theorem gX4_isBetter_J6_compare_7cf53 : GoodIn wsX4_isBetter (va_wsS RX4 461 yJ6_compare_7cf53 wsJ6_compare_7cf53) := goodIn_app (goodIn_of _ (by decide +kernel)) ggX4_isBetter_J6_compare_7cf53
set_option maxRecDepth 20000 in
theorem ggX4_isBetter_X4_giversTo : GoodIn wsX4_isBetter wsX4_giversTo := goodIn_r _ [24, 6, 7, 10, 8, 9, 11, 12, 13, 14, 15, 16, 44, 45, 46, 47, 48, 49, 50, 51, 52, 53, 54, 55, 56, 57, 58, 59, 60, 61, 62, 74, 75, 76, 77, 78, 79, 80, 81, 82, 83, 84, 85, 86, 87, 88, 89, 63, 64, 65, 66, 67, 68, 69, 70, 71, 72, 73] (by decide +kernel) (by decide +kernel)
set_option maxRecDepth 20000 in
theorem gX4_isBetter_X4_giversTo : GoodIn wsX4_isBetter (wsV RX4 464 RX4 yX4_giversTo wsX4_giversTo) := goodIn_app (goodIn_of _ (by decide +kernel)) ggX4_isBetter_X4_giversTo
set_option maxRecDepth 20000 in
theorem ggX4_isBetter_X4_scoreOf : GoodIn wsX4_isBetter wsX4_scoreOf := goodIn_r _ [28, 6, 7, 29, 30, 31, 32, 4, 33, 8, 9, 11, 12, 13, 14, 15, 16, 34, 35, 36, 37, 38, 39, 40, 41, 42, 43, 44, 45, 46, 47, 48, 49, 50, 51, 52, 53, 54, 55, 56, 57, 58, 59, 60, 61, 62, 74, 75, 76, 77, 78, 79, 80, 81, 82, 83, 84, 85, 86, 87, 88, 89, 63, 64, 65, 66, 67, 68, 69, 70, 71, 72, 73] (by decide +kernel) (by decide +kernel)
set_option maxRecDepth 20000 in
theorem gX4_isBetter_X4_scoreOf : GoodIn wsX4_isBetter (wsV RX4 316 RX4 yX4_scoreOf wsX4_scoreOf) := goodIn_app (goodIn_of _ (by decide +kernel)) ggX4_isBetter_X4_scoreOf
theorem dX4_isBetter_0 : decode cX4_isBetter 0 = .ok (.aload_n 0, 1) := by decide +kernel
theorem dX4_isBetter_1 : decode cX4_isBetter 1 = .ok (.iload_n 1, 1) := by decide +kernel
theorem dX4_isBetter_2 : decode cX4_isBetter 2 = .ok (.invokevirtual 322, 3) := by decide +kernel
theorem dX4_isBetter_5 : decode cX4_isBetter 5 = .ok (.aload_n 0, 1) := by decide +kernel
theorem dX4_isBetter_6 : decode cX4_isBetter 6 = .ok (.iload_n 2, 1) := by decide +kernel
theorem dX4_isBetter_7 : decode cX4_isBetter 7 = .ok (.invokevirtual 322, 3) := by decide +kernel
theorem dX4_isBetter_10 : decode cX4_isBetter 10 = .ok (.invokestatic 461, 3) := by decide +kernel
theorem dX4_isBetter_13 : decode cX4_isBetter 13 = .ok (.istore_n 3, 1) := by decide +kernel
theorem dX4_isBetter_14 : decode cX4_isBetter 14 = .ok (.iload_n 3, 1) := by decide +kernel
theorem dX4_isBetter_15 : decode cX4_isBetter 15 = .ok (.ifCond .eq 13, 3) := by decide +kernel
theorem dX4_isBetter_18 : decode cX4_isBetter 18 = .ok (.iload_n 3, 1) := by decide +kernel
theorem dX4_isBetter_19 : decode cX4_isBetter 19 = .ok (.ifCond .le 7, 3) := by decide +kernel
theorem dX4_isBetter_22 : decode cX4_isBetter 22 = .ok (.iconst 1, 1) := by decide +kernel
theorem dX4_isBetter_23 : decode cX4_isBetter 23 = .ok (.goto 4, 3) := by decide +kernel
theorem dX4_isBetter_26 : decode cX4_isBetter 26 = .ok (.iconst 0, 1) := by decide +kernel
theorem dX4_isBetter_27 : decode cX4_isBetter 27 = .ok (.ireturn, 1) := by decide +kernel
theorem dX4_isBetter_28 : decode cX4_isBetter 28 = .ok (.aload_n 0, 1) := by decide +kernel
theorem dX4_isBetter_29 : decode cX4_isBetter 29 = .ok (.iload_n 1, 1) := by decide +kernel
theorem dX4_isBetter_30 : decode cX4_isBetter 30 = .ok (.invokevirtual 464, 3) := by decide +kernel
theorem dX4_isBetter_33 : decode cX4_isBetter 33 = .ok (.aload_n 0, 1) := by decide +kernel
theorem dX4_isBetter_34 : decode cX4_isBetter 34 = .ok (.iload_n 2, 1) := by decide +kernel
theorem dX4_isBetter_35 : decode cX4_isBetter 35 = .ok (.invokevirtual 464, 3) := by decide +kernel
theorem dX4_isBetter_38 : decode cX4_isBetter 38 = .ok (.invokestatic 461, 3) := by decide +kernel
theorem dX4_isBetter_41 : decode cX4_isBetter 41 = .ok (.istore 4, 2) := by decide +kernel
theorem dX4_isBetter_43 : decode cX4_isBetter 43 = .ok (.iload 4, 2) := by decide +kernel
theorem dX4_isBetter_45 : decode cX4_isBetter 45 = .ok (.ifCond .eq 14, 3) := by decide +kernel
theorem dX4_isBetter_48 : decode cX4_isBetter 48 = .ok (.iload 4, 2) := by decide +kernel
theorem dX4_isBetter_50 : decode cX4_isBetter 50 = .ok (.ifCond .le 7, 3) := by decide +kernel
theorem dX4_isBetter_53 : decode cX4_isBetter 53 = .ok (.iconst 1, 1) := by decide +kernel
theorem dX4_isBetter_54 : decode cX4_isBetter 54 = .ok (.goto 4, 3) := by decide +kernel
theorem dX4_isBetter_57 : decode cX4_isBetter 57 = .ok (.iconst 0, 1) := by decide +kernel
theorem dX4_isBetter_58 : decode cX4_isBetter 58 = .ok (.ireturn, 1) := by decide +kernel
theorem dX4_isBetter_59 : decode cX4_isBetter 59 = .ok (.aload_n 0, 1) := by decide +kernel
theorem dX4_isBetter_60 : decode cX4_isBetter 60 = .ok (.iload_n 1, 1) := by decide +kernel
theorem dX4_isBetter_61 : decode cX4_isBetter 61 = .ok (.invokevirtual 316, 3) := by decide +kernel
theorem dX4_isBetter_64 : decode cX4_isBetter 64 = .ok (.aload_n 0, 1) := by decide +kernel
theorem dX4_isBetter_65 : decode cX4_isBetter 65 = .ok (.iload_n 2, 1) := by decide +kernel
theorem dX4_isBetter_66 : decode cX4_isBetter 66 = .ok (.invokevirtual 316, 3) := by decide +kernel
theorem dX4_isBetter_69 : decode cX4_isBetter 69 = .ok (.if_icmp .le 7, 3) := by decide +kernel
theorem dX4_isBetter_72 : decode cX4_isBetter 72 = .ok (.iconst 1, 1) := by decide +kernel
theorem dX4_isBetter_73 : decode cX4_isBetter 73 = .ok (.goto 4, 3) := by decide +kernel
theorem dX4_isBetter_76 : decode cX4_isBetter 76 = .ok (.iconst 0, 1) := by decide +kernel
theorem dX4_isBetter_77 : decode cX4_isBetter 77 = .ok (.ireturn, 1) := by decide +kernel
set_option maxRecDepth 20000 in
theorem ggX4_isOrder_J6_bitCount_0f7a4 : GoodIn wsX4_isOrder wsJ6_bitCount_0f7a4 := goodIn_r _ [5, 6, 7, 8] (by decide +kernel) (by decide +kernel)
set_option maxRecDepth 20000 in
theorem gX4_isOrder_J6_bitCount_0f7a4 : GoodIn wsX4_isOrder (va_wsS RX4 124 yJ6_bitCount_0f7a4 wsJ6_bitCount_0f7a4) := goodIn_app (goodIn_of _ (by decide +kernel)) ggX4_isOrder_J6_bitCount_0f7a4
set_option maxRecDepth 20000 in
theorem ggX4_isOrder_X4_isWithin : GoodIn wsX4_isOrder wsX4_isWithin := goodIn_r _ [12] (by decide +kernel) (by decide +kernel)
set_option maxRecDepth 20000 in
theorem gX4_isOrder_X4_isWithin : GoodIn wsX4_isOrder (va_wsS RX4 76 yX4_isWithin wsX4_isWithin) := goodIn_app (goodIn_of _ (by decide +kernel)) ggX4_isOrder_X4_isWithin
set_option maxRecDepth 20000 in
theorem ggX4_isOrder_X4_has : GoodIn wsX4_isOrder wsX4_has := goodIn_r _ [15] (by decide +kernel) (by decide +kernel)
set_option maxRecDepth 20000 in
theorem gX4_isOrder_X4_has : GoodIn wsX4_isOrder (va_wsS RX4 223 yX4_has wsX4_has) := goodIn_app (goodIn_of _ (by decide +kernel)) ggX4_isOrder_X4_has
set_option maxRecDepth 20000 in
theorem ggX4_isOrder_X4_bit : GoodIn wsX4_isOrder wsX4_bit := goodIn_r _ [18] (by decide +kernel) (by decide +kernel)
set_option maxRecDepth 20000 in
theorem gX4_isOrder_X4_bit : GoodIn wsX4_isOrder (va_wsS RX4 120 yX4_bit wsX4_bit) := goodIn_app (goodIn_of _ (by decide +kernel)) ggX4_isOrder_X4_bit
theorem dX4_isOrder_0 : decode cX4_isOrder 0 = .ok (.aload_n 0, 1) := by decide +kernel
theorem dX4_isOrder_1 : decode cX4_isOrder 1 = .ok (.getfield 246, 3) := by decide +kernel
theorem dX4_isOrder_4 : decode cX4_isOrder 4 = .ok (.invokestatic 124, 3) := by decide +kernel
theorem dX4_isOrder_7 : decode cX4_isOrder 7 = .ok (.istore_n 2, 1) := by decide +kernel
theorem dX4_isOrder_8 : decode cX4_isOrder 8 = .ok (.iconst 0, 1) := by decide +kernel
theorem dX4_isOrder_9 : decode cX4_isOrder 9 = .ok (.istore_n 3, 1) := by decide +kernel
theorem dX4_isOrder_10 : decode cX4_isOrder 10 = .ok (.iload_n 1, 1) := by decide +kernel
theorem dX4_isOrder_11 : decode cX4_isOrder 11 = .ok (.istore 4, 2) := by decide +kernel
theorem dX4_isOrder_13 : decode cX4_isOrder 13 = .ok (.iconst 0, 1) := by decide +kernel
theorem dX4_isOrder_14 : decode cX4_isOrder 14 = .ok (.istore 5, 2) := by decide +kernel
theorem dX4_isOrder_16 : decode cX4_isOrder 16 = .ok (.iload 5, 2) := by decide +kernel
theorem dX4_isOrder_18 : decode cX4_isOrder 18 = .ok (.iload_n 2, 1) := by decide +kernel
theorem dX4_isOrder_19 : decode cX4_isOrder 19 = .ok (.if_icmp .ge 52, 3) := by decide +kernel
theorem dX4_isOrder_22 : decode cX4_isOrder 22 = .ok (.iload 4, 2) := by decide +kernel
theorem dX4_isOrder_24 : decode cX4_isOrder 24 = .ok (.bipush 10, 2) := by decide +kernel
theorem dX4_isOrder_26 : decode cX4_isOrder 26 = .ok (.irem, 1) := by decide +kernel
theorem dX4_isOrder_27 : decode cX4_isOrder 27 = .ok (.istore 6, 2) := by decide +kernel
theorem dX4_isOrder_29 : decode cX4_isOrder 29 = .ok (.iload 6, 2) := by decide +kernel
theorem dX4_isOrder_31 : decode cX4_isOrder 31 = .ok (.iconst 1, 1) := by decide +kernel
theorem dX4_isOrder_32 : decode cX4_isOrder 32 = .ok (.iload_n 2, 1) := by decide +kernel
theorem dX4_isOrder_33 : decode cX4_isOrder 33 = .ok (.invokestatic 76, 3) := by decide +kernel
theorem dX4_isOrder_36 : decode cX4_isOrder 36 = .ok (.ifCond .eq 12, 3) := by decide +kernel
theorem dX4_isOrder_39 : decode cX4_isOrder 39 = .ok (.iload_n 3, 1) := by decide +kernel
theorem dX4_isOrder_40 : decode cX4_isOrder 40 = .ok (.iload 6, 2) := by decide +kernel
theorem dX4_isOrder_42 : decode cX4_isOrder 42 = .ok (.invokestatic 223, 3) := by decide +kernel
theorem dX4_isOrder_45 : decode cX4_isOrder 45 = .ok (.ifCond .eq 5, 3) := by decide +kernel
theorem dX4_isOrder_48 : decode cX4_isOrder 48 = .ok (.iconst 0, 1) := by decide +kernel
theorem dX4_isOrder_49 : decode cX4_isOrder 49 = .ok (.ireturn, 1) := by decide +kernel
theorem dX4_isOrder_50 : decode cX4_isOrder 50 = .ok (.iload_n 3, 1) := by decide +kernel
theorem dX4_isOrder_51 : decode cX4_isOrder 51 = .ok (.iload 6, 2) := by decide +kernel
theorem dX4_isOrder_53 : decode cX4_isOrder 53 = .ok (.invokestatic 120, 3) := by decide +kernel
theorem dX4_isOrder_56 : decode cX4_isOrder 56 = .ok (.ior, 1) := by decide +kernel
theorem dX4_isOrder_57 : decode cX4_isOrder 57 = .ok (.istore_n 3, 1) := by decide +kernel
theorem dX4_isOrder_58 : decode cX4_isOrder 58 = .ok (.iload 4, 2) := by decide +kernel
theorem dX4_isOrder_60 : decode cX4_isOrder 60 = .ok (.bipush 10, 2) := by decide +kernel
theorem dX4_isOrder_62 : decode cX4_isOrder 62 = .ok (.idiv, 1) := by decide +kernel
theorem dX4_isOrder_63 : decode cX4_isOrder 63 = .ok (.istore 4, 2) := by decide +kernel
theorem dX4_isOrder_65 : decode cX4_isOrder 65 = .ok (.iinc 5 1, 3) := by decide +kernel
theorem dX4_isOrder_68 : decode cX4_isOrder 68 = .ok (.goto (-52), 3) := by decide +kernel
theorem dX4_isOrder_71 : decode cX4_isOrder 71 = .ok (.iload_n 2, 1) := by decide +kernel
theorem dX4_isOrder_72 : decode cX4_isOrder 72 = .ok (.ifCond .le 12, 3) := by decide +kernel
theorem dX4_isOrder_75 : decode cX4_isOrder 75 = .ok (.iload 4, 2) := by decide +kernel
theorem dX4_isOrder_77 : decode cX4_isOrder 77 = .ok (.ifCond .ne 7, 3) := by decide +kernel
theorem dX4_isOrder_80 : decode cX4_isOrder 80 = .ok (.iconst 1, 1) := by decide +kernel
theorem dX4_isOrder_81 : decode cX4_isOrder 81 = .ok (.goto 4, 3) := by decide +kernel
theorem dX4_isOrder_84 : decode cX4_isOrder 84 = .ok (.iconst 0, 1) := by decide +kernel
theorem dX4_isOrder_85 : decode cX4_isOrder 85 = .ok (.ireturn, 1) := by decide +kernel
set_option maxRecDepth 20000 in
theorem ggX4_takeOrder_J6_bitCount_0f7a4 : GoodIn wsX4_takeOrder wsJ6_bitCount_0f7a4 := goodIn_r _ [11, 12, 13, 14] (by decide +kernel) (by decide +kernel)
set_option maxRecDepth 20000 in
theorem gX4_takeOrder_J6_bitCount_0f7a4 : GoodIn wsX4_takeOrder (va_wsS RX4 124 yJ6_bitCount_0f7a4 wsJ6_bitCount_0f7a4) := goodIn_app (goodIn_of _ (by decide +kernel)) ggX4_takeOrder_J6_bitCount_0f7a4
set_option maxRecDepth 20000 in
theorem ggX4_takeOrder_X4_bookAtPlace : GoodIn wsX4_takeOrder wsX4_bookAtPlace := goodIn_r _ [19, 20, 1, 21, 22, 18, 23, 24, 25, 26, 27, 28, 29, 30, 31, 32, 33, 34, 35, 36, 37, 38, 39, 40, 41, 42] (by decide +kernel) (by decide +kernel)
set_option maxRecDepth 20000 in
theorem gX4_takeOrder_X4_bookAtPlace : GoodIn wsX4_takeOrder (wsV RX4 470 RX4 yX4_bookAtPlace wsX4_bookAtPlace) := goodIn_app (goodIn_of _ (by decide +kernel)) ggX4_takeOrder_X4_bookAtPlace
theorem dX4_takeOrder_0 : decode cX4_takeOrder 0 = .ok (.iconst 5, 1) := by decide +kernel
theorem dX4_takeOrder_1 : decode cX4_takeOrder 1 = .ok (.aload_n 0, 1) := by decide +kernel
theorem dX4_takeOrder_2 : decode cX4_takeOrder 2 = .ok (.getfield 246, 3) := by decide +kernel
theorem dX4_takeOrder_5 : decode cX4_takeOrder 5 = .ok (.invokestatic 124, 3) := by decide +kernel
theorem dX4_takeOrder_8 : decode cX4_takeOrder 8 = .ok (.invokestatic 190, 3) := by decide +kernel
theorem dX4_takeOrder_11 : decode cX4_takeOrder 11 = .ok (.istore_n 3, 1) := by decide +kernel
theorem dX4_takeOrder_12 : decode cX4_takeOrder 12 = .ok (.iload_n 2, 1) := by decide +kernel
theorem dX4_takeOrder_13 : decode cX4_takeOrder 13 = .ok (.istore 4, 2) := by decide +kernel
theorem dX4_takeOrder_15 : decode cX4_takeOrder 15 = .ok (.iload_n 3, 1) := by decide +kernel
theorem dX4_takeOrder_16 : decode cX4_takeOrder 16 = .ok (.iconst 1, 1) := by decide +kernel
theorem dX4_takeOrder_17 : decode cX4_takeOrder 17 = .ok (.isub, 1) := by decide +kernel
theorem dX4_takeOrder_18 : decode cX4_takeOrder 18 = .ok (.istore 5, 2) := by decide +kernel
theorem dX4_takeOrder_20 : decode cX4_takeOrder 20 = .ok (.iload 5, 2) := by decide +kernel
theorem dX4_takeOrder_22 : decode cX4_takeOrder 22 = .ok (.ifCond .lt 32, 3) := by decide +kernel
theorem dX4_takeOrder_25 : decode cX4_takeOrder 25 = .ok (.aload_n 1, 1) := by decide +kernel
theorem dX4_takeOrder_26 : decode cX4_takeOrder 26 = .ok (.getfield 467, 3) := by decide +kernel
theorem dX4_takeOrder_29 : decode cX4_takeOrder 29 = .ok (.iload 5, 2) := by decide +kernel
theorem dX4_takeOrder_31 : decode cX4_takeOrder 31 = .ok (.aload_n 0, 1) := by decide +kernel
theorem dX4_takeOrder_32 : decode cX4_takeOrder 32 = .ok (.iload 4, 2) := by decide +kernel
theorem dX4_takeOrder_34 : decode cX4_takeOrder 34 = .ok (.bipush 10, 2) := by decide +kernel
theorem dX4_takeOrder_36 : decode cX4_takeOrder 36 = .ok (.irem, 1) := by decide +kernel
theorem dX4_takeOrder_37 : decode cX4_takeOrder 37 = .ok (.invokevirtual 470, 3) := by decide +kernel
theorem dX4_takeOrder_40 : decode cX4_takeOrder 40 = .ok (.iastore, 1) := by decide +kernel
theorem dX4_takeOrder_41 : decode cX4_takeOrder 41 = .ok (.iload 4, 2) := by decide +kernel
theorem dX4_takeOrder_43 : decode cX4_takeOrder 43 = .ok (.bipush 10, 2) := by decide +kernel
theorem dX4_takeOrder_45 : decode cX4_takeOrder 45 = .ok (.idiv, 1) := by decide +kernel
theorem dX4_takeOrder_46 : decode cX4_takeOrder 46 = .ok (.istore 4, 2) := by decide +kernel
theorem dX4_takeOrder_48 : decode cX4_takeOrder 48 = .ok (.iinc 5 (-1), 3) := by decide +kernel
theorem dX4_takeOrder_51 : decode cX4_takeOrder 51 = .ok (.goto (-31), 3) := by decide +kernel
theorem dX4_takeOrder_54 : decode cX4_takeOrder 54 = .ok (.aload_n 1, 1) := by decide +kernel
theorem dX4_takeOrder_55 : decode cX4_takeOrder 55 = .ok (.iload_n 3, 1) := by decide +kernel
theorem dX4_takeOrder_56 : decode cX4_takeOrder 56 = .ok (.putfield 473, 3) := by decide +kernel
theorem dX4_takeOrder_59 : decode cX4_takeOrder 59 = .ok (.return_, 1) := by decide +kernel
set_option maxRecDepth 20000 in
theorem ggX4_bookAtPlace_X4_has : GoodIn wsX4_bookAtPlace wsX4_has := goodIn_r _ [6] (by decide +kernel) (by decide +kernel)
set_option maxRecDepth 20000 in
theorem gX4_bookAtPlace_X4_has : GoodIn wsX4_bookAtPlace (va_wsS RX4 223 yX4_has wsX4_has) := goodIn_app (goodIn_of _ (by decide +kernel)) ggX4_bookAtPlace_X4_has
theorem dX4_bookAtPlace_0 : decode cX4_bookAtPlace 0 = .ok (.iconst 0, 1) := by decide +kernel
theorem dX4_bookAtPlace_1 : decode cX4_bookAtPlace 1 = .ok (.istore_n 2, 1) := by decide +kernel
theorem dX4_bookAtPlace_2 : decode cX4_bookAtPlace 2 = .ok (.iconst 0, 1) := by decide +kernel
theorem dX4_bookAtPlace_3 : decode cX4_bookAtPlace 3 = .ok (.istore_n 3, 1) := by decide +kernel
theorem dX4_bookAtPlace_4 : decode cX4_bookAtPlace 4 = .ok (.iload_n 3, 1) := by decide +kernel
theorem dX4_bookAtPlace_5 : decode cX4_bookAtPlace 5 = .ok (.aload_n 0, 1) := by decide +kernel
theorem dX4_bookAtPlace_6 : decode cX4_bookAtPlace 6 = .ok (.getfield 85, 3) := by decide +kernel
theorem dX4_bookAtPlace_9 : decode cX4_bookAtPlace 9 = .ok (.if_icmp .ge 30, 3) := by decide +kernel
theorem dX4_bookAtPlace_12 : decode cX4_bookAtPlace 12 = .ok (.aload_n 0, 1) := by decide +kernel
theorem dX4_bookAtPlace_13 : decode cX4_bookAtPlace 13 = .ok (.getfield 246, 3) := by decide +kernel
theorem dX4_bookAtPlace_16 : decode cX4_bookAtPlace 16 = .ok (.iload_n 3, 1) := by decide +kernel
theorem dX4_bookAtPlace_17 : decode cX4_bookAtPlace 17 = .ok (.invokestatic 223, 3) := by decide +kernel
theorem dX4_bookAtPlace_20 : decode cX4_bookAtPlace 20 = .ok (.ifCond .eq 13, 3) := by decide +kernel
theorem dX4_bookAtPlace_23 : decode cX4_bookAtPlace 23 = .ok (.iinc 2 1, 3) := by decide +kernel
theorem dX4_bookAtPlace_26 : decode cX4_bookAtPlace 26 = .ok (.iload_n 2, 1) := by decide +kernel
theorem dX4_bookAtPlace_27 : decode cX4_bookAtPlace 27 = .ok (.iload_n 1, 1) := by decide +kernel
theorem dX4_bookAtPlace_28 : decode cX4_bookAtPlace 28 = .ok (.if_icmp .ne 5, 3) := by decide +kernel
theorem dX4_bookAtPlace_31 : decode cX4_bookAtPlace 31 = .ok (.iload_n 3, 1) := by decide +kernel
theorem dX4_bookAtPlace_32 : decode cX4_bookAtPlace 32 = .ok (.ireturn, 1) := by decide +kernel
theorem dX4_bookAtPlace_33 : decode cX4_bookAtPlace 33 = .ok (.iinc 3 1, 3) := by decide +kernel
theorem dX4_bookAtPlace_36 : decode cX4_bookAtPlace 36 = .ok (.goto (-32), 3) := by decide +kernel
theorem dX4_bookAtPlace_39 : decode cX4_bookAtPlace 39 = .ok (.iconst (-1), 1) := by decide +kernel
theorem dX4_bookAtPlace_40 : decode cX4_bookAtPlace 40 = .ok (.ireturn, 1) := by decide +kernel
set_option maxRecDepth 20000 in
theorem ggX4_orderCount_X2_hasOrder : GoodIn wsX4_orderCount wsX2_hasOrder := goodIn_r _ [7, 8, 28, 29, 30, 31, 32, 33, 34, 35, 36, 37, 38, 39, 40, 41, 42, 43] (by decide +kernel) (by decide +kernel)
set_option maxRecDepth 20000 in
theorem gX4_orderCount_X2_hasOrder : GoodIn wsX4_orderCount (wsV RX4 342 RX2 yX2_hasOrder wsX2_hasOrder) := goodIn_app (goodIn_of _ (by decide +kernel)) ggX4_orderCount_X2_hasOrder
theorem dX4_orderCount_0 : decode cX4_orderCount 0 = .ok (.iconst 0, 1) := by decide +kernel
theorem dX4_orderCount_1 : decode cX4_orderCount 1 = .ok (.istore_n 1, 1) := by decide +kernel
theorem dX4_orderCount_2 : decode cX4_orderCount 2 = .ok (.iconst 0, 1) := by decide +kernel
theorem dX4_orderCount_3 : decode cX4_orderCount 3 = .ok (.istore_n 2, 1) := by decide +kernel
theorem dX4_orderCount_4 : decode cX4_orderCount 4 = .ok (.iload_n 2, 1) := by decide +kernel
theorem dX4_orderCount_5 : decode cX4_orderCount 5 = .ok (.aload_n 0, 1) := by decide +kernel
theorem dX4_orderCount_6 : decode cX4_orderCount 6 = .ok (.getfield 102, 3) := by decide +kernel
theorem dX4_orderCount_9 : decode cX4_orderCount 9 = .ok (.if_icmp .ge 24, 3) := by decide +kernel
theorem dX4_orderCount_12 : decode cX4_orderCount 12 = .ok (.aload_n 0, 1) := by decide +kernel
theorem dX4_orderCount_13 : decode cX4_orderCount 13 = .ok (.getfield 23, 3) := by decide +kernel
theorem dX4_orderCount_16 : decode cX4_orderCount 16 = .ok (.iload_n 2, 1) := by decide +kernel
theorem dX4_orderCount_17 : decode cX4_orderCount 17 = .ok (.aaload, 1) := by decide +kernel
theorem dX4_orderCount_18 : decode cX4_orderCount 18 = .ok (.invokevirtual 342, 3) := by decide +kernel
theorem dX4_orderCount_21 : decode cX4_orderCount 21 = .ok (.ifCond .eq 6, 3) := by decide +kernel
theorem dX4_orderCount_24 : decode cX4_orderCount 24 = .ok (.iinc 1 1, 3) := by decide +kernel
theorem dX4_orderCount_27 : decode cX4_orderCount 27 = .ok (.iinc 2 1, 3) := by decide +kernel
theorem dX4_orderCount_30 : decode cX4_orderCount 30 = .ok (.goto (-26), 3) := by decide +kernel
theorem dX4_orderCount_33 : decode cX4_orderCount 33 = .ok (.iload_n 1, 1) := by decide +kernel
theorem dX4_orderCount_34 : decode cX4_orderCount 34 = .ok (.ireturn, 1) := by decide +kernel
set_option maxRecDepth 20000 in
theorem ggX4_openTo_X2_isAgainst : GoodIn wsX4_openTo wsX2_isAgainst := goodIn_r _ [8, 9, 44, 45, 46, 47, 48, 49, 50, 51, 52, 53, 54, 55, 56, 57, 58, 59] (by decide +kernel) (by decide +kernel)
set_option maxRecDepth 20000 in
theorem gX4_openTo_X2_isAgainst : GoodIn wsX4_openTo (wsV RX4 173 RX2 yX2_isAgainst wsX2_isAgainst) := goodIn_app (goodIn_of _ (by decide +kernel)) ggX4_openTo_X2_isAgainst
set_option maxRecDepth 20000 in
theorem ggX4_openTo_X4_bit : GoodIn wsX4_openTo wsX4_bit := goodIn_r _ [13] (by decide +kernel) (by decide +kernel)
set_option maxRecDepth 20000 in
theorem gX4_openTo_X4_bit : GoodIn wsX4_openTo (va_wsS RX4 120 yX4_bit wsX4_bit) := goodIn_app (goodIn_of _ (by decide +kernel)) ggX4_openTo_X4_bit
theorem dX4_openTo_0 : decode cX4_openTo 0 = .ok (.iconst 0, 1) := by decide +kernel
theorem dX4_openTo_1 : decode cX4_openTo 1 = .ok (.istore_n 2, 1) := by decide +kernel
theorem dX4_openTo_2 : decode cX4_openTo 2 = .ok (.iconst 0, 1) := by decide +kernel
theorem dX4_openTo_3 : decode cX4_openTo 3 = .ok (.istore_n 3, 1) := by decide +kernel
theorem dX4_openTo_4 : decode cX4_openTo 4 = .ok (.iload_n 3, 1) := by decide +kernel
theorem dX4_openTo_5 : decode cX4_openTo 5 = .ok (.aload_n 0, 1) := by decide +kernel
theorem dX4_openTo_6 : decode cX4_openTo 6 = .ok (.getfield 85, 3) := by decide +kernel
theorem dX4_openTo_9 : decode cX4_openTo 9 = .ok (.if_icmp .ge 32, 3) := by decide +kernel
theorem dX4_openTo_12 : decode cX4_openTo 12 = .ok (.aload_n 1, 1) := by decide +kernel
theorem dX4_openTo_13 : decode cX4_openTo 13 = .ok (.aload_n 0, 1) := by decide +kernel
theorem dX4_openTo_14 : decode cX4_openTo 14 = .ok (.getfield 17, 3) := by decide +kernel
theorem dX4_openTo_17 : decode cX4_openTo 17 = .ok (.iload_n 3, 1) := by decide +kernel
theorem dX4_openTo_18 : decode cX4_openTo 18 = .ok (.aaload, 1) := by decide +kernel
theorem dX4_openTo_19 : decode cX4_openTo 19 = .ok (.getfield 170, 3) := by decide +kernel
theorem dX4_openTo_22 : decode cX4_openTo 22 = .ok (.invokevirtual 173, 3) := by decide +kernel
theorem dX4_openTo_25 : decode cX4_openTo 25 = .ok (.ifCond .ne 10, 3) := by decide +kernel
theorem dX4_openTo_28 : decode cX4_openTo 28 = .ok (.iload_n 2, 1) := by decide +kernel
theorem dX4_openTo_29 : decode cX4_openTo 29 = .ok (.iload_n 3, 1) := by decide +kernel
theorem dX4_openTo_30 : decode cX4_openTo 30 = .ok (.invokestatic 120, 3) := by decide +kernel
theorem dX4_openTo_33 : decode cX4_openTo 33 = .ok (.ior, 1) := by decide +kernel
theorem dX4_openTo_34 : decode cX4_openTo 34 = .ok (.istore_n 2, 1) := by decide +kernel
theorem dX4_openTo_35 : decode cX4_openTo 35 = .ok (.iinc 3 1, 3) := by decide +kernel
theorem dX4_openTo_38 : decode cX4_openTo 38 = .ok (.goto (-34), 3) := by decide +kernel
