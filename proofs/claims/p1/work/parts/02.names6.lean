set_option maxRecDepth 20000 in
theorem ggX5_ofBook_X5_isBook : GoodIn wsX5_ofBook wsX5_isBook := goodIn_r _ [6, 7, 8, 9, 10, 11, 12, 13, 14, 15, 5, 16, 91, 92, 93, 94, 95, 96, 97, 98, 99, 100, 101, 102, 103, 104, 105, 106, 107, 108, 109, 110, 111, 112, 113] (by decide +kernel) (by decide +kernel)
set_option maxRecDepth 20000 in
theorem gX5_ofBook_X5_isBook : GoodIn wsX5_ofBook (wsV RX5 141 RX5 yX5_isBook wsX5_isBook) := goodIn_app (goodIn_of _ (by decide +kernel)) ggX5_ofBook_X5_isBook
set_option maxRecDepth 20000 in
theorem ggX5_ofBook_X5_refuse : GoodIn wsX5_ofBook wsX5_refuse := goodIn_r _ [20, 1, 91, 92, 93, 94, 95, 96, 97, 98, 99, 100, 101, 102, 103, 104, 105, 106, 107, 108, 109, 110] (by decide +kernel) (by decide +kernel)
set_option maxRecDepth 20000 in
theorem gX5_ofBook_X5_refuse : GoodIn wsX5_ofBook (wsV RX5 86 RX5 yX5_refuse wsX5_refuse) := goodIn_app (goodIn_of _ (by decide +kernel)) ggX5_ofBook_X5_refuse
theorem dX5_ofBook_0 : decode cX5_ofBook 0 = .ok (.aload_n 0, 1) := by decide +kernel
theorem dX5_ofBook_1 : decode cX5_ofBook 1 = .ok (.iconst 0, 1) := by decide +kernel
theorem dX5_ofBook_2 : decode cX5_ofBook 2 = .ok (.putfield 50, 3) := by decide +kernel
theorem dX5_ofBook_5 : decode cX5_ofBook 5 = .ok (.aload_n 0, 1) := by decide +kernel
theorem dX5_ofBook_6 : decode cX5_ofBook 6 = .ok (.iload_n 1, 1) := by decide +kernel
theorem dX5_ofBook_7 : decode cX5_ofBook 7 = .ok (.invokevirtual 141, 3) := by decide +kernel
theorem dX5_ofBook_10 : decode cX5_ofBook 10 = .ok (.ifCond .ne 9, 3) := by decide +kernel
theorem dX5_ofBook_13 : decode cX5_ofBook 13 = .ok (.aload_n 0, 1) := by decide +kernel
theorem dX5_ofBook_14 : decode cX5_ofBook 14 = .ok (.iconst 1, 1) := by decide +kernel
theorem dX5_ofBook_15 : decode cX5_ofBook 15 = .ok (.invokevirtual 86, 3) := by decide +kernel
theorem dX5_ofBook_18 : decode cX5_ofBook 18 = .ok (.ireturn, 1) := by decide +kernel
set_option maxRecDepth 20000 in
theorem ggX5_ofJudge_X5_isJudge : GoodIn wsX5_ofJudge wsX5_isJudge := goodIn_r _ [6, 7, 8, 9, 10, 11, 12, 13, 14, 15, 5, 16, 103, 104, 105, 106, 107, 108, 109, 110, 111, 112, 113, 114, 115, 116, 117, 118, 119, 120, 121, 122, 123, 124, 125] (by decide +kernel) (by decide +kernel)
set_option maxRecDepth 20000 in
theorem gX5_ofJudge_X5_isJudge : GoodIn wsX5_ofJudge (wsV RX5 104 RX5 yX5_isJudge wsX5_isJudge) := goodIn_app (goodIn_of _ (by decide +kernel)) ggX5_ofJudge_X5_isJudge
set_option maxRecDepth 20000 in
theorem ggX5_ofJudge_X5_refuse : GoodIn wsX5_ofJudge wsX5_refuse := goodIn_r _ [20, 1, 103, 104, 105, 106, 107, 108, 109, 110, 111, 112, 113, 114, 115, 116, 117, 118, 119, 120, 121, 122] (by decide +kernel) (by decide +kernel)
set_option maxRecDepth 20000 in
theorem gX5_ofJudge_X5_refuse : GoodIn wsX5_ofJudge (wsV RX5 86 RX5 yX5_refuse wsX5_refuse) := goodIn_app (goodIn_of _ (by decide +kernel)) ggX5_ofJudge_X5_refuse
theorem dX5_ofJudge_0 : decode cX5_ofJudge 0 = .ok (.aload_n 0, 1) := by decide +kernel
theorem dX5_ofJudge_1 : decode cX5_ofJudge 1 = .ok (.iconst 0, 1) := by decide +kernel
theorem dX5_ofJudge_2 : decode cX5_ofJudge 2 = .ok (.putfield 50, 3) := by decide +kernel
theorem dX5_ofJudge_5 : decode cX5_ofJudge 5 = .ok (.aload_n 0, 1) := by decide +kernel
theorem dX5_ofJudge_6 : decode cX5_ofJudge 6 = .ok (.iload_n 1, 1) := by decide +kernel
theorem dX5_ofJudge_7 : decode cX5_ofJudge 7 = .ok (.invokevirtual 104, 3) := by decide +kernel
theorem dX5_ofJudge_10 : decode cX5_ofJudge 10 = .ok (.ifCond .ne 9, 3) := by decide +kernel
theorem dX5_ofJudge_13 : decode cX5_ofJudge 13 = .ok (.aload_n 0, 1) := by decide +kernel
theorem dX5_ofJudge_14 : decode cX5_ofJudge 14 = .ok (.iconst 1, 1) := by decide +kernel
theorem dX5_ofJudge_15 : decode cX5_ofJudge 15 = .ok (.invokevirtual 86, 3) := by decide +kernel
theorem dX5_ofJudge_18 : decode cX5_ofJudge 18 = .ok (.ireturn, 1) := by decide +kernel
set_option maxRecDepth 20000 in
theorem ggX5_mark_X5_isJudge : GoodIn wsX5_mark wsX5_isJudge := goodIn_r _ [7, 8, 9, 10, 11, 12, 13, 14, 15, 16, 6, 17, 27, 28, 29, 30, 31, 32, 33, 34, 35, 36, 37, 38, 39, 40, 41, 42, 43, 44, 45, 46, 47, 48, 49] (by decide +kernel) (by decide +kernel)
set_option maxRecDepth 20000 in
theorem gX5_mark_X5_isJudge : GoodIn wsX5_mark (wsV RX5 104 RX5 yX5_isJudge wsX5_isJudge) := goodIn_app (goodIn_of _ (by decide +kernel)) ggX5_mark_X5_isJudge
set_option maxRecDepth 20000 in
theorem ggX5_mark_X5_refuse : GoodIn wsX5_mark wsX5_refuse := goodIn_r _ [26, 1, 27, 28, 29, 30, 31, 32, 33, 34, 35, 36, 37, 38, 39, 40, 41, 42, 43, 44, 45, 46] (by decide +kernel) (by decide +kernel)
set_option maxRecDepth 20000 in
theorem gX5_mark_X5_refuse : GoodIn wsX5_mark (wsV RX5 86 RX5 yX5_refuse wsX5_refuse) := goodIn_app (goodIn_of _ (by decide +kernel)) ggX5_mark_X5_refuse
theorem dX5_mark_0 : decode cX5_mark 0 = .ok (.aload_n 0, 1) := by decide +kernel
theorem dX5_mark_1 : decode cX5_mark 1 = .ok (.iconst 0, 1) := by decide +kernel
theorem dX5_mark_2 : decode cX5_mark 2 = .ok (.putfield 50, 3) := by decide +kernel
theorem dX5_mark_5 : decode cX5_mark 5 = .ok (.aload_n 0, 1) := by decide +kernel
theorem dX5_mark_6 : decode cX5_mark 6 = .ok (.iload_n 1, 1) := by decide +kernel
theorem dX5_mark_7 : decode cX5_mark 7 = .ok (.invokevirtual 104, 3) := by decide +kernel
theorem dX5_mark_10 : decode cX5_mark 10 = .ok (.ifCond .eq 22, 3) := by decide +kernel
theorem dX5_mark_32 : decode cX5_mark 32 = .ok (.aload_n 0, 1) := by decide +kernel
theorem dX5_mark_33 : decode cX5_mark 33 = .ok (.iconst 1, 1) := by decide +kernel
theorem dX5_mark_34 : decode cX5_mark 34 = .ok (.invokevirtual 86, 3) := by decide +kernel
theorem dX5_mark_37 : decode cX5_mark 37 = .ok (.ireturn, 1) := by decide +kernel
set_option maxRecDepth 20000 in
theorem ggX5_manyNow_Jx4a65c_iterator_32c93 : GoodIn wsX5_manyNow wsJx4a65c_iterator_32c93 := goodIn_r _ [19, 20, 21, 22, 23, 24, 25, 26, 27, 28, 29, 30, 31, 32, 33, 99, 100, 101, 102, 103, 104, 105] (by decide +kernel) (by decide +kernel)
set_option maxRecDepth 20000 in
theorem gX5_manyNow_Jx4a65c_iterator_32c93 : GoodIn wsX5_manyNow (wsV RX5 61 RJx4a65c yJx4a65c_iterator_32c93 wsJx4a65c_iterator_32c93) := goodIn_app (goodIn_of _ (by decide +kernel)) ggX5_manyNow_Jx4a65c_iterator_32c93
set_option maxRecDepth 20000 in
theorem ggX5_manyNow_Jx35411_hasNext_aae02 : GoodIn wsX5_manyNow wsJx35411_hasNext_aae02 := goodIn_r _ [37, 38, 26, 99, 100, 101, 102, 103, 104, 105] (by decide +kernel) (by decide +kernel)
set_option maxRecDepth 20000 in
theorem gX5_manyNow_Jx35411_hasNext_aae02_f65Jx35411 : GoodIn wsX5_manyNow (va_wsF RX5 65 RJx35411 ⟨"java/util/Iterator", "hasNext", "()Z"⟩ yJx35411_hasNext_aae02 wsJx35411_hasNext_aae02) := goodIn_app (goodIn_of _ (by decide +kernel)) ggX5_manyNow_Jx35411_hasNext_aae02
set_option maxRecDepth 20000 in
theorem ggX5_manyNow_Jx4a65c_size_8abf5 : GoodIn wsX5_manyNow wsJx4a65c_size_8abf5 := goodIn_r _ [51, 52, 103, 104, 105] (by decide +kernel) (by decide +kernel)
set_option maxRecDepth 20000 in
theorem gX5_manyNow_Jx4a65c_size_8abf5 : GoodIn wsX5_manyNow (wsV RX5 53 RJx4a65c yJx4a65c_size_8abf5 wsJx4a65c_size_8abf5) := goodIn_app (goodIn_of _ (by decide +kernel)) ggX5_manyNow_Jx4a65c_size_8abf5
set_option maxRecDepth 20000 in
theorem ggX5_manyNow_X5_entered : GoodIn wsX5_manyNow wsX5_entered := goodIn_r _ [57, 1, 48, 49, 50, 18, 51, 52, 58, 59, 60, 56, 61, 2, 4, 62, 63, 64, 65, 66, 67, 68, 69, 70, 71, 72, 73, 74, 75, 76, 77, 78, 79, 80, 81, 82, 83, 84, 85, 86, 87, 88, 89, 90, 91, 92, 93, 94, 95, 96, 97, 98, 103, 104, 105] (by decide +kernel) (by decide +kernel)
set_option maxRecDepth 20000 in
theorem gX5_manyNow_X5_entered : GoodIn wsX5_manyNow (wsV RX5 138 RX5 yX5_entered wsX5_entered) := goodIn_app (goodIn_of _ (by decide +kernel)) ggX5_manyNow_X5_entered
theorem dX5_manyNow_0 : decode cX5_manyNow 0 = .ok (.iconst 0, 1) := by decide +kernel
theorem dX5_manyNow_1 : decode cX5_manyNow 1 = .ok (.istore_n 2, 1) := by decide +kernel
theorem dX5_manyNow_2 : decode cX5_manyNow 2 = .ok (.iconst 0, 1) := by decide +kernel
theorem dX5_manyNow_3 : decode cX5_manyNow 3 = .ok (.istore_n 3, 1) := by decide +kernel
theorem dX5_manyNow_4 : decode cX5_manyNow 4 = .ok (.aload_n 0, 1) := by decide +kernel
theorem dX5_manyNow_5 : decode cX5_manyNow 5 = .ok (.getfield 16, 3) := by decide +kernel
theorem dX5_manyNow_8 : decode cX5_manyNow 8 = .ok (.invokevirtual 61, 3) := by decide +kernel
theorem dX5_manyNow_11 : decode cX5_manyNow 11 = .ok (.astore 4, 2) := by decide +kernel
theorem dX5_manyNow_13 : decode cX5_manyNow 13 = .ok (.aload 4, 2) := by decide +kernel
theorem dX5_manyNow_15 : decode cX5_manyNow 15 = .ok (.invokeinterface 65 1, 5) := by decide +kernel
theorem dX5_manyNow_20 : decode cX5_manyNow 20 = .ok (.ifCond .eq 34, 3) := by decide +kernel
theorem dX5_manyNow_54 : decode cX5_manyNow 54 = .ok (.bipush 15, 2) := by decide +kernel
theorem dX5_manyNow_56 : decode cX5_manyNow 56 = .ok (.newarray .int, 2) := by decide +kernel
theorem dX5_manyNow_58 : decode cX5_manyNow 58 = .ok (.dup, 1) := by decide +kernel
theorem dX5_manyNow_59 : decode cX5_manyNow 59 = .ok (.iconst 0, 1) := by decide +kernel
theorem dX5_manyNow_60 : decode cX5_manyNow 60 = .ok (.aload_n 0, 1) := by decide +kernel
theorem dX5_manyNow_61 : decode cX5_manyNow 61 = .ok (.getfield 98, 3) := by decide +kernel
theorem dX5_manyNow_64 : decode cX5_manyNow 64 = .ok (.iastore, 1) := by decide +kernel
theorem dX5_manyNow_65 : decode cX5_manyNow 65 = .ok (.dup, 1) := by decide +kernel
theorem dX5_manyNow_66 : decode cX5_manyNow 66 = .ok (.iconst 1, 1) := by decide +kernel
theorem dX5_manyNow_67 : decode cX5_manyNow 67 = .ok (.aload_n 0, 1) := by decide +kernel
theorem dX5_manyNow_68 : decode cX5_manyNow 68 = .ok (.getfield 101, 3) := by decide +kernel
theorem dX5_manyNow_71 : decode cX5_manyNow 71 = .ok (.iastore, 1) := by decide +kernel
theorem dX5_manyNow_72 : decode cX5_manyNow 72 = .ok (.dup, 1) := by decide +kernel
theorem dX5_manyNow_73 : decode cX5_manyNow 73 = .ok (.iconst 2, 1) := by decide +kernel
theorem dX5_manyNow_74 : decode cX5_manyNow 74 = .ok (.aload_n 0, 1) := by decide +kernel
theorem dX5_manyNow_75 : decode cX5_manyNow 75 = .ok (.getfield 182, 3) := by decide +kernel
theorem dX5_manyNow_78 : decode cX5_manyNow 78 = .ok (.iastore, 1) := by decide +kernel
theorem dX5_manyNow_79 : decode cX5_manyNow 79 = .ok (.dup, 1) := by decide +kernel
theorem dX5_manyNow_80 : decode cX5_manyNow 80 = .ok (.iconst 3, 1) := by decide +kernel
theorem dX5_manyNow_81 : decode cX5_manyNow 81 = .ok (.aload_n 0, 1) := by decide +kernel
theorem dX5_manyNow_82 : decode cX5_manyNow 82 = .ok (.getfield 10, 3) := by decide +kernel
theorem dX5_manyNow_85 : decode cX5_manyNow 85 = .ok (.invokevirtual 53, 3) := by decide +kernel
theorem dX5_manyNow_88 : decode cX5_manyNow 88 = .ok (.iastore, 1) := by decide +kernel
theorem dX5_manyNow_89 : decode cX5_manyNow 89 = .ok (.dup, 1) := by decide +kernel
theorem dX5_manyNow_90 : decode cX5_manyNow 90 = .ok (.iconst 4, 1) := by decide +kernel
theorem dX5_manyNow_91 : decode cX5_manyNow 91 = .ok (.aload_n 0, 1) := by decide +kernel
theorem dX5_manyNow_92 : decode cX5_manyNow 92 = .ok (.getfield 16, 3) := by decide +kernel
theorem dX5_manyNow_95 : decode cX5_manyNow 95 = .ok (.invokevirtual 53, 3) := by decide +kernel
theorem dX5_manyNow_98 : decode cX5_manyNow 98 = .ok (.iastore, 1) := by decide +kernel
theorem dX5_manyNow_99 : decode cX5_manyNow 99 = .ok (.dup, 1) := by decide +kernel
theorem dX5_manyNow_100 : decode cX5_manyNow 100 = .ok (.iconst 5, 1) := by decide +kernel
theorem dX5_manyNow_101 : decode cX5_manyNow 101 = .ok (.aload_n 0, 1) := by decide +kernel
theorem dX5_manyNow_102 : decode cX5_manyNow 102 = .ok (.getfield 19, 3) := by decide +kernel
theorem dX5_manyNow_105 : decode cX5_manyNow 105 = .ok (.invokevirtual 53, 3) := by decide +kernel
theorem dX5_manyNow_108 : decode cX5_manyNow 108 = .ok (.iastore, 1) := by decide +kernel
theorem dX5_manyNow_109 : decode cX5_manyNow 109 = .ok (.dup, 1) := by decide +kernel
theorem dX5_manyNow_110 : decode cX5_manyNow 110 = .ok (.bipush 6, 2) := by decide +kernel
theorem dX5_manyNow_112 : decode cX5_manyNow 112 = .ok (.aload_n 0, 1) := by decide +kernel
theorem dX5_manyNow_113 : decode cX5_manyNow 113 = .ok (.invokevirtual 138, 3) := by decide +kernel
theorem dX5_manyNow_116 : decode cX5_manyNow 116 = .ok (.iastore, 1) := by decide +kernel
theorem dX5_manyNow_117 : decode cX5_manyNow 117 = .ok (.dup, 1) := by decide +kernel
theorem dX5_manyNow_118 : decode cX5_manyNow 118 = .ok (.bipush 7, 2) := by decide +kernel
theorem dX5_manyNow_120 : decode cX5_manyNow 120 = .ok (.aload_n 0, 1) := by decide +kernel
theorem dX5_manyNow_121 : decode cX5_manyNow 121 = .ok (.getfield 77, 3) := by decide +kernel
theorem dX5_manyNow_124 : decode cX5_manyNow 124 = .ok (.iastore, 1) := by decide +kernel
theorem dX5_manyNow_125 : decode cX5_manyNow 125 = .ok (.dup, 1) := by decide +kernel
theorem dX5_manyNow_126 : decode cX5_manyNow 126 = .ok (.bipush 8, 2) := by decide +kernel
theorem dX5_manyNow_128 : decode cX5_manyNow 128 = .ok (.aload_n 0, 1) := by decide +kernel
theorem dX5_manyNow_129 : decode cX5_manyNow 129 = .ok (.getfield 80, 3) := by decide +kernel
theorem dX5_manyNow_132 : decode cX5_manyNow 132 = .ok (.iastore, 1) := by decide +kernel
theorem dX5_manyNow_133 : decode cX5_manyNow 133 = .ok (.dup, 1) := by decide +kernel
theorem dX5_manyNow_134 : decode cX5_manyNow 134 = .ok (.bipush 9, 2) := by decide +kernel
theorem dX5_manyNow_136 : decode cX5_manyNow 136 = .ok (.aload_n 0, 1) := by decide +kernel
theorem dX5_manyNow_137 : decode cX5_manyNow 137 = .ok (.getfield 40, 3) := by decide +kernel
theorem dX5_manyNow_140 : decode cX5_manyNow 140 = .ok (.iastore, 1) := by decide +kernel
theorem dX5_manyNow_141 : decode cX5_manyNow 141 = .ok (.dup, 1) := by decide +kernel
theorem dX5_manyNow_142 : decode cX5_manyNow 142 = .ok (.bipush 10, 2) := by decide +kernel
theorem dX5_manyNow_144 : decode cX5_manyNow 144 = .ok (.aload_n 0, 1) := by decide +kernel
theorem dX5_manyNow_145 : decode cX5_manyNow 145 = .ok (.getfield 44, 3) := by decide +kernel
theorem dX5_manyNow_148 : decode cX5_manyNow 148 = .ok (.iastore, 1) := by decide +kernel
theorem dX5_manyNow_149 : decode cX5_manyNow 149 = .ok (.dup, 1) := by decide +kernel
theorem dX5_manyNow_150 : decode cX5_manyNow 150 = .ok (.bipush 11, 2) := by decide +kernel
theorem dX5_manyNow_152 : decode cX5_manyNow 152 = .ok (.aload_n 0, 1) := by decide +kernel
theorem dX5_manyNow_153 : decode cX5_manyNow 153 = .ok (.getfield 247, 3) := by decide +kernel
theorem dX5_manyNow_156 : decode cX5_manyNow 156 = .ok (.iastore, 1) := by decide +kernel
theorem dX5_manyNow_157 : decode cX5_manyNow 157 = .ok (.dup, 1) := by decide +kernel
theorem dX5_manyNow_158 : decode cX5_manyNow 158 = .ok (.bipush 12, 2) := by decide +kernel
theorem dX5_manyNow_160 : decode cX5_manyNow 160 = .ok (.iload_n 2, 1) := by decide +kernel
theorem dX5_manyNow_161 : decode cX5_manyNow 161 = .ok (.iastore, 1) := by decide +kernel
theorem dX5_manyNow_162 : decode cX5_manyNow 162 = .ok (.dup, 1) := by decide +kernel
theorem dX5_manyNow_163 : decode cX5_manyNow 163 = .ok (.bipush 13, 2) := by decide +kernel
theorem dX5_manyNow_165 : decode cX5_manyNow 165 = .ok (.iload_n 3, 1) := by decide +kernel
theorem dX5_manyNow_166 : decode cX5_manyNow 166 = .ok (.iastore, 1) := by decide +kernel
theorem dX5_manyNow_167 : decode cX5_manyNow 167 = .ok (.dup, 1) := by decide +kernel
theorem dX5_manyNow_168 : decode cX5_manyNow 168 = .ok (.bipush 14, 2) := by decide +kernel
theorem dX5_manyNow_170 : decode cX5_manyNow 170 = .ok (.aload_n 0, 1) := by decide +kernel
theorem dX5_manyNow_171 : decode cX5_manyNow 171 = .ok (.getfield 22, 3) := by decide +kernel
theorem dX5_manyNow_174 : decode cX5_manyNow 174 = .ok (.iconst 3, 1) := by decide +kernel
theorem dX5_manyNow_175 : decode cX5_manyNow 175 = .ok (.iaload, 1) := by decide +kernel
theorem dX5_manyNow_176 : decode cX5_manyNow 176 = .ok (.iastore, 1) := by decide +kernel
theorem dX5_manyNow_177 : decode cX5_manyNow 177 = .ok (.astore 4, 2) := by decide +kernel
theorem dX5_manyNow_179 : decode cX5_manyNow 179 = .ok (.aload 4, 2) := by decide +kernel
theorem dX5_manyNow_181 : decode cX5_manyNow 181 = .ok (.iload_n 1, 1) := by decide +kernel
theorem dX5_manyNow_182 : decode cX5_manyNow 182 = .ok (.iaload, 1) := by decide +kernel
theorem dX5_manyNow_183 : decode cX5_manyNow 183 = .ok (.ireturn, 1) := by decide +kernel
set_option maxRecDepth 20000 in
theorem ggX5_many_X5_is : GoodIn wsX5_many wsX5_is := goodIn_r _ [5] (by decide +kernel) (by decide +kernel)
set_option maxRecDepth 20000 in
theorem gX5_many_X5_is : GoodIn wsX5_many (va_wsS RX5 57 yX5_is wsX5_is) := goodIn_app (goodIn_of _ (by decide +kernel)) ggX5_many_X5_is
set_option maxRecDepth 20000 in
theorem ggX5_many_X5_manyNow : GoodIn wsX5_many wsX5_manyNow := goodIn_r _ [9, 10, 11, 12, 13, 14, 15, 16, 17, 18, 19, 20, 21, 22, 23, 24, 25, 26, 27, 28, 29, 30, 31, 32, 33, 34, 35, 36, 37, 38, 39, 40, 41, 42, 43, 44, 45, 46, 47, 48, 49, 50, 51, 52, 53, 54, 55, 56, 57, 58, 59, 60, 61, 62, 63, 64, 4, 65, 66, 67, 68, 69, 70, 71, 72, 73, 74, 75, 76, 77, 78, 79, 80, 81, 82, 83, 84, 85, 86, 91, 92, 93, 94, 95, 96, 97, 98, 99, 100, 101, 102, 103, 104, 105, 106, 107, 108, 109, 110, 111, 112, 113, 114, 115, 116, 117] (by decide +kernel) (by decide +kernel)
set_option maxRecDepth 20000 in
theorem gX5_many_X5_manyNow : GoodIn wsX5_many (wsV RX5 259 RX5 yX5_manyNow wsX5_manyNow) := goodIn_app (goodIn_of _ (by decide +kernel)) ggX5_many_X5_manyNow
set_option maxRecDepth 20000 in
theorem ggX5_many_X5_refuse : GoodIn wsX5_many wsX5_refuse := goodIn_r _ [90, 1, 91, 92, 93, 94, 95, 96, 97, 98, 99, 100, 101, 102, 103, 104, 105, 106, 107, 108, 109, 110] (by decide +kernel) (by decide +kernel)
set_option maxRecDepth 20000 in
theorem gX5_many_X5_refuse : GoodIn wsX5_many (wsV RX5 86 RX5 yX5_refuse wsX5_refuse) := goodIn_app (goodIn_of _ (by decide +kernel)) ggX5_many_X5_refuse
theorem dX5_many_0 : decode cX5_many 0 = .ok (.aload_n 0, 1) := by decide +kernel
theorem dX5_many_1 : decode cX5_many 1 = .ok (.iconst 0, 1) := by decide +kernel
theorem dX5_many_2 : decode cX5_many 2 = .ok (.putfield 50, 3) := by decide +kernel
theorem dX5_many_5 : decode cX5_many 5 = .ok (.iload_n 1, 1) := by decide +kernel
theorem dX5_many_6 : decode cX5_many 6 = .ok (.iconst 0, 1) := by decide +kernel
theorem dX5_many_7 : decode cX5_many 7 = .ok (.bipush 14, 2) := by decide +kernel
theorem dX5_many_9 : decode cX5_many 9 = .ok (.invokestatic 57, 3) := by decide +kernel
theorem dX5_many_12 : decode cX5_many 12 = .ok (.ifCond .eq 11, 3) := by decide +kernel
theorem dX5_many_15 : decode cX5_many 15 = .ok (.aload_n 0, 1) := by decide +kernel
theorem dX5_many_16 : decode cX5_many 16 = .ok (.iload_n 1, 1) := by decide +kernel
theorem dX5_many_17 : decode cX5_many 17 = .ok (.invokevirtual 259, 3) := by decide +kernel
theorem dX5_many_20 : decode cX5_many 20 = .ok (.goto 8, 3) := by decide +kernel
theorem dX5_many_23 : decode cX5_many 23 = .ok (.aload_n 0, 1) := by decide +kernel
theorem dX5_many_24 : decode cX5_many 24 = .ok (.iconst 1, 1) := by decide +kernel
theorem dX5_many_25 : decode cX5_many 25 = .ok (.invokevirtual 86, 3) := by decide +kernel
theorem dX5_many_28 : decode cX5_many 28 = .ok (.ireturn, 1) := by decide +kernel
theorem dX5_meanMark_0 : decode cX5_meanMark 0 = .ok (.aload_n 0, 1) := by decide +kernel
theorem dX5_meanMark_1 : decode cX5_meanMark 1 = .ok (.iconst 0, 1) := by decide +kernel
theorem dX5_meanMark_2 : decode cX5_meanMark 2 = .ok (.putfield 50, 3) := by decide +kernel
theorem dX5_meanMark_5 : decode cX5_meanMark 5 = .ok (.iconst 0, 1) := by decide +kernel
theorem dX5_meanMark_6 : decode cX5_meanMark 6 = .ok (.istore_n 1, 1) := by decide +kernel
theorem dX5_meanMark_7 : decode cX5_meanMark 7 = .ok (.iconst 0, 1) := by decide +kernel
theorem dX5_meanMark_8 : decode cX5_meanMark 8 = .ok (.istore_n 2, 1) := by decide +kernel
theorem dX5_meanMark_9 : decode cX5_meanMark 9 = .ok (.aload_n 0, 1) := by decide +kernel
theorem dX5_meanMark_10 : decode cX5_meanMark 10 = .ok (.getfield 34, 3) := by decide +kernel
theorem dX5_meanMark_13 : decode cX5_meanMark 13 = .ok (.astore_n 3, 1) := by decide +kernel
theorem dX5_meanMark_14 : decode cX5_meanMark 14 = .ok (.aload_n 3, 1) := by decide +kernel
theorem dX5_meanMark_15 : decode cX5_meanMark 15 = .ok (.arraylength, 1) := by decide +kernel
theorem dX5_meanMark_16 : decode cX5_meanMark 16 = .ok (.istore 4, 2) := by decide +kernel
theorem dX5_meanMark_18 : decode cX5_meanMark 18 = .ok (.iconst 0, 1) := by decide +kernel
theorem dX5_meanMark_19 : decode cX5_meanMark 19 = .ok (.istore 5, 2) := by decide +kernel
theorem dX5_meanMark_21 : decode cX5_meanMark 21 = .ok (.iload 5, 2) := by decide +kernel
theorem dX5_meanMark_23 : decode cX5_meanMark 23 = .ok (.iload 4, 2) := by decide +kernel
theorem dX5_meanMark_25 : decode cX5_meanMark 25 = .ok (.if_icmp .ge 70, 3) := by decide +kernel
theorem dX5_meanMark_28 : decode cX5_meanMark 28 = .ok (.aload_n 3, 1) := by decide +kernel
theorem dX5_meanMark_29 : decode cX5_meanMark 29 = .ok (.iload 5, 2) := by decide +kernel
theorem dX5_meanMark_31 : decode cX5_meanMark 31 = .ok (.aaload, 1) := by decide +kernel
theorem dX5_meanMark_32 : decode cX5_meanMark 32 = .ok (.astore 6, 2) := by decide +kernel
theorem dX5_meanMark_34 : decode cX5_meanMark 34 = .ok (.aload 6, 2) := by decide +kernel
theorem dX5_meanMark_36 : decode cX5_meanMark 36 = .ok (.astore 7, 2) := by decide +kernel
theorem dX5_meanMark_38 : decode cX5_meanMark 38 = .ok (.aload 7, 2) := by decide +kernel
theorem dX5_meanMark_40 : decode cX5_meanMark 40 = .ok (.arraylength, 1) := by decide +kernel
theorem dX5_meanMark_41 : decode cX5_meanMark 41 = .ok (.istore 8, 2) := by decide +kernel
theorem dX5_meanMark_43 : decode cX5_meanMark 43 = .ok (.iconst 0, 1) := by decide +kernel
theorem dX5_meanMark_44 : decode cX5_meanMark 44 = .ok (.istore 9, 2) := by decide +kernel
theorem dX5_meanMark_46 : decode cX5_meanMark 46 = .ok (.iload 9, 2) := by decide +kernel
theorem dX5_meanMark_48 : decode cX5_meanMark 48 = .ok (.iload 8, 2) := by decide +kernel
theorem dX5_meanMark_50 : decode cX5_meanMark 50 = .ok (.if_icmp .ge 39, 3) := by decide +kernel
theorem dX5_meanMark_53 : decode cX5_meanMark 53 = .ok (.aload 7, 2) := by decide +kernel
theorem dX5_meanMark_55 : decode cX5_meanMark 55 = .ok (.iload 9, 2) := by decide +kernel
theorem dX5_meanMark_57 : decode cX5_meanMark 57 = .ok (.iaload, 1) := by decide +kernel
theorem dX5_meanMark_58 : decode cX5_meanMark 58 = .ok (.istore 10, 2) := by decide +kernel
theorem dX5_meanMark_60 : decode cX5_meanMark 60 = .ok (.iload_n 1, 1) := by decide +kernel
theorem dX5_meanMark_61 : decode cX5_meanMark 61 = .ok (.iconst 0, 1) := by decide +kernel
theorem dX5_meanMark_62 : decode cX5_meanMark 62 = .ok (.iload 10, 2) := by decide +kernel
theorem dX5_meanMark_64 : decode cX5_meanMark 64 = .ok (.invokestatic 167, 3) := by decide +kernel
theorem dX5_meanMark_67 : decode cX5_meanMark 67 = .ok (.iadd, 1) := by decide +kernel
theorem dX5_meanMark_68 : decode cX5_meanMark 68 = .ok (.istore_n 1, 1) := by decide +kernel
theorem dX5_meanMark_69 : decode cX5_meanMark 69 = .ok (.iload_n 2, 1) := by decide +kernel
theorem dX5_meanMark_70 : decode cX5_meanMark 70 = .ok (.iload 10, 2) := by decide +kernel
theorem dX5_meanMark_72 : decode cX5_meanMark 72 = .ok (.iconst (-1), 1) := by decide +kernel
theorem dX5_meanMark_73 : decode cX5_meanMark 73 = .ok (.if_icmp .ne 7, 3) := by decide +kernel
theorem dX5_meanMark_76 : decode cX5_meanMark 76 = .ok (.iconst 0, 1) := by decide +kernel
theorem dX5_meanMark_77 : decode cX5_meanMark 77 = .ok (.goto 4, 3) := by decide +kernel
theorem dX5_meanMark_81 : decode cX5_meanMark 81 = .ok (.iadd, 1) := by decide +kernel
theorem dX5_meanMark_82 : decode cX5_meanMark 82 = .ok (.istore_n 2, 1) := by decide +kernel
theorem dX5_meanMark_83 : decode cX5_meanMark 83 = .ok (.iinc 9 1, 3) := by decide +kernel
theorem dX5_meanMark_86 : decode cX5_meanMark 86 = .ok (.goto (-40), 3) := by decide +kernel
theorem dX5_meanMark_89 : decode cX5_meanMark 89 = .ok (.iinc 5 1, 3) := by decide +kernel
theorem dX5_meanMark_92 : decode cX5_meanMark 92 = .ok (.goto (-71), 3) := by decide +kernel
theorem dX5_meanMark_95 : decode cX5_meanMark 95 = .ok (.iload_n 2, 1) := by decide +kernel
theorem dX5_meanMark_96 : decode cX5_meanMark 96 = .ok (.ifCond .ne 7, 3) := by decide +kernel
theorem dX5_meanMark_99 : decode cX5_meanMark 99 = .ok (.dconst 0, 1) := by decide +kernel
theorem dX5_meanMark_100 : decode cX5_meanMark 100 = .ok (.goto 8, 3) := by decide +kernel
theorem dX5_meanMark_108 : decode cX5_meanMark 108 = .ok (.dreturn, 1) := by decide +kernel
theorem dX5_winsNow_0 : decode cX5_winsNow 0 = .ok (.aload_n 0, 1) := by decide +kernel
theorem dX5_winsNow_1 : decode cX5_winsNow 1 = .ok (.getfield 101, 3) := by decide +kernel
theorem dX5_winsNow_4 : decode cX5_winsNow 4 = .ok (.iconst 3, 1) := by decide +kernel
theorem dX5_winsNow_5 : decode cX5_winsNow 5 = .ok (.if_icmp .ge 7, 3) := by decide +kernel
theorem dX5_winsNow_8 : decode cX5_winsNow 8 = .ok (.iconst (-1), 1) := by decide +kernel
theorem dX5_winsNow_9 : decode cX5_winsNow 9 = .ok (.goto 23, 3) := by decide +kernel
theorem dX5_winsNow_32 : decode cX5_winsNow 32 = .ok (.ireturn, 1) := by decide +kernel
set_option maxRecDepth 20000 in
theorem ggX5_wins_X5_is : GoodIn wsX5_wins wsX5_is := goodIn_r _ [5] (by decide +kernel) (by decide +kernel)
set_option maxRecDepth 20000 in
theorem gX5_wins_X5_is : GoodIn wsX5_wins (va_wsS RX5 57 yX5_is wsX5_is) := goodIn_app (goodIn_of _ (by decide +kernel)) ggX5_wins_X5_is
set_option maxRecDepth 20000 in
theorem ggX5_wins_X5_winsNow : GoodIn wsX5_wins wsX5_winsNow := goodIn_r _ [9, 10, 11, 12, 13, 14, 15, 4, 16, 17, 18, 19, 20, 21, 22, 23, 24, 25, 26, 27, 28, 29, 30, 31, 32, 33, 34, 35, 36, 37, 38, 39, 40, 41, 42, 43, 44, 45, 46, 47, 48, 49, 50, 51, 52, 53, 54, 55, 56, 57, 58, 59, 60, 61, 62, 63, 64, 65, 66, 67, 68, 69, 70, 71, 72, 73, 74, 75, 76, 77, 78, 79, 80, 81, 82, 83, 84, 85, 86, 87, 88, 89, 90, 91, 96, 97, 98, 99, 100, 101, 102, 103, 104, 105, 106, 107, 108, 109, 110, 111, 112, 113, 114, 115, 116, 117, 118] (by decide +kernel) (by decide +kernel)
set_option maxRecDepth 20000 in
theorem gX5_wins_X5_winsNow : GoodIn wsX5_wins (wsV RX5 262 RX5 yX5_winsNow wsX5_winsNow) := goodIn_app (goodIn_of _ (by decide +kernel)) ggX5_wins_X5_winsNow
set_option maxRecDepth 20000 in
theorem ggX5_wins_X5_refuse : GoodIn wsX5_wins wsX5_refuse := goodIn_r _ [95, 1, 96, 97, 98, 99, 100, 101, 102, 103, 104, 105, 106, 107, 108, 109, 110, 111, 112, 113, 114, 115] (by decide +kernel) (by decide +kernel)
set_option maxRecDepth 20000 in
theorem gX5_wins_X5_refuse : GoodIn wsX5_wins (wsV RX5 86 RX5 yX5_refuse wsX5_refuse) := goodIn_app (goodIn_of _ (by decide +kernel)) ggX5_wins_X5_refuse
theorem dX5_wins_0 : decode cX5_wins 0 = .ok (.aload_n 0, 1) := by decide +kernel
theorem dX5_wins_1 : decode cX5_wins 1 = .ok (.iconst 0, 1) := by decide +kernel
theorem dX5_wins_2 : decode cX5_wins 2 = .ok (.putfield 50, 3) := by decide +kernel
theorem dX5_wins_5 : decode cX5_wins 5 = .ok (.iload_n 1, 1) := by decide +kernel
theorem dX5_wins_6 : decode cX5_wins 6 = .ok (.iconst 0, 1) := by decide +kernel
theorem dX5_wins_7 : decode cX5_wins 7 = .ok (.bipush 31, 2) := by decide +kernel
theorem dX5_wins_9 : decode cX5_wins 9 = .ok (.invokestatic 57, 3) := by decide +kernel
theorem dX5_wins_12 : decode cX5_wins 12 = .ok (.ifCond .eq 12, 3) := by decide +kernel
theorem dX5_wins_15 : decode cX5_wins 15 = .ok (.aload_n 0, 1) := by decide +kernel
theorem dX5_wins_16 : decode cX5_wins 16 = .ok (.iload_n 1, 1) := by decide +kernel
theorem dX5_wins_17 : decode cX5_wins 17 = .ok (.iconst 0, 1) := by decide +kernel
theorem dX5_wins_18 : decode cX5_wins 18 = .ok (.invokevirtual 262, 3) := by decide +kernel
theorem dX5_wins_21 : decode cX5_wins 21 = .ok (.goto 8, 3) := by decide +kernel
theorem dX5_wins_24 : decode cX5_wins 24 = .ok (.aload_n 0, 1) := by decide +kernel
theorem dX5_wins_25 : decode cX5_wins 25 = .ok (.iconst 1, 1) := by decide +kernel
theorem dX5_wins_26 : decode cX5_wins 26 = .ok (.invokevirtual 86, 3) := by decide +kernel
theorem dX5_wins_29 : decode cX5_wins 29 = .ok (.ireturn, 1) := by decide +kernel
set_option maxRecDepth 20000 in
theorem ggX5_beatsNow_Jx4a65c_size_8abf5 : GoodIn wsX5_beatsNow wsJx4a65c_size_8abf5 := goodIn_r _ [8, 9, 74, 75, 76] (by decide +kernel) (by decide +kernel)
set_option maxRecDepth 20000 in
theorem gX5_beatsNow_Jx4a65c_size_8abf5 : GoodIn wsX5_beatsNow (wsV RX5 53 RJx4a65c yJx4a65c_size_8abf5 wsJx4a65c_size_8abf5) := goodIn_app (goodIn_of _ (by decide +kernel)) ggX5_beatsNow_Jx4a65c_size_8abf5
theorem dX5_beatsNow_0 : decode cX5_beatsNow 0 = .ok (.iconst 0, 1) := by decide +kernel
theorem dX5_beatsNow_1 : decode cX5_beatsNow 1 = .ok (.istore_n 1, 1) := by decide +kernel
theorem dX5_beatsNow_2 : decode cX5_beatsNow 2 = .ok (.iload_n 1, 1) := by decide +kernel
theorem dX5_beatsNow_3 : decode cX5_beatsNow 3 = .ok (.aload_n 0, 1) := by decide +kernel
theorem dX5_beatsNow_4 : decode cX5_beatsNow 4 = .ok (.getfield 16, 3) := by decide +kernel
theorem dX5_beatsNow_7 : decode cX5_beatsNow 7 = .ok (.invokevirtual 53, 3) := by decide +kernel
theorem dX5_beatsNow_10 : decode cX5_beatsNow 10 = .ok (.if_icmp .ge 95, 3) := by decide +kernel
theorem dX5_beatsNow_105 : decode cX5_beatsNow 105 = .ok (.iconst (-1), 1) := by decide +kernel
theorem dX5_beatsNow_106 : decode cX5_beatsNow 106 = .ok (.ireturn, 1) := by decide +kernel
set_option maxRecDepth 20000 in
theorem ggX5_beatsAll_X5_beatsNow : GoodIn wsX5_beatsAll wsX5_beatsNow := goodIn_r _ [6, 7, 8, 9, 10, 11, 12, 13, 14, 15, 16, 17, 18, 5, 19, 20, 21, 22, 23, 24, 25, 26, 27, 28, 29, 30, 31, 32, 33, 34, 35, 36, 37, 38, 39, 40, 41, 42, 43, 44, 45, 46, 47, 48, 49, 50, 51, 52, 53, 54, 55, 56, 57, 58, 59, 60, 61, 62, 63, 64, 65, 66, 67, 68, 69, 70, 71, 72, 73, 74, 75, 76, 77, 78, 79, 80, 81] (by decide +kernel) (by decide +kernel)
set_option maxRecDepth 20000 in
theorem gX5_beatsAll_X5_beatsNow : GoodIn wsX5_beatsAll (wsV RX5 268 RX5 yX5_beatsNow wsX5_beatsNow) := goodIn_app (goodIn_of _ (by decide +kernel)) ggX5_beatsAll_X5_beatsNow
theorem dX5_beatsAll_0 : decode cX5_beatsAll 0 = .ok (.aload_n 0, 1) := by decide +kernel
theorem dX5_beatsAll_1 : decode cX5_beatsAll 1 = .ok (.iconst 0, 1) := by decide +kernel
theorem dX5_beatsAll_2 : decode cX5_beatsAll 2 = .ok (.putfield 50, 3) := by decide +kernel
theorem dX5_beatsAll_5 : decode cX5_beatsAll 5 = .ok (.aload_n 0, 1) := by decide +kernel
theorem dX5_beatsAll_6 : decode cX5_beatsAll 6 = .ok (.invokevirtual 268, 3) := by decide +kernel
theorem dX5_beatsAll_9 : decode cX5_beatsAll 9 = .ok (.ireturn, 1) := by decide +kernel
set_option maxRecDepth 20000 in
theorem ggX5_spoiled_X5_isBook : GoodIn wsX5_spoiled wsX5_isBook := goodIn_r _ [6, 7, 8, 9, 10, 11, 12, 13, 14, 15, 5, 16, 104, 105, 106, 107, 108, 109, 110, 111, 112, 113, 114, 115, 116, 117, 118, 119, 120, 121, 122, 123, 124, 125, 126] (by decide +kernel) (by decide +kernel)
set_option maxRecDepth 20000 in
theorem gX5_spoiled_X5_isBook : GoodIn wsX5_spoiled (wsV RX5 141 RX5 yX5_isBook wsX5_isBook) := goodIn_app (goodIn_of _ (by decide +kernel)) ggX5_spoiled_X5_isBook
set_option maxRecDepth 20000 in
theorem ggX5_spoiled_X5_refuse : GoodIn wsX5_spoiled wsX5_refuse := goodIn_r _ [103, 1, 104, 105, 106, 107, 108, 109, 110, 111, 112, 113, 114, 115, 116, 117, 118, 119, 120, 121, 122, 123] (by decide +kernel) (by decide +kernel)
set_option maxRecDepth 20000 in
theorem gX5_spoiled_X5_refuse : GoodIn wsX5_spoiled (wsV RX5 86 RX5 yX5_refuse wsX5_refuse) := goodIn_app (goodIn_of _ (by decide +kernel)) ggX5_spoiled_X5_refuse
theorem dX5_spoiled_0 : decode cX5_spoiled 0 = .ok (.aload_n 0, 1) := by decide +kernel
theorem dX5_spoiled_1 : decode cX5_spoiled 1 = .ok (.iconst 0, 1) := by decide +kernel
theorem dX5_spoiled_2 : decode cX5_spoiled 2 = .ok (.putfield 50, 3) := by decide +kernel
theorem dX5_spoiled_5 : decode cX5_spoiled 5 = .ok (.aload_n 0, 1) := by decide +kernel
theorem dX5_spoiled_6 : decode cX5_spoiled 6 = .ok (.iload_n 1, 1) := by decide +kernel
theorem dX5_spoiled_7 : decode cX5_spoiled 7 = .ok (.invokevirtual 141, 3) := by decide +kernel
theorem dX5_spoiled_10 : decode cX5_spoiled 10 = .ok (.ifCond .eq 11, 3) := by decide +kernel
theorem dX5_spoiled_21 : decode cX5_spoiled 21 = .ok (.aload_n 0, 1) := by decide +kernel
theorem dX5_spoiled_22 : decode cX5_spoiled 22 = .ok (.iconst 1, 1) := by decide +kernel
theorem dX5_spoiled_23 : decode cX5_spoiled 23 = .ok (.invokevirtual 86, 3) := by decide +kernel
theorem dX5_spoiled_26 : decode cX5_spoiled 26 = .ok (.ireturn, 1) := by decide +kernel
theorem dX5_readInNow_0 : decode cX5_readInNow 0 = .ok (.aload_n 0, 1) := by decide +kernel
theorem dX5_readInNow_1 : decode cX5_readInNow 1 = .ok (.getfield 101, 3) := by decide +kernel
theorem dX5_readInNow_4 : decode cX5_readInNow 4 = .ok (.iconst 1, 1) := by decide +kernel
theorem dX5_readInNow_5 : decode cX5_readInNow 5 = .ok (.if_icmp .eq 5, 3) := by decide +kernel
theorem dX5_readInNow_8 : decode cX5_readInNow 8 = .ok (.iconst (-1), 1) := by decide +kernel
theorem dX5_readInNow_9 : decode cX5_readInNow 9 = .ok (.ireturn, 1) := by decide +kernel
set_option maxRecDepth 20000 in
theorem ggX5_readIn_X5_readInNow : GoodIn wsX5_readIn wsX5_readInNow := goodIn_r _ [6, 7, 8, 9, 10, 11, 12, 13, 14, 15, 16, 17, 18, 19, 20, 21, 22, 23, 24, 25, 26, 27, 28, 29, 30, 31, 32, 33, 34, 35, 36, 37, 38, 39, 5, 40, 41, 42, 43, 44, 45, 46, 47, 48, 49, 50, 51, 52, 53, 54, 55, 56, 57, 58, 59, 60, 61, 62, 63, 64, 65, 66, 67, 68, 69, 70, 71, 72, 73, 74, 75, 76, 77, 78, 79, 80, 81, 82, 83, 84, 85, 86, 87, 88, 89, 90, 91, 92, 93, 94, 95, 96, 97, 98, 99, 100, 101, 102, 103, 104, 105, 106, 107, 108, 109, 110, 111, 112, 113, 114, 115, 116, 117] (by decide +kernel) (by decide +kernel)
set_option maxRecDepth 20000 in
theorem gX5_readIn_X5_readInNow : GoodIn wsX5_readIn (wsV RX5 274 RX5 yX5_readInNow wsX5_readInNow) := goodIn_app (goodIn_of _ (by decide +kernel)) ggX5_readIn_X5_readInNow
theorem dX5_readIn_0 : decode cX5_readIn 0 = .ok (.aload_n 0, 1) := by decide +kernel
theorem dX5_readIn_1 : decode cX5_readIn 1 = .ok (.iconst 0, 1) := by decide +kernel
theorem dX5_readIn_2 : decode cX5_readIn 2 = .ok (.putfield 50, 3) := by decide +kernel
theorem dX5_readIn_5 : decode cX5_readIn 5 = .ok (.aload_n 0, 1) := by decide +kernel
theorem dX5_readIn_6 : decode cX5_readIn 6 = .ok (.invokevirtual 274, 3) := by decide +kernel
theorem dX5_readIn_9 : decode cX5_readIn 9 = .ok (.ireturn, 1) := by decide +kernel
set_option maxRecDepth 20000 in
theorem ggX5_missNow_Jx4a65c_size_8abf5 : GoodIn wsX5_missNow wsJx4a65c_size_8abf5 := goodIn_r _ [11, 12, 59, 60, 61] (by decide +kernel) (by decide +kernel)
set_option maxRecDepth 20000 in
theorem gX5_missNow_Jx4a65c_size_8abf5 : GoodIn wsX5_missNow (wsV RX5 53 RJx4a65c yJx4a65c_size_8abf5 wsJx4a65c_size_8abf5) := goodIn_app (goodIn_of _ (by decide +kernel)) ggX5_missNow_Jx4a65c_size_8abf5
theorem dX5_missNow_0 : decode cX5_missNow 0 = .ok (.iconst 0, 1) := by decide +kernel
theorem dX5_missNow_1 : decode cX5_missNow 1 = .ok (.istore_n 2, 1) := by decide +kernel
theorem dX5_missNow_2 : decode cX5_missNow 2 = .ok (.iconst 0, 1) := by decide +kernel
theorem dX5_missNow_3 : decode cX5_missNow 3 = .ok (.istore_n 3, 1) := by decide +kernel
theorem dX5_missNow_4 : decode cX5_missNow 4 = .ok (.iload_n 3, 1) := by decide +kernel
theorem dX5_missNow_5 : decode cX5_missNow 5 = .ok (.aload_n 0, 1) := by decide +kernel
theorem dX5_missNow_6 : decode cX5_missNow 6 = .ok (.getfield 16, 3) := by decide +kernel
theorem dX5_missNow_9 : decode cX5_missNow 9 = .ok (.invokevirtual 53, 3) := by decide +kernel
theorem dX5_missNow_12 : decode cX5_missNow 12 = .ok (.if_icmp .ge 38, 3) := by decide +kernel
theorem dX5_missNow_50 : decode cX5_missNow 50 = .ok (.iload_n 2, 1) := by decide +kernel
theorem dX5_missNow_51 : decode cX5_missNow 51 = .ok (.ireturn, 1) := by decide +kernel
set_option maxRecDepth 20000 in
theorem ggX5_wouldMiss_X5_is : GoodIn wsX5_wouldMiss wsX5_is := goodIn_r _ [5] (by decide +kernel) (by decide +kernel)
set_option maxRecDepth 20000 in
theorem gX5_wouldMiss_X5_is : GoodIn wsX5_wouldMiss (va_wsS RX5 57 yX5_is wsX5_is) := goodIn_app (goodIn_of _ (by decide +kernel)) ggX5_wouldMiss_X5_is
set_option maxRecDepth 20000 in
theorem ggX5_wouldMiss_X5_missNow : GoodIn wsX5_wouldMiss wsX5_missNow := goodIn_r _ [9, 10, 11, 12, 13, 14, 15, 16, 17, 18, 19, 20, 21, 22, 23, 24, 4, 25, 26, 27, 28, 29, 30, 31, 32, 33, 34, 35, 36, 37, 38, 39, 40, 41, 42, 43, 44, 45, 46, 51, 52, 53, 54, 55, 56, 57, 58, 59, 60, 61, 62, 63, 64, 65, 66, 67, 68, 69, 70, 71, 72, 73] (by decide +kernel) (by decide +kernel)
set_option maxRecDepth 20000 in
theorem gX5_wouldMiss_X5_missNow : GoodIn wsX5_wouldMiss (wsV RX5 277 RX5 yX5_missNow wsX5_missNow) := goodIn_app (goodIn_of _ (by decide +kernel)) ggX5_wouldMiss_X5_missNow
set_option maxRecDepth 20000 in
theorem ggX5_wouldMiss_X5_refuse : GoodIn wsX5_wouldMiss wsX5_refuse := goodIn_r _ [50, 1, 51, 52, 53, 54, 55, 56, 57, 58, 59, 60, 61, 62, 63, 64, 65, 66, 67, 68, 69, 70] (by decide +kernel) (by decide +kernel)
set_option maxRecDepth 20000 in
theorem gX5_wouldMiss_X5_refuse : GoodIn wsX5_wouldMiss (wsV RX5 86 RX5 yX5_refuse wsX5_refuse) := goodIn_app (goodIn_of _ (by decide +kernel)) ggX5_wouldMiss_X5_refuse
theorem dX5_wouldMiss_0 : decode cX5_wouldMiss 0 = .ok (.aload_n 0, 1) := by decide +kernel
theorem dX5_wouldMiss_1 : decode cX5_wouldMiss 1 = .ok (.iconst 0, 1) := by decide +kernel
theorem dX5_wouldMiss_2 : decode cX5_wouldMiss 2 = .ok (.putfield 50, 3) := by decide +kernel
theorem dX5_wouldMiss_5 : decode cX5_wouldMiss 5 = .ok (.iload_n 1, 1) := by decide +kernel
theorem dX5_wouldMiss_6 : decode cX5_wouldMiss 6 = .ok (.iconst 1, 1) := by decide +kernel
theorem dX5_wouldMiss_7 : decode cX5_wouldMiss 7 = .ok (.bipush 60, 2) := by decide +kernel
theorem dX5_wouldMiss_9 : decode cX5_wouldMiss 9 = .ok (.invokestatic 57, 3) := by decide +kernel
theorem dX5_wouldMiss_12 : decode cX5_wouldMiss 12 = .ok (.ifCond .eq 11, 3) := by decide +kernel
theorem dX5_wouldMiss_15 : decode cX5_wouldMiss 15 = .ok (.aload_n 0, 1) := by decide +kernel
theorem dX5_wouldMiss_16 : decode cX5_wouldMiss 16 = .ok (.iload_n 1, 1) := by decide +kernel
theorem dX5_wouldMiss_17 : decode cX5_wouldMiss 17 = .ok (.invokevirtual 277, 3) := by decide +kernel
theorem dX5_wouldMiss_20 : decode cX5_wouldMiss 20 = .ok (.goto 8, 3) := by decide +kernel
theorem dX5_wouldMiss_23 : decode cX5_wouldMiss 23 = .ok (.aload_n 0, 1) := by decide +kernel
theorem dX5_wouldMiss_24 : decode cX5_wouldMiss 24 = .ok (.iconst 1, 1) := by decide +kernel
theorem dX5_wouldMiss_25 : decode cX5_wouldMiss 25 = .ok (.invokevirtual 86, 3) := by decide +kernel
theorem dX5_wouldMiss_28 : decode cX5_wouldMiss 28 = .ok (.ireturn, 1) := by decide +kernel
theorem dX5_add_0 : decode cX5_add 0 = .ok (.aload_n 0, 1) := by decide +kernel
theorem dX5_add_1 : decode cX5_add 1 = .ok (.aload_n 0, 1) := by decide +kernel
theorem dX5_add_2 : decode cX5_add 2 = .ok (.getfield 280, 3) := by decide +kernel
theorem dX5_add_5 : decode cX5_add 5 = .ok (.ldc2_w 284, 3) := by decide +kernel
theorem dX5_add_8 : decode cX5_add 8 = .ok (.lmul, 1) := by decide +kernel
theorem dX5_add_9 : decode cX5_add 9 = .ok (.iload_n 1, 1) := by decide +kernel
theorem dX5_add_10 : decode cX5_add 10 = .ok (.i2l, 1) := by decide +kernel
theorem dX5_add_11 : decode cX5_add 11 = .ok (.ladd, 1) := by decide +kernel
theorem dX5_add_12 : decode cX5_add 12 = .ok (.putfield 280, 3) := by decide +kernel
theorem dX5_add_15 : decode cX5_add 15 = .ok (.return_, 1) := by decide +kernel
set_option maxRecDepth 20000 in
theorem ggX5_digest_X5_manyNow : GoodIn wsX5_digest wsX5_manyNow := goodIn_r _ [12, 5, 13, 14, 15, 16, 17, 4, 6, 18, 19, 20, 21, 22, 23, 24, 25, 26, 27, 28, 29, 30, 31, 32, 33, 34, 35, 36, 37, 38, 39, 40, 41, 42, 43, 44, 45, 46, 47, 48, 49, 50, 51, 52, 53, 54, 55, 56, 57, 58, 59, 60, 61, 62, 63, 64, 11, 65, 66, 67, 68, 69, 70, 71, 72, 73, 74, 75, 76, 77, 78, 79, 80, 81, 82, 83, 84, 85, 86, 239, 240, 241, 242, 243, 244, 245, 246, 247, 248, 249, 250, 251, 252, 253, 254, 255, 256, 257, 258, 259, 260, 261, 262, 263, 264, 265] (by decide +kernel) (by decide +kernel)
set_option maxRecDepth 20000 in
theorem gX5_digest_X5_manyNow : GoodIn wsX5_digest (wsV RX5 259 RX5 yX5_manyNow wsX5_manyNow) := goodIn_app (goodIn_of _ (by decide +kernel)) ggX5_digest_X5_manyNow
set_option maxRecDepth 20000 in
theorem ggX5_digest_X5_add : GoodIn wsX5_digest wsX5_add := goodIn_r _ [90, 3, 91, 239, 240, 241, 242, 243, 244, 245, 246, 247, 248, 249, 250, 251, 252, 253, 254, 255, 256, 257, 258] (by decide +kernel) (by decide +kernel)
set_option maxRecDepth 20000 in
theorem gX5_digest_X5_add : GoodIn wsX5_digest (wsV RX5 288 RX5 yX5_add wsX5_add) := goodIn_app (goodIn_of _ (by decide +kernel)) ggX5_digest_X5_add
set_option maxRecDepth 20000 in
theorem ggX5_digest_Jx4a65c_size_8abf5 : GoodIn wsX5_digest wsJx4a65c_size_8abf5 := goodIn_r _ [60, 61, 263, 264, 265] (by decide +kernel) (by decide +kernel)
set_option maxRecDepth 20000 in
theorem gX5_digest_Jx4a65c_size_8abf5 : GoodIn wsX5_digest (wsV RX5 53 RJx4a65c yJx4a65c_size_8abf5 wsJx4a65c_size_8abf5) := goodIn_app (goodIn_of _ (by decide +kernel)) ggX5_digest_Jx4a65c_size_8abf5
set_option maxRecDepth 20000 in
theorem ggX5_digest_X5_winsNow : GoodIn wsX5_digest wsX5_winsNow := goodIn_r _ [156, 16, 19, 157, 158, 159, 160, 11, 161, 14, 6, 13, 5, 162, 163, 147, 164, 165, 166, 167, 57, 58, 59, 27, 60, 61, 70, 71, 72, 73, 74, 75, 76, 77, 78, 79, 80, 81, 82, 83, 84, 85, 86, 168, 169, 170, 171, 172, 173, 174, 175, 176, 177, 178, 179, 124, 125, 126, 127, 116, 117, 118, 119, 7, 120, 121, 122, 123, 128, 129, 130, 131, 132, 133, 134, 135, 136, 137, 138, 139, 180, 181, 182, 183, 239, 240, 241, 242, 243, 244, 245, 246, 247, 248, 249, 250, 251, 252, 253, 254, 255, 256, 257, 258, 263, 264, 265] (by decide +kernel) (by decide +kernel)
set_option maxRecDepth 20000 in
theorem gX5_digest_X5_winsNow : GoodIn wsX5_digest (wsV RX5 262 RX5 yX5_winsNow wsX5_winsNow) := goodIn_app (goodIn_of _ (by decide +kernel)) ggX5_digest_X5_winsNow
set_option maxRecDepth 20000 in
theorem ggX5_digest_X5_beatsNow : GoodIn wsX5_digest wsX5_beatsNow := goodIn_r _ [215, 5, 16, 19, 57, 58, 59, 27, 60, 61, 216, 217, 218, 11, 219, 6, 13, 70, 71, 72, 73, 74, 75, 76, 77, 78, 79, 80, 81, 82, 83, 84, 85, 86, 124, 125, 126, 127, 172, 173, 174, 175, 14, 162, 163, 147, 164, 165, 166, 167, 176, 177, 178, 179, 239, 240, 241, 242, 243, 244, 245, 246, 247, 248, 249, 250, 251, 252, 253, 254, 255, 256, 257, 258, 263, 264, 265] (by decide +kernel) (by decide +kernel)
set_option maxRecDepth 20000 in
theorem gX5_digest_X5_beatsNow : GoodIn wsX5_digest (wsV RX5 268 RX5 yX5_beatsNow wsX5_beatsNow) := goodIn_app (goodIn_of _ (by decide +kernel)) ggX5_digest_X5_beatsNow
set_option maxRecDepth 20000 in
theorem ggX5_digest_X5_readInNow : GoodIn wsX5_digest wsX5_readInNow := goodIn_r _ [223, 16, 6, 13, 224, 225, 103, 226, 57, 58, 59, 27, 60, 61, 70, 71, 72, 73, 74, 75, 76, 77, 78, 79, 80, 81, 82, 83, 84, 85, 86, 194, 195, 196, 11, 197, 188, 189, 198, 5, 24, 25, 26, 28, 29, 30, 31, 32, 33, 34, 35, 36, 37, 38, 39, 40, 41, 42, 43, 44, 45, 46, 47, 48, 49, 50, 51, 52, 53, 54, 55, 56, 199, 200, 201, 147, 202, 203, 227, 228, 229, 230, 101, 102, 104, 239, 240, 241, 242, 243, 244, 245, 246, 247, 248, 249, 250, 251, 252, 253, 254, 255, 256, 257, 258, 263, 264, 265, 259, 260, 261, 262, 266] (by decide +kernel) (by decide +kernel)
set_option maxRecDepth 20000 in
theorem gX5_digest_X5_readInNow : GoodIn wsX5_digest (wsV RX5 274 RX5 yX5_readInNow wsX5_readInNow) := goodIn_app (goodIn_of _ (by decide +kernel)) ggX5_digest_X5_readInNow
set_option maxRecDepth 20000 in
theorem ggX5_digest_X5_missNow : GoodIn wsX5_digest wsX5_missNow := goodIn_r _ [234, 5, 13, 224, 225, 103, 226, 57, 58, 59, 27, 60, 61, 235, 236, 237, 11, 238, 20, 21, 19, 18, 70, 71, 72, 73, 74, 75, 76, 77, 78, 79, 80, 81, 82, 83, 84, 85, 86, 239, 240, 241, 242, 243, 244, 245, 246, 247, 248, 249, 250, 251, 252, 253, 254, 255, 256, 257, 258, 263, 264, 265] (by decide +kernel) (by decide +kernel)
set_option maxRecDepth 20000 in
theorem gX5_digest_X5_missNow : GoodIn wsX5_digest (wsV RX5 277 RX5 yX5_missNow wsX5_missNow) := goodIn_app (goodIn_of _ (by decide +kernel)) ggX5_digest_X5_missNow
theorem dX5_digest_0 : decode cX5_digest 0 = .ok (.aload_n 0, 1) := by decide +kernel
theorem dX5_digest_1 : decode cX5_digest 1 = .ok (.iconst 0, 1) := by decide +kernel
theorem dX5_digest_2 : decode cX5_digest 2 = .ok (.putfield 50, 3) := by decide +kernel
theorem dX5_digest_5 : decode cX5_digest 5 = .ok (.aload_n 0, 1) := by decide +kernel
theorem dX5_digest_6 : decode cX5_digest 6 = .ok (.ldc2_w 286, 3) := by decide +kernel
theorem dX5_digest_9 : decode cX5_digest 9 = .ok (.putfield 280, 3) := by decide +kernel
theorem dX5_digest_12 : decode cX5_digest 12 = .ok (.iconst 0, 1) := by decide +kernel
theorem dX5_digest_13 : decode cX5_digest 13 = .ok (.istore_n 1, 1) := by decide +kernel
theorem dX5_digest_14 : decode cX5_digest 14 = .ok (.iload_n 1, 1) := by decide +kernel
theorem dX5_digest_15 : decode cX5_digest 15 = .ok (.bipush 15, 2) := by decide +kernel
theorem dX5_digest_17 : decode cX5_digest 17 = .ok (.if_icmp .ge 18, 3) := by decide +kernel
theorem dX5_digest_20 : decode cX5_digest 20 = .ok (.aload_n 0, 1) := by decide +kernel
theorem dX5_digest_21 : decode cX5_digest 21 = .ok (.aload_n 0, 1) := by decide +kernel
theorem dX5_digest_22 : decode cX5_digest 22 = .ok (.iload_n 1, 1) := by decide +kernel
theorem dX5_digest_23 : decode cX5_digest 23 = .ok (.invokevirtual 259, 3) := by decide +kernel
theorem dX5_digest_26 : decode cX5_digest 26 = .ok (.invokevirtual 288, 3) := by decide +kernel
theorem dX5_digest_29 : decode cX5_digest 29 = .ok (.iinc 1 1, 3) := by decide +kernel
theorem dX5_digest_32 : decode cX5_digest 32 = .ok (.goto (-18), 3) := by decide +kernel
theorem dX5_digest_35 : decode cX5_digest 35 = .ok (.iconst 0, 1) := by decide +kernel
theorem dX5_digest_36 : decode cX5_digest 36 = .ok (.istore_n 1, 1) := by decide +kernel
theorem dX5_digest_37 : decode cX5_digest 37 = .ok (.iload_n 1, 1) := by decide +kernel
theorem dX5_digest_38 : decode cX5_digest 38 = .ok (.aload_n 0, 1) := by decide +kernel
theorem dX5_digest_39 : decode cX5_digest 39 = .ok (.getfield 10, 3) := by decide +kernel
theorem dX5_digest_42 : decode cX5_digest 42 = .ok (.invokevirtual 53, 3) := by decide +kernel
theorem dX5_digest_45 : decode cX5_digest 45 = .ok (.if_icmp .ge 32, 3) := by decide +kernel
theorem dX5_digest_77 : decode cX5_digest 77 = .ok (.iconst 0, 1) := by decide +kernel
theorem dX5_digest_78 : decode cX5_digest 78 = .ok (.istore_n 1, 1) := by decide +kernel
theorem dX5_digest_79 : decode cX5_digest 79 = .ok (.iload_n 1, 1) := by decide +kernel
theorem dX5_digest_80 : decode cX5_digest 80 = .ok (.aload_n 0, 1) := by decide +kernel
theorem dX5_digest_81 : decode cX5_digest 81 = .ok (.getfield 16, 3) := by decide +kernel
theorem dX5_digest_84 : decode cX5_digest 84 = .ok (.invokevirtual 53, 3) := by decide +kernel
theorem dX5_digest_87 : decode cX5_digest 87 = .ok (.if_icmp .ge 42, 3) := by decide +kernel
theorem dX5_digest_129 : decode cX5_digest 129 = .ok (.iconst 0, 1) := by decide +kernel
theorem dX5_digest_130 : decode cX5_digest 130 = .ok (.istore_n 1, 1) := by decide +kernel
theorem dX5_digest_131 : decode cX5_digest 131 = .ok (.iload_n 1, 1) := by decide +kernel
theorem dX5_digest_132 : decode cX5_digest 132 = .ok (.aload_n 0, 1) := by decide +kernel
theorem dX5_digest_133 : decode cX5_digest 133 = .ok (.getfield 19, 3) := by decide +kernel
theorem dX5_digest_136 : decode cX5_digest 136 = .ok (.invokevirtual 53, 3) := by decide +kernel
theorem dX5_digest_139 : decode cX5_digest 139 = .ok (.if_icmp .ge 64, 3) := by decide +kernel
theorem dX5_digest_203 : decode cX5_digest 203 = .ok (.aload_n 0, 1) := by decide +kernel
theorem dX5_digest_204 : decode cX5_digest 204 = .ok (.aload_n 0, 1) := by decide +kernel
theorem dX5_digest_205 : decode cX5_digest 205 = .ok (.iconst 0, 1) := by decide +kernel
theorem dX5_digest_206 : decode cX5_digest 206 = .ok (.iconst 0, 1) := by decide +kernel
theorem dX5_digest_207 : decode cX5_digest 207 = .ok (.invokevirtual 262, 3) := by decide +kernel
theorem dX5_digest_210 : decode cX5_digest 210 = .ok (.invokevirtual 288, 3) := by decide +kernel
theorem dX5_digest_213 : decode cX5_digest 213 = .ok (.aload_n 0, 1) := by decide +kernel
theorem dX5_digest_214 : decode cX5_digest 214 = .ok (.aload_n 0, 1) := by decide +kernel
theorem dX5_digest_215 : decode cX5_digest 215 = .ok (.iconst 1, 1) := by decide +kernel
theorem dX5_digest_216 : decode cX5_digest 216 = .ok (.iconst 0, 1) := by decide +kernel
theorem dX5_digest_217 : decode cX5_digest 217 = .ok (.invokevirtual 262, 3) := by decide +kernel
theorem dX5_digest_220 : decode cX5_digest 220 = .ok (.invokevirtual 288, 3) := by decide +kernel
theorem dX5_digest_223 : decode cX5_digest 223 = .ok (.aload_n 0, 1) := by decide +kernel
theorem dX5_digest_224 : decode cX5_digest 224 = .ok (.aload_n 0, 1) := by decide +kernel
theorem dX5_digest_225 : decode cX5_digest 225 = .ok (.invokevirtual 268, 3) := by decide +kernel
theorem dX5_digest_228 : decode cX5_digest 228 = .ok (.invokevirtual 288, 3) := by decide +kernel
theorem dX5_digest_231 : decode cX5_digest 231 = .ok (.aload_n 0, 1) := by decide +kernel
theorem dX5_digest_232 : decode cX5_digest 232 = .ok (.aload_n 0, 1) := by decide +kernel
theorem dX5_digest_233 : decode cX5_digest 233 = .ok (.invokevirtual 274, 3) := by decide +kernel
theorem dX5_digest_236 : decode cX5_digest 236 = .ok (.invokevirtual 288, 3) := by decide +kernel
theorem dX5_digest_239 : decode cX5_digest 239 = .ok (.aload_n 0, 1) := by decide +kernel
theorem dX5_digest_240 : decode cX5_digest 240 = .ok (.aload_n 0, 1) := by decide +kernel
theorem dX5_digest_241 : decode cX5_digest 241 = .ok (.bipush 7, 2) := by decide +kernel
theorem dX5_digest_243 : decode cX5_digest 243 = .ok (.invokevirtual 277, 3) := by decide +kernel
theorem dX5_digest_246 : decode cX5_digest 246 = .ok (.invokevirtual 288, 3) := by decide +kernel
theorem dX5_digest_249 : decode cX5_digest 249 = .ok (.aload_n 0, 1) := by decide +kernel
theorem dX5_digest_250 : decode cX5_digest 250 = .ok (.getfield 280, 3) := by decide +kernel
theorem dX5_digest_253 : decode cX5_digest 253 = .ok (.lreturn, 1) := by decide +kernel
theorem dJ6_bitCount_0f7a4_0 : decode cJ6_bitCount_0f7a4 0 = .ok (.iload_n 0, 1) := by decide +kernel
theorem dJ6_bitCount_0f7a4_1 : decode cJ6_bitCount_0f7a4 1 = .ok (.iload_n 0, 1) := by decide +kernel
theorem dJ6_bitCount_0f7a4_2 : decode cJ6_bitCount_0f7a4 2 = .ok (.iconst 1, 1) := by decide +kernel
theorem dJ6_bitCount_0f7a4_3 : decode cJ6_bitCount_0f7a4 3 = .ok (.iushr, 1) := by decide +kernel
theorem dJ6_bitCount_0f7a4_4 : decode cJ6_bitCount_0f7a4 4 = .ok (.ldc_w 265, 3) := by decide +kernel
theorem dJ6_bitCount_0f7a4_7 : decode cJ6_bitCount_0f7a4 7 = .ok (.iand, 1) := by decide +kernel
theorem dJ6_bitCount_0f7a4_8 : decode cJ6_bitCount_0f7a4 8 = .ok (.isub, 1) := by decide +kernel
theorem dJ6_bitCount_0f7a4_9 : decode cJ6_bitCount_0f7a4 9 = .ok (.istore_n 0, 1) := by decide +kernel
theorem dJ6_bitCount_0f7a4_10 : decode cJ6_bitCount_0f7a4 10 = .ok (.iload_n 0, 1) := by decide +kernel
theorem dJ6_bitCount_0f7a4_11 : decode cJ6_bitCount_0f7a4 11 = .ok (.ldc_w 266, 3) := by decide +kernel
theorem dJ6_bitCount_0f7a4_14 : decode cJ6_bitCount_0f7a4 14 = .ok (.iand, 1) := by decide +kernel
theorem dJ6_bitCount_0f7a4_15 : decode cJ6_bitCount_0f7a4 15 = .ok (.iload_n 0, 1) := by decide +kernel
theorem dJ6_bitCount_0f7a4_16 : decode cJ6_bitCount_0f7a4 16 = .ok (.iconst 2, 1) := by decide +kernel
theorem dJ6_bitCount_0f7a4_17 : decode cJ6_bitCount_0f7a4 17 = .ok (.iushr, 1) := by decide +kernel
theorem dJ6_bitCount_0f7a4_18 : decode cJ6_bitCount_0f7a4 18 = .ok (.ldc_w 266, 3) := by decide +kernel
theorem dJ6_bitCount_0f7a4_21 : decode cJ6_bitCount_0f7a4 21 = .ok (.iand, 1) := by decide +kernel
theorem dJ6_bitCount_0f7a4_22 : decode cJ6_bitCount_0f7a4 22 = .ok (.iadd, 1) := by decide +kernel
theorem dJ6_bitCount_0f7a4_23 : decode cJ6_bitCount_0f7a4 23 = .ok (.istore_n 0, 1) := by decide +kernel
theorem dJ6_bitCount_0f7a4_24 : decode cJ6_bitCount_0f7a4 24 = .ok (.iload_n 0, 1) := by decide +kernel
theorem dJ6_bitCount_0f7a4_25 : decode cJ6_bitCount_0f7a4 25 = .ok (.iload_n 0, 1) := by decide +kernel
theorem dJ6_bitCount_0f7a4_26 : decode cJ6_bitCount_0f7a4 26 = .ok (.iconst 4, 1) := by decide +kernel
theorem dJ6_bitCount_0f7a4_27 : decode cJ6_bitCount_0f7a4 27 = .ok (.iushr, 1) := by decide +kernel
theorem dJ6_bitCount_0f7a4_28 : decode cJ6_bitCount_0f7a4 28 = .ok (.iadd, 1) := by decide +kernel
theorem dJ6_bitCount_0f7a4_29 : decode cJ6_bitCount_0f7a4 29 = .ok (.ldc_w 267, 3) := by decide +kernel
theorem dJ6_bitCount_0f7a4_32 : decode cJ6_bitCount_0f7a4 32 = .ok (.iand, 1) := by decide +kernel
theorem dJ6_bitCount_0f7a4_33 : decode cJ6_bitCount_0f7a4 33 = .ok (.istore_n 0, 1) := by decide +kernel
theorem dJ6_bitCount_0f7a4_34 : decode cJ6_bitCount_0f7a4 34 = .ok (.iload_n 0, 1) := by decide +kernel
theorem dJ6_bitCount_0f7a4_35 : decode cJ6_bitCount_0f7a4 35 = .ok (.iload_n 0, 1) := by decide +kernel
theorem dJ6_bitCount_0f7a4_36 : decode cJ6_bitCount_0f7a4 36 = .ok (.bipush 8, 2) := by decide +kernel
theorem dJ6_bitCount_0f7a4_38 : decode cJ6_bitCount_0f7a4 38 = .ok (.iushr, 1) := by decide +kernel
theorem dJ6_bitCount_0f7a4_39 : decode cJ6_bitCount_0f7a4 39 = .ok (.iadd, 1) := by decide +kernel
theorem dJ6_bitCount_0f7a4_40 : decode cJ6_bitCount_0f7a4 40 = .ok (.istore_n 0, 1) := by decide +kernel
theorem dJ6_bitCount_0f7a4_41 : decode cJ6_bitCount_0f7a4 41 = .ok (.iload_n 0, 1) := by decide +kernel
theorem dJ6_bitCount_0f7a4_42 : decode cJ6_bitCount_0f7a4 42 = .ok (.iload_n 0, 1) := by decide +kernel
theorem dJ6_bitCount_0f7a4_43 : decode cJ6_bitCount_0f7a4 43 = .ok (.bipush 16, 2) := by decide +kernel
theorem dJ6_bitCount_0f7a4_45 : decode cJ6_bitCount_0f7a4 45 = .ok (.iushr, 1) := by decide +kernel
theorem dJ6_bitCount_0f7a4_46 : decode cJ6_bitCount_0f7a4 46 = .ok (.iadd, 1) := by decide +kernel
theorem dJ6_bitCount_0f7a4_47 : decode cJ6_bitCount_0f7a4 47 = .ok (.istore_n 0, 1) := by decide +kernel
theorem dJ6_bitCount_0f7a4_48 : decode cJ6_bitCount_0f7a4 48 = .ok (.iload_n 0, 1) := by decide +kernel
theorem dJ6_bitCount_0f7a4_49 : decode cJ6_bitCount_0f7a4 49 = .ok (.bipush 63, 2) := by decide +kernel
theorem dJ6_bitCount_0f7a4_51 : decode cJ6_bitCount_0f7a4 51 = .ok (.iand, 1) := by decide +kernel
theorem dJ6_bitCount_0f7a4_52 : decode cJ6_bitCount_0f7a4 52 = .ok (.ireturn, 1) := by decide +kernel
theorem dJxa1e45_init_da8c8_0 : decode cJxa1e45_init_da8c8 0 = .ok (.aload_n 0, 1) := by decide +kernel
theorem dJxa1e45_init_da8c8_1 : decode cJxa1e45_init_da8c8 1 = .ok (.invokespecial 1, 3) := by decide +kernel
theorem dJxa1e45_init_da8c8_4 : decode cJxa1e45_init_da8c8 4 = .ok (.return_, 1) := by decide +kernel
set_option maxRecDepth 20000 in
theorem ggJxc12de_init_da8c8_Jxa1e45_init_da8c8 : GoodIn wsJxc12de_init_da8c8 wsJxa1e45_init_da8c8 := goodIn_r _ [5, 6, 7, 8] (by decide +kernel) (by decide +kernel)
set_option maxRecDepth 20000 in
theorem gJxc12de_init_da8c8_Jxa1e45_init_da8c8 : GoodIn wsJxc12de_init_da8c8 (wsJxa1e45_init_da8c8) := ggJxc12de_init_da8c8_Jxa1e45_init_da8c8
theorem dJxc12de_init_da8c8_0 : decode cJxc12de_init_da8c8 0 = .ok (.aload_n 0, 1) := by decide +kernel
theorem dJxc12de_init_da8c8_1 : decode cJxc12de_init_da8c8 1 = .ok (.invokespecial 1, 3) := by decide +kernel
theorem dJxc12de_init_da8c8_4 : decode cJxc12de_init_da8c8 4 = .ok (.aload_n 0, 1) := by decide +kernel
theorem dJxc12de_init_da8c8_5 : decode cJxc12de_init_da8c8 5 = .ok (.iconst 0, 1) := by decide +kernel
theorem dJxc12de_init_da8c8_6 : decode cJxc12de_init_da8c8 6 = .ok (.putfield 7, 3) := by decide +kernel
theorem dJxc12de_init_da8c8_9 : decode cJxc12de_init_da8c8 9 = .ok (.return_, 1) := by decide +kernel
theorem dJx35411_init_45d68_0 : decode cJx35411_init_45d68 0 = .ok (.aload_n 0, 1) := by decide +kernel
theorem dJx35411_init_45d68_1 : decode cJx35411_init_45d68 1 = .ok (.aload_n 1, 1) := by decide +kernel
theorem dJx35411_init_45d68_2 : decode cJx35411_init_45d68 2 = .ok (.putfield 1, 3) := by decide +kernel
theorem dJx35411_init_45d68_5 : decode cJx35411_init_45d68 5 = .ok (.aload_n 0, 1) := by decide +kernel
theorem dJx35411_init_45d68_6 : decode cJx35411_init_45d68 6 = .ok (.invokespecial 7, 3) := by decide +kernel
theorem dJx35411_init_45d68_9 : decode cJx35411_init_45d68 9 = .ok (.aload_n 0, 1) := by decide +kernel
theorem dJx35411_init_45d68_10 : decode cJx35411_init_45d68 10 = .ok (.iconst (-1), 1) := by decide +kernel
theorem dJx35411_init_45d68_11 : decode cJx35411_init_45d68 11 = .ok (.putfield 13, 3) := by decide +kernel
theorem dJx35411_init_45d68_14 : decode cJx35411_init_45d68 14 = .ok (.aload_n 0, 1) := by decide +kernel
theorem dJx35411_init_45d68_15 : decode cJx35411_init_45d68 15 = .ok (.aload_n 0, 1) := by decide +kernel
theorem dJx35411_init_45d68_16 : decode cJx35411_init_45d68 16 = .ok (.getfield 1, 3) := by decide +kernel
theorem dJx35411_init_45d68_19 : decode cJx35411_init_45d68 19 = .ok (.getfield 17, 3) := by decide +kernel
theorem dJx35411_init_45d68_22 : decode cJx35411_init_45d68 22 = .ok (.putfield 22, 3) := by decide +kernel
theorem dJx35411_init_45d68_25 : decode cJx35411_init_45d68 25 = .ok (.return_, 1) := by decide +kernel
theorem dJx35411_hasNext_aae02_0 : decode cJx35411_hasNext_aae02 0 = .ok (.aload_n 0, 1) := by decide +kernel
theorem dJx35411_hasNext_aae02_1 : decode cJx35411_hasNext_aae02 1 = .ok (.getfield 25, 3) := by decide +kernel
theorem dJx35411_hasNext_aae02_4 : decode cJx35411_hasNext_aae02 4 = .ok (.aload_n 0, 1) := by decide +kernel
theorem dJx35411_hasNext_aae02_5 : decode cJx35411_hasNext_aae02 5 = .ok (.getfield 1, 3) := by decide +kernel
theorem dJx35411_hasNext_aae02_8 : decode cJx35411_hasNext_aae02 8 = .ok (.getfield 28, 3) := by decide +kernel
theorem dJx35411_hasNext_aae02_11 : decode cJx35411_hasNext_aae02 11 = .ok (.if_icmp .eq 7, 3) := by decide +kernel
theorem dJx35411_hasNext_aae02_18 : decode cJx35411_hasNext_aae02 18 = .ok (.iconst 0, 1) := by decide +kernel
theorem dJx35411_hasNext_aae02_19 : decode cJx35411_hasNext_aae02 19 = .ok (.ireturn, 1) := by decide +kernel
set_option maxRecDepth 20000 in
theorem ggJx4a65c_init_da8c8_Jxc12de_init_da8c8 : GoodIn wsJx4a65c_init_da8c8 wsJxc12de_init_da8c8 := goodIn_r _ [6, 7, 8, 9, 10, 11, 12, 13, 14, 15, 16, 17] (by decide +kernel) (by decide +kernel)
set_option maxRecDepth 20000 in
theorem gJx4a65c_init_da8c8_Jxc12de_init_da8c8 : GoodIn wsJx4a65c_init_da8c8 (wsJxc12de_init_da8c8) := ggJx4a65c_init_da8c8_Jxc12de_init_da8c8
theorem dJx4a65c_init_da8c8_0 : decode cJx4a65c_init_da8c8 0 = .ok (.aload_n 0, 1) := by decide +kernel
theorem dJx4a65c_init_da8c8_1 : decode cJx4a65c_init_da8c8 1 = .ok (.invokespecial 1, 3) := by decide +kernel
theorem dJx4a65c_init_da8c8_4 : decode cJx4a65c_init_da8c8 4 = .ok (.aload_n 0, 1) := by decide +kernel
theorem dJx4a65c_init_da8c8_5 : decode cJx4a65c_init_da8c8 5 = .ok (.getstatic 39, 3) := by decide +kernel
theorem dJx4a65c_init_da8c8_8 : decode cJx4a65c_init_da8c8 8 = .ok (.putfield 9, 3) := by decide +kernel
theorem dJx4a65c_init_da8c8_11 : decode cJx4a65c_init_da8c8 11 = .ok (.return_, 1) := by decide +kernel
theorem dJx4a65c_grow_92f84_0 : decode cJx4a65c_grow_92f84 0 = .ok (.aload_n 0, 1) := by decide +kernel
theorem dJx4a65c_grow_92f84_1 : decode cJx4a65c_grow_92f84 1 = .ok (.getfield 9, 3) := by decide +kernel
theorem dJx4a65c_grow_92f84_4 : decode cJx4a65c_grow_92f84 4 = .ok (.arraylength, 1) := by decide +kernel
theorem dJx4a65c_grow_92f84_5 : decode cJx4a65c_grow_92f84 5 = .ok (.istore_n 2, 1) := by decide +kernel
theorem dJx4a65c_grow_92f84_6 : decode cJx4a65c_grow_92f84 6 = .ok (.iload_n 2, 1) := by decide +kernel
theorem dJx4a65c_grow_92f84_7 : decode cJx4a65c_grow_92f84 7 = .ok (.ifCond .gt 13, 3) := by decide +kernel
theorem dJx4a65c_grow_92f84_10 : decode cJx4a65c_grow_92f84 10 = .ok (.aload_n 0, 1) := by decide +kernel
theorem dJx4a65c_grow_92f84_11 : decode cJx4a65c_grow_92f84 11 = .ok (.getfield 9, 3) := by decide +kernel
theorem dJx4a65c_grow_92f84_14 : decode cJx4a65c_grow_92f84 14 = .ok (.getstatic 39, 3) := by decide +kernel
theorem dJx4a65c_grow_92f84_17 : decode cJx4a65c_grow_92f84 17 = .ok (.if_acmp .eq 28, 3) := by decide +kernel
theorem dJx4a65c_grow_92f84_45 : decode cJx4a65c_grow_92f84 45 = .ok (.aload_n 0, 1) := by decide +kernel
theorem dJx4a65c_grow_92f84_46 : decode cJx4a65c_grow_92f84 46 = .ok (.bipush 10, 2) := by decide +kernel
theorem dJx4a65c_grow_92f84_48 : decode cJx4a65c_grow_92f84 48 = .ok (.iload_n 1, 1) := by decide +kernel
theorem dJx4a65c_grow_92f84_49 : decode cJx4a65c_grow_92f84 49 = .ok (.invokestatic 79, 3) := by decide +kernel
theorem dJx4a65c_grow_92f84_52 : decode cJx4a65c_grow_92f84 52 = .ok (.anewarray 7, 3) := by decide +kernel
theorem dJx4a65c_grow_92f84_55 : decode cJx4a65c_grow_92f84 55 = .ok (.dup_x1, 1) := by decide +kernel
theorem dJx4a65c_grow_92f84_56 : decode cJx4a65c_grow_92f84 56 = .ok (.putfield 9, 3) := by decide +kernel
theorem dJx4a65c_grow_92f84_59 : decode cJx4a65c_grow_92f84 59 = .ok (.areturn, 1) := by decide +kernel
set_option maxRecDepth 20000 in
theorem ggJx4a65c_grow_d5877_Jx4a65c_grow_92f84 : GoodIn wsJx4a65c_grow_d5877 wsJx4a65c_grow_92f84 := goodIn_r _ [6, 7, 8, 9, 10, 11, 12, 13, 14, 15, 16, 17, 18, 19, 20, 21, 22, 23, 24, 25, 26, 27, 28, 29, 30, 31, 32, 33, 34, 35, 36, 37, 38, 39, 40, 41, 42, 43, 44, 45] (by decide +kernel) (by decide +kernel)
set_option maxRecDepth 20000 in
theorem gJx4a65c_grow_d5877_Jx4a65c_grow_92f84 : GoodIn wsJx4a65c_grow_d5877 (wsV RJx4a65c 69 RJx4a65c yJx4a65c_grow_92f84 wsJx4a65c_grow_92f84) := goodIn_app (goodIn_of _ (by decide +kernel)) ggJx4a65c_grow_d5877_Jx4a65c_grow_92f84
theorem dJx4a65c_grow_d5877_0 : decode cJx4a65c_grow_d5877 0 = .ok (.aload_n 0, 1) := by decide +kernel
theorem dJx4a65c_grow_d5877_1 : decode cJx4a65c_grow_d5877 1 = .ok (.aload_n 0, 1) := by decide +kernel
theorem dJx4a65c_grow_d5877_2 : decode cJx4a65c_grow_d5877 2 = .ok (.getfield 48, 3) := by decide +kernel
theorem dJx4a65c_grow_d5877_5 : decode cJx4a65c_grow_d5877 5 = .ok (.iconst 1, 1) := by decide +kernel
theorem dJx4a65c_grow_d5877_6 : decode cJx4a65c_grow_d5877 6 = .ok (.iadd, 1) := by decide +kernel
theorem dJx4a65c_grow_d5877_7 : decode cJx4a65c_grow_d5877 7 = .ok (.invokevirtual 69, 3) := by decide +kernel
theorem dJx4a65c_grow_d5877_10 : decode cJx4a65c_grow_d5877 10 = .ok (.areturn, 1) := by decide +kernel
theorem dJx4a65c_size_8abf5_0 : decode cJx4a65c_size_8abf5 0 = .ok (.aload_n 0, 1) := by decide +kernel
theorem dJx4a65c_size_8abf5_1 : decode cJx4a65c_size_8abf5 1 = .ok (.getfield 48, 3) := by decide +kernel
theorem dJx4a65c_size_8abf5_4 : decode cJx4a65c_size_8abf5 4 = .ok (.ireturn, 1) := by decide +kernel
set_option maxRecDepth 20000 in
theorem ggJx4a65c_add_72be8_Jx4a65c_grow_d5877 : GoodIn wsJx4a65c_add_72be8 wsJx4a65c_grow_d5877 := goodIn_r _ [6, 1, 7, 8, 9, 5, 10, 11, 12, 13, 14, 15, 16, 17, 18, 19, 20, 21, 22, 23, 24, 25, 26, 27, 28, 29, 30, 31, 32, 33, 34, 35, 36, 37, 38, 39, 40, 41, 42, 43, 44, 45, 46, 47, 48, 49] (by decide +kernel) (by decide +kernel)
set_option maxRecDepth 20000 in
theorem gJx4a65c_add_72be8_Jx4a65c_grow_d5877 : GoodIn wsJx4a65c_add_72be8 (wsV RJx4a65c 129 RJx4a65c yJx4a65c_grow_d5877 wsJx4a65c_grow_d5877) := goodIn_app (goodIn_of _ (by decide +kernel)) ggJx4a65c_add_72be8_Jx4a65c_grow_d5877
theorem dJx4a65c_add_72be8_0 : decode cJx4a65c_add_72be8 0 = .ok (.iload_n 3, 1) := by decide +kernel
theorem dJx4a65c_add_72be8_1 : decode cJx4a65c_add_72be8 1 = .ok (.aload_n 2, 1) := by decide +kernel
theorem dJx4a65c_add_72be8_2 : decode cJx4a65c_add_72be8 2 = .ok (.arraylength, 1) := by decide +kernel
theorem dJx4a65c_add_72be8_3 : decode cJx4a65c_add_72be8 3 = .ok (.if_icmp .ne 8, 3) := by decide +kernel
theorem dJx4a65c_add_72be8_6 : decode cJx4a65c_add_72be8 6 = .ok (.aload_n 0, 1) := by decide +kernel
theorem dJx4a65c_add_72be8_7 : decode cJx4a65c_add_72be8 7 = .ok (.invokevirtual 129, 3) := by decide +kernel
theorem dJx4a65c_add_72be8_10 : decode cJx4a65c_add_72be8 10 = .ok (.astore_n 2, 1) := by decide +kernel
theorem dJx4a65c_add_72be8_11 : decode cJx4a65c_add_72be8 11 = .ok (.aload_n 2, 1) := by decide +kernel
theorem dJx4a65c_add_72be8_12 : decode cJx4a65c_add_72be8 12 = .ok (.iload_n 3, 1) := by decide +kernel
theorem dJx4a65c_add_72be8_13 : decode cJx4a65c_add_72be8 13 = .ok (.aload_n 1, 1) := by decide +kernel
theorem dJx4a65c_add_72be8_14 : decode cJx4a65c_add_72be8 14 = .ok (.aastore, 1) := by decide +kernel
theorem dJx4a65c_add_72be8_15 : decode cJx4a65c_add_72be8 15 = .ok (.aload_n 0, 1) := by decide +kernel
theorem dJx4a65c_add_72be8_16 : decode cJx4a65c_add_72be8 16 = .ok (.iload_n 3, 1) := by decide +kernel
theorem dJx4a65c_add_72be8_17 : decode cJx4a65c_add_72be8 17 = .ok (.iconst 1, 1) := by decide +kernel
theorem dJx4a65c_add_72be8_18 : decode cJx4a65c_add_72be8 18 = .ok (.iadd, 1) := by decide +kernel
theorem dJx4a65c_add_72be8_19 : decode cJx4a65c_add_72be8 19 = .ok (.putfield 48, 3) := by decide +kernel
theorem dJx4a65c_add_72be8_22 : decode cJx4a65c_add_72be8 22 = .ok (.return_, 1) := by decide +kernel
set_option maxRecDepth 20000 in
theorem ggJx4a65c_add_9ea2d_Jx4a65c_add_72be8 : GoodIn wsJx4a65c_add_9ea2d wsJx4a65c_add_72be8 := goodIn_r _ [9, 4, 10, 11, 12, 8, 13, 14, 15, 16, 17, 3, 18, 19, 20, 21, 22, 23, 24, 25, 26, 27, 28, 29, 30, 31, 32, 33, 34, 35, 36, 37, 38, 39, 40, 41, 42, 43, 44, 45, 46, 47, 48, 49, 50, 51, 52, 53, 54, 55] (by decide +kernel) (by decide +kernel)
set_option maxRecDepth 20000 in
theorem gJx4a65c_add_9ea2d_Jx4a65c_add_72be8 : GoodIn wsJx4a65c_add_9ea2d (wsV RJx4a65c 131 RJx4a65c yJx4a65c_add_72be8 wsJx4a65c_add_72be8) := goodIn_app (goodIn_of _ (by decide +kernel)) ggJx4a65c_add_9ea2d_Jx4a65c_add_72be8
theorem dJx4a65c_add_9ea2d_0 : decode cJx4a65c_add_9ea2d 0 = .ok (.aload_n 0, 1) := by decide +kernel
theorem dJx4a65c_add_9ea2d_1 : decode cJx4a65c_add_9ea2d 1 = .ok (.dup, 1) := by decide +kernel
theorem dJx4a65c_add_9ea2d_2 : decode cJx4a65c_add_9ea2d 2 = .ok (.getfield 63, 3) := by decide +kernel
theorem dJx4a65c_add_9ea2d_5 : decode cJx4a65c_add_9ea2d 5 = .ok (.iconst 1, 1) := by decide +kernel
theorem dJx4a65c_add_9ea2d_6 : decode cJx4a65c_add_9ea2d 6 = .ok (.iadd, 1) := by decide +kernel
theorem dJx4a65c_add_9ea2d_7 : decode cJx4a65c_add_9ea2d 7 = .ok (.putfield 63, 3) := by decide +kernel
theorem dJx4a65c_add_9ea2d_10 : decode cJx4a65c_add_9ea2d 10 = .ok (.aload_n 0, 1) := by decide +kernel
theorem dJx4a65c_add_9ea2d_11 : decode cJx4a65c_add_9ea2d 11 = .ok (.aload_n 1, 1) := by decide +kernel
theorem dJx4a65c_add_9ea2d_12 : decode cJx4a65c_add_9ea2d 12 = .ok (.aload_n 0, 1) := by decide +kernel
theorem dJx4a65c_add_9ea2d_13 : decode cJx4a65c_add_9ea2d 13 = .ok (.getfield 9, 3) := by decide +kernel
theorem dJx4a65c_add_9ea2d_16 : decode cJx4a65c_add_9ea2d 16 = .ok (.aload_n 0, 1) := by decide +kernel
theorem dJx4a65c_add_9ea2d_17 : decode cJx4a65c_add_9ea2d 17 = .ok (.getfield 48, 3) := by decide +kernel
theorem dJx4a65c_add_9ea2d_20 : decode cJx4a65c_add_9ea2d 20 = .ok (.invokevirtual 131, 3) := by decide +kernel
theorem dJx4a65c_add_9ea2d_23 : decode cJx4a65c_add_9ea2d 23 = .ok (.iconst 1, 1) := by decide +kernel
theorem dJx4a65c_add_9ea2d_24 : decode cJx4a65c_add_9ea2d 24 = .ok (.ireturn, 1) := by decide +kernel
set_option maxRecDepth 20000 in
theorem ggJx4a65c_iterator_32c93_Jx35411_init_45d68 : GoodIn wsJx4a65c_iterator_32c93 wsJx35411_init_45d68 := goodIn_r _ [6, 7, 8, 9, 10, 11, 12, 13, 14, 15, 16, 17, 18, 19, 20, 21] (by decide +kernel) (by decide +kernel)
set_option maxRecDepth 20000 in
theorem gJx4a65c_iterator_32c93_Jx35411_init_45d68 : GoodIn wsJx4a65c_iterator_32c93 (wsJx35411_init_45d68) := ggJx4a65c_iterator_32c93_Jx35411_init_45d68
theorem dJx4a65c_iterator_32c93_0 : decode cJx4a65c_iterator_32c93 0 = .ok (.new 267, 3) := by decide +kernel
theorem dJx4a65c_iterator_32c93_3 : decode cJx4a65c_iterator_32c93 3 = .ok (.dup, 1) := by decide +kernel
theorem dJx4a65c_iterator_32c93_4 : decode cJx4a65c_iterator_32c93 4 = .ok (.aload_n 0, 1) := by decide +kernel
theorem dJx4a65c_iterator_32c93_5 : decode cJx4a65c_iterator_32c93 5 = .ok (.invokespecial 269, 3) := by decide +kernel
theorem dJx4a65c_iterator_32c93_8 : decode cJx4a65c_iterator_32c93 8 = .ok (.areturn, 1) := by decide +kernel
set_option maxRecDepth 20000 in
theorem ggL_house_X4_house : GoodIn wsL_house wsX4_house := goodIn_ca (goodIn_r _ [6, 7, 8, 9, 10, 11, 12, 13, 14, 15, 16, 17, 18, 19, 20, 21, 22, 23, 24, 25, 26, 27, 28] (by decide +kernel) (by decide +kernel)) (goodIn_sub (fun _ h => List.mem_cons_of_mem _ (List.mem_append_right _ h)) (by decide +kernel))
set_option maxRecDepth 20000 in
theorem gL_house_X4_house : GoodIn wsL_house (wsV RL 7 RX4 yX4_house wsX4_house) := goodIn_app (goodIn_of _ (by decide +kernel)) ggL_house_X4_house
theorem dL_house_0 : decode cL_house 0 = .ok (.aload_n 1, 1) := by decide +kernel
theorem dL_house_1 : decode cL_house 1 = .ok (.iconst 0, 1) := by decide +kernel
theorem dL_house_2 : decode cL_house 2 = .ok (.aload_n 0, 1) := by decide +kernel
theorem dL_house_3 : decode cL_house 3 = .ok (.invokevirtual 7, 3) := by decide +kernel
theorem dL_house_6 : decode cL_house 6 = .ok (.i2l, 1) := by decide +kernel
theorem dL_house_7 : decode cL_house 7 = .ok (.lastore, 1) := by decide +kernel
theorem dL_house_8 : decode cL_house 8 = .ok (.goto 6, 3) := by decide +kernel
theorem dL_house_14 : decode cL_house 14 = .ok (.iconst 0, 1) := by decide +kernel
theorem dL_house_15 : decode cL_house 15 = .ok (.ireturn, 1) := by decide +kernel
set_option maxRecDepth 20000 in
theorem ggL_book_X4_book : GoodIn wsL_book wsX4_book := goodIn_ca (goodIn_ca (goodIn_ca (goodIn_r _ [8, 9, 10, 11, 12, 13, 14, 15, 16, 17, 18, 19, 20, 21, 7, 22, 23, 24, 25, 26, 27, 28, 29, 30, 31, 32, 33, 34, 35, 36, 37, 38, 39, 40, 41, 42, 43, 44, 45, 46, 47, 48, 49, 50, 51, 52, 53, 54, 55, 56, 57, 58, 59, 60, 61, 62, 63, 64, 65, 66, 67, 68, 69, 70] (by decide +kernel) (by decide +kernel)) (goodIn_sub (fun _ h => List.mem_cons_of_mem _ (List.mem_append_left _ (List.mem_append_left _ (List.mem_append_right _ h)))) (by decide +kernel))) (goodIn_sub (fun _ h => List.mem_cons_of_mem _ (List.mem_append_left _ (List.mem_append_right _ h))) (by decide +kernel))) (goodIn_sub (fun _ h => List.mem_cons_of_mem _ (List.mem_append_right _ h)) (by decide +kernel))
set_option maxRecDepth 20000 in
theorem gL_book_X4_book : GoodIn wsL_book (wsV RL 15 RX4 yX4_book wsX4_book) := goodIn_app (goodIn_of _ (by decide +kernel)) ggL_book_X4_book
theorem dL_book_0 : decode cL_book 0 = .ok (.aload 7, 2) := by decide +kernel
theorem dL_book_2 : decode cL_book 2 = .ok (.iconst 0, 1) := by decide +kernel
theorem dL_book_3 : decode cL_book 3 = .ok (.aload_n 0, 1) := by decide +kernel
theorem dL_book_4 : decode cL_book 4 = .ok (.iload_n 1, 1) := by decide +kernel
theorem dL_book_5 : decode cL_book 5 = .ok (.iload_n 2, 1) := by decide +kernel
theorem dL_book_6 : decode cL_book 6 = .ok (.iload_n 3, 1) := by decide +kernel
theorem dL_book_7 : decode cL_book 7 = .ok (.iload 4, 2) := by decide +kernel
theorem dL_book_9 : decode cL_book 9 = .ok (.iload 5, 2) := by decide +kernel
theorem dL_book_11 : decode cL_book 11 = .ok (.iload 6, 2) := by decide +kernel
theorem dL_book_13 : decode cL_book 13 = .ok (.invokevirtual 15, 3) := by decide +kernel
theorem dL_book_21 : decode cL_book 21 = .ok (.astore 8, 2) := by decide +kernel
theorem dL_book_23 : decode cL_book 23 = .ok (.iconst 1, 1) := by decide +kernel
theorem dL_book_24 : decode cL_book 24 = .ok (.ireturn, 1) := by decide +kernel
set_option maxRecDepth 20000 in
theorem ggL_judge_X4_judge : GoodIn wsL_judge wsX4_judge := goodIn_ca (goodIn_ca (goodIn_r _ [7, 8, 9, 10, 11, 12, 13, 14, 15, 16, 6, 17, 18, 19, 20, 21, 22, 23, 24, 25, 26, 27, 28, 29, 30, 31, 32, 33, 34, 35, 36, 37, 38, 39, 40, 41, 42, 43, 44, 45, 46, 47, 48, 49, 50, 51, 52, 53, 54, 55, 56, 57, 58, 59, 60] (by decide +kernel) (by decide +kernel)) (goodIn_sub (fun _ h => List.mem_cons_of_mem _ (List.mem_append_left _ (List.mem_append_right _ h))) (by decide +kernel))) (goodIn_sub (fun _ h => List.mem_cons_of_mem _ (List.mem_append_right _ h)) (by decide +kernel))
set_option maxRecDepth 20000 in
theorem gL_judge_X4_judge : GoodIn wsL_judge (wsV RL 23 RX4 yX4_judge wsX4_judge) := goodIn_app (goodIn_of _ (by decide +kernel)) ggL_judge_X4_judge
theorem dL_judge_0 : decode cL_judge 0 = .ok (.aload 4, 2) := by decide +kernel
theorem dL_judge_2 : decode cL_judge 2 = .ok (.iconst 0, 1) := by decide +kernel
theorem dL_judge_3 : decode cL_judge 3 = .ok (.aload_n 0, 1) := by decide +kernel
theorem dL_judge_4 : decode cL_judge 4 = .ok (.iload_n 1, 1) := by decide +kernel
theorem dL_judge_5 : decode cL_judge 5 = .ok (.iload_n 2, 1) := by decide +kernel
theorem dL_judge_6 : decode cL_judge 6 = .ok (.iload_n 3, 1) := by decide +kernel
theorem dL_judge_7 : decode cL_judge 7 = .ok (.invokevirtual 23, 3) := by decide +kernel
theorem dL_judge_10 : decode cL_judge 10 = .ok (.i2l, 1) := by decide +kernel
theorem dL_judge_11 : decode cL_judge 11 = .ok (.lastore, 1) := by decide +kernel
theorem dL_judge_12 : decode cL_judge 12 = .ok (.goto 11, 3) := by decide +kernel
theorem dL_judge_15 : decode cL_judge 15 = .ok (.astore 5, 2) := by decide +kernel
theorem dL_judge_17 : decode cL_judge 17 = .ok (.iconst 1, 1) := by decide +kernel
theorem dL_judge_18 : decode cL_judge 18 = .ok (.ireturn, 1) := by decide +kernel
theorem dL_judge_23 : decode cL_judge 23 = .ok (.iconst 0, 1) := by decide +kernel
theorem dL_judge_24 : decode cL_judge 24 = .ok (.ireturn, 1) := by decide +kernel
set_option maxRecDepth 20000 in
theorem ggL_conflict_X4_conflict : GoodIn wsL_conflict wsX4_conflict := goodIn_ca (goodIn_ca (goodIn_r _ [7, 8, 9, 10, 11, 12, 13, 14, 15, 16, 6, 17, 18, 19, 20, 21, 22, 23, 24, 25, 26, 27, 28, 29, 30, 31, 32, 33, 34, 35, 36, 37, 38, 39, 40, 41, 42, 43, 44, 45, 46, 47, 48, 49, 50, 51, 52, 53, 54, 55, 56, 57, 58, 59, 60, 61, 62, 63, 64, 65, 66, 67, 68, 69] (by decide +kernel) (by decide +kernel)) (goodIn_sub (fun _ h => List.mem_cons_of_mem _ (List.mem_append_left _ (List.mem_append_right _ h))) (by decide +kernel))) (goodIn_sub (fun _ h => List.mem_cons_of_mem _ (List.mem_append_right _ h)) (by decide +kernel))
set_option maxRecDepth 20000 in
theorem gL_conflict_X4_conflict : GoodIn wsL_conflict (wsV RL 27 RX4 yX4_conflict wsX4_conflict) := goodIn_app (goodIn_of _ (by decide +kernel)) ggL_conflict_X4_conflict
theorem dL_conflict_0 : decode cL_conflict 0 = .ok (.aload_n 3, 1) := by decide +kernel
theorem dL_conflict_1 : decode cL_conflict 1 = .ok (.iconst 0, 1) := by decide +kernel
theorem dL_conflict_2 : decode cL_conflict 2 = .ok (.aload_n 0, 1) := by decide +kernel
theorem dL_conflict_3 : decode cL_conflict 3 = .ok (.iload_n 1, 1) := by decide +kernel
theorem dL_conflict_4 : decode cL_conflict 4 = .ok (.iload_n 2, 1) := by decide +kernel
theorem dL_conflict_5 : decode cL_conflict 5 = .ok (.invokevirtual 27, 3) := by decide +kernel
theorem dL_conflict_13 : decode cL_conflict 13 = .ok (.astore 4, 2) := by decide +kernel
theorem dL_conflict_15 : decode cL_conflict 15 = .ok (.iconst 1, 1) := by decide +kernel

