theorem dX5_ofBookNow_4 : decode cX5_ofBookNow 4 = .ok (.iload_n 1, 1) := by decide +kernel
theorem dX5_ofBookNow_5 : decode cX5_ofBookNow 5 = .ok (.invokevirtual 107, 3) := by decide +kernel
theorem dX5_ofBookNow_8 : decode cX5_ofBookNow 8 = .ok (.checkcast 76, 3) := by decide +kernel
theorem dX5_ofBookNow_11 : decode cX5_ofBookNow 11 = .ok (.astore_n 3, 1) := by decide +kernel
theorem dX5_ofBookNow_12 : decode cX5_ofBookNow 12 = .ok (.iload_n 2, 1) := by decide +kernel
theorem dX5_ofBookNow_13 : decode cX5_ofBookNow 13 = .ok (.tableswitch 155 0 9 #[55, 59, 63, 68, 73, 78, 92, 106, 143, 149], 55) := by decide +kernel
theorem dX5_ofBookNow_68 : decode cX5_ofBookNow 68 = .ok (.aload_n 3, 1) := by decide +kernel
theorem dX5_ofBookNow_69 : decode cX5_ofBookNow 69 = .ok (.iconst 0, 1) := by decide +kernel
theorem dX5_ofBookNow_70 : decode cX5_ofBookNow 70 = .ok (.iaload, 1) := by decide +kernel
theorem dX5_ofBookNow_71 : decode cX5_ofBookNow 71 = .ok (.ireturn, 1) := by decide +kernel
theorem dX5_ofBookNow_72 : decode cX5_ofBookNow 72 = .ok (.aload_n 3, 1) := by decide +kernel
theorem dX5_ofBookNow_73 : decode cX5_ofBookNow 73 = .ok (.iconst 1, 1) := by decide +kernel
theorem dX5_ofBookNow_74 : decode cX5_ofBookNow 74 = .ok (.iaload, 1) := by decide +kernel
theorem dX5_ofBookNow_75 : decode cX5_ofBookNow 75 = .ok (.ireturn, 1) := by decide +kernel
theorem dX5_ofBookNow_76 : decode cX5_ofBookNow 76 = .ok (.aload_n 3, 1) := by decide +kernel
theorem dX5_ofBookNow_77 : decode cX5_ofBookNow 77 = .ok (.bipush 7, 2) := by decide +kernel
theorem dX5_ofBookNow_79 : decode cX5_ofBookNow 79 = .ok (.iaload, 1) := by decide +kernel
theorem dX5_ofBookNow_80 : decode cX5_ofBookNow 80 = .ok (.ireturn, 1) := by decide +kernel
theorem dX5_ofBookNow_81 : decode cX5_ofBookNow 81 = .ok (.aload_n 3, 1) := by decide +kernel
theorem dX5_ofBookNow_82 : decode cX5_ofBookNow 82 = .ok (.bipush 8, 2) := by decide +kernel
theorem dX5_ofBookNow_84 : decode cX5_ofBookNow 84 = .ok (.iaload, 1) := by decide +kernel
theorem dX5_ofBookNow_85 : decode cX5_ofBookNow 85 = .ok (.ireturn, 1) := by decide +kernel
theorem dX5_ofBookNow_86 : decode cX5_ofBookNow 86 = .ok (.aload_n 3, 1) := by decide +kernel
theorem dX5_ofBookNow_87 : decode cX5_ofBookNow 87 = .ok (.bipush 9, 2) := by decide +kernel
theorem dX5_ofBookNow_89 : decode cX5_ofBookNow 89 = .ok (.iaload, 1) := by decide +kernel
theorem dX5_ofBookNow_90 : decode cX5_ofBookNow 90 = .ok (.ireturn, 1) := by decide +kernel
theorem dX5_ofBookNow_91 : decode cX5_ofBookNow 91 = .ok (.aload_n 0, 1) := by decide +kernel
theorem dX5_ofBookNow_92 : decode cX5_ofBookNow 92 = .ok (.iload_n 1, 1) := by decide +kernel
theorem dX5_ofBookNow_93 : decode cX5_ofBookNow 93 = .ok (.invokevirtual 144, 3) := by decide +kernel
theorem dX5_ofBookNow_96 : decode cX5_ofBookNow 96 = .ok (.ifCond .eq 7, 3) := by decide +kernel
theorem dX5_ofBookNow_99 : decode cX5_ofBookNow 99 = .ok (.iconst 1, 1) := by decide +kernel
theorem dX5_ofBookNow_100 : decode cX5_ofBookNow 100 = .ok (.goto 4, 3) := by decide +kernel
theorem dX5_ofBookNow_103 : decode cX5_ofBookNow 103 = .ok (.iconst 0, 1) := by decide +kernel
theorem dX5_ofBookNow_104 : decode cX5_ofBookNow 104 = .ok (.ireturn, 1) := by decide +kernel
theorem dX5_ofBookNow_105 : decode cX5_ofBookNow 105 = .ok (.aload_n 0, 1) := by decide +kernel
theorem dX5_ofBookNow_106 : decode cX5_ofBookNow 106 = .ok (.iload_n 1, 1) := by decide +kernel
theorem dX5_ofBookNow_107 : decode cX5_ofBookNow 107 = .ok (.invokevirtual 131, 3) := by decide +kernel
theorem dX5_ofBookNow_110 : decode cX5_ofBookNow 110 = .ok (.ifCond .eq 7, 3) := by decide +kernel
theorem dX5_ofBookNow_113 : decode cX5_ofBookNow 113 = .ok (.iconst 1, 1) := by decide +kernel
theorem dX5_ofBookNow_114 : decode cX5_ofBookNow 114 = .ok (.goto 4, 3) := by decide +kernel
theorem dX5_ofBookNow_117 : decode cX5_ofBookNow 117 = .ok (.iconst 0, 1) := by decide +kernel
theorem dX5_ofBookNow_118 : decode cX5_ofBookNow 118 = .ok (.ireturn, 1) := by decide +kernel
theorem dX5_ofBookNow_119 : decode cX5_ofBookNow 119 = .ok (.iload_n 1, 1) := by decide +kernel
theorem dX5_ofBookNow_120 : decode cX5_ofBookNow 120 = .ok (.aload_n 0, 1) := by decide +kernel
theorem dX5_ofBookNow_121 : decode cX5_ofBookNow 121 = .ok (.getfield 40, 3) := by decide +kernel
theorem dX5_ofBookNow_124 : decode cX5_ofBookNow 124 = .ok (.if_icmp .ne 7, 3) := by decide +kernel
theorem dX5_ofBookNow_127 : decode cX5_ofBookNow 127 = .ok (.iconst 3, 1) := by decide +kernel
theorem dX5_ofBookNow_128 : decode cX5_ofBookNow 128 = .ok (.goto 27, 3) := by decide +kernel
theorem dX5_ofBookNow_131 : decode cX5_ofBookNow 131 = .ok (.aload_n 0, 1) := by decide +kernel
theorem dX5_ofBookNow_132 : decode cX5_ofBookNow 132 = .ok (.getfield 80, 3) := by decide +kernel
theorem dX5_ofBookNow_135 : decode cX5_ofBookNow 135 = .ok (.iload_n 1, 1) := by decide +kernel
theorem dX5_ofBookNow_136 : decode cX5_ofBookNow 136 = .ok (.ishr, 1) := by decide +kernel
theorem dX5_ofBookNow_137 : decode cX5_ofBookNow 137 = .ok (.iconst 1, 1) := by decide +kernel
theorem dX5_ofBookNow_138 : decode cX5_ofBookNow 138 = .ok (.iand, 1) := by decide +kernel
theorem dX5_ofBookNow_139 : decode cX5_ofBookNow 139 = .ok (.iconst 1, 1) := by decide +kernel
theorem dX5_ofBookNow_140 : decode cX5_ofBookNow 140 = .ok (.if_icmp .ne 7, 3) := by decide +kernel
theorem dX5_ofBookNow_143 : decode cX5_ofBookNow 143 = .ok (.iconst 2, 1) := by decide +kernel
theorem dX5_ofBookNow_144 : decode cX5_ofBookNow 144 = .ok (.goto 11, 3) := by decide +kernel
theorem dX5_ofBookNow_147 : decode cX5_ofBookNow 147 = .ok (.aload_n 0, 1) := by decide +kernel
theorem dX5_ofBookNow_148 : decode cX5_ofBookNow 148 = .ok (.getfield 77, 3) := by decide +kernel
theorem dX5_ofBookNow_151 : decode cX5_ofBookNow 151 = .ok (.iload_n 1, 1) := by decide +kernel
theorem dX5_ofBookNow_152 : decode cX5_ofBookNow 152 = .ok (.ishr, 1) := by decide +kernel
theorem dX5_ofBookNow_153 : decode cX5_ofBookNow 153 = .ok (.iconst 1, 1) := by decide +kernel
theorem dX5_ofBookNow_154 : decode cX5_ofBookNow 154 = .ok (.iand, 1) := by decide +kernel
theorem dX5_ofBookNow_155 : decode cX5_ofBookNow 155 = .ok (.ireturn, 1) := by decide +kernel
theorem dX5_ofBookNow_156 : decode cX5_ofBookNow 156 = .ok (.aload_n 0, 1) := by decide +kernel
theorem dX5_ofBookNow_157 : decode cX5_ofBookNow 157 = .ok (.iload_n 1, 1) := by decide +kernel
theorem dX5_ofBookNow_158 : decode cX5_ofBookNow 158 = .ok (.invokevirtual 210, 3) := by decide +kernel
theorem dX5_ofBookNow_161 : decode cX5_ofBookNow 161 = .ok (.ireturn, 1) := by decide +kernel
theorem dX5_ofBookNow_162 : decode cX5_ofBookNow 162 = .ok (.aload_n 0, 1) := by decide +kernel
theorem dX5_ofBookNow_163 : decode cX5_ofBookNow 163 = .ok (.iload_n 1, 1) := by decide +kernel
theorem dX5_ofBookNow_164 : decode cX5_ofBookNow 164 = .ok (.invokevirtual 198, 3) := by decide +kernel
theorem dX5_ofBookNow_167 : decode cX5_ofBookNow 167 = .ok (.ireturn, 1) := by decide +kernel
theorem dX5_ofBookNow_168 : decode cX5_ofBookNow 168 = .ok (.aload_n 0, 1) := by decide +kernel
theorem dX5_ofBookNow_169 : decode cX5_ofBookNow 169 = .ok (.iload_n 1, 1) := by decide +kernel
theorem dX5_ofBookNow_170 : decode cX5_ofBookNow 170 = .ok (.iconst 1, 1) := by decide +kernel
theorem dX5_ofBookNow_171 : decode cX5_ofBookNow 171 = .ok (.invokevirtual 219, 3) := by decide +kernel
theorem dX5_ofBookNow_174 : decode cX5_ofBookNow 174 = .ok (.ireturn, 1) := by decide +kernel
set_option maxRecDepth 20000 in
theorem ggX5_ofBook_X5_isBook : GoodIn wsX5_ofBook wsX5_isBook := goodIn_r _ [6, 7, 8, 9, 10, 11, 12, 13, 14, 15, 5, 16, 91, 92, 93, 94, 95, 96, 97, 98, 99, 100, 101, 102, 103, 104, 105, 106, 107, 108, 109, 110, 111, 112, 113] (by decide +kernel) (by decide +kernel)
set_option maxRecDepth 20000 in
theorem gX5_ofBook_X5_isBook : GoodIn wsX5_ofBook (wsV RX5 141 RX5 yX5_isBook wsX5_isBook) := goodIn_app (goodIn_of _ (by decide +kernel)) ggX5_ofBook_X5_isBook
set_option maxRecDepth 20000 in
theorem ggX5_ofBook_X5_refuse : GoodIn wsX5_ofBook wsX5_refuse := goodIn_r _ [20, 1, 91, 92, 93, 94, 95, 96, 97, 98, 99, 100, 101, 102, 103, 104, 105, 106, 107, 108, 109, 110] (by decide +kernel) (by decide +kernel)
set_option maxRecDepth 20000 in
theorem gX5_ofBook_X5_refuse : GoodIn wsX5_ofBook (wsV RX5 86 RX5 yX5_refuse wsX5_refuse) := goodIn_app (goodIn_of _ (by decide +kernel)) ggX5_ofBook_X5_refuse
set_option maxRecDepth 20000 in
theorem ggX5_ofBook_X5_is : GoodIn wsX5_ofBook wsX5_is := goodIn_r _ [16] (by decide +kernel) (by decide +kernel)
set_option maxRecDepth 20000 in
theorem gX5_ofBook_X5_is : GoodIn wsX5_ofBook (va_wsS RX5 57 yX5_is wsX5_is) := goodIn_app (goodIn_of _ (by decide +kernel)) ggX5_ofBook_X5_is
set_option maxRecDepth 20000 in
theorem ggX5_ofBook_X5_ofBookNow : GoodIn wsX5_ofBook wsX5_ofBookNow := goodIn_r _ [24, 7, 25, 26, 27, 28, 29, 30, 31, 11, 32, 13, 33, 34, 35, 36, 37, 38, 39, 40, 41, 42, 43, 44, 45, 46, 47, 48, 5, 49, 50, 51, 14, 15, 16, 52, 53, 54, 55, 56, 57, 58, 59, 60, 61, 8, 9, 10, 12, 62, 63, 64, 65, 66, 67, 68, 69, 70, 71, 72, 73, 74, 75, 76, 77, 78, 79, 80, 81, 82, 83, 84, 85, 86, 87, 88, 89, 90, 91, 92, 93, 94, 95, 96, 97, 98, 99, 100, 101, 102, 103, 104, 105, 106, 107, 108, 109, 110, 111, 112, 113] (by decide +kernel) (by decide +kernel)
set_option maxRecDepth 20000 in
theorem gX5_ofBook_X5_ofBookNow : GoodIn wsX5_ofBook (wsV RX5 253 RX5 yX5_ofBookNow wsX5_ofBookNow) := goodIn_app (goodIn_of _ (by decide +kernel)) ggX5_ofBook_X5_ofBookNow
theorem dX5_ofBook_0 : decode cX5_ofBook 0 = .ok (.aload_n 0, 1) := by decide +kernel
theorem dX5_ofBook_1 : decode cX5_ofBook 1 = .ok (.iconst 0, 1) := by decide +kernel
theorem dX5_ofBook_2 : decode cX5_ofBook 2 = .ok (.putfield 50, 3) := by decide +kernel
theorem dX5_ofBook_5 : decode cX5_ofBook 5 = .ok (.aload_n 0, 1) := by decide +kernel
theorem dX5_ofBook_6 : decode cX5_ofBook 6 = .ok (.iload_n 1, 1) := by decide +kernel
theorem dX5_ofBook_7 : decode cX5_ofBook 7 = .ok (.invokevirtual 141, 3) := by decide +kernel
theorem dX5_ofBook_10 : decode cX5_ofBook 10 = .ok (.ifCond .ne 9, 3) := by decide +kernel
theorem dX5_ofBook_13 : decode cX5_ofBook 13 = .ok (.aload_n 0, 1) := by decide +kernel
theorem dX5_ofBook_14 : decode cX5_ofBook 14 = .ok (.iconst 1, 1) := by decide +kernel
theorem dX5_ofBook_15 : decode cX5_ofBook 15 = .ok (.invokevirtual 86, 3) := by decide +kernel
theorem dX5_ofBook_18 : decode cX5_ofBook 18 = .ok (.ireturn, 1) := by decide +kernel
theorem dX5_ofBook_19 : decode cX5_ofBook 19 = .ok (.iload_n 2, 1) := by decide +kernel
theorem dX5_ofBook_20 : decode cX5_ofBook 20 = .ok (.iconst 0, 1) := by decide +kernel
theorem dX5_ofBook_21 : decode cX5_ofBook 21 = .ok (.bipush 10, 2) := by decide +kernel
theorem dX5_ofBook_23 : decode cX5_ofBook 23 = .ok (.invokestatic 57, 3) := by decide +kernel
theorem dX5_ofBook_26 : decode cX5_ofBook 26 = .ok (.ifCond .eq 12, 3) := by decide +kernel
theorem dX5_ofBook_29 : decode cX5_ofBook 29 = .ok (.aload_n 0, 1) := by decide +kernel
theorem dX5_ofBook_30 : decode cX5_ofBook 30 = .ok (.iload_n 1, 1) := by decide +kernel
theorem dX5_ofBook_31 : decode cX5_ofBook 31 = .ok (.iload_n 2, 1) := by decide +kernel
theorem dX5_ofBook_32 : decode cX5_ofBook 32 = .ok (.invokevirtual 253, 3) := by decide +kernel
theorem dX5_ofBook_35 : decode cX5_ofBook 35 = .ok (.goto 8, 3) := by decide +kernel
theorem dX5_ofBook_38 : decode cX5_ofBook 38 = .ok (.aload_n 0, 1) := by decide +kernel
theorem dX5_ofBook_39 : decode cX5_ofBook 39 = .ok (.iconst 2, 1) := by decide +kernel
theorem dX5_ofBook_40 : decode cX5_ofBook 40 = .ok (.invokevirtual 86, 3) := by decide +kernel
theorem dX5_ofBook_43 : decode cX5_ofBook 43 = .ok (.ireturn, 1) := by decide +kernel
set_option maxRecDepth 20000 in
theorem ggX5_ofJudgeNow_Jx4a65c_get_915e3 : GoodIn wsX5_ofJudgeNow wsJx4a65c_get_915e3 := goodIn_r _ [10, 11, 12, 13, 14, 15, 16, 17, 18, 19, 20, 21, 22, 9, 23, 24, 107, 108, 109] (by decide +kernel) (by decide +kernel)
set_option maxRecDepth 20000 in
theorem gX5_ofJudgeNow_Jx4a65c_get_915e3 : GoodIn wsX5_ofJudgeNow (wsV RX5 107 RJx4a65c yJx4a65c_get_915e3 wsJx4a65c_get_915e3) := goodIn_app (goodIn_of _ (by decide +kernel)) ggX5_ofJudgeNow_Jx4a65c_get_915e3
set_option maxRecDepth 20000 in
theorem ggX5_ofJudgeNow_Jx4a65c_size_8abf5 : GoodIn wsX5_ofJudgeNow wsJx4a65c_size_8abf5 := goodIn_r _ [28, 11, 107, 108, 109] (by decide +kernel) (by decide +kernel)
set_option maxRecDepth 20000 in
theorem gX5_ofJudgeNow_Jx4a65c_size_8abf5 : GoodIn wsX5_ofJudgeNow (wsV RX5 53 RJx4a65c yJx4a65c_size_8abf5 wsJx4a65c_size_8abf5) := goodIn_app (goodIn_of _ (by decide +kernel)) ggX5_ofJudgeNow_Jx4a65c_size_8abf5
set_option maxRecDepth 20000 in
theorem ggX5_ofJudgeNow_X5_left : GoodIn wsX5_ofJudgeNow wsX5_left := goodIn_r _ [33, 1, 2, 34, 35, 36, 32, 37, 4, 5, 38, 39, 6, 7, 8, 9, 10, 11, 12, 13, 14, 15, 16, 17, 18, 19, 20, 21, 22, 23, 24, 40, 41, 42, 43, 44, 45, 46, 47, 48, 49, 50, 51, 52, 53, 54, 55, 56, 57, 58, 59, 60, 61, 62, 63, 64, 65, 66, 67, 68, 69, 70, 71, 72, 73, 74, 75, 76, 77, 87, 88, 89, 90, 91, 92, 93, 94, 95, 96, 97, 98, 99, 100, 101, 102, 103, 104, 105, 106, 107, 108, 109, 110, 111, 112, 113, 114] (by decide +kernel) (by decide +kernel)
set_option maxRecDepth 20000 in
theorem gX5_ofJudgeNow_X5_left : GoodIn wsX5_ofJudgeNow (wsV RX5 204 RX5 yX5_left wsX5_left) := goodIn_app (goodIn_of _ (by decide +kernel)) ggX5_ofJudgeNow_X5_left
set_option maxRecDepth 20000 in
theorem ggX5_ofJudgeNow_X5_ended : GoodIn wsX5_ofJudgeNow wsX5_ended := goodIn_r _ [81, 4, 5, 38, 39, 2, 6, 7, 8, 9, 10, 11, 12, 13, 14, 15, 16, 17, 18, 19, 20, 21, 22, 23, 24, 40, 41, 42, 43, 44, 45, 46, 47, 48, 49, 50, 51, 52, 53, 54, 55, 56, 57, 58, 59, 60, 61, 62, 63, 64, 65, 66, 67, 68, 69, 70, 71, 72, 73, 74, 75, 76, 77, 87, 88, 89, 90, 91, 92, 93, 94, 95, 96, 97, 98, 99, 100, 101, 102, 103, 104, 105, 106, 107, 108, 109, 110, 111, 112, 113, 114] (by decide +kernel) (by decide +kernel)
set_option maxRecDepth 20000 in
theorem gX5_ofJudgeNow_X5_ended : GoodIn wsX5_ofJudgeNow (wsV RX5 170 RX5 yX5_ended wsX5_ended) := goodIn_app (goodIn_of _ (by decide +kernel)) ggX5_ofJudgeNow_X5_ended
set_option maxRecDepth 20000 in
theorem ggX5_ofJudgeNow_X5_spent : GoodIn wsX5_ofJudgeNow wsX5_spent := goodIn_r _ [85, 86, 87, 88, 89, 90, 91, 92, 93, 94, 95, 96, 97, 98, 99, 100, 101, 102, 103, 104, 105, 106] (by decide +kernel) (by decide +kernel)
set_option maxRecDepth 20000 in
theorem gX5_ofJudgeNow_X5_spent : GoodIn wsX5_ofJudgeNow (wsV RX5 213 RX5 yX5_spent wsX5_spent) := goodIn_app (goodIn_of _ (by decide +kernel)) ggX5_ofJudgeNow_X5_spent
theorem dX5_ofJudgeNow_0 : decode cX5_ofJudgeNow 0 = .ok (.aload_n 0, 1) := by decide +kernel
theorem dX5_ofJudgeNow_1 : decode cX5_ofJudgeNow 1 = .ok (.getfield 19, 3) := by decide +kernel
theorem dX5_ofJudgeNow_4 : decode cX5_ofJudgeNow 4 = .ok (.iload_n 1, 1) := by decide +kernel
theorem dX5_ofJudgeNow_5 : decode cX5_ofJudgeNow 5 = .ok (.invokevirtual 107, 3) := by decide +kernel
theorem dX5_ofJudgeNow_8 : decode cX5_ofJudgeNow 8 = .ok (.checkcast 76, 3) := by decide +kernel
theorem dX5_ofJudgeNow_11 : decode cX5_ofJudgeNow 11 = .ok (.astore_n 3, 1) := by decide +kernel
theorem dX5_ofJudgeNow_12 : decode cX5_ofJudgeNow 12 = .ok (.bipush 8, 2) := by decide +kernel
theorem dX5_ofJudgeNow_14 : decode cX5_ofJudgeNow 14 = .ok (.newarray .int, 2) := by decide +kernel
theorem dX5_ofJudgeNow_16 : decode cX5_ofJudgeNow 16 = .ok (.dup, 1) := by decide +kernel
theorem dX5_ofJudgeNow_17 : decode cX5_ofJudgeNow 17 = .ok (.iconst 0, 1) := by decide +kernel
theorem dX5_ofJudgeNow_18 : decode cX5_ofJudgeNow 18 = .ok (.aload_n 3, 1) := by decide +kernel
theorem dX5_ofJudgeNow_19 : decode cX5_ofJudgeNow 19 = .ok (.iconst 0, 1) := by decide +kernel
theorem dX5_ofJudgeNow_20 : decode cX5_ofJudgeNow 20 = .ok (.iaload, 1) := by decide +kernel
theorem dX5_ofJudgeNow_21 : decode cX5_ofJudgeNow 21 = .ok (.iastore, 1) := by decide +kernel
theorem dX5_ofJudgeNow_22 : decode cX5_ofJudgeNow 22 = .ok (.dup, 1) := by decide +kernel
theorem dX5_ofJudgeNow_23 : decode cX5_ofJudgeNow 23 = .ok (.iconst 1, 1) := by decide +kernel
theorem dX5_ofJudgeNow_24 : decode cX5_ofJudgeNow 24 = .ok (.aload_n 3, 1) := by decide +kernel
theorem dX5_ofJudgeNow_25 : decode cX5_ofJudgeNow 25 = .ok (.iconst 3, 1) := by decide +kernel
theorem dX5_ofJudgeNow_26 : decode cX5_ofJudgeNow 26 = .ok (.iaload, 1) := by decide +kernel
theorem dX5_ofJudgeNow_27 : decode cX5_ofJudgeNow 27 = .ok (.iastore, 1) := by decide +kernel
theorem dX5_ofJudgeNow_28 : decode cX5_ofJudgeNow 28 = .ok (.dup, 1) := by decide +kernel
theorem dX5_ofJudgeNow_29 : decode cX5_ofJudgeNow 29 = .ok (.iconst 2, 1) := by decide +kernel
theorem dX5_ofJudgeNow_30 : decode cX5_ofJudgeNow 30 = .ok (.aload_n 0, 1) := by decide +kernel
theorem dX5_ofJudgeNow_31 : decode cX5_ofJudgeNow 31 = .ok (.getfield 29, 3) := by decide +kernel
theorem dX5_ofJudgeNow_34 : decode cX5_ofJudgeNow 34 = .ok (.iload_n 1, 1) := by decide +kernel
theorem dX5_ofJudgeNow_35 : decode cX5_ofJudgeNow 35 = .ok (.invokevirtual 107, 3) := by decide +kernel
theorem dX5_ofJudgeNow_38 : decode cX5_ofJudgeNow 38 = .ok (.checkcast 7, 3) := by decide +kernel
theorem dX5_ofJudgeNow_41 : decode cX5_ofJudgeNow 41 = .ok (.invokevirtual 53, 3) := by decide +kernel
theorem dX5_ofJudgeNow_44 : decode cX5_ofJudgeNow 44 = .ok (.iastore, 1) := by decide +kernel
theorem dX5_ofJudgeNow_45 : decode cX5_ofJudgeNow 45 = .ok (.dup, 1) := by decide +kernel
theorem dX5_ofJudgeNow_46 : decode cX5_ofJudgeNow 46 = .ok (.iconst 3, 1) := by decide +kernel
theorem dX5_ofJudgeNow_47 : decode cX5_ofJudgeNow 47 = .ok (.aload_n 0, 1) := by decide +kernel
theorem dX5_ofJudgeNow_48 : decode cX5_ofJudgeNow 48 = .ok (.iload_n 1, 1) := by decide +kernel
theorem dX5_ofJudgeNow_49 : decode cX5_ofJudgeNow 49 = .ok (.invokevirtual 204, 3) := by decide +kernel
theorem dX5_ofJudgeNow_52 : decode cX5_ofJudgeNow 52 = .ok (.iastore, 1) := by decide +kernel
theorem dX5_ofJudgeNow_53 : decode cX5_ofJudgeNow 53 = .ok (.dup, 1) := by decide +kernel
theorem dX5_ofJudgeNow_54 : decode cX5_ofJudgeNow 54 = .ok (.iconst 4, 1) := by decide +kernel
theorem dX5_ofJudgeNow_55 : decode cX5_ofJudgeNow 55 = .ok (.aload_n 0, 1) := by decide +kernel
theorem dX5_ofJudgeNow_56 : decode cX5_ofJudgeNow 56 = .ok (.iload_n 1, 1) := by decide +kernel
theorem dX5_ofJudgeNow_57 : decode cX5_ofJudgeNow 57 = .ok (.aload_n 3, 1) := by decide +kernel
theorem dX5_ofJudgeNow_58 : decode cX5_ofJudgeNow 58 = .ok (.iconst 5, 1) := by decide +kernel
theorem dX5_ofJudgeNow_59 : decode cX5_ofJudgeNow 59 = .ok (.iaload, 1) := by decide +kernel
theorem dX5_ofJudgeNow_60 : decode cX5_ofJudgeNow 60 = .ok (.invokevirtual 170, 3) := by decide +kernel
theorem dX5_ofJudgeNow_63 : decode cX5_ofJudgeNow 63 = .ok (.iastore, 1) := by decide +kernel
theorem dX5_ofJudgeNow_64 : decode cX5_ofJudgeNow 64 = .ok (.dup, 1) := by decide +kernel
theorem dX5_ofJudgeNow_65 : decode cX5_ofJudgeNow 65 = .ok (.iconst 5, 1) := by decide +kernel
theorem dX5_ofJudgeNow_66 : decode cX5_ofJudgeNow 66 = .ok (.aload_n 3, 1) := by decide +kernel
theorem dX5_ofJudgeNow_67 : decode cX5_ofJudgeNow 67 = .ok (.iconst 5, 1) := by decide +kernel
theorem dX5_ofJudgeNow_68 : decode cX5_ofJudgeNow 68 = .ok (.iaload, 1) := by decide +kernel
theorem dX5_ofJudgeNow_69 : decode cX5_ofJudgeNow 69 = .ok (.iastore, 1) := by decide +kernel
theorem dX5_ofJudgeNow_70 : decode cX5_ofJudgeNow 70 = .ok (.dup, 1) := by decide +kernel
theorem dX5_ofJudgeNow_71 : decode cX5_ofJudgeNow 71 = .ok (.bipush 6, 2) := by decide +kernel
theorem dX5_ofJudgeNow_73 : decode cX5_ofJudgeNow 73 = .ok (.aload_n 3, 1) := by decide +kernel
theorem dX5_ofJudgeNow_74 : decode cX5_ofJudgeNow 74 = .ok (.bipush 6, 2) := by decide +kernel
theorem dX5_ofJudgeNow_76 : decode cX5_ofJudgeNow 76 = .ok (.iaload, 1) := by decide +kernel
theorem dX5_ofJudgeNow_77 : decode cX5_ofJudgeNow 77 = .ok (.ifCond .le 7, 3) := by decide +kernel
theorem dX5_ofJudgeNow_80 : decode cX5_ofJudgeNow 80 = .ok (.iconst 1, 1) := by decide +kernel
theorem dX5_ofJudgeNow_81 : decode cX5_ofJudgeNow 81 = .ok (.goto 4, 3) := by decide +kernel
theorem dX5_ofJudgeNow_84 : decode cX5_ofJudgeNow 84 = .ok (.iconst 0, 1) := by decide +kernel
theorem dX5_ofJudgeNow_85 : decode cX5_ofJudgeNow 85 = .ok (.iastore, 1) := by decide +kernel
theorem dX5_ofJudgeNow_86 : decode cX5_ofJudgeNow 86 = .ok (.dup, 1) := by decide +kernel
theorem dX5_ofJudgeNow_87 : decode cX5_ofJudgeNow 87 = .ok (.bipush 7, 2) := by decide +kernel
theorem dX5_ofJudgeNow_89 : decode cX5_ofJudgeNow 89 = .ok (.bipush 12, 2) := by decide +kernel
theorem dX5_ofJudgeNow_91 : decode cX5_ofJudgeNow 91 = .ok (.aload_n 0, 1) := by decide +kernel
theorem dX5_ofJudgeNow_92 : decode cX5_ofJudgeNow 92 = .ok (.iload_n 1, 1) := by decide +kernel
theorem dX5_ofJudgeNow_93 : decode cX5_ofJudgeNow 93 = .ok (.invokevirtual 213, 3) := by decide +kernel
theorem dX5_ofJudgeNow_96 : decode cX5_ofJudgeNow 96 = .ok (.isub, 1) := by decide +kernel
theorem dX5_ofJudgeNow_97 : decode cX5_ofJudgeNow 97 = .ok (.iastore, 1) := by decide +kernel
theorem dX5_ofJudgeNow_98 : decode cX5_ofJudgeNow 98 = .ok (.astore 4, 2) := by decide +kernel
theorem dX5_ofJudgeNow_100 : decode cX5_ofJudgeNow 100 = .ok (.aload 4, 2) := by decide +kernel
theorem dX5_ofJudgeNow_102 : decode cX5_ofJudgeNow 102 = .ok (.iload_n 2, 1) := by decide +kernel
theorem dX5_ofJudgeNow_103 : decode cX5_ofJudgeNow 103 = .ok (.iaload, 1) := by decide +kernel
theorem dX5_ofJudgeNow_104 : decode cX5_ofJudgeNow 104 = .ok (.ireturn, 1) := by decide +kernel
set_option maxRecDepth 20000 in
theorem ggX5_ofJudge_X5_isJudge : GoodIn wsX5_ofJudge wsX5_isJudge := goodIn_r _ [6, 7, 8, 9, 10, 11, 12, 13, 14, 15, 5, 16, 103, 104, 105, 106, 107, 108, 109, 110, 111, 112, 113, 114, 115, 116, 117, 118, 119, 120, 121, 122, 123, 124, 125] (by decide +kernel) (by decide +kernel)
set_option maxRecDepth 20000 in
theorem gX5_ofJudge_X5_isJudge : GoodIn wsX5_ofJudge (wsV RX5 104 RX5 yX5_isJudge wsX5_isJudge) := goodIn_app (goodIn_of _ (by decide +kernel)) ggX5_ofJudge_X5_isJudge
set_option maxRecDepth 20000 in
theorem ggX5_ofJudge_X5_refuse : GoodIn wsX5_ofJudge wsX5_refuse := goodIn_r _ [20, 1, 103, 104, 105, 106, 107, 108, 109, 110, 111, 112, 113, 114, 115, 116, 117, 118, 119, 120, 121, 122] (by decide +kernel) (by decide +kernel)
set_option maxRecDepth 20000 in
theorem gX5_ofJudge_X5_refuse : GoodIn wsX5_ofJudge (wsV RX5 86 RX5 yX5_refuse wsX5_refuse) := goodIn_app (goodIn_of _ (by decide +kernel)) ggX5_ofJudge_X5_refuse
set_option maxRecDepth 20000 in
theorem ggX5_ofJudge_X5_is : GoodIn wsX5_ofJudge wsX5_is := goodIn_r _ [16] (by decide +kernel) (by decide +kernel)
set_option maxRecDepth 20000 in
theorem gX5_ofJudge_X5_is : GoodIn wsX5_ofJudge (va_wsS RX5 57 yX5_is wsX5_is) := goodIn_app (goodIn_of _ (by decide +kernel)) ggX5_ofJudge_X5_is
set_option maxRecDepth 20000 in
theorem ggX5_ofJudge_X5_ofJudgeNow : GoodIn wsX5_ofJudge wsX5_ofJudgeNow := goodIn_r _ [24, 7, 25, 26, 27, 28, 29, 30, 31, 11, 32, 13, 33, 34, 35, 36, 37, 38, 39, 40, 41, 42, 43, 44, 45, 8, 9, 10, 12, 46, 47, 48, 5, 49, 50, 51, 52, 53, 54, 55, 56, 57, 58, 59, 60, 61, 62, 63, 64, 65, 66, 67, 68, 69, 70, 71, 72, 73, 74, 75, 76, 77, 78, 79, 80, 81, 82, 83, 84, 85, 86, 87, 88, 89, 90, 91, 92, 93, 94, 95, 96, 97, 98, 99, 100, 101, 102, 103, 104, 105, 106, 107, 108, 109, 110, 111, 112, 113, 114, 115, 116, 117, 118, 119, 120, 121, 122, 123, 124, 125, 126, 127, 128, 129, 130] (by decide +kernel) (by decide +kernel)
set_option maxRecDepth 20000 in
theorem gX5_ofJudge_X5_ofJudgeNow : GoodIn wsX5_ofJudge (wsV RX5 256 RX5 yX5_ofJudgeNow wsX5_ofJudgeNow) := goodIn_app (goodIn_of _ (by decide +kernel)) ggX5_ofJudge_X5_ofJudgeNow
theorem dX5_ofJudge_0 : decode cX5_ofJudge 0 = .ok (.aload_n 0, 1) := by decide +kernel
theorem dX5_ofJudge_1 : decode cX5_ofJudge 1 = .ok (.iconst 0, 1) := by decide +kernel
theorem dX5_ofJudge_2 : decode cX5_ofJudge 2 = .ok (.putfield 50, 3) := by decide +kernel
theorem dX5_ofJudge_5 : decode cX5_ofJudge 5 = .ok (.aload_n 0, 1) := by decide +kernel
theorem dX5_ofJudge_6 : decode cX5_ofJudge 6 = .ok (.iload_n 1, 1) := by decide +kernel
theorem dX5_ofJudge_7 : decode cX5_ofJudge 7 = .ok (.invokevirtual 104, 3) := by decide +kernel
theorem dX5_ofJudge_10 : decode cX5_ofJudge 10 = .ok (.ifCond .ne 9, 3) := by decide +kernel
theorem dX5_ofJudge_13 : decode cX5_ofJudge 13 = .ok (.aload_n 0, 1) := by decide +kernel
theorem dX5_ofJudge_14 : decode cX5_ofJudge 14 = .ok (.iconst 1, 1) := by decide +kernel
theorem dX5_ofJudge_15 : decode cX5_ofJudge 15 = .ok (.invokevirtual 86, 3) := by decide +kernel
theorem dX5_ofJudge_18 : decode cX5_ofJudge 18 = .ok (.ireturn, 1) := by decide +kernel
theorem dX5_ofJudge_19 : decode cX5_ofJudge 19 = .ok (.iload_n 2, 1) := by decide +kernel
theorem dX5_ofJudge_20 : decode cX5_ofJudge 20 = .ok (.iconst 0, 1) := by decide +kernel
theorem dX5_ofJudge_21 : decode cX5_ofJudge 21 = .ok (.bipush 7, 2) := by decide +kernel
theorem dX5_ofJudge_23 : decode cX5_ofJudge 23 = .ok (.invokestatic 57, 3) := by decide +kernel
theorem dX5_ofJudge_26 : decode cX5_ofJudge 26 = .ok (.ifCond .eq 12, 3) := by decide +kernel
theorem dX5_ofJudge_29 : decode cX5_ofJudge 29 = .ok (.aload_n 0, 1) := by decide +kernel
theorem dX5_ofJudge_30 : decode cX5_ofJudge 30 = .ok (.iload_n 1, 1) := by decide +kernel
theorem dX5_ofJudge_31 : decode cX5_ofJudge 31 = .ok (.iload_n 2, 1) := by decide +kernel
theorem dX5_ofJudge_32 : decode cX5_ofJudge 32 = .ok (.invokevirtual 256, 3) := by decide +kernel
theorem dX5_ofJudge_35 : decode cX5_ofJudge 35 = .ok (.goto 8, 3) := by decide +kernel
theorem dX5_ofJudge_38 : decode cX5_ofJudge 38 = .ok (.aload_n 0, 1) := by decide +kernel
theorem dX5_ofJudge_39 : decode cX5_ofJudge 39 = .ok (.iconst 2, 1) := by decide +kernel
theorem dX5_ofJudge_40 : decode cX5_ofJudge 40 = .ok (.invokevirtual 86, 3) := by decide +kernel
theorem dX5_ofJudge_43 : decode cX5_ofJudge 43 = .ok (.ireturn, 1) := by decide +kernel
set_option maxRecDepth 20000 in
theorem ggX5_mark_X5_isJudge : GoodIn wsX5_mark wsX5_isJudge := goodIn_r _ [7, 8, 9, 10, 11, 12, 13, 14, 15, 16, 6, 17, 27, 28, 29, 30, 31, 32, 33, 34, 35, 36, 37, 38, 39, 40, 41, 42, 43, 44, 45, 46, 47, 48, 49] (by decide +kernel) (by decide +kernel)
set_option maxRecDepth 20000 in
theorem gX5_mark_X5_isJudge : GoodIn wsX5_mark (wsV RX5 104 RX5 yX5_isJudge wsX5_isJudge) := goodIn_app (goodIn_of _ (by decide +kernel)) ggX5_mark_X5_isJudge
set_option maxRecDepth 20000 in
theorem ggX5_mark_X5_isBook : GoodIn wsX5_mark wsX5_isBook := goodIn_r _ [21, 22, 9, 10, 11, 12, 13, 14, 15, 16, 6, 17, 27, 28, 29, 30, 31, 32, 33, 34, 35, 36, 37, 38, 39, 40, 41, 42, 43, 44, 45, 46, 47, 48, 49] (by decide +kernel) (by decide +kernel)
set_option maxRecDepth 20000 in
theorem gX5_mark_X5_isBook : GoodIn wsX5_mark (wsV RX5 141 RX5 yX5_isBook wsX5_isBook) := goodIn_app (goodIn_of _ (by decide +kernel)) ggX5_mark_X5_isBook
set_option maxRecDepth 20000 in
theorem ggX5_mark_X5_refuse : GoodIn wsX5_mark wsX5_refuse := goodIn_r _ [26, 1, 27, 28, 29, 30, 31, 32, 33, 34, 35, 36, 37, 38, 39, 40, 41, 42, 43, 44, 45, 46] (by decide +kernel) (by decide +kernel)
set_option maxRecDepth 20000 in
theorem gX5_mark_X5_refuse : GoodIn wsX5_mark (wsV RX5 86 RX5 yX5_refuse wsX5_refuse) := goodIn_app (goodIn_of _ (by decide +kernel)) ggX5_mark_X5_refuse
theorem dX5_mark_0 : decode cX5_mark 0 = .ok (.aload_n 0, 1) := by decide +kernel
theorem dX5_mark_1 : decode cX5_mark 1 = .ok (.iconst 0, 1) := by decide +kernel
theorem dX5_mark_2 : decode cX5_mark 2 = .ok (.putfield 50, 3) := by decide +kernel
theorem dX5_mark_5 : decode cX5_mark 5 = .ok (.aload_n 0, 1) := by decide +kernel
theorem dX5_mark_6 : decode cX5_mark 6 = .ok (.iload_n 1, 1) := by decide +kernel
theorem dX5_mark_7 : decode cX5_mark 7 = .ok (.invokevirtual 104, 3) := by decide +kernel
theorem dX5_mark_10 : decode cX5_mark 10 = .ok (.ifCond .eq 22, 3) := by decide +kernel
theorem dX5_mark_13 : decode cX5_mark 13 = .ok (.aload_n 0, 1) := by decide +kernel
theorem dX5_mark_14 : decode cX5_mark 14 = .ok (.iload_n 2, 1) := by decide +kernel
theorem dX5_mark_15 : decode cX5_mark 15 = .ok (.invokevirtual 141, 3) := by decide +kernel
theorem dX5_mark_18 : decode cX5_mark 18 = .ok (.ifCond .eq 14, 3) := by decide +kernel
theorem dX5_mark_21 : decode cX5_mark 21 = .ok (.aload_n 0, 1) := by decide +kernel
theorem dX5_mark_22 : decode cX5_mark 22 = .ok (.getfield 34, 3) := by decide +kernel
theorem dX5_mark_25 : decode cX5_mark 25 = .ok (.iload_n 1, 1) := by decide +kernel
theorem dX5_mark_26 : decode cX5_mark 26 = .ok (.aaload, 1) := by decide +kernel
theorem dX5_mark_27 : decode cX5_mark 27 = .ok (.iload_n 2, 1) := by decide +kernel
theorem dX5_mark_28 : decode cX5_mark 28 = .ok (.iaload, 1) := by decide +kernel
theorem dX5_mark_29 : decode cX5_mark 29 = .ok (.goto 8, 3) := by decide +kernel
theorem dX5_mark_32 : decode cX5_mark 32 = .ok (.aload_n 0, 1) := by decide +kernel
theorem dX5_mark_33 : decode cX5_mark 33 = .ok (.iconst 1, 1) := by decide +kernel
theorem dX5_mark_34 : decode cX5_mark 34 = .ok (.invokevirtual 86, 3) := by decide +kernel
theorem dX5_mark_37 : decode cX5_mark 37 = .ok (.ireturn, 1) := by decide +kernel
set_option maxRecDepth 20000 in
theorem ggX5_manyNow_Jx4a65c_iterator_32c93 : GoodIn wsX5_manyNow wsJx4a65c_iterator_32c93 := goodIn_r _ [19, 20, 21, 22, 23, 24, 25, 26, 27, 28, 29, 30, 31, 32, 33, 99, 100, 101, 102, 103, 104, 105] (by decide +kernel) (by decide +kernel)
set_option maxRecDepth 20000 in
theorem gX5_manyNow_Jx4a65c_iterator_32c93 : GoodIn wsX5_manyNow (wsV RX5 61 RJx4a65c yJx4a65c_iterator_32c93 wsJx4a65c_iterator_32c93) := goodIn_app (goodIn_of _ (by decide +kernel)) ggX5_manyNow_Jx4a65c_iterator_32c93
set_option maxRecDepth 20000 in
theorem ggX5_manyNow_Jx35411_hasNext_aae02 : GoodIn wsX5_manyNow wsJx35411_hasNext_aae02 := goodIn_r _ [37, 38, 26, 99, 100, 101, 102, 103, 104, 105] (by decide +kernel) (by decide +kernel)
set_option maxRecDepth 20000 in
theorem gX5_manyNow_Jx35411_hasNext_aae02_f65Jx35411 : GoodIn wsX5_manyNow (va_wsF RX5 65 RJx35411 ⟨"java/util/Iterator", "hasNext", "()Z"⟩ yJx35411_hasNext_aae02 wsJx35411_hasNext_aae02) := goodIn_app (goodIn_of _ (by decide +kernel)) ggX5_manyNow_Jx35411_hasNext_aae02
set_option maxRecDepth 20000 in
theorem ggX5_manyNow_Jx35411_next_0502b : GoodIn wsX5_manyNow wsJx35411_next_0502b := goodIn_r _ [42, 38, 26, 43, 30, 44, 45, 46, 22, 47, 31, 32, 33, 99, 100, 101, 102, 103, 104, 105] (by decide +kernel) (by decide +kernel)
set_option maxRecDepth 20000 in
theorem gX5_manyNow_Jx35411_next_0502b_f71Jx35411 : GoodIn wsX5_manyNow (va_wsF RX5 71 RJx35411 ⟨"java/util/Iterator", "next", "()Ljava/lang/Object;"⟩ yJx35411_next_0502b wsJx35411_next_0502b) := goodIn_app (goodIn_of _ (by decide +kernel)) ggX5_manyNow_Jx35411_next_0502b
set_option maxRecDepth 20000 in
theorem ggX5_manyNow_Jx4a65c_size_8abf5 : GoodIn wsX5_manyNow wsJx4a65c_size_8abf5 := goodIn_r _ [51, 52, 103, 104, 105] (by decide +kernel) (by decide +kernel)
set_option maxRecDepth 20000 in
theorem gX5_manyNow_Jx4a65c_size_8abf5 : GoodIn wsX5_manyNow (wsV RX5 53 RJx4a65c yJx4a65c_size_8abf5 wsJx4a65c_size_8abf5) := goodIn_app (goodIn_of _ (by decide +kernel)) ggX5_manyNow_Jx4a65c_size_8abf5
set_option maxRecDepth 20000 in
theorem ggX5_manyNow_X5_entered : GoodIn wsX5_manyNow wsX5_entered := goodIn_r _ [57, 1, 48, 49, 50, 18, 51, 52, 58, 59, 60, 56, 61, 2, 4, 62, 63, 64, 65, 66, 67, 68, 69, 70, 71, 72, 73, 74, 75, 76, 77, 78, 79, 80, 81, 82, 83, 84, 85, 86, 87, 88, 89, 90, 91, 92, 93, 94, 95, 96, 97, 98, 103, 104, 105] (by decide +kernel) (by decide +kernel)
set_option maxRecDepth 20000 in
theorem gX5_manyNow_X5_entered : GoodIn wsX5_manyNow (wsV RX5 138 RX5 yX5_entered wsX5_entered) := goodIn_app (goodIn_of _ (by decide +kernel)) ggX5_manyNow_X5_entered
theorem dX5_manyNow_0 : decode cX5_manyNow 0 = .ok (.iconst 0, 1) := by decide +kernel
theorem dX5_manyNow_1 : decode cX5_manyNow 1 = .ok (.istore_n 2, 1) := by decide +kernel
theorem dX5_manyNow_2 : decode cX5_manyNow 2 = .ok (.iconst 0, 1) := by decide +kernel
theorem dX5_manyNow_3 : decode cX5_manyNow 3 = .ok (.istore_n 3, 1) := by decide +kernel
theorem dX5_manyNow_4 : decode cX5_manyNow 4 = .ok (.aload_n 0, 1) := by decide +kernel
theorem dX5_manyNow_5 : decode cX5_manyNow 5 = .ok (.getfield 16, 3) := by decide +kernel
theorem dX5_manyNow_8 : decode cX5_manyNow 8 = .ok (.invokevirtual 61, 3) := by decide +kernel
theorem dX5_manyNow_11 : decode cX5_manyNow 11 = .ok (.astore 4, 2) := by decide +kernel
theorem dX5_manyNow_13 : decode cX5_manyNow 13 = .ok (.aload 4, 2) := by decide +kernel
theorem dX5_manyNow_15 : decode cX5_manyNow 15 = .ok (.invokeinterface 65 1, 5) := by decide +kernel
theorem dX5_manyNow_20 : decode cX5_manyNow 20 = .ok (.ifCond .eq 34, 3) := by decide +kernel
theorem dX5_manyNow_23 : decode cX5_manyNow 23 = .ok (.aload 4, 2) := by decide +kernel
theorem dX5_manyNow_25 : decode cX5_manyNow 25 = .ok (.invokeinterface 71 1, 5) := by decide +kernel
theorem dX5_manyNow_30 : decode cX5_manyNow 30 = .ok (.checkcast 76, 3) := by decide +kernel
theorem dX5_manyNow_33 : decode cX5_manyNow 33 = .ok (.astore 5, 2) := by decide +kernel
theorem dX5_manyNow_35 : decode cX5_manyNow 35 = .ok (.iload_n 2, 1) := by decide +kernel
theorem dX5_manyNow_36 : decode cX5_manyNow 36 = .ok (.aload 5, 2) := by decide +kernel
theorem dX5_manyNow_38 : decode cX5_manyNow 38 = .ok (.bipush 8, 2) := by decide +kernel
theorem dX5_manyNow_40 : decode cX5_manyNow 40 = .ok (.iaload, 1) := by decide +kernel
theorem dX5_manyNow_41 : decode cX5_manyNow 41 = .ok (.iadd, 1) := by decide +kernel
theorem dX5_manyNow_42 : decode cX5_manyNow 42 = .ok (.istore_n 2, 1) := by decide +kernel
theorem dX5_manyNow_43 : decode cX5_manyNow 43 = .ok (.iload_n 3, 1) := by decide +kernel
theorem dX5_manyNow_44 : decode cX5_manyNow 44 = .ok (.aload 5, 2) := by decide +kernel
theorem dX5_manyNow_46 : decode cX5_manyNow 46 = .ok (.bipush 9, 2) := by decide +kernel
theorem dX5_manyNow_48 : decode cX5_manyNow 48 = .ok (.iaload, 1) := by decide +kernel
theorem dX5_manyNow_49 : decode cX5_manyNow 49 = .ok (.iadd, 1) := by decide +kernel
theorem dX5_manyNow_50 : decode cX5_manyNow 50 = .ok (.istore_n 3, 1) := by decide +kernel
theorem dX5_manyNow_51 : decode cX5_manyNow 51 = .ok (.goto (-38), 3) := by decide +kernel
theorem dX5_manyNow_54 : decode cX5_manyNow 54 = .ok (.bipush 15, 2) := by decide +kernel
theorem dX5_manyNow_56 : decode cX5_manyNow 56 = .ok (.newarray .int, 2) := by decide +kernel
theorem dX5_manyNow_58 : decode cX5_manyNow 58 = .ok (.dup, 1) := by decide +kernel
theorem dX5_manyNow_59 : decode cX5_manyNow 59 = .ok (.iconst 0, 1) := by decide +kernel
theorem dX5_manyNow_60 : decode cX5_manyNow 60 = .ok (.aload_n 0, 1) := by decide +kernel
theorem dX5_manyNow_61 : decode cX5_manyNow 61 = .ok (.getfield 98, 3) := by decide +kernel
theorem dX5_manyNow_64 : decode cX5_manyNow 64 = .ok (.iastore, 1) := by decide +kernel
theorem dX5_manyNow_65 : decode cX5_manyNow 65 = .ok (.dup, 1) := by decide +kernel
theorem dX5_manyNow_66 : decode cX5_manyNow 66 = .ok (.iconst 1, 1) := by decide +kernel
theorem dX5_manyNow_67 : decode cX5_manyNow 67 = .ok (.aload_n 0, 1) := by decide +kernel
theorem dX5_manyNow_68 : decode cX5_manyNow 68 = .ok (.getfield 101, 3) := by decide +kernel
theorem dX5_manyNow_71 : decode cX5_manyNow 71 = .ok (.iastore, 1) := by decide +kernel
theorem dX5_manyNow_72 : decode cX5_manyNow 72 = .ok (.dup, 1) := by decide +kernel
theorem dX5_manyNow_73 : decode cX5_manyNow 73 = .ok (.iconst 2, 1) := by decide +kernel
theorem dX5_manyNow_74 : decode cX5_manyNow 74 = .ok (.aload_n 0, 1) := by decide +kernel
theorem dX5_manyNow_75 : decode cX5_manyNow 75 = .ok (.getfield 182, 3) := by decide +kernel
theorem dX5_manyNow_78 : decode cX5_manyNow 78 = .ok (.iastore, 1) := by decide +kernel
theorem dX5_manyNow_79 : decode cX5_manyNow 79 = .ok (.dup, 1) := by decide +kernel
theorem dX5_manyNow_80 : decode cX5_manyNow 80 = .ok (.iconst 3, 1) := by decide +kernel
theorem dX5_manyNow_81 : decode cX5_manyNow 81 = .ok (.aload_n 0, 1) := by decide +kernel
theorem dX5_manyNow_82 : decode cX5_manyNow 82 = .ok (.getfield 10, 3) := by decide +kernel
theorem dX5_manyNow_85 : decode cX5_manyNow 85 = .ok (.invokevirtual 53, 3) := by decide +kernel
theorem dX5_manyNow_88 : decode cX5_manyNow 88 = .ok (.iastore, 1) := by decide +kernel
theorem dX5_manyNow_89 : decode cX5_manyNow 89 = .ok (.dup, 1) := by decide +kernel
theorem dX5_manyNow_90 : decode cX5_manyNow 90 = .ok (.iconst 4, 1) := by decide +kernel
theorem dX5_manyNow_91 : decode cX5_manyNow 91 = .ok (.aload_n 0, 1) := by decide +kernel
theorem dX5_manyNow_92 : decode cX5_manyNow 92 = .ok (.getfield 16, 3) := by decide +kernel
theorem dX5_manyNow_95 : decode cX5_manyNow 95 = .ok (.invokevirtual 53, 3) := by decide +kernel
theorem dX5_manyNow_98 : decode cX5_manyNow 98 = .ok (.iastore, 1) := by decide +kernel
theorem dX5_manyNow_99 : decode cX5_manyNow 99 = .ok (.dup, 1) := by decide +kernel
theorem dX5_manyNow_100 : decode cX5_manyNow 100 = .ok (.iconst 5, 1) := by decide +kernel
theorem dX5_manyNow_101 : decode cX5_manyNow 101 = .ok (.aload_n 0, 1) := by decide +kernel
theorem dX5_manyNow_102 : decode cX5_manyNow 102 = .ok (.getfield 19, 3) := by decide +kernel
theorem dX5_manyNow_105 : decode cX5_manyNow 105 = .ok (.invokevirtual 53, 3) := by decide +kernel
theorem dX5_manyNow_108 : decode cX5_manyNow 108 = .ok (.iastore, 1) := by decide +kernel
theorem dX5_manyNow_109 : decode cX5_manyNow 109 = .ok (.dup, 1) := by decide +kernel
theorem dX5_manyNow_110 : decode cX5_manyNow 110 = .ok (.bipush 6, 2) := by decide +kernel
theorem dX5_manyNow_112 : decode cX5_manyNow 112 = .ok (.aload_n 0, 1) := by decide +kernel
theorem dX5_manyNow_113 : decode cX5_manyNow 113 = .ok (.invokevirtual 138, 3) := by decide +kernel
theorem dX5_manyNow_116 : decode cX5_manyNow 116 = .ok (.iastore, 1) := by decide +kernel
theorem dX5_manyNow_117 : decode cX5_manyNow 117 = .ok (.dup, 1) := by decide +kernel
theorem dX5_manyNow_118 : decode cX5_manyNow 118 = .ok (.bipush 7, 2) := by decide +kernel
theorem dX5_manyNow_120 : decode cX5_manyNow 120 = .ok (.aload_n 0, 1) := by decide +kernel
theorem dX5_manyNow_121 : decode cX5_manyNow 121 = .ok (.getfield 77, 3) := by decide +kernel
theorem dX5_manyNow_124 : decode cX5_manyNow 124 = .ok (.iastore, 1) := by decide +kernel
theorem dX5_manyNow_125 : decode cX5_manyNow 125 = .ok (.dup, 1) := by decide +kernel
theorem dX5_manyNow_126 : decode cX5_manyNow 126 = .ok (.bipush 8, 2) := by decide +kernel
theorem dX5_manyNow_128 : decode cX5_manyNow 128 = .ok (.aload_n 0, 1) := by decide +kernel
theorem dX5_manyNow_129 : decode cX5_manyNow 129 = .ok (.getfield 80, 3) := by decide +kernel
theorem dX5_manyNow_132 : decode cX5_manyNow 132 = .ok (.iastore, 1) := by decide +kernel
theorem dX5_manyNow_133 : decode cX5_manyNow 133 = .ok (.dup, 1) := by decide +kernel
theorem dX5_manyNow_134 : decode cX5_manyNow 134 = .ok (.bipush 9, 2) := by decide +kernel
theorem dX5_manyNow_136 : decode cX5_manyNow 136 = .ok (.aload_n 0, 1) := by decide +kernel
theorem dX5_manyNow_137 : decode cX5_manyNow 137 = .ok (.getfield 40, 3) := by decide +kernel
theorem dX5_manyNow_140 : decode cX5_manyNow 140 = .ok (.iastore, 1) := by decide +kernel
theorem dX5_manyNow_141 : decode cX5_manyNow 141 = .ok (.dup, 1) := by decide +kernel
theorem dX5_manyNow_142 : decode cX5_manyNow 142 = .ok (.bipush 10, 2) := by decide +kernel
theorem dX5_manyNow_144 : decode cX5_manyNow 144 = .ok (.aload_n 0, 1) := by decide +kernel
theorem dX5_manyNow_145 : decode cX5_manyNow 145 = .ok (.getfield 44, 3) := by decide +kernel
theorem dX5_manyNow_148 : decode cX5_manyNow 148 = .ok (.iastore, 1) := by decide +kernel
theorem dX5_manyNow_149 : decode cX5_manyNow 149 = .ok (.dup, 1) := by decide +kernel
theorem dX5_manyNow_150 : decode cX5_manyNow 150 = .ok (.bipush 11, 2) := by decide +kernel
theorem dX5_manyNow_152 : decode cX5_manyNow 152 = .ok (.aload_n 0, 1) := by decide +kernel
theorem dX5_manyNow_153 : decode cX5_manyNow 153 = .ok (.getfield 247, 3) := by decide +kernel
theorem dX5_manyNow_156 : decode cX5_manyNow 156 = .ok (.iastore, 1) := by decide +kernel
theorem dX5_manyNow_157 : decode cX5_manyNow 157 = .ok (.dup, 1) := by decide +kernel
theorem dX5_manyNow_158 : decode cX5_manyNow 158 = .ok (.bipush 12, 2) := by decide +kernel
theorem dX5_manyNow_160 : decode cX5_manyNow 160 = .ok (.iload_n 2, 1) := by decide +kernel
theorem dX5_manyNow_161 : decode cX5_manyNow 161 = .ok (.iastore, 1) := by decide +kernel
theorem dX5_manyNow_162 : decode cX5_manyNow 162 = .ok (.dup, 1) := by decide +kernel
theorem dX5_manyNow_163 : decode cX5_manyNow 163 = .ok (.bipush 13, 2) := by decide +kernel
theorem dX5_manyNow_165 : decode cX5_manyNow 165 = .ok (.iload_n 3, 1) := by decide +kernel
theorem dX5_manyNow_166 : decode cX5_manyNow 166 = .ok (.iastore, 1) := by decide +kernel
theorem dX5_manyNow_167 : decode cX5_manyNow 167 = .ok (.dup, 1) := by decide +kernel
theorem dX5_manyNow_168 : decode cX5_manyNow 168 = .ok (.bipush 14, 2) := by decide +kernel
theorem dX5_manyNow_170 : decode cX5_manyNow 170 = .ok (.aload_n 0, 1) := by decide +kernel
theorem dX5_manyNow_171 : decode cX5_manyNow 171 = .ok (.getfield 22, 3) := by decide +kernel
theorem dX5_manyNow_174 : decode cX5_manyNow 174 = .ok (.iconst 3, 1) := by decide +kernel
theorem dX5_manyNow_175 : decode cX5_manyNow 175 = .ok (.iaload, 1) := by decide +kernel
theorem dX5_manyNow_176 : decode cX5_manyNow 176 = .ok (.iastore, 1) := by decide +kernel
theorem dX5_manyNow_177 : decode cX5_manyNow 177 = .ok (.astore 4, 2) := by decide +kernel
theorem dX5_manyNow_179 : decode cX5_manyNow 179 = .ok (.aload 4, 2) := by decide +kernel
theorem dX5_manyNow_181 : decode cX5_manyNow 181 = .ok (.iload_n 1, 1) := by decide +kernel
theorem dX5_manyNow_182 : decode cX5_manyNow 182 = .ok (.iaload, 1) := by decide +kernel
theorem dX5_manyNow_183 : decode cX5_manyNow 183 = .ok (.ireturn, 1) := by decide +kernel
set_option maxRecDepth 20000 in
theorem ggX5_many_X5_is : GoodIn wsX5_many wsX5_is := goodIn_r _ [5] (by decide +kernel) (by decide +kernel)
set_option maxRecDepth 20000 in
theorem gX5_many_X5_is : GoodIn wsX5_many (va_wsS RX5 57 yX5_is wsX5_is) := goodIn_app (goodIn_of _ (by decide +kernel)) ggX5_many_X5_is
set_option maxRecDepth 20000 in
theorem ggX5_many_X5_manyNow : GoodIn wsX5_many wsX5_manyNow := goodIn_r _ [9, 10, 11, 12, 13, 14, 15, 16, 17, 18, 19, 20, 21, 22, 23, 24, 25, 26, 27, 28, 29, 30, 31, 32, 33, 34, 35, 36, 37, 38, 39, 40, 41, 42, 43, 44, 45, 46, 47, 48, 49, 50, 51, 52, 53, 54, 55, 56, 57, 58, 59, 60, 61, 62, 63, 64, 4, 65, 66, 67, 68, 69, 70, 71, 72, 73, 74, 75, 76, 77, 78, 79, 80, 81, 82, 83, 84, 85, 86, 91, 92, 93, 94, 95, 96, 97, 98, 99, 100, 101, 102, 103, 104, 105, 106, 107, 108, 109, 110, 111, 112, 113, 114, 115, 116, 117] (by decide +kernel) (by decide +kernel)
set_option maxRecDepth 20000 in
theorem gX5_many_X5_manyNow : GoodIn wsX5_many (wsV RX5 259 RX5 yX5_manyNow wsX5_manyNow) := goodIn_app (goodIn_of _ (by decide +kernel)) ggX5_many_X5_manyNow
set_option maxRecDepth 20000 in
theorem ggX5_many_X5_refuse : GoodIn wsX5_many wsX5_refuse := goodIn_r _ [90, 1, 91, 92, 93, 94, 95, 96, 97, 98, 99, 100, 101, 102, 103, 104, 105, 106, 107, 108, 109, 110] (by decide +kernel) (by decide +kernel)
set_option maxRecDepth 20000 in
theorem gX5_many_X5_refuse : GoodIn wsX5_many (wsV RX5 86 RX5 yX5_refuse wsX5_refuse) := goodIn_app (goodIn_of _ (by decide +kernel)) ggX5_many_X5_refuse
theorem dX5_many_0 : decode cX5_many 0 = .ok (.aload_n 0, 1) := by decide +kernel
theorem dX5_many_1 : decode cX5_many 1 = .ok (.iconst 0, 1) := by decide +kernel
theorem dX5_many_2 : decode cX5_many 2 = .ok (.putfield 50, 3) := by decide +kernel
theorem dX5_many_5 : decode cX5_many 5 = .ok (.iload_n 1, 1) := by decide +kernel
theorem dX5_many_6 : decode cX5_many 6 = .ok (.iconst 0, 1) := by decide +kernel
theorem dX5_many_7 : decode cX5_many 7 = .ok (.bipush 14, 2) := by decide +kernel
theorem dX5_many_9 : decode cX5_many 9 = .ok (.invokestatic 57, 3) := by decide +kernel
theorem dX5_many_12 : decode cX5_many 12 = .ok (.ifCond .eq 11, 3) := by decide +kernel
theorem dX5_many_15 : decode cX5_many 15 = .ok (.aload_n 0, 1) := by decide +kernel
theorem dX5_many_16 : decode cX5_many 16 = .ok (.iload_n 1, 1) := by decide +kernel
theorem dX5_many_17 : decode cX5_many 17 = .ok (.invokevirtual 259, 3) := by decide +kernel
theorem dX5_many_20 : decode cX5_many 20 = .ok (.goto 8, 3) := by decide +kernel
theorem dX5_many_23 : decode cX5_many 23 = .ok (.aload_n 0, 1) := by decide +kernel
theorem dX5_many_24 : decode cX5_many 24 = .ok (.iconst 1, 1) := by decide +kernel
theorem dX5_many_25 : decode cX5_many 25 = .ok (.invokevirtual 86, 3) := by decide +kernel
theorem dX5_many_28 : decode cX5_many 28 = .ok (.ireturn, 1) := by decide +kernel
theorem dX5_meanMark_0 : decode cX5_meanMark 0 = .ok (.aload_n 0, 1) := by decide +kernel
theorem dX5_meanMark_1 : decode cX5_meanMark 1 = .ok (.iconst 0, 1) := by decide +kernel
theorem dX5_meanMark_2 : decode cX5_meanMark 2 = .ok (.putfield 50, 3) := by decide +kernel
theorem dX5_meanMark_5 : decode cX5_meanMark 5 = .ok (.iconst 0, 1) := by decide +kernel
theorem dX5_meanMark_6 : decode cX5_meanMark 6 = .ok (.istore_n 1, 1) := by decide +kernel
theorem dX5_meanMark_7 : decode cX5_meanMark 7 = .ok (.iconst 0, 1) := by decide +kernel
theorem dX5_meanMark_8 : decode cX5_meanMark 8 = .ok (.istore_n 2, 1) := by decide +kernel
theorem dX5_meanMark_9 : decode cX5_meanMark 9 = .ok (.aload_n 0, 1) := by decide +kernel
theorem dX5_meanMark_10 : decode cX5_meanMark 10 = .ok (.getfield 34, 3) := by decide +kernel
theorem dX5_meanMark_13 : decode cX5_meanMark 13 = .ok (.astore_n 3, 1) := by decide +kernel
theorem dX5_meanMark_14 : decode cX5_meanMark 14 = .ok (.aload_n 3, 1) := by decide +kernel
theorem dX5_meanMark_15 : decode cX5_meanMark 15 = .ok (.arraylength, 1) := by decide +kernel
theorem dX5_meanMark_16 : decode cX5_meanMark 16 = .ok (.istore 4, 2) := by decide +kernel
theorem dX5_meanMark_18 : decode cX5_meanMark 18 = .ok (.iconst 0, 1) := by decide +kernel
theorem dX5_meanMark_19 : decode cX5_meanMark 19 = .ok (.istore 5, 2) := by decide +kernel
theorem dX5_meanMark_21 : decode cX5_meanMark 21 = .ok (.iload 5, 2) := by decide +kernel
theorem dX5_meanMark_23 : decode cX5_meanMark 23 = .ok (.iload 4, 2) := by decide +kernel
theorem dX5_meanMark_25 : decode cX5_meanMark 25 = .ok (.if_icmp .ge 70, 3) := by decide +kernel
theorem dX5_meanMark_28 : decode cX5_meanMark 28 = .ok (.aload_n 3, 1) := by decide +kernel
theorem dX5_meanMark_29 : decode cX5_meanMark 29 = .ok (.iload 5, 2) := by decide +kernel
theorem dX5_meanMark_31 : decode cX5_meanMark 31 = .ok (.aaload, 1) := by decide +kernel
theorem dX5_meanMark_32 : decode cX5_meanMark 32 = .ok (.astore 6, 2) := by decide +kernel
theorem dX5_meanMark_34 : decode cX5_meanMark 34 = .ok (.aload 6, 2) := by decide +kernel
theorem dX5_meanMark_36 : decode cX5_meanMark 36 = .ok (.astore 7, 2) := by decide +kernel
theorem dX5_meanMark_38 : decode cX5_meanMark 38 = .ok (.aload 7, 2) := by decide +kernel
theorem dX5_meanMark_40 : decode cX5_meanMark 40 = .ok (.arraylength, 1) := by decide +kernel
theorem dX5_meanMark_41 : decode cX5_meanMark 41 = .ok (.istore 8, 2) := by decide +kernel
theorem dX5_meanMark_43 : decode cX5_meanMark 43 = .ok (.iconst 0, 1) := by decide +kernel
theorem dX5_meanMark_44 : decode cX5_meanMark 44 = .ok (.istore 9, 2) := by decide +kernel
theorem dX5_meanMark_46 : decode cX5_meanMark 46 = .ok (.iload 9, 2) := by decide +kernel
theorem dX5_meanMark_48 : decode cX5_meanMark 48 = .ok (.iload 8, 2) := by decide +kernel
theorem dX5_meanMark_50 : decode cX5_meanMark 50 = .ok (.if_icmp .ge 39, 3) := by decide +kernel
theorem dX5_meanMark_53 : decode cX5_meanMark 53 = .ok (.aload 7, 2) := by decide +kernel
theorem dX5_meanMark_55 : decode cX5_meanMark 55 = .ok (.iload 9, 2) := by decide +kernel
theorem dX5_meanMark_57 : decode cX5_meanMark 57 = .ok (.iaload, 1) := by decide +kernel
theorem dX5_meanMark_58 : decode cX5_meanMark 58 = .ok (.istore 10, 2) := by decide +kernel
theorem dX5_meanMark_60 : decode cX5_meanMark 60 = .ok (.iload_n 1, 1) := by decide +kernel
theorem dX5_meanMark_61 : decode cX5_meanMark 61 = .ok (.iconst 0, 1) := by decide +kernel
theorem dX5_meanMark_62 : decode cX5_meanMark 62 = .ok (.iload 10, 2) := by decide +kernel
theorem dX5_meanMark_64 : decode cX5_meanMark 64 = .ok (.invokestatic 167, 3) := by decide +kernel
theorem dX5_meanMark_67 : decode cX5_meanMark 67 = .ok (.iadd, 1) := by decide +kernel
theorem dX5_meanMark_68 : decode cX5_meanMark 68 = .ok (.istore_n 1, 1) := by decide +kernel
theorem dX5_meanMark_69 : decode cX5_meanMark 69 = .ok (.iload_n 2, 1) := by decide +kernel
theorem dX5_meanMark_70 : decode cX5_meanMark 70 = .ok (.iload 10, 2) := by decide +kernel
theorem dX5_meanMark_72 : decode cX5_meanMark 72 = .ok (.iconst (-1), 1) := by decide +kernel
theorem dX5_meanMark_73 : decode cX5_meanMark 73 = .ok (.if_icmp .ne 7, 3) := by decide +kernel
theorem dX5_meanMark_76 : decode cX5_meanMark 76 = .ok (.iconst 0, 1) := by decide +kernel
theorem dX5_meanMark_77 : decode cX5_meanMark 77 = .ok (.goto 4, 3) := by decide +kernel
theorem dX5_meanMark_80 : decode cX5_meanMark 80 = .ok (.iconst 1, 1) := by decide +kernel
theorem dX5_meanMark_81 : decode cX5_meanMark 81 = .ok (.iadd, 1) := by decide +kernel
theorem dX5_meanMark_82 : decode cX5_meanMark 82 = .ok (.istore_n 2, 1) := by decide +kernel
theorem dX5_meanMark_83 : decode cX5_meanMark 83 = .ok (.iinc 9 1, 3) := by decide +kernel
theorem dX5_meanMark_86 : decode cX5_meanMark 86 = .ok (.goto (-40), 3) := by decide +kernel
theorem dX5_meanMark_89 : decode cX5_meanMark 89 = .ok (.iinc 5 1, 3) := by decide +kernel
theorem dX5_meanMark_92 : decode cX5_meanMark 92 = .ok (.goto (-71), 3) := by decide +kernel
theorem dX5_meanMark_95 : decode cX5_meanMark 95 = .ok (.iload_n 2, 1) := by decide +kernel
theorem dX5_meanMark_96 : decode cX5_meanMark 96 = .ok (.ifCond .ne 7, 3) := by decide +kernel
theorem dX5_meanMark_99 : decode cX5_meanMark 99 = .ok (.dconst 0, 1) := by decide +kernel
theorem dX5_meanMark_100 : decode cX5_meanMark 100 = .ok (.goto 8, 3) := by decide +kernel
theorem dX5_meanMark_103 : decode cX5_meanMark 103 = .ok (.iload_n 1, 1) := by decide +kernel
theorem dX5_meanMark_104 : decode cX5_meanMark 104 = .ok (.i2d, 1) := by decide +kernel
theorem dX5_meanMark_105 : decode cX5_meanMark 105 = .ok (.iload_n 2, 1) := by decide +kernel
theorem dX5_meanMark_106 : decode cX5_meanMark 106 = .ok (.i2d, 1) := by decide +kernel
theorem dX5_meanMark_107 : decode cX5_meanMark 107 = .ok (.ddiv, 1) := by decide +kernel
theorem dX5_meanMark_108 : decode cX5_meanMark 108 = .ok (.dreturn, 1) := by decide +kernel
set_option maxRecDepth 20000 in
theorem ggX5_winsNow_X5_counted : GoodIn wsX5_winsNow wsX5_counted := goodIn_r _ [8, 9, 10, 11, 12, 13, 14, 15, 16, 17, 18, 19, 20, 21, 22, 23, 24, 25, 26, 27, 28, 29, 30, 31, 32, 33, 34, 35, 36, 37, 38, 39, 40, 41, 42, 43, 44, 45, 7, 46, 47, 48, 49, 50, 2, 51, 52, 53, 54, 55, 56, 57, 58, 59, 60, 61, 62, 63, 64, 65, 66, 67, 68, 69, 70, 71, 72, 73, 74, 75, 76, 77, 78, 79, 80, 81, 82, 83, 84, 85, 86, 87, 88, 89, 90, 91, 92, 93, 94, 95, 96, 97, 98, 99, 100, 101, 102, 103, 104, 105, 106] (by decide +kernel) (by decide +kernel)
set_option maxRecDepth 20000 in
theorem gX5_winsNow_X5_counted : GoodIn wsX5_winsNow (wsV RX5 241 RX5 yX5_counted wsX5_counted) := goodIn_app (goodIn_of _ (by decide +kernel)) ggX5_winsNow_X5_counted
theorem dX5_winsNow_0 : decode cX5_winsNow 0 = .ok (.aload_n 0, 1) := by decide +kernel
theorem dX5_winsNow_1 : decode cX5_winsNow 1 = .ok (.getfield 101, 3) := by decide +kernel
theorem dX5_winsNow_4 : decode cX5_winsNow 4 = .ok (.iconst 3, 1) := by decide +kernel
theorem dX5_winsNow_5 : decode cX5_winsNow 5 = .ok (.if_icmp .ge 7, 3) := by decide +kernel
theorem dX5_winsNow_8 : decode cX5_winsNow 8 = .ok (.iconst (-1), 1) := by decide +kernel
theorem dX5_winsNow_9 : decode cX5_winsNow 9 = .ok (.goto 23, 3) := by decide +kernel
theorem dX5_winsNow_12 : decode cX5_winsNow 12 = .ok (.aload_n 0, 1) := by decide +kernel
theorem dX5_winsNow_13 : decode cX5_winsNow 13 = .ok (.aload_n 0, 1) := by decide +kernel
theorem dX5_winsNow_14 : decode cX5_winsNow 14 = .ok (.getfield 80, 3) := by decide +kernel
theorem dX5_winsNow_17 : decode cX5_winsNow 17 = .ok (.aload_n 0, 1) := by decide +kernel
theorem dX5_winsNow_18 : decode cX5_winsNow 18 = .ok (.getfield 83, 3) := by decide +kernel
theorem dX5_winsNow_21 : decode cX5_winsNow 21 = .ok (.iconst (-1), 1) := by decide +kernel
theorem dX5_winsNow_22 : decode cX5_winsNow 22 = .ok (.ixor, 1) := by decide +kernel
theorem dX5_winsNow_23 : decode cX5_winsNow 23 = .ok (.iand, 1) := by decide +kernel
theorem dX5_winsNow_24 : decode cX5_winsNow 24 = .ok (.iload_n 2, 1) := by decide +kernel
theorem dX5_winsNow_25 : decode cX5_winsNow 25 = .ok (.iconst (-1), 1) := by decide +kernel
theorem dX5_winsNow_26 : decode cX5_winsNow 26 = .ok (.ixor, 1) := by decide +kernel
theorem dX5_winsNow_27 : decode cX5_winsNow 27 = .ok (.iand, 1) := by decide +kernel
theorem dX5_winsNow_28 : decode cX5_winsNow 28 = .ok (.iload_n 1, 1) := by decide +kernel
theorem dX5_winsNow_29 : decode cX5_winsNow 29 = .ok (.invokevirtual 241, 3) := by decide +kernel
theorem dX5_winsNow_32 : decode cX5_winsNow 32 = .ok (.ireturn, 1) := by decide +kernel
set_option maxRecDepth 20000 in
theorem ggX5_wins_X5_is : GoodIn wsX5_wins wsX5_is := goodIn_r _ [5] (by decide +kernel) (by decide +kernel)
set_option maxRecDepth 20000 in
theorem gX5_wins_X5_is : GoodIn wsX5_wins (va_wsS RX5 57 yX5_is wsX5_is) := goodIn_app (goodIn_of _ (by decide +kernel)) ggX5_wins_X5_is
set_option maxRecDepth 20000 in
theorem ggX5_wins_X5_winsNow : GoodIn wsX5_wins wsX5_winsNow := goodIn_r _ [9, 10, 11, 12, 13, 14, 15, 4, 16, 17, 18, 19, 20, 21, 22, 23, 24, 25, 26, 27, 28, 29, 30, 31, 32, 33, 34, 35, 36, 37, 38, 39, 40, 41, 42, 43, 44, 45, 46, 47, 48, 49, 50, 51, 52, 53, 54, 55, 56, 57, 58, 59, 60, 61, 62, 63, 64, 65, 66, 67, 68, 69, 70, 71, 72, 73, 74, 75, 76, 77, 78, 79, 80, 81, 82, 83, 84, 85, 86, 87, 88, 89, 90, 91, 96, 97, 98, 99, 100, 101, 102, 103, 104, 105, 106, 107, 108, 109, 110, 111, 112, 113, 114, 115, 116, 117, 118] (by decide +kernel) (by decide +kernel)
set_option maxRecDepth 20000 in
theorem gX5_wins_X5_winsNow : GoodIn wsX5_wins (wsV RX5 262 RX5 yX5_winsNow wsX5_winsNow) := goodIn_app (goodIn_of _ (by decide +kernel)) ggX5_wins_X5_winsNow
set_option maxRecDepth 20000 in
theorem ggX5_wins_X5_refuse : GoodIn wsX5_wins wsX5_refuse := goodIn_r _ [95, 1, 96, 97, 98, 99, 100, 101, 102, 103, 104, 105, 106, 107, 108, 109, 110, 111, 112, 113, 114, 115] (by decide +kernel) (by decide +kernel)
set_option maxRecDepth 20000 in
theorem gX5_wins_X5_refuse : GoodIn wsX5_wins (wsV RX5 86 RX5 yX5_refuse wsX5_refuse) := goodIn_app (goodIn_of _ (by decide +kernel)) ggX5_wins_X5_refuse
theorem dX5_wins_0 : decode cX5_wins 0 = .ok (.aload_n 0, 1) := by decide +kernel
theorem dX5_wins_1 : decode cX5_wins 1 = .ok (.iconst 0, 1) := by decide +kernel
theorem dX5_wins_2 : decode cX5_wins 2 = .ok (.putfield 50, 3) := by decide +kernel
theorem dX5_wins_5 : decode cX5_wins 5 = .ok (.iload_n 1, 1) := by decide +kernel
theorem dX5_wins_6 : decode cX5_wins 6 = .ok (.iconst 0, 1) := by decide +kernel
theorem dX5_wins_7 : decode cX5_wins 7 = .ok (.bipush 31, 2) := by decide +kernel
theorem dX5_wins_9 : decode cX5_wins 9 = .ok (.invokestatic 57, 3) := by decide +kernel
theorem dX5_wins_12 : decode cX5_wins 12 = .ok (.ifCond .eq 12, 3) := by decide +kernel
theorem dX5_wins_15 : decode cX5_wins 15 = .ok (.aload_n 0, 1) := by decide +kernel
theorem dX5_wins_16 : decode cX5_wins 16 = .ok (.iload_n 1, 1) := by decide +kernel
theorem dX5_wins_17 : decode cX5_wins 17 = .ok (.iconst 0, 1) := by decide +kernel
theorem dX5_wins_18 : decode cX5_wins 18 = .ok (.invokevirtual 262, 3) := by decide +kernel
theorem dX5_wins_21 : decode cX5_wins 21 = .ok (.goto 8, 3) := by decide +kernel
theorem dX5_wins_24 : decode cX5_wins 24 = .ok (.aload_n 0, 1) := by decide +kernel
theorem dX5_wins_25 : decode cX5_wins 25 = .ok (.iconst 1, 1) := by decide +kernel
theorem dX5_wins_26 : decode cX5_wins 26 = .ok (.invokevirtual 86, 3) := by decide +kernel
theorem dX5_wins_29 : decode cX5_wins 29 = .ok (.ireturn, 1) := by decide +kernel
set_option maxRecDepth 20000 in
theorem ggX5_duel_Jx4a65c_size_8abf5 : GoodIn wsX5_duel wsJx4a65c_size_8abf5 := goodIn_r _ [7, 8, 69, 70, 71] (by decide +kernel) (by decide +kernel)
set_option maxRecDepth 20000 in
theorem gX5_duel_Jx4a65c_size_8abf5 : GoodIn wsX5_duel (wsV RX5 53 RJx4a65c yJx4a65c_size_8abf5 wsJx4a65c_size_8abf5) := goodIn_app (goodIn_of _ (by decide +kernel)) ggX5_duel_Jx4a65c_size_8abf5
set_option maxRecDepth 20000 in
theorem ggX5_duel_Jx4a65c_get_915e3 : GoodIn wsX5_duel wsJx4a65c_get_915e3 := goodIn_r _ [12, 8, 13, 14, 15, 16, 17, 18, 19, 20, 21, 22, 23, 6, 24, 25, 69, 70, 71] (by decide +kernel) (by decide +kernel)
set_option maxRecDepth 20000 in
theorem gX5_duel_Jx4a65c_get_915e3 : GoodIn wsX5_duel (wsV RX5 107 RJx4a65c yJx4a65c_get_915e3 wsJx4a65c_get_915e3) := goodIn_app (goodIn_of _ (by decide +kernel)) ggX5_duel_Jx4a65c_get_915e3
set_option maxRecDepth 20000 in
theorem ggX5_duel_X5_isConflict : GoodIn wsX5_duel wsX5_isConflict := goodIn_r _ [30, 1, 2, 31, 9, 10, 11, 6, 12, 8, 13, 14, 15, 16, 17, 18, 19, 20, 21, 22, 23, 24, 25, 49, 50, 51, 52, 53, 54, 55, 56, 57, 58, 59, 60, 61, 62, 63, 64, 65, 66, 67, 68, 69, 70, 71] (by decide +kernel) (by decide +kernel)
set_option maxRecDepth 20000 in
theorem gX5_duel_X5_isConflict : GoodIn wsX5_duel (wsV RX5 153 RX5 yX5_isConflict wsX5_isConflict) := goodIn_app (goodIn_of _ (by decide +kernel)) ggX5_duel_X5_isConflict
set_option maxRecDepth 20000 in
theorem ggX5_duel_X5_ranked : GoodIn wsX5_duel wsX5_ranked := goodIn_r _ [35, 36, 37, 38, 39, 40, 41, 42, 43, 44, 45, 46, 47, 29, 48, 31, 3, 4, 5, 6, 7, 8, 49, 50, 51, 52, 53, 54, 55, 56, 57, 58, 59, 60, 61, 62, 63, 64, 65, 66, 67, 68, 69, 70, 71] (by decide +kernel) (by decide +kernel)
set_option maxRecDepth 20000 in
theorem gX5_duel_X5_ranked : GoodIn wsX5_duel (wsV RX5 232 RX5 yX5_ranked wsX5_ranked) := goodIn_app (goodIn_of _ (by decide +kernel)) ggX5_duel_X5_ranked
theorem dX5_duel_0 : decode cX5_duel 0 = .ok (.iconst 0, 1) := by decide +kernel
theorem dX5_duel_1 : decode cX5_duel 1 = .ok (.istore_n 3, 1) := by decide +kernel
theorem dX5_duel_2 : decode cX5_duel 2 = .ok (.iconst 0, 1) := by decide +kernel
theorem dX5_duel_3 : decode cX5_duel 3 = .ok (.istore 4, 2) := by decide +kernel
theorem dX5_duel_5 : decode cX5_duel 5 = .ok (.iload 4, 2) := by decide +kernel
theorem dX5_duel_7 : decode cX5_duel 7 = .ok (.aload_n 0, 1) := by decide +kernel
theorem dX5_duel_8 : decode cX5_duel 8 = .ok (.getfield 19, 3) := by decide +kernel
theorem dX5_duel_11 : decode cX5_duel 11 = .ok (.invokevirtual 53, 3) := by decide +kernel
theorem dX5_duel_14 : decode cX5_duel 14 = .ok (.if_icmp .ge 131, 3) := by decide +kernel
theorem dX5_duel_17 : decode cX5_duel 17 = .ok (.aload_n 0, 1) := by decide +kernel
theorem dX5_duel_18 : decode cX5_duel 18 = .ok (.getfield 19, 3) := by decide +kernel
theorem dX5_duel_21 : decode cX5_duel 21 = .ok (.iload 4, 2) := by decide +kernel
theorem dX5_duel_23 : decode cX5_duel 23 = .ok (.invokevirtual 107, 3) := by decide +kernel
theorem dX5_duel_26 : decode cX5_duel 26 = .ok (.checkcast 76, 3) := by decide +kernel
theorem dX5_duel_29 : decode cX5_duel 29 = .ok (.bipush 6, 2) := by decide +kernel
theorem dX5_duel_31 : decode cX5_duel 31 = .ok (.iaload, 1) := by decide +kernel
theorem dX5_duel_32 : decode cX5_duel 32 = .ok (.ifCond .eq 107, 3) := by decide +kernel
theorem dX5_duel_35 : decode cX5_duel 35 = .ok (.aload_n 0, 1) := by decide +kernel
theorem dX5_duel_36 : decode cX5_duel 36 = .ok (.iload 4, 2) := by decide +kernel
theorem dX5_duel_38 : decode cX5_duel 38 = .ok (.iload_n 1, 1) := by decide +kernel
theorem dX5_duel_39 : decode cX5_duel 39 = .ok (.invokevirtual 153, 3) := by decide +kernel
theorem dX5_duel_42 : decode cX5_duel 42 = .ok (.ifCond .ne 97, 3) := by decide +kernel
theorem dX5_duel_45 : decode cX5_duel 45 = .ok (.aload_n 0, 1) := by decide +kernel
theorem dX5_duel_46 : decode cX5_duel 46 = .ok (.iload 4, 2) := by decide +kernel
theorem dX5_duel_48 : decode cX5_duel 48 = .ok (.iload_n 2, 1) := by decide +kernel
theorem dX5_duel_49 : decode cX5_duel 49 = .ok (.invokevirtual 153, 3) := by decide +kernel
theorem dX5_duel_52 : decode cX5_duel 52 = .ok (.ifCond .eq 6, 3) := by decide +kernel
theorem dX5_duel_55 : decode cX5_duel 55 = .ok (.goto 84, 3) := by decide +kernel
theorem dX5_duel_58 : decode cX5_duel 58 = .ok (.aload_n 0, 1) := by decide +kernel
theorem dX5_duel_59 : decode cX5_duel 59 = .ok (.aload_n 0, 1) := by decide +kernel
theorem dX5_duel_60 : decode cX5_duel 60 = .ok (.getfield 19, 3) := by decide +kernel
theorem dX5_duel_63 : decode cX5_duel 63 = .ok (.iload 4, 2) := by decide +kernel
theorem dX5_duel_65 : decode cX5_duel 65 = .ok (.invokevirtual 107, 3) := by decide +kernel
theorem dX5_duel_68 : decode cX5_duel 68 = .ok (.checkcast 76, 3) := by decide +kernel
theorem dX5_duel_71 : decode cX5_duel 71 = .ok (.bipush 6, 2) := by decide +kernel
theorem dX5_duel_73 : decode cX5_duel 73 = .ok (.iaload, 1) := by decide +kernel
theorem dX5_duel_74 : decode cX5_duel 74 = .ok (.invokevirtual 232, 3) := by decide +kernel
theorem dX5_duel_77 : decode cX5_duel 77 = .ok (.astore 5, 2) := by decide +kernel
theorem dX5_duel_79 : decode cX5_duel 79 = .ok (.aload 5, 2) := by decide +kernel
theorem dX5_duel_81 : decode cX5_duel 81 = .ok (.arraylength, 1) := by decide +kernel
theorem dX5_duel_82 : decode cX5_duel 82 = .ok (.istore 6, 2) := by decide +kernel
theorem dX5_duel_84 : decode cX5_duel 84 = .ok (.iconst 0, 1) := by decide +kernel
theorem dX5_duel_85 : decode cX5_duel 85 = .ok (.istore 7, 2) := by decide +kernel
theorem dX5_duel_87 : decode cX5_duel 87 = .ok (.iload 7, 2) := by decide +kernel
theorem dX5_duel_89 : decode cX5_duel 89 = .ok (.iload 6, 2) := by decide +kernel
theorem dX5_duel_91 : decode cX5_duel 91 = .ok (.if_icmp .ge 48, 3) := by decide +kernel
theorem dX5_duel_94 : decode cX5_duel 94 = .ok (.aload 5, 2) := by decide +kernel
theorem dX5_duel_96 : decode cX5_duel 96 = .ok (.iload 7, 2) := by decide +kernel
theorem dX5_duel_98 : decode cX5_duel 98 = .ok (.iaload, 1) := by decide +kernel
theorem dX5_duel_99 : decode cX5_duel 99 = .ok (.istore 8, 2) := by decide +kernel
theorem dX5_duel_101 : decode cX5_duel 101 = .ok (.iload 8, 2) := by decide +kernel
theorem dX5_duel_103 : decode cX5_duel 103 = .ok (.iload_n 1, 1) := by decide +kernel
theorem dX5_duel_104 : decode cX5_duel 104 = .ok (.if_icmp .eq 12, 3) := by decide +kernel
theorem dX5_duel_107 : decode cX5_duel 107 = .ok (.iload 8, 2) := by decide +kernel
theorem dX5_duel_109 : decode cX5_duel 109 = .ok (.iload_n 2, 1) := by decide +kernel
theorem dX5_duel_110 : decode cX5_duel 110 = .ok (.if_icmp .eq 6, 3) := by decide +kernel
theorem dX5_duel_113 : decode cX5_duel 113 = .ok (.goto 20, 3) := by decide +kernel
theorem dX5_duel_116 : decode cX5_duel 116 = .ok (.iload_n 3, 1) := by decide +kernel
theorem dX5_duel_117 : decode cX5_duel 117 = .ok (.iload 8, 2) := by decide +kernel
theorem dX5_duel_119 : decode cX5_duel 119 = .ok (.iload_n 1, 1) := by decide +kernel
theorem dX5_duel_120 : decode cX5_duel 120 = .ok (.if_icmp .ne 7, 3) := by decide +kernel
theorem dX5_duel_123 : decode cX5_duel 123 = .ok (.iconst 1, 1) := by decide +kernel
theorem dX5_duel_124 : decode cX5_duel 124 = .ok (.goto 4, 3) := by decide +kernel
theorem dX5_duel_127 : decode cX5_duel 127 = .ok (.iconst (-1), 1) := by decide +kernel
theorem dX5_duel_128 : decode cX5_duel 128 = .ok (.iadd, 1) := by decide +kernel
theorem dX5_duel_129 : decode cX5_duel 129 = .ok (.istore_n 3, 1) := by decide +kernel
theorem dX5_duel_130 : decode cX5_duel 130 = .ok (.goto 9, 3) := by decide +kernel
theorem dX5_duel_133 : decode cX5_duel 133 = .ok (.iinc 7 1, 3) := by decide +kernel
theorem dX5_duel_136 : decode cX5_duel 136 = .ok (.goto (-49), 3) := by decide +kernel
theorem dX5_duel_139 : decode cX5_duel 139 = .ok (.iinc 4 1, 3) := by decide +kernel
theorem dX5_duel_142 : decode cX5_duel 142 = .ok (.goto (-137), 3) := by decide +kernel
theorem dX5_duel_145 : decode cX5_duel 145 = .ok (.iload_n 3, 1) := by decide +kernel
theorem dX5_duel_146 : decode cX5_duel 146 = .ok (.ireturn, 1) := by decide +kernel
set_option maxRecDepth 20000 in
theorem ggX5_beatsNow_Jx4a65c_size_8abf5 : GoodIn wsX5_beatsNow wsJx4a65c_size_8abf5 := goodIn_r _ [8, 9, 74, 75, 76] (by decide +kernel) (by decide +kernel)
set_option maxRecDepth 20000 in
theorem gX5_beatsNow_Jx4a65c_size_8abf5 : GoodIn wsX5_beatsNow (wsV RX5 53 RJx4a65c yJx4a65c_size_8abf5 wsJx4a65c_size_8abf5) := goodIn_app (goodIn_of _ (by decide +kernel)) ggX5_beatsNow_Jx4a65c_size_8abf5
set_option maxRecDepth 20000 in
theorem ggX5_beatsNow_X5_duel : GoodIn wsX5_beatsNow wsX5_duel := goodIn_r _ [14, 15, 16, 4, 5, 6, 7, 8, 9, 17, 18, 19, 20, 21, 22, 23, 24, 25, 26, 27, 28, 29, 30, 31, 32, 33, 34, 35, 36, 13, 37, 1, 38, 39, 40, 41, 3, 42, 43, 44, 45, 46, 47, 48, 49, 50, 51, 52, 53, 54, 55, 56, 57, 58, 59, 60, 61, 62, 63, 64, 65, 66, 67, 68, 69, 70, 71, 72, 73, 74, 75, 76] (by decide +kernel) (by decide +kernel)
set_option maxRecDepth 20000 in
theorem gX5_beatsNow_X5_duel : GoodIn wsX5_beatsNow (wsV RX5 265 RX5 yX5_duel wsX5_duel) := goodIn_app (goodIn_of _ (by decide +kernel)) ggX5_beatsNow_X5_duel
theorem dX5_beatsNow_0 : decode cX5_beatsNow 0 = .ok (.iconst 0, 1) := by decide +kernel
theorem dX5_beatsNow_1 : decode cX5_beatsNow 1 = .ok (.istore_n 1, 1) := by decide +kernel
theorem dX5_beatsNow_2 : decode cX5_beatsNow 2 = .ok (.iload_n 1, 1) := by decide +kernel
theorem dX5_beatsNow_3 : decode cX5_beatsNow 3 = .ok (.aload_n 0, 1) := by decide +kernel
theorem dX5_beatsNow_4 : decode cX5_beatsNow 4 = .ok (.getfield 16, 3) := by decide +kernel
theorem dX5_beatsNow_7 : decode cX5_beatsNow 7 = .ok (.invokevirtual 53, 3) := by decide +kernel
theorem dX5_beatsNow_10 : decode cX5_beatsNow 10 = .ok (.if_icmp .ge 95, 3) := by decide +kernel
theorem dX5_beatsNow_13 : decode cX5_beatsNow 13 = .ok (.aload_n 0, 1) := by decide +kernel
theorem dX5_beatsNow_14 : decode cX5_beatsNow 14 = .ok (.getfield 101, 3) := by decide +kernel
theorem dX5_beatsNow_17 : decode cX5_beatsNow 17 = .ok (.iconst 2, 1) := by decide +kernel
theorem dX5_beatsNow_18 : decode cX5_beatsNow 18 = .ok (.if_icmp .le 87, 3) := by decide +kernel
theorem dX5_beatsNow_21 : decode cX5_beatsNow 21 = .ok (.aload_n 0, 1) := by decide +kernel
theorem dX5_beatsNow_22 : decode cX5_beatsNow 22 = .ok (.getfield 80, 3) := by decide +kernel
theorem dX5_beatsNow_25 : decode cX5_beatsNow 25 = .ok (.iload_n 1, 1) := by decide +kernel
theorem dX5_beatsNow_26 : decode cX5_beatsNow 26 = .ok (.ishr, 1) := by decide +kernel
theorem dX5_beatsNow_27 : decode cX5_beatsNow 27 = .ok (.iconst 1, 1) := by decide +kernel
theorem dX5_beatsNow_28 : decode cX5_beatsNow 28 = .ok (.iand, 1) := by decide +kernel
theorem dX5_beatsNow_29 : decode cX5_beatsNow 29 = .ok (.iconst 1, 1) := by decide +kernel
theorem dX5_beatsNow_30 : decode cX5_beatsNow 30 = .ok (.if_icmp .ne 7, 3) := by decide +kernel
theorem dX5_beatsNow_33 : decode cX5_beatsNow 33 = .ok (.iconst 1, 1) := by decide +kernel
theorem dX5_beatsNow_34 : decode cX5_beatsNow 34 = .ok (.goto 4, 3) := by decide +kernel
theorem dX5_beatsNow_37 : decode cX5_beatsNow 37 = .ok (.iconst 0, 1) := by decide +kernel
theorem dX5_beatsNow_38 : decode cX5_beatsNow 38 = .ok (.istore_n 2, 1) := by decide +kernel
theorem dX5_beatsNow_39 : decode cX5_beatsNow 39 = .ok (.iconst 0, 1) := by decide +kernel
theorem dX5_beatsNow_40 : decode cX5_beatsNow 40 = .ok (.istore_n 3, 1) := by decide +kernel
theorem dX5_beatsNow_41 : decode cX5_beatsNow 41 = .ok (.iload_n 3, 1) := by decide +kernel
theorem dX5_beatsNow_42 : decode cX5_beatsNow 42 = .ok (.aload_n 0, 1) := by decide +kernel
theorem dX5_beatsNow_43 : decode cX5_beatsNow 43 = .ok (.getfield 16, 3) := by decide +kernel
theorem dX5_beatsNow_46 : decode cX5_beatsNow 46 = .ok (.invokevirtual 53, 3) := by decide +kernel
theorem dX5_beatsNow_49 : decode cX5_beatsNow 49 = .ok (.if_icmp .ge 44, 3) := by decide +kernel
theorem dX5_beatsNow_52 : decode cX5_beatsNow 52 = .ok (.iload_n 2, 1) := by decide +kernel
theorem dX5_beatsNow_53 : decode cX5_beatsNow 53 = .ok (.ifCond .eq 40, 3) := by decide +kernel
theorem dX5_beatsNow_56 : decode cX5_beatsNow 56 = .ok (.iload_n 3, 1) := by decide +kernel
theorem dX5_beatsNow_57 : decode cX5_beatsNow 57 = .ok (.iload_n 1, 1) := by decide +kernel
theorem dX5_beatsNow_58 : decode cX5_beatsNow 58 = .ok (.if_icmp .eq 23, 3) := by decide +kernel
theorem dX5_beatsNow_61 : decode cX5_beatsNow 61 = .ok (.aload_n 0, 1) := by decide +kernel
theorem dX5_beatsNow_62 : decode cX5_beatsNow 62 = .ok (.getfield 80, 3) := by decide +kernel
theorem dX5_beatsNow_65 : decode cX5_beatsNow 65 = .ok (.iload_n 3, 1) := by decide +kernel
theorem dX5_beatsNow_66 : decode cX5_beatsNow 66 = .ok (.ishr, 1) := by decide +kernel
theorem dX5_beatsNow_67 : decode cX5_beatsNow 67 = .ok (.iconst 1, 1) := by decide +kernel
theorem dX5_beatsNow_68 : decode cX5_beatsNow 68 = .ok (.iand, 1) := by decide +kernel
theorem dX5_beatsNow_69 : decode cX5_beatsNow 69 = .ok (.ifCond .eq 12, 3) := by decide +kernel
theorem dX5_beatsNow_72 : decode cX5_beatsNow 72 = .ok (.aload_n 0, 1) := by decide +kernel
theorem dX5_beatsNow_73 : decode cX5_beatsNow 73 = .ok (.iload_n 1, 1) := by decide +kernel
theorem dX5_beatsNow_74 : decode cX5_beatsNow 74 = .ok (.iload_n 3, 1) := by decide +kernel
theorem dX5_beatsNow_75 : decode cX5_beatsNow 75 = .ok (.invokevirtual 265, 3) := by decide +kernel
theorem dX5_beatsNow_78 : decode cX5_beatsNow 78 = .ok (.ifCond .le 7, 3) := by decide +kernel
theorem dX5_beatsNow_81 : decode cX5_beatsNow 81 = .ok (.iconst 1, 1) := by decide +kernel
theorem dX5_beatsNow_82 : decode cX5_beatsNow 82 = .ok (.goto 4, 3) := by decide +kernel
theorem dX5_beatsNow_85 : decode cX5_beatsNow 85 = .ok (.iconst 0, 1) := by decide +kernel
theorem dX5_beatsNow_86 : decode cX5_beatsNow 86 = .ok (.istore_n 2, 1) := by decide +kernel
theorem dX5_beatsNow_87 : decode cX5_beatsNow 87 = .ok (.iinc 3 1, 3) := by decide +kernel
theorem dX5_beatsNow_90 : decode cX5_beatsNow 90 = .ok (.goto (-49), 3) := by decide +kernel
theorem dX5_beatsNow_93 : decode cX5_beatsNow 93 = .ok (.iload_n 2, 1) := by decide +kernel
theorem dX5_beatsNow_94 : decode cX5_beatsNow 94 = .ok (.ifCond .eq 5, 3) := by decide +kernel
theorem dX5_beatsNow_97 : decode cX5_beatsNow 97 = .ok (.iload_n 1, 1) := by decide +kernel
theorem dX5_beatsNow_98 : decode cX5_beatsNow 98 = .ok (.ireturn, 1) := by decide +kernel
theorem dX5_beatsNow_99 : decode cX5_beatsNow 99 = .ok (.iinc 1 1, 3) := by decide +kernel
theorem dX5_beatsNow_102 : decode cX5_beatsNow 102 = .ok (.goto (-100), 3) := by decide +kernel
theorem dX5_beatsNow_105 : decode cX5_beatsNow 105 = .ok (.iconst (-1), 1) := by decide +kernel
theorem dX5_beatsNow_106 : decode cX5_beatsNow 106 = .ok (.ireturn, 1) := by decide +kernel
set_option maxRecDepth 20000 in
theorem ggX5_beatsAll_X5_beatsNow : GoodIn wsX5_beatsAll wsX5_beatsNow := goodIn_r _ [6, 7, 8, 9, 10, 11, 12, 13, 14, 15, 16, 17, 18, 5, 19, 20, 21, 22, 23, 24, 25, 26, 27, 28, 29, 30, 31, 32, 33, 34, 35, 36, 37, 38, 39, 40, 41, 42, 43, 44, 45, 46, 47, 48, 49, 50, 51, 52, 53, 54, 55, 56, 57, 58, 59, 60, 61, 62, 63, 64, 65, 66, 67, 68, 69, 70, 71, 72, 73, 74, 75, 76, 77, 78, 79, 80, 81] (by decide +kernel) (by decide +kernel)
set_option maxRecDepth 20000 in
theorem gX5_beatsAll_X5_beatsNow : GoodIn wsX5_beatsAll (wsV RX5 268 RX5 yX5_beatsNow wsX5_beatsNow) := goodIn_app (goodIn_of _ (by decide +kernel)) ggX5_beatsAll_X5_beatsNow
theorem dX5_beatsAll_0 : decode cX5_beatsAll 0 = .ok (.aload_n 0, 1) := by decide +kernel
theorem dX5_beatsAll_1 : decode cX5_beatsAll 1 = .ok (.iconst 0, 1) := by decide +kernel
theorem dX5_beatsAll_2 : decode cX5_beatsAll 2 = .ok (.putfield 50, 3) := by decide +kernel
theorem dX5_beatsAll_5 : decode cX5_beatsAll 5 = .ok (.aload_n 0, 1) := by decide +kernel
theorem dX5_beatsAll_6 : decode cX5_beatsAll 6 = .ok (.invokevirtual 268, 3) := by decide +kernel
theorem dX5_beatsAll_9 : decode cX5_beatsAll 9 = .ok (.ireturn, 1) := by decide +kernel
set_option maxRecDepth 20000 in
theorem ggX5_spoiledNow_X5_winsNow : GoodIn wsX5_spoiledNow wsX5_winsNow := goodIn_r _ [6, 7, 1, 8, 9, 10, 11, 5, 12, 13, 14, 15, 16, 17, 18, 19, 20, 21, 22, 23, 24, 25, 26, 27, 28, 29, 30, 31, 32, 33, 34, 35, 36, 37, 38, 39, 40, 41, 42, 43, 44, 45, 46, 47, 48, 49, 50, 51, 52, 53, 54, 55, 56, 57, 58, 59, 60, 61, 62, 63, 64, 65, 66, 67, 68, 69, 70, 71, 72, 73, 74, 75, 76, 77, 78, 79, 80, 81, 82, 83, 84, 85, 86, 87, 88, 89, 90, 91, 92, 93, 94, 95, 96, 97, 98, 99, 100, 101, 102, 103, 104, 105, 106, 107, 108, 109, 110] (by decide +kernel) (by decide +kernel)
set_option maxRecDepth 20000 in
theorem gX5_spoiledNow_X5_winsNow : GoodIn wsX5_spoiledNow (wsV RX5 262 RX5 yX5_winsNow wsX5_winsNow) := goodIn_app (goodIn_of _ (by decide +kernel)) ggX5_spoiledNow_X5_winsNow
theorem dX5_spoiledNow_0 : decode cX5_spoiledNow 0 = .ok (.aload_n 0, 1) := by decide +kernel
theorem dX5_spoiledNow_1 : decode cX5_spoiledNow 1 = .ok (.getfield 80, 3) := by decide +kernel
theorem dX5_spoiledNow_4 : decode cX5_spoiledNow 4 = .ok (.iload_n 1, 1) := by decide +kernel
theorem dX5_spoiledNow_5 : decode cX5_spoiledNow 5 = .ok (.ishr, 1) := by decide +kernel
theorem dX5_spoiledNow_6 : decode cX5_spoiledNow 6 = .ok (.iconst 1, 1) := by decide +kernel
theorem dX5_spoiledNow_7 : decode cX5_spoiledNow 7 = .ok (.iand, 1) := by decide +kernel
theorem dX5_spoiledNow_8 : decode cX5_spoiledNow 8 = .ok (.ifCond .ne 7, 3) := by decide +kernel
theorem dX5_spoiledNow_11 : decode cX5_spoiledNow 11 = .ok (.iconst (-1), 1) := by decide +kernel
theorem dX5_spoiledNow_12 : decode cX5_spoiledNow 12 = .ok (.goto 11, 3) := by decide +kernel
theorem dX5_spoiledNow_15 : decode cX5_spoiledNow 15 = .ok (.aload_n 0, 1) := by decide +kernel
theorem dX5_spoiledNow_16 : decode cX5_spoiledNow 16 = .ok (.iconst 0, 1) := by decide +kernel
theorem dX5_spoiledNow_17 : decode cX5_spoiledNow 17 = .ok (.iconst 1, 1) := by decide +kernel
theorem dX5_spoiledNow_18 : decode cX5_spoiledNow 18 = .ok (.iload_n 1, 1) := by decide +kernel
theorem dX5_spoiledNow_19 : decode cX5_spoiledNow 19 = .ok (.ishl, 1) := by decide +kernel
theorem dX5_spoiledNow_20 : decode cX5_spoiledNow 20 = .ok (.invokevirtual 262, 3) := by decide +kernel
theorem dX5_spoiledNow_23 : decode cX5_spoiledNow 23 = .ok (.ireturn, 1) := by decide +kernel
set_option maxRecDepth 20000 in
theorem ggX5_spoiled_X5_isBook : GoodIn wsX5_spoiled wsX5_isBook := goodIn_r _ [6, 7, 8, 9, 10, 11, 12, 13, 14, 15, 5, 16, 104, 105, 106, 107, 108, 109, 110, 111, 112, 113, 114, 115, 116, 117, 118, 119, 120, 121, 122, 123, 124, 125, 126] (by decide +kernel) (by decide +kernel)
set_option maxRecDepth 20000 in
theorem gX5_spoiled_X5_isBook : GoodIn wsX5_spoiled (wsV RX5 141 RX5 yX5_isBook wsX5_isBook) := goodIn_app (goodIn_of _ (by decide +kernel)) ggX5_spoiled_X5_isBook
set_option maxRecDepth 20000 in
theorem ggX5_spoiled_X5_spoiledNow : GoodIn wsX5_spoiled wsX5_spoiledNow := goodIn_r _ [20, 21, 22, 23, 24, 5, 25, 26, 27, 28, 29, 30, 31, 32, 33, 34, 7, 35, 36, 37, 38, 39, 40, 41, 8, 9, 10, 11, 12, 13, 42, 43, 44, 45, 46, 47, 48, 49, 50, 51, 52, 53, 54, 55, 56, 57, 58, 59, 60, 61, 62, 63, 64, 65, 66, 67, 68, 69, 70, 71, 72, 73, 74, 75, 76, 77, 78, 79, 80, 81, 82, 83, 84, 85, 86, 87, 88, 89, 90, 91, 92, 93, 94, 95, 96, 97, 98, 99, 104, 105, 106, 107, 108, 109, 110, 111, 112, 113, 114, 115, 116, 117, 118, 119, 120, 121, 122, 123, 124, 125, 126] (by decide +kernel) (by decide +kernel)
set_option maxRecDepth 20000 in
theorem gX5_spoiled_X5_spoiledNow : GoodIn wsX5_spoiled (wsV RX5 271 RX5 yX5_spoiledNow wsX5_spoiledNow) := goodIn_app (goodIn_of _ (by decide +kernel)) ggX5_spoiled_X5_spoiledNow
set_option maxRecDepth 20000 in
theorem ggX5_spoiled_X5_refuse : GoodIn wsX5_spoiled wsX5_refuse := goodIn_r _ [103, 1, 104, 105, 106, 107, 108, 109, 110, 111, 112, 113, 114, 115, 116, 117, 118, 119, 120, 121, 122, 123] (by decide +kernel) (by decide +kernel)
set_option maxRecDepth 20000 in
theorem gX5_spoiled_X5_refuse : GoodIn wsX5_spoiled (wsV RX5 86 RX5 yX5_refuse wsX5_refuse) := goodIn_app (goodIn_of _ (by decide +kernel)) ggX5_spoiled_X5_refuse
theorem dX5_spoiled_0 : decode cX5_spoiled 0 = .ok (.aload_n 0, 1) := by decide +kernel
theorem dX5_spoiled_1 : decode cX5_spoiled 1 = .ok (.iconst 0, 1) := by decide +kernel
theorem dX5_spoiled_2 : decode cX5_spoiled 2 = .ok (.putfield 50, 3) := by decide +kernel
theorem dX5_spoiled_5 : decode cX5_spoiled 5 = .ok (.aload_n 0, 1) := by decide +kernel
theorem dX5_spoiled_6 : decode cX5_spoiled 6 = .ok (.iload_n 1, 1) := by decide +kernel
theorem dX5_spoiled_7 : decode cX5_spoiled 7 = .ok (.invokevirtual 141, 3) := by decide +kernel
theorem dX5_spoiled_10 : decode cX5_spoiled 10 = .ok (.ifCond .eq 11, 3) := by decide +kernel
theorem dX5_spoiled_13 : decode cX5_spoiled 13 = .ok (.aload_n 0, 1) := by decide +kernel
theorem dX5_spoiled_14 : decode cX5_spoiled 14 = .ok (.iload_n 1, 1) := by decide +kernel
theorem dX5_spoiled_15 : decode cX5_spoiled 15 = .ok (.invokevirtual 271, 3) := by decide +kernel
theorem dX5_spoiled_18 : decode cX5_spoiled 18 = .ok (.goto 8, 3) := by decide +kernel
theorem dX5_spoiled_21 : decode cX5_spoiled 21 = .ok (.aload_n 0, 1) := by decide +kernel
theorem dX5_spoiled_22 : decode cX5_spoiled 22 = .ok (.iconst 1, 1) := by decide +kernel
theorem dX5_spoiled_23 : decode cX5_spoiled 23 = .ok (.invokevirtual 86, 3) := by decide +kernel
theorem dX5_spoiled_26 : decode cX5_spoiled 26 = .ok (.ireturn, 1) := by decide +kernel
set_option maxRecDepth 20000 in
theorem ggX5_readInNow_Jx4a65c_size_8abf5 : GoodIn wsX5_readInNow wsJx4a65c_size_8abf5 := goodIn_r _ [12, 13, 105, 106, 107] (by decide +kernel) (by decide +kernel)
set_option maxRecDepth 20000 in
theorem gX5_readInNow_Jx4a65c_size_8abf5 : GoodIn wsX5_readInNow (wsV RX5 53 RJx4a65c yJx4a65c_size_8abf5 wsJx4a65c_size_8abf5) := goodIn_app (goodIn_of _ (by decide +kernel)) ggX5_readInNow_Jx4a65c_size_8abf5
set_option maxRecDepth 20000 in
theorem ggX5_readInNow_Jx4a65c_get_915e3 : GoodIn wsX5_readInNow wsJx4a65c_get_915e3 := goodIn_r _ [17, 13, 18, 19, 20, 21, 22, 23, 24, 25, 26, 27, 28, 11, 29, 30, 105, 106, 107] (by decide +kernel) (by decide +kernel)
set_option maxRecDepth 20000 in
theorem gX5_readInNow_Jx4a65c_get_915e3 : GoodIn wsX5_readInNow (wsV RX5 107 RJx4a65c yJx4a65c_get_915e3 wsJx4a65c_get_915e3) := goodIn_app (goodIn_of _ (by decide +kernel)) ggX5_readInNow_Jx4a65c_get_915e3
set_option maxRecDepth 20000 in
theorem ggX5_readInNow_X5_pagesOf : GoodIn wsX5_readInNow wsX5_pagesOf := goodIn_r _ [35, 36, 37, 38, 39, 3, 14, 15, 16, 11, 17, 13, 18, 19, 20, 21, 22, 23, 24, 25, 26, 27, 28, 29, 30, 40, 41, 42, 43, 44, 45, 46, 47, 48, 49, 50, 51, 52, 53, 54, 55, 56, 57, 58, 59, 60, 61, 62, 63, 64, 65, 66, 67, 68, 69, 70, 71, 72, 73, 74, 75, 76, 77, 85, 86, 87, 88, 89, 90, 91, 92, 93, 94, 95, 96, 97, 98, 99, 100, 101, 102, 103, 104, 105, 106, 107, 108, 109, 110, 111, 112] (by decide +kernel) (by decide +kernel)
set_option maxRecDepth 20000 in
theorem gX5_readInNow_X5_pagesOf : GoodIn wsX5_readInNow (wsV RX5 160 RX5 yX5_pagesOf wsX5_pagesOf) := goodIn_app (goodIn_of _ (by decide +kernel)) ggX5_readInNow_X5_pagesOf
set_option maxRecDepth 20000 in
theorem ggX5_readInNow_X5_pace : GoodIn wsX5_readInNow wsX5_pace := goodIn_r _ [81, 2, 3, 4, 5, 6, 7, 82, 83, 84, 31, 32, 33, 34, 35, 36, 37, 38, 39, 14, 15, 16, 11, 17, 13, 18, 19, 20, 21, 22, 23, 24, 25, 26, 27, 28, 29, 30, 40, 41, 42, 43, 44, 45, 46, 47, 48, 49, 50, 51, 52, 53, 54, 55, 56, 57, 58, 59, 60, 61, 62, 63, 64, 65, 66, 67, 68, 69, 70, 71, 72, 73, 74, 75, 76, 77, 85, 86, 87, 88, 89, 90, 91, 92, 93, 94, 95, 96, 97, 98, 99, 100, 101, 102, 103, 104, 105, 106, 107, 108, 109, 110, 111, 112] (by decide +kernel) (by decide +kernel)
set_option maxRecDepth 20000 in
theorem gX5_readInNow_X5_pace : GoodIn wsX5_readInNow (wsV RX5 173 RX5 yX5_pace wsX5_pace) := goodIn_app (goodIn_of _ (by decide +kernel)) ggX5_readInNow_X5_pace
theorem dX5_readInNow_0 : decode cX5_readInNow 0 = .ok (.aload_n 0, 1) := by decide +kernel
theorem dX5_readInNow_1 : decode cX5_readInNow 1 = .ok (.getfield 101, 3) := by decide +kernel
theorem dX5_readInNow_4 : decode cX5_readInNow 4 = .ok (.iconst 1, 1) := by decide +kernel
theorem dX5_readInNow_5 : decode cX5_readInNow 5 = .ok (.if_icmp .eq 5, 3) := by decide +kernel
theorem dX5_readInNow_8 : decode cX5_readInNow 8 = .ok (.iconst (-1), 1) := by decide +kernel
theorem dX5_readInNow_9 : decode cX5_readInNow 9 = .ok (.ireturn, 1) := by decide +kernel
theorem dX5_readInNow_10 : decode cX5_readInNow 10 = .ok (.iconst 0, 1) := by decide +kernel
theorem dX5_readInNow_11 : decode cX5_readInNow 11 = .ok (.istore_n 1, 1) := by decide +kernel
theorem dX5_readInNow_12 : decode cX5_readInNow 12 = .ok (.iconst 0, 1) := by decide +kernel
theorem dX5_readInNow_13 : decode cX5_readInNow 13 = .ok (.istore_n 2, 1) := by decide +kernel
theorem dX5_readInNow_14 : decode cX5_readInNow 14 = .ok (.iload_n 2, 1) := by decide +kernel
theorem dX5_readInNow_15 : decode cX5_readInNow 15 = .ok (.aload_n 0, 1) := by decide +kernel
theorem dX5_readInNow_16 : decode cX5_readInNow 16 = .ok (.getfield 19, 3) := by decide +kernel
theorem dX5_readInNow_19 : decode cX5_readInNow 19 = .ok (.invokevirtual 53, 3) := by decide +kernel
theorem dX5_readInNow_22 : decode cX5_readInNow 22 = .ok (.if_icmp .ge 60, 3) := by decide +kernel
theorem dX5_readInNow_25 : decode cX5_readInNow 25 = .ok (.iconst 0, 1) := by decide +kernel
theorem dX5_readInNow_26 : decode cX5_readInNow 26 = .ok (.istore_n 3, 1) := by decide +kernel
theorem dX5_readInNow_27 : decode cX5_readInNow 27 = .ok (.aload_n 0, 1) := by decide +kernel
theorem dX5_readInNow_28 : decode cX5_readInNow 28 = .ok (.getfield 19, 3) := by decide +kernel
theorem dX5_readInNow_31 : decode cX5_readInNow 31 = .ok (.iload_n 2, 1) := by decide +kernel
theorem dX5_readInNow_32 : decode cX5_readInNow 32 = .ok (.invokevirtual 107, 3) := by decide +kernel
theorem dX5_readInNow_35 : decode cX5_readInNow 35 = .ok (.checkcast 76, 3) := by decide +kernel
theorem dX5_readInNow_38 : decode cX5_readInNow 38 = .ok (.iconst 5, 1) := by decide +kernel
theorem dX5_readInNow_39 : decode cX5_readInNow 39 = .ok (.iaload, 1) := by decide +kernel
theorem dX5_readInNow_40 : decode cX5_readInNow 40 = .ok (.istore 4, 2) := by decide +kernel
theorem dX5_readInNow_42 : decode cX5_readInNow 42 = .ok (.iload 4, 2) := by decide +kernel
theorem dX5_readInNow_44 : decode cX5_readInNow 44 = .ok (.aload_n 0, 1) := by decide +kernel
theorem dX5_readInNow_45 : decode cX5_readInNow 45 = .ok (.iload_n 2, 1) := by decide +kernel
theorem dX5_readInNow_46 : decode cX5_readInNow 46 = .ok (.invokevirtual 160, 3) := by decide +kernel
theorem dX5_readInNow_49 : decode cX5_readInNow 49 = .ok (.if_icmp .ge 21, 3) := by decide +kernel
theorem dX5_readInNow_52 : decode cX5_readInNow 52 = .ok (.iload 4, 2) := by decide +kernel
theorem dX5_readInNow_54 : decode cX5_readInNow 54 = .ok (.aload_n 0, 1) := by decide +kernel
theorem dX5_readInNow_55 : decode cX5_readInNow 55 = .ok (.iload_n 2, 1) := by decide +kernel
theorem dX5_readInNow_56 : decode cX5_readInNow 56 = .ok (.iload 4, 2) := by decide +kernel
theorem dX5_readInNow_58 : decode cX5_readInNow 58 = .ok (.invokevirtual 173, 3) := by decide +kernel
theorem dX5_readInNow_61 : decode cX5_readInNow 61 = .ok (.iadd, 1) := by decide +kernel
theorem dX5_readInNow_62 : decode cX5_readInNow 62 = .ok (.istore 4, 2) := by decide +kernel
theorem dX5_readInNow_64 : decode cX5_readInNow 64 = .ok (.iinc 3 1, 3) := by decide +kernel
theorem dX5_readInNow_67 : decode cX5_readInNow 67 = .ok (.goto (-25), 3) := by decide +kernel
theorem dX5_readInNow_70 : decode cX5_readInNow 70 = .ok (.iload_n 1, 1) := by decide +kernel
theorem dX5_readInNow_71 : decode cX5_readInNow 71 = .ok (.iload_n 3, 1) := by decide +kernel
theorem dX5_readInNow_72 : decode cX5_readInNow 72 = .ok (.invokestatic 167, 3) := by decide +kernel
theorem dX5_readInNow_75 : decode cX5_readInNow 75 = .ok (.istore_n 1, 1) := by decide +kernel
theorem dX5_readInNow_76 : decode cX5_readInNow 76 = .ok (.iinc 2 1, 3) := by decide +kernel
theorem dX5_readInNow_79 : decode cX5_readInNow 79 = .ok (.goto (-65), 3) := by decide +kernel
theorem dX5_readInNow_82 : decode cX5_readInNow 82 = .ok (.iload_n 1, 1) := by decide +kernel
theorem dX5_readInNow_83 : decode cX5_readInNow 83 = .ok (.ireturn, 1) := by decide +kernel
set_option maxRecDepth 20000 in
theorem ggX5_readIn_X5_readInNow : GoodIn wsX5_readIn wsX5_readInNow := goodIn_r _ [6, 7, 8, 9, 10, 11, 12, 13, 14, 15, 16, 17, 18, 19, 20, 21, 22, 23, 24, 25, 26, 27, 28, 29, 30, 31, 32, 33, 34, 35, 36, 37, 38, 39, 5, 40, 41, 42, 43, 44, 45, 46, 47, 48, 49, 50, 51, 52, 53, 54, 55, 56, 57, 58, 59, 60, 61, 62, 63, 64, 65, 66, 67, 68, 69, 70, 71, 72, 73, 74, 75, 76, 77, 78, 79, 80, 81, 82, 83, 84, 85, 86, 87, 88, 89, 90, 91, 92, 93, 94, 95, 96, 97, 98, 99, 100, 101, 102, 103, 104, 105, 106, 107, 108, 109, 110, 111, 112, 113, 114, 115, 116, 117] (by decide +kernel) (by decide +kernel)
set_option maxRecDepth 20000 in
theorem gX5_readIn_X5_readInNow : GoodIn wsX5_readIn (wsV RX5 274 RX5 yX5_readInNow wsX5_readInNow) := goodIn_app (goodIn_of _ (by decide +kernel)) ggX5_readIn_X5_readInNow
theorem dX5_readIn_0 : decode cX5_readIn 0 = .ok (.aload_n 0, 1) := by decide +kernel
theorem dX5_readIn_1 : decode cX5_readIn 1 = .ok (.iconst 0, 1) := by decide +kernel
theorem dX5_readIn_2 : decode cX5_readIn 2 = .ok (.putfield 50, 3) := by decide +kernel
theorem dX5_readIn_5 : decode cX5_readIn 5 = .ok (.aload_n 0, 1) := by decide +kernel
theorem dX5_readIn_6 : decode cX5_readIn 6 = .ok (.invokevirtual 274, 3) := by decide +kernel
theorem dX5_readIn_9 : decode cX5_readIn 9 = .ok (.ireturn, 1) := by decide +kernel
set_option maxRecDepth 20000 in
theorem ggX5_missNow_Jx4a65c_size_8abf5 : GoodIn wsX5_missNow wsJx4a65c_size_8abf5 := goodIn_r _ [11, 12, 59, 60, 61] (by decide +kernel) (by decide +kernel)
set_option maxRecDepth 20000 in
theorem gX5_missNow_Jx4a65c_size_8abf5 : GoodIn wsX5_missNow (wsV RX5 53 RJx4a65c yJx4a65c_size_8abf5 wsJx4a65c_size_8abf5) := goodIn_app (goodIn_of _ (by decide +kernel)) ggX5_missNow_Jx4a65c_size_8abf5
set_option maxRecDepth 20000 in
theorem ggX5_missNow_X5_asked : GoodIn wsX5_missNow wsX5_asked := goodIn_r _ [17, 18, 19, 20, 21, 39, 40, 41, 42, 43, 44, 45, 46, 47, 48, 49, 50, 51, 52, 53, 54, 55, 56, 57, 58] (by decide +kernel) (by decide +kernel)
set_option maxRecDepth 20000 in
theorem gX5_missNow_X5_asked : GoodIn wsX5_missNow (wsV RX5 179 RX5 yX5_asked wsX5_asked) := goodIn_app (goodIn_of _ (by decide +kernel)) ggX5_missNow_X5_asked
set_option maxRecDepth 20000 in
theorem ggX5_missNow_Jx4a65c_get_915e3 : GoodIn wsX5_missNow wsJx4a65c_get_915e3 := goodIn_r _ [25, 12, 26, 27, 28, 29, 30, 31, 32, 33, 34, 35, 36, 10, 37, 38, 59, 60, 61] (by decide +kernel) (by decide +kernel)
set_option maxRecDepth 20000 in
theorem gX5_missNow_Jx4a65c_get_915e3 : GoodIn wsX5_missNow (wsV RX5 107 RJx4a65c yJx4a65c_get_915e3 wsJx4a65c_get_915e3) := goodIn_app (goodIn_of _ (by decide +kernel)) ggX5_missNow_Jx4a65c_get_915e3
theorem dX5_missNow_0 : decode cX5_missNow 0 = .ok (.iconst 0, 1) := by decide +kernel
theorem dX5_missNow_1 : decode cX5_missNow 1 = .ok (.istore_n 2, 1) := by decide +kernel
theorem dX5_missNow_2 : decode cX5_missNow 2 = .ok (.iconst 0, 1) := by decide +kernel
theorem dX5_missNow_3 : decode cX5_missNow 3 = .ok (.istore_n 3, 1) := by decide +kernel
theorem dX5_missNow_4 : decode cX5_missNow 4 = .ok (.iload_n 3, 1) := by decide +kernel
theorem dX5_missNow_5 : decode cX5_missNow 5 = .ok (.aload_n 0, 1) := by decide +kernel
theorem dX5_missNow_6 : decode cX5_missNow 6 = .ok (.getfield 16, 3) := by decide +kernel
theorem dX5_missNow_9 : decode cX5_missNow 9 = .ok (.invokevirtual 53, 3) := by decide +kernel
theorem dX5_missNow_12 : decode cX5_missNow 12 = .ok (.if_icmp .ge 38, 3) := by decide +kernel
theorem dX5_missNow_15 : decode cX5_missNow 15 = .ok (.iload_n 2, 1) := by decide +kernel
theorem dX5_missNow_16 : decode cX5_missNow 16 = .ok (.iconst 0, 1) := by decide +kernel
theorem dX5_missNow_17 : decode cX5_missNow 17 = .ok (.iload_n 1, 1) := by decide +kernel
theorem dX5_missNow_18 : decode cX5_missNow 18 = .ok (.aload_n 0, 1) := by decide +kernel
theorem dX5_missNow_19 : decode cX5_missNow 19 = .ok (.iload_n 3, 1) := by decide +kernel
theorem dX5_missNow_20 : decode cX5_missNow 20 = .ok (.invokevirtual 179, 3) := by decide +kernel
theorem dX5_missNow_23 : decode cX5_missNow 23 = .ok (.imul, 1) := by decide +kernel
theorem dX5_missNow_24 : decode cX5_missNow 24 = .ok (.aload_n 0, 1) := by decide +kernel
theorem dX5_missNow_25 : decode cX5_missNow 25 = .ok (.getfield 16, 3) := by decide +kernel
theorem dX5_missNow_28 : decode cX5_missNow 28 = .ok (.iload_n 3, 1) := by decide +kernel
theorem dX5_missNow_29 : decode cX5_missNow 29 = .ok (.invokevirtual 107, 3) := by decide +kernel
theorem dX5_missNow_32 : decode cX5_missNow 32 = .ok (.checkcast 76, 3) := by decide +kernel
theorem dX5_missNow_35 : decode cX5_missNow 35 = .ok (.bipush 7, 2) := by decide +kernel
theorem dX5_missNow_37 : decode cX5_missNow 37 = .ok (.iaload, 1) := by decide +kernel
theorem dX5_missNow_38 : decode cX5_missNow 38 = .ok (.isub, 1) := by decide +kernel
theorem dX5_missNow_39 : decode cX5_missNow 39 = .ok (.invokestatic 167, 3) := by decide +kernel
theorem dX5_missNow_42 : decode cX5_missNow 42 = .ok (.iadd, 1) := by decide +kernel
theorem dX5_missNow_43 : decode cX5_missNow 43 = .ok (.istore_n 2, 1) := by decide +kernel
theorem dX5_missNow_44 : decode cX5_missNow 44 = .ok (.iinc 3 1, 3) := by decide +kernel
theorem dX5_missNow_47 : decode cX5_missNow 47 = .ok (.goto (-43), 3) := by decide +kernel
theorem dX5_missNow_50 : decode cX5_missNow 50 = .ok (.iload_n 2, 1) := by decide +kernel
theorem dX5_missNow_51 : decode cX5_missNow 51 = .ok (.ireturn, 1) := by decide +kernel
set_option maxRecDepth 20000 in
theorem ggX5_wouldMiss_X5_is : GoodIn wsX5_wouldMiss wsX5_is := goodIn_r _ [5] (by decide +kernel) (by decide +kernel)
set_option maxRecDepth 20000 in
theorem gX5_wouldMiss_X5_is : GoodIn wsX5_wouldMiss (va_wsS RX5 57 yX5_is wsX5_is) := goodIn_app (goodIn_of _ (by decide +kernel)) ggX5_wouldMiss_X5_is
set_option maxRecDepth 20000 in
theorem ggX5_wouldMiss_X5_missNow : GoodIn wsX5_wouldMiss wsX5_missNow := goodIn_r _ [9, 10, 11, 12, 13, 14, 15, 16, 17, 18, 19, 20, 21, 22, 23, 24, 4, 25, 26, 27, 28, 29, 30, 31, 32, 33, 34, 35, 36, 37, 38, 39, 40, 41, 42, 43, 44, 45, 46, 51, 52, 53, 54, 55, 56, 57, 58, 59, 60, 61, 62, 63, 64, 65, 66, 67, 68, 69, 70, 71, 72, 73] (by decide +kernel) (by decide +kernel)
set_option maxRecDepth 20000 in
theorem gX5_wouldMiss_X5_missNow : GoodIn wsX5_wouldMiss (wsV RX5 277 RX5 yX5_missNow wsX5_missNow) := goodIn_app (goodIn_of _ (by decide +kernel)) ggX5_wouldMiss_X5_missNow
set_option maxRecDepth 20000 in
theorem ggX5_wouldMiss_X5_refuse : GoodIn wsX5_wouldMiss wsX5_refuse := goodIn_r _ [50, 1, 51, 52, 53, 54, 55, 56, 57, 58, 59, 60, 61, 62, 63, 64, 65, 66, 67, 68, 69, 70] (by decide +kernel) (by decide +kernel)
set_option maxRecDepth 20000 in
theorem gX5_wouldMiss_X5_refuse : GoodIn wsX5_wouldMiss (wsV RX5 86 RX5 yX5_refuse wsX5_refuse) := goodIn_app (goodIn_of _ (by decide +kernel)) ggX5_wouldMiss_X5_refuse
theorem dX5_wouldMiss_0 : decode cX5_wouldMiss 0 = .ok (.aload_n 0, 1) := by decide +kernel
theorem dX5_wouldMiss_1 : decode cX5_wouldMiss 1 = .ok (.iconst 0, 1) := by decide +kernel
theorem dX5_wouldMiss_2 : decode cX5_wouldMiss 2 = .ok (.putfield 50, 3) := by decide +kernel
theorem dX5_wouldMiss_5 : decode cX5_wouldMiss 5 = .ok (.iload_n 1, 1) := by decide +kernel
theorem dX5_wouldMiss_6 : decode cX5_wouldMiss 6 = .ok (.iconst 1, 1) := by decide +kernel
theorem dX5_wouldMiss_7 : decode cX5_wouldMiss 7 = .ok (.bipush 60, 2) := by decide +kernel
theorem dX5_wouldMiss_9 : decode cX5_wouldMiss 9 = .ok (.invokestatic 57, 3) := by decide +kernel
theorem dX5_wouldMiss_12 : decode cX5_wouldMiss 12 = .ok (.ifCond .eq 11, 3) := by decide +kernel
theorem dX5_wouldMiss_15 : decode cX5_wouldMiss 15 = .ok (.aload_n 0, 1) := by decide +kernel
theorem dX5_wouldMiss_16 : decode cX5_wouldMiss 16 = .ok (.iload_n 1, 1) := by decide +kernel
theorem dX5_wouldMiss_17 : decode cX5_wouldMiss 17 = .ok (.invokevirtual 277, 3) := by decide +kernel
theorem dX5_wouldMiss_20 : decode cX5_wouldMiss 20 = .ok (.goto 8, 3) := by decide +kernel
theorem dX5_wouldMiss_23 : decode cX5_wouldMiss 23 = .ok (.aload_n 0, 1) := by decide +kernel
theorem dX5_wouldMiss_24 : decode cX5_wouldMiss 24 = .ok (.iconst 1, 1) := by decide +kernel
theorem dX5_wouldMiss_25 : decode cX5_wouldMiss 25 = .ok (.invokevirtual 86, 3) := by decide +kernel
theorem dX5_wouldMiss_28 : decode cX5_wouldMiss 28 = .ok (.ireturn, 1) := by decide +kernel
theorem dX5_add_0 : decode cX5_add 0 = .ok (.aload_n 0, 1) := by decide +kernel
theorem dX5_add_1 : decode cX5_add 1 = .ok (.aload_n 0, 1) := by decide +kernel
theorem dX5_add_2 : decode cX5_add 2 = .ok (.getfield 280, 3) := by decide +kernel
theorem dX5_add_5 : decode cX5_add 5 = .ok (.ldc2_w 284, 3) := by decide +kernel
theorem dX5_add_8 : decode cX5_add 8 = .ok (.lmul, 1) := by decide +kernel
theorem dX5_add_9 : decode cX5_add 9 = .ok (.iload_n 1, 1) := by decide +kernel
theorem dX5_add_10 : decode cX5_add 10 = .ok (.i2l, 1) := by decide +kernel
theorem dX5_add_11 : decode cX5_add 11 = .ok (.ladd, 1) := by decide +kernel
theorem dX5_add_12 : decode cX5_add 12 = .ok (.putfield 280, 3) := by decide +kernel
theorem dX5_add_15 : decode cX5_add 15 = .ok (.return_, 1) := by decide +kernel
set_option maxRecDepth 20000 in
theorem ggX5_digest_X5_manyNow : GoodIn wsX5_digest wsX5_manyNow := goodIn_r _ [12, 5, 13, 14, 15, 16, 17, 4, 6, 18, 19, 20, 21, 22, 23, 24, 25, 26, 27, 28, 29, 30, 31, 32, 33, 34, 35, 36, 37, 38, 39, 40, 41, 42, 43, 44, 45, 46, 47, 48, 49, 50, 51, 52, 53, 54, 55, 56, 57, 58, 59, 60, 61, 62, 63, 64, 11, 65, 66, 67, 68, 69, 70, 71, 72, 73, 74, 75, 76, 77, 78, 79, 80, 81, 82, 83, 84, 85, 86, 239, 240, 241, 242, 243, 244, 245, 246, 247, 248, 249, 250, 251, 252, 253, 254, 255, 256, 257, 258, 259, 260, 261, 262, 263, 264, 265] (by decide +kernel) (by decide +kernel)
set_option maxRecDepth 20000 in
theorem gX5_digest_X5_manyNow : GoodIn wsX5_digest (wsV RX5 259 RX5 yX5_manyNow wsX5_manyNow) := goodIn_app (goodIn_of _ (by decide +kernel)) ggX5_digest_X5_manyNow
set_option maxRecDepth 20000 in
theorem ggX5_digest_X5_add : GoodIn wsX5_digest wsX5_add := goodIn_r _ [90, 3, 91, 239, 240, 241, 242, 243, 244, 245, 246, 247, 248, 249, 250, 251, 252, 253, 254, 255, 256, 257, 258] (by decide +kernel) (by decide +kernel)
set_option maxRecDepth 20000 in
theorem gX5_digest_X5_add : GoodIn wsX5_digest (wsV RX5 288 RX5 yX5_add wsX5_add) := goodIn_app (goodIn_of _ (by decide +kernel)) ggX5_digest_X5_add
set_option maxRecDepth 20000 in
theorem ggX5_digest_Jx4a65c_size_8abf5 : GoodIn wsX5_digest wsJx4a65c_size_8abf5 := goodIn_r _ [60, 61, 263, 264, 265] (by decide +kernel) (by decide +kernel)
set_option maxRecDepth 20000 in
theorem gX5_digest_Jx4a65c_size_8abf5 : GoodIn wsX5_digest (wsV RX5 53 RJx4a65c yJx4a65c_size_8abf5 wsJx4a65c_size_8abf5) := goodIn_app (goodIn_of _ (by decide +kernel)) ggX5_digest_Jx4a65c_size_8abf5
set_option maxRecDepth 20000 in
theorem ggX5_digest_X5_ofHouseNow : GoodIn wsX5_digest wsX5_ofHouseNow := goodIn_r _ [95, 4, 13, 5, 14, 70, 71, 72, 27, 73, 61, 74, 75, 76, 77, 78, 79, 80, 81, 82, 83, 84, 85, 86, 24, 25, 26, 28, 29, 30, 31, 32, 33, 34, 35, 36, 37, 38, 39, 40, 41, 42, 43, 44, 45, 46, 47, 48, 49, 50, 51, 52, 53, 54, 55, 56, 96, 97, 98, 11, 99, 100, 101, 102, 103, 104, 57, 58, 59, 60, 239, 240, 241, 242, 243, 244, 245, 246, 247, 248, 249, 250, 251, 252, 253, 254, 255, 256, 257, 258, 263, 264, 265, 259, 260, 261, 262] (by decide +kernel) (by decide +kernel)
set_option maxRecDepth 20000 in
theorem gX5_digest_X5_ofHouseNow : GoodIn wsX5_digest (wsV RX5 250 RX5 yX5_ofHouseNow wsX5_ofHouseNow) := goodIn_app (goodIn_of _ (by decide +kernel)) ggX5_digest_X5_ofHouseNow
set_option maxRecDepth 20000 in
theorem ggX5_digest_X5_ofBookNow : GoodIn wsX5_digest wsX5_ofBookNow := goodIn_r _ [108, 5, 13, 20, 19, 18, 70, 71, 72, 27, 73, 61, 74, 75, 76, 77, 78, 79, 80, 81, 82, 83, 84, 85, 86, 109, 110, 111, 11, 112, 15, 23, 113, 114, 115, 66, 67, 68, 69, 116, 117, 118, 119, 6, 7, 57, 58, 59, 60, 120, 121, 122, 123, 124, 125, 126, 127, 128, 129, 130, 131, 132, 133, 134, 135, 136, 137, 138, 139, 140, 141, 142, 143, 144, 145, 146, 147, 148, 239, 240, 241, 242, 243, 244, 245, 246, 247, 248, 249, 250, 251, 252, 253, 254, 255, 256, 257, 258, 263, 264, 265] (by decide +kernel) (by decide +kernel)
set_option maxRecDepth 20000 in
theorem gX5_digest_X5_ofBookNow : GoodIn wsX5_digest (wsV RX5 253 RX5 yX5_ofBookNow wsX5_ofBookNow) := goodIn_app (goodIn_of _ (by decide +kernel)) ggX5_digest_X5_ofBookNow
set_option maxRecDepth 20000 in
theorem ggX5_digest_X5_spoiledNow : GoodIn wsX5_digest wsX5_spoiledNow := goodIn_r _ [152, 19, 153, 154, 155, 11, 156, 16, 157, 158, 159, 160, 161, 14, 6, 13, 5, 162, 163, 147, 164, 165, 166, 167, 57, 58, 59, 27, 60, 61, 70, 71, 72, 73, 74, 75, 76, 77, 78, 79, 80, 81, 82, 83, 84, 85, 86, 168, 169, 170, 171, 172, 173, 174, 175, 176, 177, 178, 179, 124, 125, 126, 127, 116, 117, 118, 119, 7, 120, 121, 122, 123, 128, 129, 130, 131, 132, 133, 134, 135, 136, 137, 138, 139, 180, 181, 182, 183, 239, 240, 241, 242, 243, 244, 245, 246, 247, 248, 249, 250, 251, 252, 253, 254, 255, 256, 257, 258, 263, 264, 265] (by decide +kernel) (by decide +kernel)
set_option maxRecDepth 20000 in
theorem gX5_digest_X5_spoiledNow : GoodIn wsX5_digest (wsV RX5 271 RX5 yX5_spoiledNow wsX5_spoiledNow) := goodIn_app (goodIn_of _ (by decide +kernel)) ggX5_digest_X5_spoiledNow
set_option maxRecDepth 20000 in
theorem ggX5_digest_X5_ofJudgeNow : GoodIn wsX5_digest wsX5_ofJudgeNow := goodIn_r _ [187, 6, 13, 14, 188, 189, 70, 71, 72, 27, 73, 61, 74, 75, 76, 77, 78, 79, 80, 81, 82, 83, 84, 85, 86, 57, 58, 59, 60, 190, 191, 192, 11, 193, 194, 195, 196, 197, 198, 5, 24, 25, 26, 28, 29, 30, 31, 32, 33, 34, 35, 36, 37, 38, 39, 40, 41, 42, 43, 44, 45, 46, 47, 48, 49, 50, 51, 52, 53, 54, 55, 56, 199, 200, 201, 147, 202, 203, 204, 205, 206, 207, 208, 209, 210, 211, 144, 239, 240, 241, 242, 243, 244, 245, 246, 247, 248, 249, 250, 251, 252, 253, 254, 255, 256, 257, 258, 263, 264, 265, 259, 260, 261, 262, 266] (by decide +kernel) (by decide +kernel)
set_option maxRecDepth 20000 in
theorem gX5_digest_X5_ofJudgeNow : GoodIn wsX5_digest (wsV RX5 256 RX5 yX5_ofJudgeNow wsX5_ofJudgeNow) := goodIn_app (goodIn_of _ (by decide +kernel)) ggX5_digest_X5_ofJudgeNow
set_option maxRecDepth 20000 in
theorem ggX5_digest_X5_winsNow : GoodIn wsX5_digest wsX5_winsNow := goodIn_r _ [156, 16, 19, 157, 158, 159, 160, 11, 161, 14, 6, 13, 5, 162, 163, 147, 164, 165, 166, 167, 57, 58, 59, 27, 60, 61, 70, 71, 72, 73, 74, 75, 76, 77, 78, 79, 80, 81, 82, 83, 84, 85, 86, 168, 169, 170, 171, 172, 173, 174, 175, 176, 177, 178, 179, 124, 125, 126, 127, 116, 117, 118, 119, 7, 120, 121, 122, 123, 128, 129, 130, 131, 132, 133, 134, 135, 136, 137, 138, 139, 180, 181, 182, 183, 239, 240, 241, 242, 243, 244, 245, 246, 247, 248, 249, 250, 251, 252, 253, 254, 255, 256, 257, 258, 263, 264, 265] (by decide +kernel) (by decide +kernel)
set_option maxRecDepth 20000 in
theorem gX5_digest_X5_winsNow : GoodIn wsX5_digest (wsV RX5 262 RX5 yX5_winsNow wsX5_winsNow) := goodIn_app (goodIn_of _ (by decide +kernel)) ggX5_digest_X5_winsNow
set_option maxRecDepth 20000 in
theorem ggX5_digest_X5_beatsNow : GoodIn wsX5_digest wsX5_beatsNow := goodIn_r _ [215, 5, 16, 19, 57, 58, 59, 27, 60, 61, 216, 217, 218, 11, 219, 6, 13, 70, 71, 72, 73, 74, 75, 76, 77, 78, 79, 80, 81, 82, 83, 84, 85, 86, 124, 125, 126, 127, 172, 173, 174, 175, 14, 162, 163, 147, 164, 165, 166, 167, 176, 177, 178, 179, 239, 240, 241, 242, 243, 244, 245, 246, 247, 248, 249, 250, 251, 252, 253, 254, 255, 256, 257, 258, 263, 264, 265] (by decide +kernel) (by decide +kernel)
set_option maxRecDepth 20000 in
theorem gX5_digest_X5_beatsNow : GoodIn wsX5_digest (wsV RX5 268 RX5 yX5_beatsNow wsX5_beatsNow) := goodIn_app (goodIn_of _ (by decide +kernel)) ggX5_digest_X5_beatsNow
set_option maxRecDepth 20000 in
theorem ggX5_digest_X5_readInNow : GoodIn wsX5_digest wsX5_readInNow := goodIn_r _ [223, 16, 6, 13, 224, 225, 103, 226, 57, 58, 59, 27, 60, 61, 70, 71, 72, 73, 74, 75, 76, 77, 78, 79, 80, 81, 82, 83, 84, 85, 86, 194, 195, 196, 11, 197, 188, 189, 198, 5, 24, 25, 26, 28, 29, 30, 31, 32, 33, 34, 35, 36, 37, 38, 39, 40, 41, 42, 43, 44, 45, 46, 47, 48, 49, 50, 51, 52, 53, 54, 55, 56, 199, 200, 201, 147, 202, 203, 227, 228, 229, 230, 101, 102, 104, 239, 240, 241, 242, 243, 244, 245, 246, 247, 248, 249, 250, 251, 252, 253, 254, 255, 256, 257, 258, 263, 264, 265, 259, 260, 261, 262, 266] (by decide +kernel) (by decide +kernel)
set_option maxRecDepth 20000 in
theorem gX5_digest_X5_readInNow : GoodIn wsX5_digest (wsV RX5 274 RX5 yX5_readInNow wsX5_readInNow) := goodIn_app (goodIn_of _ (by decide +kernel)) ggX5_digest_X5_readInNow
set_option maxRecDepth 20000 in
theorem ggX5_digest_X5_missNow : GoodIn wsX5_digest wsX5_missNow := goodIn_r _ [234, 5, 13, 224, 225, 103, 226, 57, 58, 59, 27, 60, 61, 235, 236, 237, 11, 238, 20, 21, 19, 18, 70, 71, 72, 73, 74, 75, 76, 77, 78, 79, 80, 81, 82, 83, 84, 85, 86, 239, 240, 241, 242, 243, 244, 245, 246, 247, 248, 249, 250, 251, 252, 253, 254, 255, 256, 257, 258, 263, 264, 265] (by decide +kernel) (by decide +kernel)
set_option maxRecDepth 20000 in
theorem gX5_digest_X5_missNow : GoodIn wsX5_digest (wsV RX5 277 RX5 yX5_missNow wsX5_missNow) := goodIn_app (goodIn_of _ (by decide +kernel)) ggX5_digest_X5_missNow
theorem dX5_digest_0 : decode cX5_digest 0 = .ok (.aload_n 0, 1) := by decide +kernel
theorem dX5_digest_1 : decode cX5_digest 1 = .ok (.iconst 0, 1) := by decide +kernel
theorem dX5_digest_2 : decode cX5_digest 2 = .ok (.putfield 50, 3) := by decide +kernel
theorem dX5_digest_5 : decode cX5_digest 5 = .ok (.aload_n 0, 1) := by decide +kernel
theorem dX5_digest_6 : decode cX5_digest 6 = .ok (.ldc2_w 286, 3) := by decide +kernel
theorem dX5_digest_9 : decode cX5_digest 9 = .ok (.putfield 280, 3) := by decide +kernel
theorem dX5_digest_12 : decode cX5_digest 12 = .ok (.iconst 0, 1) := by decide +kernel
theorem dX5_digest_13 : decode cX5_digest 13 = .ok (.istore_n 1, 1) := by decide +kernel
theorem dX5_digest_14 : decode cX5_digest 14 = .ok (.iload_n 1, 1) := by decide +kernel
theorem dX5_digest_15 : decode cX5_digest 15 = .ok (.bipush 15, 2) := by decide +kernel
theorem dX5_digest_17 : decode cX5_digest 17 = .ok (.if_icmp .ge 18, 3) := by decide +kernel
theorem dX5_digest_20 : decode cX5_digest 20 = .ok (.aload_n 0, 1) := by decide +kernel
theorem dX5_digest_21 : decode cX5_digest 21 = .ok (.aload_n 0, 1) := by decide +kernel
theorem dX5_digest_22 : decode cX5_digest 22 = .ok (.iload_n 1, 1) := by decide +kernel
theorem dX5_digest_23 : decode cX5_digest 23 = .ok (.invokevirtual 259, 3) := by decide +kernel
theorem dX5_digest_26 : decode cX5_digest 26 = .ok (.invokevirtual 288, 3) := by decide +kernel
theorem dX5_digest_29 : decode cX5_digest 29 = .ok (.iinc 1 1, 3) := by decide +kernel
theorem dX5_digest_32 : decode cX5_digest 32 = .ok (.goto (-18), 3) := by decide +kernel
theorem dX5_digest_35 : decode cX5_digest 35 = .ok (.iconst 0, 1) := by decide +kernel
theorem dX5_digest_36 : decode cX5_digest 36 = .ok (.istore_n 1, 1) := by decide +kernel
theorem dX5_digest_37 : decode cX5_digest 37 = .ok (.iload_n 1, 1) := by decide +kernel
theorem dX5_digest_38 : decode cX5_digest 38 = .ok (.aload_n 0, 1) := by decide +kernel
theorem dX5_digest_39 : decode cX5_digest 39 = .ok (.getfield 10, 3) := by decide +kernel
theorem dX5_digest_42 : decode cX5_digest 42 = .ok (.invokevirtual 53, 3) := by decide +kernel
theorem dX5_digest_45 : decode cX5_digest 45 = .ok (.if_icmp .ge 32, 3) := by decide +kernel
theorem dX5_digest_48 : decode cX5_digest 48 = .ok (.iconst 0, 1) := by decide +kernel
theorem dX5_digest_49 : decode cX5_digest 49 = .ok (.istore_n 2, 1) := by decide +kernel
theorem dX5_digest_50 : decode cX5_digest 50 = .ok (.iload_n 2, 1) := by decide +kernel
theorem dX5_digest_51 : decode cX5_digest 51 = .ok (.iconst 5, 1) := by decide +kernel
theorem dX5_digest_52 : decode cX5_digest 52 = .ok (.if_icmp .ge 19, 3) := by decide +kernel
theorem dX5_digest_55 : decode cX5_digest 55 = .ok (.aload_n 0, 1) := by decide +kernel
theorem dX5_digest_56 : decode cX5_digest 56 = .ok (.aload_n 0, 1) := by decide +kernel
theorem dX5_digest_57 : decode cX5_digest 57 = .ok (.iload_n 1, 1) := by decide +kernel
theorem dX5_digest_58 : decode cX5_digest 58 = .ok (.iload_n 2, 1) := by decide +kernel
theorem dX5_digest_59 : decode cX5_digest 59 = .ok (.invokevirtual 250, 3) := by decide +kernel
theorem dX5_digest_62 : decode cX5_digest 62 = .ok (.invokevirtual 288, 3) := by decide +kernel
theorem dX5_digest_65 : decode cX5_digest 65 = .ok (.iinc 2 1, 3) := by decide +kernel
theorem dX5_digest_68 : decode cX5_digest 68 = .ok (.goto (-18), 3) := by decide +kernel
theorem dX5_digest_71 : decode cX5_digest 71 = .ok (.iinc 1 1, 3) := by decide +kernel
theorem dX5_digest_74 : decode cX5_digest 74 = .ok (.goto (-37), 3) := by decide +kernel
theorem dX5_digest_77 : decode cX5_digest 77 = .ok (.iconst 0, 1) := by decide +kernel
theorem dX5_digest_78 : decode cX5_digest 78 = .ok (.istore_n 1, 1) := by decide +kernel
theorem dX5_digest_79 : decode cX5_digest 79 = .ok (.iload_n 1, 1) := by decide +kernel
theorem dX5_digest_80 : decode cX5_digest 80 = .ok (.aload_n 0, 1) := by decide +kernel
theorem dX5_digest_81 : decode cX5_digest 81 = .ok (.getfield 16, 3) := by decide +kernel
theorem dX5_digest_84 : decode cX5_digest 84 = .ok (.invokevirtual 53, 3) := by decide +kernel
theorem dX5_digest_87 : decode cX5_digest 87 = .ok (.if_icmp .ge 42, 3) := by decide +kernel
theorem dX5_digest_90 : decode cX5_digest 90 = .ok (.iconst 0, 1) := by decide +kernel
theorem dX5_digest_91 : decode cX5_digest 91 = .ok (.istore_n 2, 1) := by decide +kernel
theorem dX5_digest_92 : decode cX5_digest 92 = .ok (.iload_n 2, 1) := by decide +kernel
theorem dX5_digest_93 : decode cX5_digest 93 = .ok (.bipush 11, 2) := by decide +kernel
theorem dX5_digest_95 : decode cX5_digest 95 = .ok (.if_icmp .ge 19, 3) := by decide +kernel
theorem dX5_digest_98 : decode cX5_digest 98 = .ok (.aload_n 0, 1) := by decide +kernel
theorem dX5_digest_99 : decode cX5_digest 99 = .ok (.aload_n 0, 1) := by decide +kernel
theorem dX5_digest_100 : decode cX5_digest 100 = .ok (.iload_n 1, 1) := by decide +kernel
theorem dX5_digest_101 : decode cX5_digest 101 = .ok (.iload_n 2, 1) := by decide +kernel
theorem dX5_digest_102 : decode cX5_digest 102 = .ok (.invokevirtual 253, 3) := by decide +kernel
theorem dX5_digest_105 : decode cX5_digest 105 = .ok (.invokevirtual 288, 3) := by decide +kernel
theorem dX5_digest_108 : decode cX5_digest 108 = .ok (.iinc 2 1, 3) := by decide +kernel
theorem dX5_digest_111 : decode cX5_digest 111 = .ok (.goto (-19), 3) := by decide +kernel
theorem dX5_digest_114 : decode cX5_digest 114 = .ok (.aload_n 0, 1) := by decide +kernel
theorem dX5_digest_115 : decode cX5_digest 115 = .ok (.aload_n 0, 1) := by decide +kernel
theorem dX5_digest_116 : decode cX5_digest 116 = .ok (.iload_n 1, 1) := by decide +kernel
theorem dX5_digest_117 : decode cX5_digest 117 = .ok (.invokevirtual 271, 3) := by decide +kernel
theorem dX5_digest_120 : decode cX5_digest 120 = .ok (.invokevirtual 288, 3) := by decide +kernel
theorem dX5_digest_123 : decode cX5_digest 123 = .ok (.iinc 1 1, 3) := by decide +kernel
theorem dX5_digest_126 : decode cX5_digest 126 = .ok (.goto (-47), 3) := by decide +kernel
theorem dX5_digest_129 : decode cX5_digest 129 = .ok (.iconst 0, 1) := by decide +kernel
theorem dX5_digest_130 : decode cX5_digest 130 = .ok (.istore_n 1, 1) := by decide +kernel
theorem dX5_digest_131 : decode cX5_digest 131 = .ok (.iload_n 1, 1) := by decide +kernel
theorem dX5_digest_132 : decode cX5_digest 132 = .ok (.aload_n 0, 1) := by decide +kernel
theorem dX5_digest_133 : decode cX5_digest 133 = .ok (.getfield 19, 3) := by decide +kernel
theorem dX5_digest_136 : decode cX5_digest 136 = .ok (.invokevirtual 53, 3) := by decide +kernel
theorem dX5_digest_139 : decode cX5_digest 139 = .ok (.if_icmp .ge 64, 3) := by decide +kernel
theorem dX5_digest_142 : decode cX5_digest 142 = .ok (.iconst 0, 1) := by decide +kernel
theorem dX5_digest_143 : decode cX5_digest 143 = .ok (.istore_n 2, 1) := by decide +kernel
theorem dX5_digest_144 : decode cX5_digest 144 = .ok (.iload_n 2, 1) := by decide +kernel
theorem dX5_digest_145 : decode cX5_digest 145 = .ok (.bipush 8, 2) := by decide +kernel
theorem dX5_digest_147 : decode cX5_digest 147 = .ok (.if_icmp .ge 19, 3) := by decide +kernel
theorem dX5_digest_150 : decode cX5_digest 150 = .ok (.aload_n 0, 1) := by decide +kernel
theorem dX5_digest_151 : decode cX5_digest 151 = .ok (.aload_n 0, 1) := by decide +kernel
theorem dX5_digest_152 : decode cX5_digest 152 = .ok (.iload_n 1, 1) := by decide +kernel
theorem dX5_digest_153 : decode cX5_digest 153 = .ok (.iload_n 2, 1) := by decide +kernel
theorem dX5_digest_154 : decode cX5_digest 154 = .ok (.invokevirtual 256, 3) := by decide +kernel
theorem dX5_digest_157 : decode cX5_digest 157 = .ok (.invokevirtual 288, 3) := by decide +kernel
theorem dX5_digest_160 : decode cX5_digest 160 = .ok (.iinc 2 1, 3) := by decide +kernel
theorem dX5_digest_163 : decode cX5_digest 163 = .ok (.goto (-19), 3) := by decide +kernel
theorem dX5_digest_166 : decode cX5_digest 166 = .ok (.iconst 0, 1) := by decide +kernel
theorem dX5_digest_167 : decode cX5_digest 167 = .ok (.istore_n 2, 1) := by decide +kernel
theorem dX5_digest_168 : decode cX5_digest 168 = .ok (.iload_n 2, 1) := by decide +kernel
theorem dX5_digest_169 : decode cX5_digest 169 = .ok (.aload_n 0, 1) := by decide +kernel
theorem dX5_digest_170 : decode cX5_digest 170 = .ok (.getfield 16, 3) := by decide +kernel
theorem dX5_digest_173 : decode cX5_digest 173 = .ok (.invokevirtual 53, 3) := by decide +kernel
theorem dX5_digest_176 : decode cX5_digest 176 = .ok (.if_icmp .ge 21, 3) := by decide +kernel
theorem dX5_digest_179 : decode cX5_digest 179 = .ok (.aload_n 0, 1) := by decide +kernel
theorem dX5_digest_180 : decode cX5_digest 180 = .ok (.aload_n 0, 1) := by decide +kernel
theorem dX5_digest_181 : decode cX5_digest 181 = .ok (.getfield 34, 3) := by decide +kernel
theorem dX5_digest_184 : decode cX5_digest 184 = .ok (.iload_n 1, 1) := by decide +kernel
theorem dX5_digest_185 : decode cX5_digest 185 = .ok (.aaload, 1) := by decide +kernel
theorem dX5_digest_186 : decode cX5_digest 186 = .ok (.iload_n 2, 1) := by decide +kernel
theorem dX5_digest_187 : decode cX5_digest 187 = .ok (.iaload, 1) := by decide +kernel
theorem dX5_digest_188 : decode cX5_digest 188 = .ok (.invokevirtual 288, 3) := by decide +kernel
theorem dX5_digest_191 : decode cX5_digest 191 = .ok (.iinc 2 1, 3) := by decide +kernel
theorem dX5_digest_194 : decode cX5_digest 194 = .ok (.goto (-26), 3) := by decide +kernel
theorem dX5_digest_197 : decode cX5_digest 197 = .ok (.iinc 1 1, 3) := by decide +kernel
theorem dX5_digest_200 : decode cX5_digest 200 = .ok (.goto (-69), 3) := by decide +kernel
theorem dX5_digest_203 : decode cX5_digest 203 = .ok (.aload_n 0, 1) := by decide +kernel
theorem dX5_digest_204 : decode cX5_digest 204 = .ok (.aload_n 0, 1) := by decide +kernel
theorem dX5_digest_205 : decode cX5_digest 205 = .ok (.iconst 0, 1) := by decide +kernel
theorem dX5_digest_206 : decode cX5_digest 206 = .ok (.iconst 0, 1) := by decide +kernel
theorem dX5_digest_207 : decode cX5_digest 207 = .ok (.invokevirtual 262, 3) := by decide +kernel
theorem dX5_digest_210 : decode cX5_digest 210 = .ok (.invokevirtual 288, 3) := by decide +kernel
theorem dX5_digest_213 : decode cX5_digest 213 = .ok (.aload_n 0, 1) := by decide +kernel
theorem dX5_digest_214 : decode cX5_digest 214 = .ok (.aload_n 0, 1) := by decide +kernel
theorem dX5_digest_215 : decode cX5_digest 215 = .ok (.iconst 1, 1) := by decide +kernel
theorem dX5_digest_216 : decode cX5_digest 216 = .ok (.iconst 0, 1) := by decide +kernel
theorem dX5_digest_217 : decode cX5_digest 217 = .ok (.invokevirtual 262, 3) := by decide +kernel
theorem dX5_digest_220 : decode cX5_digest 220 = .ok (.invokevirtual 288, 3) := by decide +kernel
theorem dX5_digest_223 : decode cX5_digest 223 = .ok (.aload_n 0, 1) := by decide +kernel
theorem dX5_digest_224 : decode cX5_digest 224 = .ok (.aload_n 0, 1) := by decide +kernel
theorem dX5_digest_225 : decode cX5_digest 225 = .ok (.invokevirtual 268, 3) := by decide +kernel
theorem dX5_digest_228 : decode cX5_digest 228 = .ok (.invokevirtual 288, 3) := by decide +kernel
theorem dX5_digest_231 : decode cX5_digest 231 = .ok (.aload_n 0, 1) := by decide +kernel
theorem dX5_digest_232 : decode cX5_digest 232 = .ok (.aload_n 0, 1) := by decide +kernel
theorem dX5_digest_233 : decode cX5_digest 233 = .ok (.invokevirtual 274, 3) := by decide +kernel
theorem dX5_digest_236 : decode cX5_digest 236 = .ok (.invokevirtual 288, 3) := by decide +kernel
theorem dX5_digest_239 : decode cX5_digest 239 = .ok (.aload_n 0, 1) := by decide +kernel
theorem dX5_digest_240 : decode cX5_digest 240 = .ok (.aload_n 0, 1) := by decide +kernel
theorem dX5_digest_241 : decode cX5_digest 241 = .ok (.bipush 7, 2) := by decide +kernel
theorem dX5_digest_243 : decode cX5_digest 243 = .ok (.invokevirtual 277, 3) := by decide +kernel
theorem dX5_digest_246 : decode cX5_digest 246 = .ok (.invokevirtual 288, 3) := by decide +kernel
theorem dX5_digest_249 : decode cX5_digest 249 = .ok (.aload_n 0, 1) := by decide +kernel
theorem dX5_digest_250 : decode cX5_digest 250 = .ok (.getfield 280, 3) := by decide +kernel
theorem dX5_digest_253 : decode cX5_digest 253 = .ok (.lreturn, 1) := by decide +kernel
set_option maxRecDepth 20000 in
theorem ggJ6_valueOf_2dffe_J6_init_d00df : GoodIn wsJ6_valueOf_2dffe wsJ6_init_d00df := goodIn_r _ [8, 9, 10, 11, 12, 13, 14, 15, 16, 17] (by decide +kernel) (by decide +kernel)
set_option maxRecDepth 20000 in
theorem gJ6_valueOf_2dffe_J6_init_d00df : GoodIn wsJ6_valueOf_2dffe (wsJ6_init_d00df) := ggJ6_valueOf_2dffe_J6_init_d00df
theorem dJ6_valueOf_2dffe_0 : decode cJ6_valueOf_2dffe 0 = .ok (.iload_n 0, 1) := by decide +kernel
theorem dJ6_valueOf_2dffe_1 : decode cJ6_valueOf_2dffe 1 = .ok (.bipush (-128), 2) := by decide +kernel
theorem dJ6_valueOf_2dffe_3 : decode cJ6_valueOf_2dffe 3 = .ok (.if_icmp .lt 20, 3) := by decide +kernel
theorem dJ6_valueOf_2dffe_6 : decode cJ6_valueOf_2dffe 6 = .ok (.iload_n 0, 1) := by decide +kernel
theorem dJ6_valueOf_2dffe_7 : decode cJ6_valueOf_2dffe 7 = .ok (.getstatic 191, 3) := by decide +kernel
theorem dJ6_valueOf_2dffe_10 : decode cJ6_valueOf_2dffe 10 = .ok (.if_icmp .gt 13, 3) := by decide +kernel
theorem dJ6_valueOf_2dffe_13 : decode cJ6_valueOf_2dffe 13 = .ok (.getstatic 195, 3) := by decide +kernel
theorem dJ6_valueOf_2dffe_16 : decode cJ6_valueOf_2dffe 16 = .ok (.iload_n 0, 1) := by decide +kernel
theorem dJ6_valueOf_2dffe_17 : decode cJ6_valueOf_2dffe 17 = .ok (.sipush 128, 3) := by decide +kernel
theorem dJ6_valueOf_2dffe_20 : decode cJ6_valueOf_2dffe 20 = .ok (.iadd, 1) := by decide +kernel
theorem dJ6_valueOf_2dffe_21 : decode cJ6_valueOf_2dffe 21 = .ok (.aaload, 1) := by decide +kernel
theorem dJ6_valueOf_2dffe_22 : decode cJ6_valueOf_2dffe 22 = .ok (.areturn, 1) := by decide +kernel
theorem dJ6_valueOf_2dffe_23 : decode cJ6_valueOf_2dffe 23 = .ok (.new 1, 3) := by decide +kernel
theorem dJ6_valueOf_2dffe_26 : decode cJ6_valueOf_2dffe 26 = .ok (.dup, 1) := by decide +kernel
theorem dJ6_valueOf_2dffe_27 : decode cJ6_valueOf_2dffe 27 = .ok (.iload_n 0, 1) := by decide +kernel
theorem dJ6_valueOf_2dffe_28 : decode cJ6_valueOf_2dffe 28 = .ok (.invokespecial 199, 3) := by decide +kernel
theorem dJ6_valueOf_2dffe_31 : decode cJ6_valueOf_2dffe 31 = .ok (.areturn, 1) := by decide +kernel
set_option maxRecDepth 20000 in
theorem ggJ6_init_d00df_Jxd2413_init_da8c8 : GoodIn wsJ6_init_d00df wsJxd2413_init_da8c8 := goodIn_r _ [5, 6, 7, 8] (by decide +kernel) (by decide +kernel)
set_option maxRecDepth 20000 in
theorem gJ6_init_d00df_Jxd2413_init_da8c8 : GoodIn wsJ6_init_d00df (wsJxd2413_init_da8c8) := ggJ6_init_d00df_Jxd2413_init_da8c8
theorem dJ6_init_d00df_0 : decode cJ6_init_d00df 0 = .ok (.aload_n 0, 1) := by decide +kernel
theorem dJ6_init_d00df_1 : decode cJ6_init_d00df 1 = .ok (.invokespecial 202, 3) := by decide +kernel
theorem dJ6_init_d00df_4 : decode cJ6_init_d00df 4 = .ok (.aload_n 0, 1) := by decide +kernel
theorem dJ6_init_d00df_5 : decode cJ6_init_d00df 5 = .ok (.iload_n 1, 1) := by decide +kernel
theorem dJ6_init_d00df_6 : decode cJ6_init_d00df 6 = .ok (.putfield 205, 3) := by decide +kernel
theorem dJ6_init_d00df_9 : decode cJ6_init_d00df 9 = .ok (.return_, 1) := by decide +kernel
theorem dJ6_intValue_8abf5_0 : decode cJ6_intValue_8abf5 0 = .ok (.aload_n 0, 1) := by decide +kernel
theorem dJ6_intValue_8abf5_1 : decode cJ6_intValue_8abf5 1 = .ok (.getfield 205, 3) := by decide +kernel
theorem dJ6_intValue_8abf5_4 : decode cJ6_intValue_8abf5 4 = .ok (.ireturn, 1) := by decide +kernel
theorem dJ6_compare_7cf53_0 : decode cJ6_compare_7cf53 0 = .ok (.iload_n 0, 1) := by decide +kernel
theorem dJ6_compare_7cf53_1 : decode cJ6_compare_7cf53 1 = .ok (.iload_n 1, 1) := by decide +kernel
theorem dJ6_compare_7cf53_2 : decode cJ6_compare_7cf53 2 = .ok (.if_icmp .ge 7, 3) := by decide +kernel
theorem dJ6_compare_7cf53_5 : decode cJ6_compare_7cf53 5 = .ok (.iconst (-1), 1) := by decide +kernel
theorem dJ6_compare_7cf53_6 : decode cJ6_compare_7cf53 6 = .ok (.goto 13, 3) := by decide +kernel
theorem dJ6_compare_7cf53_9 : decode cJ6_compare_7cf53 9 = .ok (.iload_n 0, 1) := by decide +kernel
theorem dJ6_compare_7cf53_10 : decode cJ6_compare_7cf53 10 = .ok (.iload_n 1, 1) := by decide +kernel
theorem dJ6_compare_7cf53_11 : decode cJ6_compare_7cf53 11 = .ok (.if_icmp .ne 7, 3) := by decide +kernel
theorem dJ6_compare_7cf53_14 : decode cJ6_compare_7cf53 14 = .ok (.iconst 0, 1) := by decide +kernel
theorem dJ6_compare_7cf53_15 : decode cJ6_compare_7cf53 15 = .ok (.goto 4, 3) := by decide +kernel
theorem dJ6_compare_7cf53_18 : decode cJ6_compare_7cf53 18 = .ok (.iconst 1, 1) := by decide +kernel
theorem dJ6_compare_7cf53_19 : decode cJ6_compare_7cf53 19 = .ok (.ireturn, 1) := by decide +kernel
theorem dJ6_numberOfTrailingZeros_0f7a4_0 : decode cJ6_numberOfTrailingZeros_0f7a4 0 = .ok (.iload_n 0, 1) := by decide +kernel
theorem dJ6_numberOfTrailingZeros_0f7a4_1 : decode cJ6_numberOfTrailingZeros_0f7a4 1 = .ok (.iconst (-1), 1) := by decide +kernel
theorem dJ6_numberOfTrailingZeros_0f7a4_2 : decode cJ6_numberOfTrailingZeros_0f7a4 2 = .ok (.ixor, 1) := by decide +kernel
theorem dJ6_numberOfTrailingZeros_0f7a4_3 : decode cJ6_numberOfTrailingZeros_0f7a4 3 = .ok (.iload_n 0, 1) := by decide +kernel
theorem dJ6_numberOfTrailingZeros_0f7a4_4 : decode cJ6_numberOfTrailingZeros_0f7a4 4 = .ok (.iconst 1, 1) := by decide +kernel
theorem dJ6_numberOfTrailingZeros_0f7a4_5 : decode cJ6_numberOfTrailingZeros_0f7a4 5 = .ok (.isub, 1) := by decide +kernel
theorem dJ6_numberOfTrailingZeros_0f7a4_6 : decode cJ6_numberOfTrailingZeros_0f7a4 6 = .ok (.iand, 1) := by decide +kernel
theorem dJ6_numberOfTrailingZeros_0f7a4_7 : decode cJ6_numberOfTrailingZeros_0f7a4 7 = .ok (.istore_n 0, 1) := by decide +kernel
theorem dJ6_numberOfTrailingZeros_0f7a4_8 : decode cJ6_numberOfTrailingZeros_0f7a4 8 = .ok (.iload_n 0, 1) := by decide +kernel
theorem dJ6_numberOfTrailingZeros_0f7a4_9 : decode cJ6_numberOfTrailingZeros_0f7a4 9 = .ok (.ifCond .gt 8, 3) := by decide +kernel
theorem dJ6_numberOfTrailingZeros_0f7a4_12 : decode cJ6_numberOfTrailingZeros_0f7a4 12 = .ok (.iload_n 0, 1) := by decide +kernel
theorem dJ6_numberOfTrailingZeros_0f7a4_13 : decode cJ6_numberOfTrailingZeros_0f7a4 13 = .ok (.bipush 32, 2) := by decide +kernel
theorem dJ6_numberOfTrailingZeros_0f7a4_15 : decode cJ6_numberOfTrailingZeros_0f7a4 15 = .ok (.iand, 1) := by decide +kernel
theorem dJ6_numberOfTrailingZeros_0f7a4_16 : decode cJ6_numberOfTrailingZeros_0f7a4 16 = .ok (.ireturn, 1) := by decide +kernel
theorem dJ6_numberOfTrailingZeros_0f7a4_17 : decode cJ6_numberOfTrailingZeros_0f7a4 17 = .ok (.iconst 1, 1) := by decide +kernel
theorem dJ6_numberOfTrailingZeros_0f7a4_18 : decode cJ6_numberOfTrailingZeros_0f7a4 18 = .ok (.istore_n 1, 1) := by decide +kernel
theorem dJ6_numberOfTrailingZeros_0f7a4_19 : decode cJ6_numberOfTrailingZeros_0f7a4 19 = .ok (.iload_n 0, 1) := by decide +kernel
theorem dJ6_numberOfTrailingZeros_0f7a4_20 : decode cJ6_numberOfTrailingZeros_0f7a4 20 = .ok (.ldc_w 264, 3) := by decide +kernel
theorem dJ6_numberOfTrailingZeros_0f7a4_23 : decode cJ6_numberOfTrailingZeros_0f7a4 23 = .ok (.if_icmp .le 11, 3) := by decide +kernel
theorem dJ6_numberOfTrailingZeros_0f7a4_26 : decode cJ6_numberOfTrailingZeros_0f7a4 26 = .ok (.iinc 1 16, 3) := by decide +kernel
theorem dJ6_numberOfTrailingZeros_0f7a4_29 : decode cJ6_numberOfTrailingZeros_0f7a4 29 = .ok (.iload_n 0, 1) := by decide +kernel
theorem dJ6_numberOfTrailingZeros_0f7a4_30 : decode cJ6_numberOfTrailingZeros_0f7a4 30 = .ok (.bipush 16, 2) := by decide +kernel
theorem dJ6_numberOfTrailingZeros_0f7a4_32 : decode cJ6_numberOfTrailingZeros_0f7a4 32 = .ok (.iushr, 1) := by decide +kernel
theorem dJ6_numberOfTrailingZeros_0f7a4_33 : decode cJ6_numberOfTrailingZeros_0f7a4 33 = .ok (.istore_n 0, 1) := by decide +kernel
theorem dJ6_numberOfTrailingZeros_0f7a4_34 : decode cJ6_numberOfTrailingZeros_0f7a4 34 = .ok (.iload_n 0, 1) := by decide +kernel
theorem dJ6_numberOfTrailingZeros_0f7a4_35 : decode cJ6_numberOfTrailingZeros_0f7a4 35 = .ok (.sipush 256, 3) := by decide +kernel
theorem dJ6_numberOfTrailingZeros_0f7a4_38 : decode cJ6_numberOfTrailingZeros_0f7a4 38 = .ok (.if_icmp .le 11, 3) := by decide +kernel
theorem dJ6_numberOfTrailingZeros_0f7a4_41 : decode cJ6_numberOfTrailingZeros_0f7a4 41 = .ok (.iinc 1 8, 3) := by decide +kernel
theorem dJ6_numberOfTrailingZeros_0f7a4_44 : decode cJ6_numberOfTrailingZeros_0f7a4 44 = .ok (.iload_n 0, 1) := by decide +kernel
theorem dJ6_numberOfTrailingZeros_0f7a4_45 : decode cJ6_numberOfTrailingZeros_0f7a4 45 = .ok (.bipush 8, 2) := by decide +kernel
theorem dJ6_numberOfTrailingZeros_0f7a4_47 : decode cJ6_numberOfTrailingZeros_0f7a4 47 = .ok (.iushr, 1) := by decide +kernel
theorem dJ6_numberOfTrailingZeros_0f7a4_48 : decode cJ6_numberOfTrailingZeros_0f7a4 48 = .ok (.istore_n 0, 1) := by decide +kernel
theorem dJ6_numberOfTrailingZeros_0f7a4_49 : decode cJ6_numberOfTrailingZeros_0f7a4 49 = .ok (.iload_n 0, 1) := by decide +kernel
theorem dJ6_numberOfTrailingZeros_0f7a4_50 : decode cJ6_numberOfTrailingZeros_0f7a4 50 = .ok (.bipush 16, 2) := by decide +kernel
theorem dJ6_numberOfTrailingZeros_0f7a4_52 : decode cJ6_numberOfTrailingZeros_0f7a4 52 = .ok (.if_icmp .le 10, 3) := by decide +kernel
theorem dJ6_numberOfTrailingZeros_0f7a4_55 : decode cJ6_numberOfTrailingZeros_0f7a4 55 = .ok (.iinc 1 4, 3) := by decide +kernel
theorem dJ6_numberOfTrailingZeros_0f7a4_58 : decode cJ6_numberOfTrailingZeros_0f7a4 58 = .ok (.iload_n 0, 1) := by decide +kernel
theorem dJ6_numberOfTrailingZeros_0f7a4_59 : decode cJ6_numberOfTrailingZeros_0f7a4 59 = .ok (.iconst 4, 1) := by decide +kernel
theorem dJ6_numberOfTrailingZeros_0f7a4_60 : decode cJ6_numberOfTrailingZeros_0f7a4 60 = .ok (.iushr, 1) := by decide +kernel
theorem dJ6_numberOfTrailingZeros_0f7a4_61 : decode cJ6_numberOfTrailingZeros_0f7a4 61 = .ok (.istore_n 0, 1) := by decide +kernel
theorem dJ6_numberOfTrailingZeros_0f7a4_62 : decode cJ6_numberOfTrailingZeros_0f7a4 62 = .ok (.iload_n 0, 1) := by decide +kernel
theorem dJ6_numberOfTrailingZeros_0f7a4_63 : decode cJ6_numberOfTrailingZeros_0f7a4 63 = .ok (.iconst 4, 1) := by decide +kernel
theorem dJ6_numberOfTrailingZeros_0f7a4_64 : decode cJ6_numberOfTrailingZeros_0f7a4 64 = .ok (.if_icmp .le 10, 3) := by decide +kernel
theorem dJ6_numberOfTrailingZeros_0f7a4_67 : decode cJ6_numberOfTrailingZeros_0f7a4 67 = .ok (.iinc 1 2, 3) := by decide +kernel
theorem dJ6_numberOfTrailingZeros_0f7a4_70 : decode cJ6_numberOfTrailingZeros_0f7a4 70 = .ok (.iload_n 0, 1) := by decide +kernel
theorem dJ6_numberOfTrailingZeros_0f7a4_71 : decode cJ6_numberOfTrailingZeros_0f7a4 71 = .ok (.iconst 2, 1) := by decide +kernel
theorem dJ6_numberOfTrailingZeros_0f7a4_72 : decode cJ6_numberOfTrailingZeros_0f7a4 72 = .ok (.iushr, 1) := by decide +kernel
theorem dJ6_numberOfTrailingZeros_0f7a4_73 : decode cJ6_numberOfTrailingZeros_0f7a4 73 = .ok (.istore_n 0, 1) := by decide +kernel
theorem dJ6_numberOfTrailingZeros_0f7a4_74 : decode cJ6_numberOfTrailingZeros_0f7a4 74 = .ok (.iload_n 1, 1) := by decide +kernel
theorem dJ6_numberOfTrailingZeros_0f7a4_75 : decode cJ6_numberOfTrailingZeros_0f7a4 75 = .ok (.iload_n 0, 1) := by decide +kernel
theorem dJ6_numberOfTrailingZeros_0f7a4_76 : decode cJ6_numberOfTrailingZeros_0f7a4 76 = .ok (.iconst 1, 1) := by decide +kernel
theorem dJ6_numberOfTrailingZeros_0f7a4_77 : decode cJ6_numberOfTrailingZeros_0f7a4 77 = .ok (.iushr, 1) := by decide +kernel
theorem dJ6_numberOfTrailingZeros_0f7a4_78 : decode cJ6_numberOfTrailingZeros_0f7a4 78 = .ok (.iadd, 1) := by decide +kernel
theorem dJ6_numberOfTrailingZeros_0f7a4_79 : decode cJ6_numberOfTrailingZeros_0f7a4 79 = .ok (.ireturn, 1) := by decide +kernel
theorem dJ6_bitCount_0f7a4_0 : decode cJ6_bitCount_0f7a4 0 = .ok (.iload_n 0, 1) := by decide +kernel
theorem dJ6_bitCount_0f7a4_1 : decode cJ6_bitCount_0f7a4 1 = .ok (.iload_n 0, 1) := by decide +kernel
theorem dJ6_bitCount_0f7a4_2 : decode cJ6_bitCount_0f7a4 2 = .ok (.iconst 1, 1) := by decide +kernel
theorem dJ6_bitCount_0f7a4_3 : decode cJ6_bitCount_0f7a4 3 = .ok (.iushr, 1) := by decide +kernel
theorem dJ6_bitCount_0f7a4_4 : decode cJ6_bitCount_0f7a4 4 = .ok (.ldc_w 265, 3) := by decide +kernel
theorem dJ6_bitCount_0f7a4_7 : decode cJ6_bitCount_0f7a4 7 = .ok (.iand, 1) := by decide +kernel
theorem dJ6_bitCount_0f7a4_8 : decode cJ6_bitCount_0f7a4 8 = .ok (.isub, 1) := by decide +kernel
theorem dJ6_bitCount_0f7a4_9 : decode cJ6_bitCount_0f7a4 9 = .ok (.istore_n 0, 1) := by decide +kernel
theorem dJ6_bitCount_0f7a4_10 : decode cJ6_bitCount_0f7a4 10 = .ok (.iload_n 0, 1) := by decide +kernel
theorem dJ6_bitCount_0f7a4_11 : decode cJ6_bitCount_0f7a4 11 = .ok (.ldc_w 266, 3) := by decide +kernel
theorem dJ6_bitCount_0f7a4_14 : decode cJ6_bitCount_0f7a4 14 = .ok (.iand, 1) := by decide +kernel
theorem dJ6_bitCount_0f7a4_15 : decode cJ6_bitCount_0f7a4 15 = .ok (.iload_n 0, 1) := by decide +kernel
theorem dJ6_bitCount_0f7a4_16 : decode cJ6_bitCount_0f7a4 16 = .ok (.iconst 2, 1) := by decide +kernel
theorem dJ6_bitCount_0f7a4_17 : decode cJ6_bitCount_0f7a4 17 = .ok (.iushr, 1) := by decide +kernel
theorem dJ6_bitCount_0f7a4_18 : decode cJ6_bitCount_0f7a4 18 = .ok (.ldc_w 266, 3) := by decide +kernel
theorem dJ6_bitCount_0f7a4_21 : decode cJ6_bitCount_0f7a4 21 = .ok (.iand, 1) := by decide +kernel
theorem dJ6_bitCount_0f7a4_22 : decode cJ6_bitCount_0f7a4 22 = .ok (.iadd, 1) := by decide +kernel
theorem dJ6_bitCount_0f7a4_23 : decode cJ6_bitCount_0f7a4 23 = .ok (.istore_n 0, 1) := by decide +kernel
theorem dJ6_bitCount_0f7a4_24 : decode cJ6_bitCount_0f7a4 24 = .ok (.iload_n 0, 1) := by decide +kernel
theorem dJ6_bitCount_0f7a4_25 : decode cJ6_bitCount_0f7a4 25 = .ok (.iload_n 0, 1) := by decide +kernel
theorem dJ6_bitCount_0f7a4_26 : decode cJ6_bitCount_0f7a4 26 = .ok (.iconst 4, 1) := by decide +kernel
theorem dJ6_bitCount_0f7a4_27 : decode cJ6_bitCount_0f7a4 27 = .ok (.iushr, 1) := by decide +kernel
theorem dJ6_bitCount_0f7a4_28 : decode cJ6_bitCount_0f7a4 28 = .ok (.iadd, 1) := by decide +kernel
theorem dJ6_bitCount_0f7a4_29 : decode cJ6_bitCount_0f7a4 29 = .ok (.ldc_w 267, 3) := by decide +kernel
theorem dJ6_bitCount_0f7a4_32 : decode cJ6_bitCount_0f7a4 32 = .ok (.iand, 1) := by decide +kernel
theorem dJ6_bitCount_0f7a4_33 : decode cJ6_bitCount_0f7a4 33 = .ok (.istore_n 0, 1) := by decide +kernel
theorem dJ6_bitCount_0f7a4_34 : decode cJ6_bitCount_0f7a4 34 = .ok (.iload_n 0, 1) := by decide +kernel
theorem dJ6_bitCount_0f7a4_35 : decode cJ6_bitCount_0f7a4 35 = .ok (.iload_n 0, 1) := by decide +kernel
theorem dJ6_bitCount_0f7a4_36 : decode cJ6_bitCount_0f7a4 36 = .ok (.bipush 8, 2) := by decide +kernel
theorem dJ6_bitCount_0f7a4_38 : decode cJ6_bitCount_0f7a4 38 = .ok (.iushr, 1) := by decide +kernel
theorem dJ6_bitCount_0f7a4_39 : decode cJ6_bitCount_0f7a4 39 = .ok (.iadd, 1) := by decide +kernel
theorem dJ6_bitCount_0f7a4_40 : decode cJ6_bitCount_0f7a4 40 = .ok (.istore_n 0, 1) := by decide +kernel
theorem dJ6_bitCount_0f7a4_41 : decode cJ6_bitCount_0f7a4 41 = .ok (.iload_n 0, 1) := by decide +kernel
theorem dJ6_bitCount_0f7a4_42 : decode cJ6_bitCount_0f7a4 42 = .ok (.iload_n 0, 1) := by decide +kernel
theorem dJ6_bitCount_0f7a4_43 : decode cJ6_bitCount_0f7a4 43 = .ok (.bipush 16, 2) := by decide +kernel
theorem dJ6_bitCount_0f7a4_45 : decode cJ6_bitCount_0f7a4 45 = .ok (.iushr, 1) := by decide +kernel
theorem dJ6_bitCount_0f7a4_46 : decode cJ6_bitCount_0f7a4 46 = .ok (.iadd, 1) := by decide +kernel
theorem dJ6_bitCount_0f7a4_47 : decode cJ6_bitCount_0f7a4 47 = .ok (.istore_n 0, 1) := by decide +kernel
theorem dJ6_bitCount_0f7a4_48 : decode cJ6_bitCount_0f7a4 48 = .ok (.iload_n 0, 1) := by decide +kernel
theorem dJ6_bitCount_0f7a4_49 : decode cJ6_bitCount_0f7a4 49 = .ok (.bipush 63, 2) := by decide +kernel
theorem dJ6_bitCount_0f7a4_51 : decode cJ6_bitCount_0f7a4 51 = .ok (.iand, 1) := by decide +kernel
theorem dJ6_bitCount_0f7a4_52 : decode cJ6_bitCount_0f7a4 52 = .ok (.ireturn, 1) := by decide +kernel
theorem dJ6_signum_0f7a4_0 : decode cJ6_signum_0f7a4 0 = .ok (.iload_n 0, 1) := by decide +kernel
theorem dJ6_signum_0f7a4_1 : decode cJ6_signum_0f7a4 1 = .ok (.bipush 31, 2) := by decide +kernel
theorem dJ6_signum_0f7a4_3 : decode cJ6_signum_0f7a4 3 = .ok (.ishr, 1) := by decide +kernel
theorem dJ6_signum_0f7a4_4 : decode cJ6_signum_0f7a4 4 = .ok (.iload_n 0, 1) := by decide +kernel
theorem dJ6_signum_0f7a4_5 : decode cJ6_signum_0f7a4 5 = .ok (.ineg, 1) := by decide +kernel
theorem dJ6_signum_0f7a4_6 : decode cJ6_signum_0f7a4 6 = .ok (.bipush 31, 2) := by decide +kernel
theorem dJ6_signum_0f7a4_8 : decode cJ6_signum_0f7a4 8 = .ok (.iushr, 1) := by decide +kernel
theorem dJ6_signum_0f7a4_9 : decode cJ6_signum_0f7a4 9 = .ok (.ior, 1) := by decide +kernel
theorem dJ6_signum_0f7a4_10 : decode cJ6_signum_0f7a4 10 = .ok (.ireturn, 1) := by decide +kernel
theorem dJ9_floorDiv_7cf53_0 : decode cJ9_floorDiv_7cf53 0 = .ok (.iload_n 0, 1) := by decide +kernel
theorem dJ9_floorDiv_7cf53_1 : decode cJ9_floorDiv_7cf53 1 = .ok (.iload_n 1, 1) := by decide +kernel
theorem dJ9_floorDiv_7cf53_2 : decode cJ9_floorDiv_7cf53 2 = .ok (.idiv, 1) := by decide +kernel
theorem dJ9_floorDiv_7cf53_3 : decode cJ9_floorDiv_7cf53 3 = .ok (.istore_n 2, 1) := by decide +kernel
theorem dJ9_floorDiv_7cf53_4 : decode cJ9_floorDiv_7cf53 4 = .ok (.iload_n 0, 1) := by decide +kernel
theorem dJ9_floorDiv_7cf53_5 : decode cJ9_floorDiv_7cf53 5 = .ok (.iload_n 1, 1) := by decide +kernel
theorem dJ9_floorDiv_7cf53_6 : decode cJ9_floorDiv_7cf53 6 = .ok (.ixor, 1) := by decide +kernel
theorem dJ9_floorDiv_7cf53_7 : decode cJ9_floorDiv_7cf53 7 = .ok (.ifCond .ge 14, 3) := by decide +kernel
theorem dJ9_floorDiv_7cf53_10 : decode cJ9_floorDiv_7cf53 10 = .ok (.iload_n 2, 1) := by decide +kernel
theorem dJ9_floorDiv_7cf53_11 : decode cJ9_floorDiv_7cf53 11 = .ok (.iload_n 1, 1) := by decide +kernel
theorem dJ9_floorDiv_7cf53_12 : decode cJ9_floorDiv_7cf53 12 = .ok (.imul, 1) := by decide +kernel
theorem dJ9_floorDiv_7cf53_13 : decode cJ9_floorDiv_7cf53 13 = .ok (.iload_n 0, 1) := by decide +kernel
theorem dJ9_floorDiv_7cf53_14 : decode cJ9_floorDiv_7cf53 14 = .ok (.if_icmp .eq 7, 3) := by decide +kernel
theorem dJ9_floorDiv_7cf53_17 : decode cJ9_floorDiv_7cf53 17 = .ok (.iload_n 2, 1) := by decide +kernel
theorem dJ9_floorDiv_7cf53_18 : decode cJ9_floorDiv_7cf53 18 = .ok (.iconst 1, 1) := by decide +kernel
theorem dJ9_floorDiv_7cf53_19 : decode cJ9_floorDiv_7cf53 19 = .ok (.isub, 1) := by decide +kernel
theorem dJ9_floorDiv_7cf53_20 : decode cJ9_floorDiv_7cf53 20 = .ok (.ireturn, 1) := by decide +kernel
theorem dJ9_floorDiv_7cf53_21 : decode cJ9_floorDiv_7cf53 21 = .ok (.iload_n 2, 1) := by decide +kernel
theorem dJ9_floorDiv_7cf53_22 : decode cJ9_floorDiv_7cf53 22 = .ok (.ireturn, 1) := by decide +kernel
theorem dJ9_abs_0f7a4_0 : decode cJ9_abs_0f7a4 0 = .ok (.iload_n 0, 1) := by decide +kernel
theorem dJ9_abs_0f7a4_1 : decode cJ9_abs_0f7a4 1 = .ok (.ifCond .ge 8, 3) := by decide +kernel
theorem dJ9_abs_0f7a4_4 : decode cJ9_abs_0f7a4 4 = .ok (.iload_n 0, 1) := by decide +kernel
theorem dJ9_abs_0f7a4_5 : decode cJ9_abs_0f7a4 5 = .ok (.ineg, 1) := by decide +kernel
theorem dJ9_abs_0f7a4_6 : decode cJ9_abs_0f7a4 6 = .ok (.goto 4, 3) := by decide +kernel
theorem dJ9_abs_0f7a4_9 : decode cJ9_abs_0f7a4 9 = .ok (.iload_n 0, 1) := by decide +kernel
theorem dJ9_abs_0f7a4_10 : decode cJ9_abs_0f7a4 10 = .ok (.ireturn, 1) := by decide +kernel
theorem dJ9_max_7cf53_0 : decode cJ9_max_7cf53 0 = .ok (.iload_n 0, 1) := by decide +kernel
theorem dJ9_max_7cf53_1 : decode cJ9_max_7cf53 1 = .ok (.iload_n 1, 1) := by decide +kernel
theorem dJ9_max_7cf53_2 : decode cJ9_max_7cf53 2 = .ok (.if_icmp .lt 7, 3) := by decide +kernel
theorem dJ9_max_7cf53_5 : decode cJ9_max_7cf53 5 = .ok (.iload_n 0, 1) := by decide +kernel
theorem dJ9_max_7cf53_6 : decode cJ9_max_7cf53 6 = .ok (.goto 4, 3) := by decide +kernel
theorem dJ9_max_7cf53_9 : decode cJ9_max_7cf53 9 = .ok (.iload_n 1, 1) := by decide +kernel
theorem dJ9_max_7cf53_10 : decode cJ9_max_7cf53 10 = .ok (.ireturn, 1) := by decide +kernel
theorem dJ9_min_7cf53_0 : decode cJ9_min_7cf53 0 = .ok (.iload_n 0, 1) := by decide +kernel
theorem dJ9_min_7cf53_1 : decode cJ9_min_7cf53 1 = .ok (.iload_n 1, 1) := by decide +kernel
theorem dJ9_min_7cf53_2 : decode cJ9_min_7cf53 2 = .ok (.if_icmp .gt 7, 3) := by decide +kernel
theorem dJ9_min_7cf53_5 : decode cJ9_min_7cf53 5 = .ok (.iload_n 0, 1) := by decide +kernel
theorem dJ9_min_7cf53_6 : decode cJ9_min_7cf53 6 = .ok (.goto 4, 3) := by decide +kernel
theorem dJ9_min_7cf53_9 : decode cJ9_min_7cf53 9 = .ok (.iload_n 1, 1) := by decide +kernel
theorem dJ9_min_7cf53_10 : decode cJ9_min_7cf53 10 = .ok (.ireturn, 1) := by decide +kernel
theorem dJxd2413_init_da8c8_0 : decode cJxd2413_init_da8c8 0 = .ok (.aload_n 0, 1) := by decide +kernel
theorem dJxd2413_init_da8c8_1 : decode cJxd2413_init_da8c8 1 = .ok (.invokespecial 1, 3) := by decide +kernel
theorem dJxd2413_init_da8c8_4 : decode cJxd2413_init_da8c8 4 = .ok (.return_, 1) := by decide +kernel
theorem dJxa1e45_init_da8c8_0 : decode cJxa1e45_init_da8c8 0 = .ok (.aload_n 0, 1) := by decide +kernel
theorem dJxa1e45_init_da8c8_1 : decode cJxa1e45_init_da8c8 1 = .ok (.invokespecial 1, 3) := by decide +kernel
theorem dJxa1e45_init_da8c8_4 : decode cJxa1e45_init_da8c8 4 = .ok (.return_, 1) := by decide +kernel
set_option maxRecDepth 20000 in
theorem ggJxc12de_init_da8c8_Jxa1e45_init_da8c8 : GoodIn wsJxc12de_init_da8c8 wsJxa1e45_init_da8c8 := goodIn_r _ [5, 6, 7, 8] (by decide +kernel) (by decide +kernel)
set_option maxRecDepth 20000 in
theorem gJxc12de_init_da8c8_Jxa1e45_init_da8c8 : GoodIn wsJxc12de_init_da8c8 (wsJxa1e45_init_da8c8) := ggJxc12de_init_da8c8_Jxa1e45_init_da8c8
theorem dJxc12de_init_da8c8_0 : decode cJxc12de_init_da8c8 0 = .ok (.aload_n 0, 1) := by decide +kernel
theorem dJxc12de_init_da8c8_1 : decode cJxc12de_init_da8c8 1 = .ok (.invokespecial 1, 3) := by decide +kernel
theorem dJxc12de_init_da8c8_4 : decode cJxc12de_init_da8c8 4 = .ok (.aload_n 0, 1) := by decide +kernel
theorem dJxc12de_init_da8c8_5 : decode cJxc12de_init_da8c8 5 = .ok (.iconst 0, 1) := by decide +kernel
theorem dJxc12de_init_da8c8_6 : decode cJxc12de_init_da8c8 6 = .ok (.putfield 7, 3) := by decide +kernel
theorem dJxc12de_init_da8c8_9 : decode cJxc12de_init_da8c8 9 = .ok (.return_, 1) := by decide +kernel
theorem dJx35411_init_45d68_0 : decode cJx35411_init_45d68 0 = .ok (.aload_n 0, 1) := by decide +kernel
theorem dJx35411_init_45d68_1 : decode cJx35411_init_45d68 1 = .ok (.aload_n 1, 1) := by decide +kernel
theorem dJx35411_init_45d68_2 : decode cJx35411_init_45d68 2 = .ok (.putfield 1, 3) := by decide +kernel
theorem dJx35411_init_45d68_5 : decode cJx35411_init_45d68 5 = .ok (.aload_n 0, 1) := by decide +kernel
theorem dJx35411_init_45d68_6 : decode cJx35411_init_45d68 6 = .ok (.invokespecial 7, 3) := by decide +kernel
theorem dJx35411_init_45d68_9 : decode cJx35411_init_45d68 9 = .ok (.aload_n 0, 1) := by decide +kernel
theorem dJx35411_init_45d68_10 : decode cJx35411_init_45d68 10 = .ok (.iconst (-1), 1) := by decide +kernel
theorem dJx35411_init_45d68_11 : decode cJx35411_init_45d68 11 = .ok (.putfield 13, 3) := by decide +kernel
theorem dJx35411_init_45d68_14 : decode cJx35411_init_45d68 14 = .ok (.aload_n 0, 1) := by decide +kernel
theorem dJx35411_init_45d68_15 : decode cJx35411_init_45d68 15 = .ok (.aload_n 0, 1) := by decide +kernel
theorem dJx35411_init_45d68_16 : decode cJx35411_init_45d68 16 = .ok (.getfield 1, 3) := by decide +kernel
theorem dJx35411_init_45d68_19 : decode cJx35411_init_45d68 19 = .ok (.getfield 17, 3) := by decide +kernel
theorem dJx35411_init_45d68_22 : decode cJx35411_init_45d68 22 = .ok (.putfield 22, 3) := by decide +kernel
theorem dJx35411_init_45d68_25 : decode cJx35411_init_45d68 25 = .ok (.return_, 1) := by decide +kernel
theorem dJx35411_hasNext_aae02_0 : decode cJx35411_hasNext_aae02 0 = .ok (.aload_n 0, 1) := by decide +kernel
theorem dJx35411_hasNext_aae02_1 : decode cJx35411_hasNext_aae02 1 = .ok (.getfield 25, 3) := by decide +kernel
theorem dJx35411_hasNext_aae02_4 : decode cJx35411_hasNext_aae02 4 = .ok (.aload_n 0, 1) := by decide +kernel
theorem dJx35411_hasNext_aae02_5 : decode cJx35411_hasNext_aae02 5 = .ok (.getfield 1, 3) := by decide +kernel
theorem dJx35411_hasNext_aae02_8 : decode cJx35411_hasNext_aae02 8 = .ok (.getfield 28, 3) := by decide +kernel
theorem dJx35411_hasNext_aae02_11 : decode cJx35411_hasNext_aae02 11 = .ok (.if_icmp .eq 7, 3) := by decide +kernel
theorem dJx35411_hasNext_aae02_14 : decode cJx35411_hasNext_aae02 14 = .ok (.iconst 1, 1) := by decide +kernel
theorem dJx35411_hasNext_aae02_15 : decode cJx35411_hasNext_aae02 15 = .ok (.goto 4, 3) := by decide +kernel
theorem dJx35411_hasNext_aae02_18 : decode cJx35411_hasNext_aae02 18 = .ok (.iconst 0, 1) := by decide +kernel
theorem dJx35411_hasNext_aae02_19 : decode cJx35411_hasNext_aae02 19 = .ok (.ireturn, 1) := by decide +kernel
set_option maxRecDepth 20000 in
theorem ggJx35411_next_0502b_Jx35411_checkForComodification_da8c8 : GoodIn wsJx35411_next_0502b wsJx35411_checkForComodification_da8c8 := goodIn_r _ [9, 2, 10, 11, 12, 13, 14, 15, 16, 17, 18, 19] (by decide +kernel) (by decide +kernel)
set_option maxRecDepth 20000 in
theorem gJx35411_next_0502b_Jx35411_checkForComodification_da8c8 : GoodIn wsJx35411_next_0502b (wsV RJx35411 31 RJx35411 yJx35411_checkForComodification_da8c8 wsJx35411_checkForComodification_da8c8) := goodIn_app (goodIn_of _ (by decide +kernel)) ggJx35411_next_0502b_Jx35411_checkForComodification_da8c8
theorem dJx35411_next_0502b_0 : decode cJx35411_next_0502b 0 = .ok (.aload_n 0, 1) := by decide +kernel
theorem dJx35411_next_0502b_1 : decode cJx35411_next_0502b 1 = .ok (.invokevirtual 31, 3) := by decide +kernel
theorem dJx35411_next_0502b_4 : decode cJx35411_next_0502b 4 = .ok (.aload_n 0, 1) := by decide +kernel
theorem dJx35411_next_0502b_5 : decode cJx35411_next_0502b 5 = .ok (.getfield 25, 3) := by decide +kernel
theorem dJx35411_next_0502b_8 : decode cJx35411_next_0502b 8 = .ok (.istore_n 1, 1) := by decide +kernel
theorem dJx35411_next_0502b_9 : decode cJx35411_next_0502b 9 = .ok (.iload_n 1, 1) := by decide +kernel
theorem dJx35411_next_0502b_10 : decode cJx35411_next_0502b 10 = .ok (.aload_n 0, 1) := by decide +kernel
theorem dJx35411_next_0502b_11 : decode cJx35411_next_0502b 11 = .ok (.getfield 1, 3) := by decide +kernel
theorem dJx35411_next_0502b_14 : decode cJx35411_next_0502b 14 = .ok (.getfield 28, 3) := by decide +kernel
theorem dJx35411_next_0502b_17 : decode cJx35411_next_0502b 17 = .ok (.if_icmp .lt 11, 3) := by decide +kernel
theorem dJx35411_next_0502b_20 : decode cJx35411_next_0502b 20 = .ok (.new 34, 3) := by decide +kernel
theorem dJx35411_next_0502b_23 : decode cJx35411_next_0502b 23 = .ok (.dup, 1) := by decide +kernel
theorem dJx35411_next_0502b_24 : decode cJx35411_next_0502b 24 = .ok (.invokespecial 36, 3) := by decide +kernel
theorem dJx35411_next_0502b_27 : decode cJx35411_next_0502b 27 = .ok (.athrow, 1) := by decide +kernel
theorem dJx35411_next_0502b_28 : decode cJx35411_next_0502b 28 = .ok (.aload_n 0, 1) := by decide +kernel
theorem dJx35411_next_0502b_29 : decode cJx35411_next_0502b 29 = .ok (.getfield 1, 3) := by decide +kernel
theorem dJx35411_next_0502b_32 : decode cJx35411_next_0502b 32 = .ok (.getfield 37, 3) := by decide +kernel
theorem dJx35411_next_0502b_35 : decode cJx35411_next_0502b 35 = .ok (.astore_n 2, 1) := by decide +kernel
theorem dJx35411_next_0502b_36 : decode cJx35411_next_0502b 36 = .ok (.iload_n 1, 1) := by decide +kernel
theorem dJx35411_next_0502b_37 : decode cJx35411_next_0502b 37 = .ok (.aload_n 2, 1) := by decide +kernel
theorem dJx35411_next_0502b_38 : decode cJx35411_next_0502b 38 = .ok (.arraylength, 1) := by decide +kernel
theorem dJx35411_next_0502b_39 : decode cJx35411_next_0502b 39 = .ok (.if_icmp .lt 11, 3) := by decide +kernel
theorem dJx35411_next_0502b_42 : decode cJx35411_next_0502b 42 = .ok (.new 41, 3) := by decide +kernel
theorem dJx35411_next_0502b_45 : decode cJx35411_next_0502b 45 = .ok (.dup, 1) := by decide +kernel
theorem dJx35411_next_0502b_46 : decode cJx35411_next_0502b 46 = .ok (.invokespecial 43, 3) := by decide +kernel
theorem dJx35411_next_0502b_49 : decode cJx35411_next_0502b 49 = .ok (.athrow, 1) := by decide +kernel
theorem dJx35411_next_0502b_50 : decode cJx35411_next_0502b 50 = .ok (.aload_n 0, 1) := by decide +kernel
theorem dJx35411_next_0502b_51 : decode cJx35411_next_0502b 51 = .ok (.iload_n 1, 1) := by decide +kernel
theorem dJx35411_next_0502b_52 : decode cJx35411_next_0502b 52 = .ok (.iconst 1, 1) := by decide +kernel
theorem dJx35411_next_0502b_53 : decode cJx35411_next_0502b 53 = .ok (.iadd, 1) := by decide +kernel
theorem dJx35411_next_0502b_54 : decode cJx35411_next_0502b 54 = .ok (.putfield 25, 3) := by decide +kernel
theorem dJx35411_next_0502b_57 : decode cJx35411_next_0502b 57 = .ok (.aload_n 2, 1) := by decide +kernel
theorem dJx35411_next_0502b_58 : decode cJx35411_next_0502b 58 = .ok (.aload_n 0, 1) := by decide +kernel
theorem dJx35411_next_0502b_59 : decode cJx35411_next_0502b 59 = .ok (.iload_n 1, 1) := by decide +kernel
theorem dJx35411_next_0502b_60 : decode cJx35411_next_0502b 60 = .ok (.dup_x1, 1) := by decide +kernel
theorem dJx35411_next_0502b_61 : decode cJx35411_next_0502b 61 = .ok (.putfield 13, 3) := by decide +kernel
theorem dJx35411_next_0502b_64 : decode cJx35411_next_0502b 64 = .ok (.aaload, 1) := by decide +kernel
theorem dJx35411_next_0502b_65 : decode cJx35411_next_0502b 65 = .ok (.areturn, 1) := by decide +kernel
theorem dJx35411_checkForComodification_da8c8_0 : decode cJx35411_checkForComodification_da8c8 0 = .ok (.aload_n 0, 1) := by decide +kernel
theorem dJx35411_checkForComodification_da8c8_1 : decode cJx35411_checkForComodification_da8c8 1 = .ok (.getfield 1, 3) := by decide +kernel
theorem dJx35411_checkForComodification_da8c8_4 : decode cJx35411_checkForComodification_da8c8 4 = .ok (.getfield 17, 3) := by decide +kernel
theorem dJx35411_checkForComodification_da8c8_7 : decode cJx35411_checkForComodification_da8c8 7 = .ok (.aload_n 0, 1) := by decide +kernel
theorem dJx35411_checkForComodification_da8c8_8 : decode cJx35411_checkForComodification_da8c8 8 = .ok (.getfield 22, 3) := by decide +kernel
theorem dJx35411_checkForComodification_da8c8_11 : decode cJx35411_checkForComodification_da8c8 11 = .ok (.if_icmp .eq 11, 3) := by decide +kernel
theorem dJx35411_checkForComodification_da8c8_14 : decode cJx35411_checkForComodification_da8c8 14 = .ok (.new 41, 3) := by decide +kernel
theorem dJx35411_checkForComodification_da8c8_17 : decode cJx35411_checkForComodification_da8c8 17 = .ok (.dup, 1) := by decide +kernel
theorem dJx35411_checkForComodification_da8c8_18 : decode cJx35411_checkForComodification_da8c8 18 = .ok (.invokespecial 43, 3) := by decide +kernel
theorem dJx35411_checkForComodification_da8c8_21 : decode cJx35411_checkForComodification_da8c8 21 = .ok (.athrow, 1) := by decide +kernel
theorem dJx35411_checkForComodification_da8c8_22 : decode cJx35411_checkForComodification_da8c8 22 = .ok (.return_, 1) := by decide +kernel
set_option maxRecDepth 20000 in
theorem ggJx4a65c_init_da8c8_Jxc12de_init_da8c8 : GoodIn wsJx4a65c_init_da8c8 wsJxc12de_init_da8c8 := goodIn_r _ [6, 7, 8, 9, 10, 11, 12, 13, 14, 15, 16, 17] (by decide +kernel) (by decide +kernel)
set_option maxRecDepth 20000 in
theorem gJx4a65c_init_da8c8_Jxc12de_init_da8c8 : GoodIn wsJx4a65c_init_da8c8 (wsJxc12de_init_da8c8) := ggJx4a65c_init_da8c8_Jxc12de_init_da8c8
theorem dJx4a65c_init_da8c8_0 : decode cJx4a65c_init_da8c8 0 = .ok (.aload_n 0, 1) := by decide +kernel
theorem dJx4a65c_init_da8c8_1 : decode cJx4a65c_init_da8c8 1 = .ok (.invokespecial 1, 3) := by decide +kernel
theorem dJx4a65c_init_da8c8_4 : decode cJx4a65c_init_da8c8 4 = .ok (.aload_n 0, 1) := by decide +kernel
theorem dJx4a65c_init_da8c8_5 : decode cJx4a65c_init_da8c8 5 = .ok (.getstatic 39, 3) := by decide +kernel
theorem dJx4a65c_init_da8c8_8 : decode cJx4a65c_init_da8c8 8 = .ok (.putfield 9, 3) := by decide +kernel
theorem dJx4a65c_init_da8c8_11 : decode cJx4a65c_init_da8c8 11 = .ok (.return_, 1) := by decide +kernel
set_option maxRecDepth 20000 in
theorem ggJx4a65c_grow_92f84_J8_newLength_cabcc : GoodIn wsJx4a65c_grow_92f84 wsJ8_newLength_cabcc := goodIn_r _ [11, 12, 4, 5, 6, 13, 14, 15, 10, 16] (by decide +kernel) (by decide +kernel)
set_option maxRecDepth 20000 in
theorem gJx4a65c_grow_92f84_J8_newLength_cabcc : GoodIn wsJx4a65c_grow_92f84 (va_wsS RJx4a65c 73 yJ8_newLength_cabcc wsJ8_newLength_cabcc) := goodIn_app (goodIn_of _ (by decide +kernel)) ggJx4a65c_grow_92f84_J8_newLength_cabcc
set_option maxRecDepth 20000 in
theorem ggJx4a65c_grow_92f84_J7_copyOf_1904c : GoodIn wsJx4a65c_grow_92f84 wsJ7_copyOf_1904c := goodIn_r _ [20, 21, 22, 23, 24, 25, 26, 19, 27, 28, 29, 30, 31, 5, 32, 33, 34, 35, 36] (by decide +kernel) (by decide +kernel)
set_option maxRecDepth 20000 in
theorem gJx4a65c_grow_92f84_J7_copyOf_1904c : GoodIn wsJx4a65c_grow_92f84 (va_wsS RJx4a65c 66 yJ7_copyOf_1904c wsJ7_copyOf_1904c) := goodIn_app (goodIn_of _ (by decide +kernel)) ggJx4a65c_grow_92f84_J7_copyOf_1904c
theorem dJx4a65c_grow_92f84_0 : decode cJx4a65c_grow_92f84 0 = .ok (.aload_n 0, 1) := by decide +kernel
theorem dJx4a65c_grow_92f84_1 : decode cJx4a65c_grow_92f84 1 = .ok (.getfield 9, 3) := by decide +kernel
theorem dJx4a65c_grow_92f84_4 : decode cJx4a65c_grow_92f84 4 = .ok (.arraylength, 1) := by decide +kernel
theorem dJx4a65c_grow_92f84_5 : decode cJx4a65c_grow_92f84 5 = .ok (.istore_n 2, 1) := by decide +kernel
theorem dJx4a65c_grow_92f84_6 : decode cJx4a65c_grow_92f84 6 = .ok (.iload_n 2, 1) := by decide +kernel
theorem dJx4a65c_grow_92f84_7 : decode cJx4a65c_grow_92f84 7 = .ok (.ifCond .gt 13, 3) := by decide +kernel
theorem dJx4a65c_grow_92f84_10 : decode cJx4a65c_grow_92f84 10 = .ok (.aload_n 0, 1) := by decide +kernel
theorem dJx4a65c_grow_92f84_11 : decode cJx4a65c_grow_92f84 11 = .ok (.getfield 9, 3) := by decide +kernel
theorem dJx4a65c_grow_92f84_14 : decode cJx4a65c_grow_92f84 14 = .ok (.getstatic 39, 3) := by decide +kernel
theorem dJx4a65c_grow_92f84_17 : decode cJx4a65c_grow_92f84 17 = .ok (.if_acmp .eq 28, 3) := by decide +kernel
theorem dJx4a65c_grow_92f84_20 : decode cJx4a65c_grow_92f84 20 = .ok (.iload_n 2, 1) := by decide +kernel
theorem dJx4a65c_grow_92f84_21 : decode cJx4a65c_grow_92f84 21 = .ok (.iload_n 1, 1) := by decide +kernel
theorem dJx4a65c_grow_92f84_22 : decode cJx4a65c_grow_92f84 22 = .ok (.iload_n 2, 1) := by decide +kernel
theorem dJx4a65c_grow_92f84_23 : decode cJx4a65c_grow_92f84 23 = .ok (.isub, 1) := by decide +kernel
theorem dJx4a65c_grow_92f84_24 : decode cJx4a65c_grow_92f84 24 = .ok (.iload_n 2, 1) := by decide +kernel
theorem dJx4a65c_grow_92f84_25 : decode cJx4a65c_grow_92f84 25 = .ok (.iconst 1, 1) := by decide +kernel
theorem dJx4a65c_grow_92f84_26 : decode cJx4a65c_grow_92f84 26 = .ok (.ishr, 1) := by decide +kernel
theorem dJx4a65c_grow_92f84_27 : decode cJx4a65c_grow_92f84 27 = .ok (.invokestatic 73, 3) := by decide +kernel
theorem dJx4a65c_grow_92f84_30 : decode cJx4a65c_grow_92f84 30 = .ok (.istore_n 3, 1) := by decide +kernel
theorem dJx4a65c_grow_92f84_31 : decode cJx4a65c_grow_92f84 31 = .ok (.aload_n 0, 1) := by decide +kernel
theorem dJx4a65c_grow_92f84_32 : decode cJx4a65c_grow_92f84 32 = .ok (.aload_n 0, 1) := by decide +kernel
theorem dJx4a65c_grow_92f84_33 : decode cJx4a65c_grow_92f84 33 = .ok (.getfield 9, 3) := by decide +kernel
theorem dJx4a65c_grow_92f84_36 : decode cJx4a65c_grow_92f84 36 = .ok (.iload_n 3, 1) := by decide +kernel
theorem dJx4a65c_grow_92f84_37 : decode cJx4a65c_grow_92f84 37 = .ok (.invokestatic 66, 3) := by decide +kernel
theorem dJx4a65c_grow_92f84_40 : decode cJx4a65c_grow_92f84 40 = .ok (.dup_x1, 1) := by decide +kernel
theorem dJx4a65c_grow_92f84_41 : decode cJx4a65c_grow_92f84 41 = .ok (.putfield 9, 3) := by decide +kernel
theorem dJx4a65c_grow_92f84_44 : decode cJx4a65c_grow_92f84 44 = .ok (.areturn, 1) := by decide +kernel
theorem dJx4a65c_grow_92f84_45 : decode cJx4a65c_grow_92f84 45 = .ok (.aload_n 0, 1) := by decide +kernel
theorem dJx4a65c_grow_92f84_46 : decode cJx4a65c_grow_92f84 46 = .ok (.bipush 10, 2) := by decide +kernel
theorem dJx4a65c_grow_92f84_48 : decode cJx4a65c_grow_92f84 48 = .ok (.iload_n 1, 1) := by decide +kernel
theorem dJx4a65c_grow_92f84_49 : decode cJx4a65c_grow_92f84 49 = .ok (.invokestatic 79, 3) := by decide +kernel
theorem dJx4a65c_grow_92f84_52 : decode cJx4a65c_grow_92f84 52 = .ok (.anewarray 7, 3) := by decide +kernel
theorem dJx4a65c_grow_92f84_55 : decode cJx4a65c_grow_92f84 55 = .ok (.dup_x1, 1) := by decide +kernel
theorem dJx4a65c_grow_92f84_56 : decode cJx4a65c_grow_92f84 56 = .ok (.putfield 9, 3) := by decide +kernel
theorem dJx4a65c_grow_92f84_59 : decode cJx4a65c_grow_92f84 59 = .ok (.areturn, 1) := by decide +kernel
set_option maxRecDepth 20000 in
theorem ggJx4a65c_grow_d5877_Jx4a65c_grow_92f84 : GoodIn wsJx4a65c_grow_d5877 wsJx4a65c_grow_92f84 := goodIn_r _ [6, 7, 8, 9, 10, 11, 12, 13, 14, 15, 16, 17, 18, 19, 20, 21, 22, 23, 24, 25, 26, 27, 28, 29, 30, 31, 32, 33, 34, 35, 36, 37, 38, 39, 40, 41, 42, 43, 44, 45] (by decide +kernel) (by decide +kernel)
set_option maxRecDepth 20000 in
theorem gJx4a65c_grow_d5877_Jx4a65c_grow_92f84 : GoodIn wsJx4a65c_grow_d5877 (wsV RJx4a65c 69 RJx4a65c yJx4a65c_grow_92f84 wsJx4a65c_grow_92f84) := goodIn_app (goodIn_of _ (by decide +kernel)) ggJx4a65c_grow_d5877_Jx4a65c_grow_92f84
theorem dJx4a65c_grow_d5877_0 : decode cJx4a65c_grow_d5877 0 = .ok (.aload_n 0, 1) := by decide +kernel
theorem dJx4a65c_grow_d5877_1 : decode cJx4a65c_grow_d5877 1 = .ok (.aload_n 0, 1) := by decide +kernel
theorem dJx4a65c_grow_d5877_2 : decode cJx4a65c_grow_d5877 2 = .ok (.getfield 48, 3) := by decide +kernel
theorem dJx4a65c_grow_d5877_5 : decode cJx4a65c_grow_d5877 5 = .ok (.iconst 1, 1) := by decide +kernel
theorem dJx4a65c_grow_d5877_6 : decode cJx4a65c_grow_d5877 6 = .ok (.iadd, 1) := by decide +kernel
theorem dJx4a65c_grow_d5877_7 : decode cJx4a65c_grow_d5877 7 = .ok (.invokevirtual 69, 3) := by decide +kernel
theorem dJx4a65c_grow_d5877_10 : decode cJx4a65c_grow_d5877 10 = .ok (.areturn, 1) := by decide +kernel
theorem dJx4a65c_size_8abf5_0 : decode cJx4a65c_size_8abf5 0 = .ok (.aload_n 0, 1) := by decide +kernel
theorem dJx4a65c_size_8abf5_1 : decode cJx4a65c_size_8abf5 1 = .ok (.getfield 48, 3) := by decide +kernel
theorem dJx4a65c_size_8abf5_4 : decode cJx4a65c_size_8abf5 4 = .ok (.ireturn, 1) := by decide +kernel
theorem dJx4a65c_elementData_915e3_0 : decode cJx4a65c_elementData_915e3 0 = .ok (.aload_n 0, 1) := by decide +kernel
theorem dJx4a65c_elementData_915e3_1 : decode cJx4a65c_elementData_915e3 1 = .ok (.getfield 9, 3) := by decide +kernel
theorem dJx4a65c_elementData_915e3_4 : decode cJx4a65c_elementData_915e3 4 = .ok (.iload_n 1, 1) := by decide +kernel
theorem dJx4a65c_elementData_915e3_5 : decode cJx4a65c_elementData_915e3 5 = .ok (.aaload, 1) := by decide +kernel
theorem dJx4a65c_elementData_915e3_6 : decode cJx4a65c_elementData_915e3 6 = .ok (.areturn, 1) := by decide +kernel
set_option maxRecDepth 20000 in
theorem ggJx4a65c_get_915e3_J15_checkIndex_7cf53 : GoodIn wsJx4a65c_get_915e3 wsJ15_checkIndex_7cf53 := goodIn_r _ [5, 6, 7, 8, 9] (by decide +kernel) (by decide +kernel)
set_option maxRecDepth 20000 in
theorem gJx4a65c_get_915e3_J15_checkIndex_7cf53 : GoodIn wsJx4a65c_get_915e3 (va_wsS RJx4a65c 118 yJ15_checkIndex_7cf53 wsJ15_checkIndex_7cf53) := goodIn_app (goodIn_of _ (by decide +kernel)) ggJx4a65c_get_915e3_J15_checkIndex_7cf53
set_option maxRecDepth 20000 in
theorem ggJx4a65c_get_915e3_Jx4a65c_elementData_915e3 : GoodIn wsJx4a65c_get_915e3 wsJx4a65c_elementData_915e3 := goodIn_r _ [14, 15, 16, 17, 18] (by decide +kernel) (by decide +kernel)
set_option maxRecDepth 20000 in
theorem gJx4a65c_get_915e3_Jx4a65c_elementData_915e3 : GoodIn wsJx4a65c_get_915e3 (wsV RJx4a65c 123 RJx4a65c yJx4a65c_elementData_915e3 wsJx4a65c_elementData_915e3) := goodIn_app (goodIn_of _ (by decide +kernel)) ggJx4a65c_get_915e3_Jx4a65c_elementData_915e3
theorem dJx4a65c_get_915e3_0 : decode cJx4a65c_get_915e3 0 = .ok (.iload_n 1, 1) := by decide +kernel
theorem dJx4a65c_get_915e3_1 : decode cJx4a65c_get_915e3 1 = .ok (.aload_n 0, 1) := by decide +kernel
theorem dJx4a65c_get_915e3_2 : decode cJx4a65c_get_915e3 2 = .ok (.getfield 48, 3) := by decide +kernel
theorem dJx4a65c_get_915e3_5 : decode cJx4a65c_get_915e3 5 = .ok (.invokestatic 118, 3) := by decide +kernel
theorem dJx4a65c_get_915e3_8 : decode cJx4a65c_get_915e3 8 = .ok (.pop, 1) := by decide +kernel
theorem dJx4a65c_get_915e3_9 : decode cJx4a65c_get_915e3 9 = .ok (.aload_n 0, 1) := by decide +kernel
theorem dJx4a65c_get_915e3_10 : decode cJx4a65c_get_915e3 10 = .ok (.iload_n 1, 1) := by decide +kernel
theorem dJx4a65c_get_915e3_11 : decode cJx4a65c_get_915e3 11 = .ok (.invokevirtual 123, 3) := by decide +kernel
theorem dJx4a65c_get_915e3_14 : decode cJx4a65c_get_915e3 14 = .ok (.areturn, 1) := by decide +kernel
set_option maxRecDepth 20000 in
theorem ggJx4a65c_add_72be8_Jx4a65c_grow_d5877 : GoodIn wsJx4a65c_add_72be8 wsJx4a65c_grow_d5877 := goodIn_r _ [6, 1, 7, 8, 9, 5, 10, 11, 12, 13, 14, 15, 16, 17, 18, 19, 20, 21, 22, 23, 24, 25, 26, 27, 28, 29, 30, 31, 32, 33, 34, 35, 36, 37, 38, 39, 40, 41, 42, 43, 44, 45, 46, 47, 48, 49] (by decide +kernel) (by decide +kernel)
set_option maxRecDepth 20000 in
theorem gJx4a65c_add_72be8_Jx4a65c_grow_d5877 : GoodIn wsJx4a65c_add_72be8 (wsV RJx4a65c 129 RJx4a65c yJx4a65c_grow_d5877 wsJx4a65c_grow_d5877) := goodIn_app (goodIn_of _ (by decide +kernel)) ggJx4a65c_add_72be8_Jx4a65c_grow_d5877
theorem dJx4a65c_add_72be8_0 : decode cJx4a65c_add_72be8 0 = .ok (.iload_n 3, 1) := by decide +kernel
theorem dJx4a65c_add_72be8_1 : decode cJx4a65c_add_72be8 1 = .ok (.aload_n 2, 1) := by decide +kernel
theorem dJx4a65c_add_72be8_2 : decode cJx4a65c_add_72be8 2 = .ok (.arraylength, 1) := by decide +kernel
theorem dJx4a65c_add_72be8_3 : decode cJx4a65c_add_72be8 3 = .ok (.if_icmp .ne 8, 3) := by decide +kernel
theorem dJx4a65c_add_72be8_6 : decode cJx4a65c_add_72be8 6 = .ok (.aload_n 0, 1) := by decide +kernel
theorem dJx4a65c_add_72be8_7 : decode cJx4a65c_add_72be8 7 = .ok (.invokevirtual 129, 3) := by decide +kernel
theorem dJx4a65c_add_72be8_10 : decode cJx4a65c_add_72be8 10 = .ok (.astore_n 2, 1) := by decide +kernel
theorem dJx4a65c_add_72be8_11 : decode cJx4a65c_add_72be8 11 = .ok (.aload_n 2, 1) := by decide +kernel
theorem dJx4a65c_add_72be8_12 : decode cJx4a65c_add_72be8 12 = .ok (.iload_n 3, 1) := by decide +kernel
theorem dJx4a65c_add_72be8_13 : decode cJx4a65c_add_72be8 13 = .ok (.aload_n 1, 1) := by decide +kernel
theorem dJx4a65c_add_72be8_14 : decode cJx4a65c_add_72be8 14 = .ok (.aastore, 1) := by decide +kernel
theorem dJx4a65c_add_72be8_15 : decode cJx4a65c_add_72be8 15 = .ok (.aload_n 0, 1) := by decide +kernel
theorem dJx4a65c_add_72be8_16 : decode cJx4a65c_add_72be8 16 = .ok (.iload_n 3, 1) := by decide +kernel
theorem dJx4a65c_add_72be8_17 : decode cJx4a65c_add_72be8 17 = .ok (.iconst 1, 1) := by decide +kernel
theorem dJx4a65c_add_72be8_18 : decode cJx4a65c_add_72be8 18 = .ok (.iadd, 1) := by decide +kernel
theorem dJx4a65c_add_72be8_19 : decode cJx4a65c_add_72be8 19 = .ok (.putfield 48, 3) := by decide +kernel
theorem dJx4a65c_add_72be8_22 : decode cJx4a65c_add_72be8 22 = .ok (.return_, 1) := by decide +kernel
set_option maxRecDepth 20000 in
theorem ggJx4a65c_add_9ea2d_Jx4a65c_add_72be8 : GoodIn wsJx4a65c_add_9ea2d wsJx4a65c_add_72be8 := goodIn_r _ [9, 4, 10, 11, 12, 8, 13, 14, 15, 16, 17, 3, 18, 19, 20, 21, 22, 23, 24, 25, 26, 27, 28, 29, 30, 31, 32, 33, 34, 35, 36, 37, 38, 39, 40, 41, 42, 43, 44, 45, 46, 47, 48, 49, 50, 51, 52, 53, 54, 55] (by decide +kernel) (by decide +kernel)
set_option maxRecDepth 20000 in
theorem gJx4a65c_add_9ea2d_Jx4a65c_add_72be8 : GoodIn wsJx4a65c_add_9ea2d (wsV RJx4a65c 131 RJx4a65c yJx4a65c_add_72be8 wsJx4a65c_add_72be8) := goodIn_app (goodIn_of _ (by decide +kernel)) ggJx4a65c_add_9ea2d_Jx4a65c_add_72be8
theorem dJx4a65c_add_9ea2d_0 : decode cJx4a65c_add_9ea2d 0 = .ok (.aload_n 0, 1) := by decide +kernel
theorem dJx4a65c_add_9ea2d_1 : decode cJx4a65c_add_9ea2d 1 = .ok (.dup, 1) := by decide +kernel
theorem dJx4a65c_add_9ea2d_2 : decode cJx4a65c_add_9ea2d 2 = .ok (.getfield 63, 3) := by decide +kernel
theorem dJx4a65c_add_9ea2d_5 : decode cJx4a65c_add_9ea2d 5 = .ok (.iconst 1, 1) := by decide +kernel
theorem dJx4a65c_add_9ea2d_6 : decode cJx4a65c_add_9ea2d 6 = .ok (.iadd, 1) := by decide +kernel
theorem dJx4a65c_add_9ea2d_7 : decode cJx4a65c_add_9ea2d 7 = .ok (.putfield 63, 3) := by decide +kernel
theorem dJx4a65c_add_9ea2d_10 : decode cJx4a65c_add_9ea2d 10 = .ok (.aload_n 0, 1) := by decide +kernel
theorem dJx4a65c_add_9ea2d_11 : decode cJx4a65c_add_9ea2d 11 = .ok (.aload_n 1, 1) := by decide +kernel
theorem dJx4a65c_add_9ea2d_12 : decode cJx4a65c_add_9ea2d 12 = .ok (.aload_n 0, 1) := by decide +kernel
theorem dJx4a65c_add_9ea2d_13 : decode cJx4a65c_add_9ea2d 13 = .ok (.getfield 9, 3) := by decide +kernel
theorem dJx4a65c_add_9ea2d_16 : decode cJx4a65c_add_9ea2d 16 = .ok (.aload_n 0, 1) := by decide +kernel
theorem dJx4a65c_add_9ea2d_17 : decode cJx4a65c_add_9ea2d 17 = .ok (.getfield 48, 3) := by decide +kernel
theorem dJx4a65c_add_9ea2d_20 : decode cJx4a65c_add_9ea2d 20 = .ok (.invokevirtual 131, 3) := by decide +kernel
theorem dJx4a65c_add_9ea2d_23 : decode cJx4a65c_add_9ea2d 23 = .ok (.iconst 1, 1) := by decide +kernel
theorem dJx4a65c_add_9ea2d_24 : decode cJx4a65c_add_9ea2d 24 = .ok (.ireturn, 1) := by decide +kernel
theorem dJx4a65c_clear_da8c8_0 : decode cJx4a65c_clear_da8c8 0 = .ok (.aload_n 0, 1) := by decide +kernel
theorem dJx4a65c_clear_da8c8_1 : decode cJx4a65c_clear_da8c8 1 = .ok (.dup, 1) := by decide +kernel
theorem dJx4a65c_clear_da8c8_2 : decode cJx4a65c_clear_da8c8 2 = .ok (.getfield 63, 3) := by decide +kernel
theorem dJx4a65c_clear_da8c8_5 : decode cJx4a65c_clear_da8c8 5 = .ok (.iconst 1, 1) := by decide +kernel
theorem dJx4a65c_clear_da8c8_6 : decode cJx4a65c_clear_da8c8 6 = .ok (.iadd, 1) := by decide +kernel
theorem dJx4a65c_clear_da8c8_7 : decode cJx4a65c_clear_da8c8 7 = .ok (.putfield 63, 3) := by decide +kernel
theorem dJx4a65c_clear_da8c8_10 : decode cJx4a65c_clear_da8c8 10 = .ok (.aload_n 0, 1) := by decide +kernel
theorem dJx4a65c_clear_da8c8_11 : decode cJx4a65c_clear_da8c8 11 = .ok (.getfield 9, 3) := by decide +kernel
theorem dJx4a65c_clear_da8c8_14 : decode cJx4a65c_clear_da8c8 14 = .ok (.astore_n 1, 1) := by decide +kernel
theorem dJx4a65c_clear_da8c8_15 : decode cJx4a65c_clear_da8c8 15 = .ok (.aload_n 0, 1) := by decide +kernel
theorem dJx4a65c_clear_da8c8_16 : decode cJx4a65c_clear_da8c8 16 = .ok (.getfield 48, 3) := by decide +kernel
theorem dJx4a65c_clear_da8c8_19 : decode cJx4a65c_clear_da8c8 19 = .ok (.istore_n 2, 1) := by decide +kernel
theorem dJx4a65c_clear_da8c8_20 : decode cJx4a65c_clear_da8c8 20 = .ok (.aload_n 0, 1) := by decide +kernel
theorem dJx4a65c_clear_da8c8_21 : decode cJx4a65c_clear_da8c8 21 = .ok (.iconst 0, 1) := by decide +kernel
theorem dJx4a65c_clear_da8c8_22 : decode cJx4a65c_clear_da8c8 22 = .ok (.dup_x1, 1) := by decide +kernel
theorem dJx4a65c_clear_da8c8_23 : decode cJx4a65c_clear_da8c8 23 = .ok (.putfield 48, 3) := by decide +kernel
theorem dJx4a65c_clear_da8c8_26 : decode cJx4a65c_clear_da8c8 26 = .ok (.istore_n 3, 1) := by decide +kernel
theorem dJx4a65c_clear_da8c8_27 : decode cJx4a65c_clear_da8c8 27 = .ok (.iload_n 3, 1) := by decide +kernel
theorem dJx4a65c_clear_da8c8_28 : decode cJx4a65c_clear_da8c8 28 = .ok (.iload_n 2, 1) := by decide +kernel
theorem dJx4a65c_clear_da8c8_29 : decode cJx4a65c_clear_da8c8 29 = .ok (.if_icmp .ge 13, 3) := by decide +kernel
theorem dJx4a65c_clear_da8c8_32 : decode cJx4a65c_clear_da8c8 32 = .ok (.aload_n 1, 1) := by decide +kernel
theorem dJx4a65c_clear_da8c8_33 : decode cJx4a65c_clear_da8c8 33 = .ok (.iload_n 3, 1) := by decide +kernel
theorem dJx4a65c_clear_da8c8_34 : decode cJx4a65c_clear_da8c8 34 = .ok (.aconst_null, 1) := by decide +kernel
theorem dJx4a65c_clear_da8c8_35 : decode cJx4a65c_clear_da8c8 35 = .ok (.aastore, 1) := by decide +kernel
theorem dJx4a65c_clear_da8c8_36 : decode cJx4a65c_clear_da8c8 36 = .ok (.iinc 3 1, 3) := by decide +kernel
theorem dJx4a65c_clear_da8c8_39 : decode cJx4a65c_clear_da8c8 39 = .ok (.goto (-12), 3) := by decide +kernel
theorem dJx4a65c_clear_da8c8_42 : decode cJx4a65c_clear_da8c8 42 = .ok (.return_, 1) := by decide +kernel
set_option maxRecDepth 20000 in
theorem ggJx4a65c_iterator_32c93_Jx35411_init_45d68 : GoodIn wsJx4a65c_iterator_32c93 wsJx35411_init_45d68 := goodIn_r _ [6, 7, 8, 9, 10, 11, 12, 13, 14, 15, 16, 17, 18, 19, 20, 21] (by decide +kernel) (by decide +kernel)
set_option maxRecDepth 20000 in
theorem gJx4a65c_iterator_32c93_Jx35411_init_45d68 : GoodIn wsJx4a65c_iterator_32c93 (wsJx35411_init_45d68) := ggJx4a65c_iterator_32c93_Jx35411_init_45d68
theorem dJx4a65c_iterator_32c93_0 : decode cJx4a65c_iterator_32c93 0 = .ok (.new 267, 3) := by decide +kernel
theorem dJx4a65c_iterator_32c93_3 : decode cJx4a65c_iterator_32c93 3 = .ok (.dup, 1) := by decide +kernel
theorem dJx4a65c_iterator_32c93_4 : decode cJx4a65c_iterator_32c93 4 = .ok (.aload_n 0, 1) := by decide +kernel
theorem dJx4a65c_iterator_32c93_5 : decode cJx4a65c_iterator_32c93 5 = .ok (.invokespecial 269, 3) := by decide +kernel
theorem dJx4a65c_iterator_32c93_8 : decode cJx4a65c_iterator_32c93 8 = .ok (.areturn, 1) := by decide +kernel
set_option maxRecDepth 20000 in
theorem ggJ7_copyOf_1904c_J7_copyOf_6403c : GoodIn wsJ7_copyOf_1904c wsJ7_copyOf_6403c := goodIn_r _ [8, 9, 10, 11, 12, 13, 14, 15, 16, 17, 18] (by decide +kernel) (by decide +kernel)
set_option maxRecDepth 20000 in
theorem gJ7_copyOf_1904c_J7_copyOf_6403c : GoodIn wsJ7_copyOf_1904c (va_wsS RJ7 300 yJ7_copyOf_6403c wsJ7_copyOf_6403c) := goodIn_app (goodIn_of _ (by decide +kernel)) ggJ7_copyOf_1904c_J7_copyOf_6403c
theorem dJ7_copyOf_1904c_0 : decode cJ7_copyOf_1904c 0 = .ok (.aload_n 0, 1) := by decide +kernel
theorem dJ7_copyOf_1904c_1 : decode cJ7_copyOf_1904c 1 = .ok (.iload_n 1, 1) := by decide +kernel
theorem dJ7_copyOf_1904c_2 : decode cJ7_copyOf_1904c 2 = .ok (.aload_n 0, 1) := by decide +kernel
theorem dJ7_copyOf_1904c_3 : decode cJ7_copyOf_1904c 3 = .ok (.invokevirtual 86, 3) := by decide +kernel
theorem dJ7_copyOf_1904c_6 : decode cJ7_copyOf_1904c 6 = .ok (.invokestatic 300, 3) := by decide +kernel
theorem dJ7_copyOf_1904c_9 : decode cJ7_copyOf_1904c 9 = .ok (.areturn, 1) := by decide +kernel
theorem dJ7_copyOf_6403c_0 : decode cJ7_copyOf_6403c 0 = .ok (.aload_n 2, 1) := by decide +kernel
theorem dJ7_copyOf_6403c_1 : decode cJ7_copyOf_6403c 1 = .ok (.ldc 110, 2) := by decide +kernel
theorem dJ7_copyOf_6403c_3 : decode cJ7_copyOf_6403c 3 = .ok (.if_acmp .ne 10, 3) := by decide +kernel
theorem dJ7_copyOf_6403c_6 : decode cJ7_copyOf_6403c 6 = .ok (.iload_n 1, 1) := by decide +kernel
theorem dJ7_copyOf_6403c_7 : decode cJ7_copyOf_6403c 7 = .ok (.anewarray 2, 3) := by decide +kernel
theorem dJ7_copyOf_6403c_10 : decode cJ7_copyOf_6403c 10 = .ok (.goto 14, 3) := by decide +kernel
theorem dJ7_copyOf_6403c_13 : decode cJ7_copyOf_6403c 13 = .ok (.aload_n 2, 1) := by decide +kernel
theorem dJ7_copyOf_6403c_14 : decode cJ7_copyOf_6403c 14 = .ok (.invokevirtual 90, 3) := by decide +kernel
theorem dJ7_copyOf_6403c_17 : decode cJ7_copyOf_6403c 17 = .ok (.iload_n 1, 1) := by decide +kernel
theorem dJ7_copyOf_6403c_18 : decode cJ7_copyOf_6403c 18 = .ok (.invokestatic 95, 3) := by decide +kernel
theorem dJ7_copyOf_6403c_21 : decode cJ7_copyOf_6403c 21 = .ok (.checkcast 110, 3) := by decide +kernel
theorem dJ7_copyOf_6403c_24 : decode cJ7_copyOf_6403c 24 = .ok (.astore_n 3, 1) := by decide +kernel
theorem dJ7_copyOf_6403c_25 : decode cJ7_copyOf_6403c 25 = .ok (.aload_n 0, 1) := by decide +kernel
theorem dJ7_copyOf_6403c_26 : decode cJ7_copyOf_6403c 26 = .ok (.iconst 0, 1) := by decide +kernel
theorem dJ7_copyOf_6403c_27 : decode cJ7_copyOf_6403c 27 = .ok (.aload_n 3, 1) := by decide +kernel
theorem dJ7_copyOf_6403c_28 : decode cJ7_copyOf_6403c 28 = .ok (.iconst 0, 1) := by decide +kernel
theorem dJ7_copyOf_6403c_29 : decode cJ7_copyOf_6403c 29 = .ok (.aload_n 0, 1) := by decide +kernel
theorem dJ7_copyOf_6403c_30 : decode cJ7_copyOf_6403c 30 = .ok (.arraylength, 1) := by decide +kernel
theorem dJ7_copyOf_6403c_31 : decode cJ7_copyOf_6403c 31 = .ok (.iload_n 1, 1) := by decide +kernel
theorem dJ7_copyOf_6403c_32 : decode cJ7_copyOf_6403c 32 = .ok (.invokestatic 304, 3) := by decide +kernel
theorem dJ7_copyOf_6403c_35 : decode cJ7_copyOf_6403c 35 = .ok (.invokestatic 150, 3) := by decide +kernel
theorem dJ7_copyOf_6403c_38 : decode cJ7_copyOf_6403c 38 = .ok (.aload_n 3, 1) := by decide +kernel
theorem dJ7_copyOf_6403c_39 : decode cJ7_copyOf_6403c 39 = .ok (.areturn, 1) := by decide +kernel
set_option maxRecDepth 20000 in
theorem ggJ15_checkIndex_7cf53_J3_checkIndex_8e157 : GoodIn wsJ15_checkIndex_7cf53 wsJ3_checkIndex_8e157 := goodIn_r _ [4] (by decide +kernel) (by decide +kernel)
set_option maxRecDepth 20000 in
theorem gJ15_checkIndex_7cf53_J3_checkIndex_8e157 : GoodIn wsJ15_checkIndex_7cf53 (va_wsS RJ15 105 yJ3_checkIndex_8e157 wsJ3_checkIndex_8e157) := goodIn_app (goodIn_of _ (by decide +kernel)) ggJ15_checkIndex_7cf53_J3_checkIndex_8e157
theorem dJ15_checkIndex_7cf53_0 : decode cJ15_checkIndex_7cf53 0 = .ok (.iload_n 0, 1) := by decide +kernel
theorem dJ15_checkIndex_7cf53_1 : decode cJ15_checkIndex_7cf53 1 = .ok (.iload_n 1, 1) := by decide +kernel
theorem dJ15_checkIndex_7cf53_2 : decode cJ15_checkIndex_7cf53 2 = .ok (.aconst_null, 1) := by decide +kernel
theorem dJ15_checkIndex_7cf53_3 : decode cJ15_checkIndex_7cf53 3 = .ok (.invokestatic 105, 3) := by decide +kernel
theorem dJ15_checkIndex_7cf53_6 : decode cJ15_checkIndex_7cf53 6 = .ok (.ireturn, 1) := by decide +kernel
set_option maxRecDepth 20000 in
theorem ggJ8_newLength_cabcc_J8_hugeLength_7cf53 : GoodIn wsJ8_newLength_cabcc wsJ8_hugeLength_7cf53 := goodIn_r _ [9, 5] (by decide +kernel) (by decide +kernel)
set_option maxRecDepth 20000 in
theorem gJ8_newLength_cabcc_J8_hugeLength_7cf53 : GoodIn wsJ8_newLength_cabcc (va_wsS RJ8 201 yJ8_hugeLength_7cf53 wsJ8_hugeLength_7cf53) := goodIn_app (goodIn_of _ (by decide +kernel)) ggJ8_newLength_cabcc_J8_hugeLength_7cf53
theorem dJ8_newLength_cabcc_0 : decode cJ8_newLength_cabcc 0 = .ok (.iload_n 0, 1) := by decide +kernel
theorem dJ8_newLength_cabcc_1 : decode cJ8_newLength_cabcc 1 = .ok (.iload_n 1, 1) := by decide +kernel
theorem dJ8_newLength_cabcc_2 : decode cJ8_newLength_cabcc 2 = .ok (.iload_n 2, 1) := by decide +kernel
theorem dJ8_newLength_cabcc_3 : decode cJ8_newLength_cabcc 3 = .ok (.invokestatic 194, 3) := by decide +kernel
theorem dJ8_newLength_cabcc_6 : decode cJ8_newLength_cabcc 6 = .ok (.iadd, 1) := by decide +kernel
theorem dJ8_newLength_cabcc_7 : decode cJ8_newLength_cabcc 7 = .ok (.istore_n 3, 1) := by decide +kernel
theorem dJ8_newLength_cabcc_8 : decode cJ8_newLength_cabcc 8 = .ok (.iconst 0, 1) := by decide +kernel
theorem dJ8_newLength_cabcc_9 : decode cJ8_newLength_cabcc 9 = .ok (.iload_n 3, 1) := by decide +kernel
theorem dJ8_newLength_cabcc_10 : decode cJ8_newLength_cabcc 10 = .ok (.if_icmp .ge 11, 3) := by decide +kernel
theorem dJ8_newLength_cabcc_13 : decode cJ8_newLength_cabcc 13 = .ok (.iload_n 3, 1) := by decide +kernel
theorem dJ8_newLength_cabcc_14 : decode cJ8_newLength_cabcc 14 = .ok (.ldc 200, 2) := by decide +kernel
theorem dJ8_newLength_cabcc_16 : decode cJ8_newLength_cabcc 16 = .ok (.if_icmp .gt 5, 3) := by decide +kernel
theorem dJ8_newLength_cabcc_19 : decode cJ8_newLength_cabcc 19 = .ok (.iload_n 3, 1) := by decide +kernel
theorem dJ8_newLength_cabcc_20 : decode cJ8_newLength_cabcc 20 = .ok (.ireturn, 1) := by decide +kernel
theorem dJ8_newLength_cabcc_21 : decode cJ8_newLength_cabcc 21 = .ok (.iload_n 0, 1) := by decide +kernel
theorem dJ8_newLength_cabcc_22 : decode cJ8_newLength_cabcc 22 = .ok (.iload_n 1, 1) := by decide +kernel
theorem dJ8_newLength_cabcc_23 : decode cJ8_newLength_cabcc 23 = .ok (.invokestatic 201, 3) := by decide +kernel
theorem dJ8_newLength_cabcc_26 : decode cJ8_newLength_cabcc 26 = .ok (.ireturn, 1) := by decide +kernel
theorem dJ8_hugeLength_7cf53_0 : decode cJ8_hugeLength_7cf53 0 = .ok (.iload_n 0, 1) := by decide +kernel
theorem dJ8_hugeLength_7cf53_1 : decode cJ8_hugeLength_7cf53 1 = .ok (.iload_n 1, 1) := by decide +kernel
theorem dJ8_hugeLength_7cf53_2 : decode cJ8_hugeLength_7cf53 2 = .ok (.iadd, 1) := by decide +kernel
theorem dJ8_hugeLength_7cf53_3 : decode cJ8_hugeLength_7cf53 3 = .ok (.istore_n 2, 1) := by decide +kernel
theorem dJ8_hugeLength_7cf53_4 : decode cJ8_hugeLength_7cf53 4 = .ok (.iload_n 2, 1) := by decide +kernel
theorem dJ8_hugeLength_7cf53_5 : decode cJ8_hugeLength_7cf53 5 = .ok (.ifCond .ge 44, 3) := by decide +kernel
theorem dJ8_hugeLength_7cf53_8 : decode cJ8_hugeLength_7cf53 8 = .ok (.new 204, 3) := by decide +kernel
theorem dJ8_hugeLength_7cf53_11 : decode cJ8_hugeLength_7cf53 11 = .ok (.dup, 1) := by decide +kernel
theorem dJ8_hugeLength_7cf53_12 : decode cJ8_hugeLength_7cf53 12 = .ok (.new 89, 3) := by decide +kernel
theorem dJ8_hugeLength_7cf53_15 : decode cJ8_hugeLength_7cf53 15 = .ok (.dup, 1) := by decide +kernel
theorem dJ8_hugeLength_7cf53_16 : decode cJ8_hugeLength_7cf53 16 = .ok (.invokespecial 91, 3) := by decide +kernel
theorem dJ8_hugeLength_7cf53_19 : decode cJ8_hugeLength_7cf53 19 = .ok (.ldc 206, 2) := by decide +kernel
theorem dJ8_hugeLength_7cf53_21 : decode cJ8_hugeLength_7cf53 21 = .ok (.invokevirtual 94, 3) := by decide +kernel
theorem dJ8_hugeLength_7cf53_24 : decode cJ8_hugeLength_7cf53 24 = .ok (.iload_n 0, 1) := by decide +kernel
theorem dJ8_hugeLength_7cf53_25 : decode cJ8_hugeLength_7cf53 25 = .ok (.invokevirtual 98, 3) := by decide +kernel
theorem dJ8_hugeLength_7cf53_28 : decode cJ8_hugeLength_7cf53 28 = .ok (.ldc 208, 2) := by decide +kernel
theorem dJ8_hugeLength_7cf53_30 : decode cJ8_hugeLength_7cf53 30 = .ok (.invokevirtual 94, 3) := by decide +kernel
theorem dJ8_hugeLength_7cf53_33 : decode cJ8_hugeLength_7cf53 33 = .ok (.iload_n 1, 1) := by decide +kernel
theorem dJ8_hugeLength_7cf53_34 : decode cJ8_hugeLength_7cf53 34 = .ok (.invokevirtual 98, 3) := by decide +kernel
theorem dJ8_hugeLength_7cf53_37 : decode cJ8_hugeLength_7cf53 37 = .ok (.ldc 210, 2) := by decide +kernel
theorem dJ8_hugeLength_7cf53_39 : decode cJ8_hugeLength_7cf53 39 = .ok (.invokevirtual 94, 3) := by decide +kernel
theorem dJ8_hugeLength_7cf53_42 : decode cJ8_hugeLength_7cf53 42 = .ok (.invokevirtual 101, 3) := by decide +kernel
theorem dJ8_hugeLength_7cf53_45 : decode cJ8_hugeLength_7cf53 45 = .ok (.invokespecial 212, 3) := by decide +kernel
theorem dJ8_hugeLength_7cf53_48 : decode cJ8_hugeLength_7cf53 48 = .ok (.athrow, 1) := by decide +kernel
theorem dJ8_hugeLength_7cf53_49 : decode cJ8_hugeLength_7cf53 49 = .ok (.iload_n 2, 1) := by decide +kernel
theorem dJ8_hugeLength_7cf53_50 : decode cJ8_hugeLength_7cf53 50 = .ok (.ldc 200, 2) := by decide +kernel
theorem dJ8_hugeLength_7cf53_52 : decode cJ8_hugeLength_7cf53 52 = .ok (.if_icmp .gt 6, 3) := by decide +kernel
theorem dJ8_hugeLength_7cf53_55 : decode cJ8_hugeLength_7cf53 55 = .ok (.ldc 200, 2) := by decide +kernel
theorem dJ8_hugeLength_7cf53_57 : decode cJ8_hugeLength_7cf53 57 = .ok (.ireturn, 1) := by decide +kernel
theorem dJ8_hugeLength_7cf53_58 : decode cJ8_hugeLength_7cf53 58 = .ok (.iload_n 2, 1) := by decide +kernel
theorem dJ8_hugeLength_7cf53_59 : decode cJ8_hugeLength_7cf53 59 = .ok (.ireturn, 1) := by decide +kernel
theorem dJ3_checkIndex_8e157_0 : decode cJ3_checkIndex_8e157 0 = .ok (.iload_n 0, 1) := by decide +kernel
theorem dJ3_checkIndex_8e157_1 : decode cJ3_checkIndex_8e157 1 = .ok (.ifCond .lt 8, 3) := by decide +kernel
theorem dJ3_checkIndex_8e157_4 : decode cJ3_checkIndex_8e157 4 = .ok (.iload_n 0, 1) := by decide +kernel
theorem dJ3_checkIndex_8e157_5 : decode cJ3_checkIndex_8e157 5 = .ok (.iload_n 1, 1) := by decide +kernel
theorem dJ3_checkIndex_8e157_6 : decode cJ3_checkIndex_8e157 6 = .ok (.if_icmp .lt 10, 3) := by decide +kernel
theorem dJ3_checkIndex_8e157_9 : decode cJ3_checkIndex_8e157 9 = .ok (.aload_n 2, 1) := by decide +kernel
theorem dJ3_checkIndex_8e157_10 : decode cJ3_checkIndex_8e157 10 = .ok (.iload_n 0, 1) := by decide +kernel
theorem dJ3_checkIndex_8e157_11 : decode cJ3_checkIndex_8e157 11 = .ok (.iload_n 1, 1) := by decide +kernel
theorem dJ3_checkIndex_8e157_12 : decode cJ3_checkIndex_8e157 12 = .ok (.invokestatic 95, 3) := by decide +kernel
theorem dJ3_checkIndex_8e157_15 : decode cJ3_checkIndex_8e157 15 = .ok (.athrow, 1) := by decide +kernel
theorem dJ3_checkIndex_8e157_16 : decode cJ3_checkIndex_8e157 16 = .ok (.iload_n 0, 1) := by decide +kernel
theorem dJ3_checkIndex_8e157_17 : decode cJ3_checkIndex_8e157 17 = .ok (.ireturn, 1) := by decide +kernel
set_option maxRecDepth 20000 in
theorem ggL_house_X4_house : GoodIn wsL_house wsX4_house := goodIn_ca (goodIn_r _ [6, 7, 8, 9, 10, 11, 12, 13, 14, 15, 16, 17, 18, 19, 20, 21, 22, 23, 24, 25, 26, 27, 28] (by decide +kernel) (by decide +kernel)) (goodIn_sub (fun _ h => List.mem_cons_of_mem _ (List.mem_append_right _ h)) (by decide +kernel))
set_option maxRecDepth 20000 in
theorem gL_house_X4_house : GoodIn wsL_house (wsV RL 7 RX4 yX4_house wsX4_house) := goodIn_app (goodIn_of _ (by decide +kernel)) ggL_house_X4_house
theorem dL_house_0 : decode cL_house 0 = .ok (.aload_n 1, 1) := by decide +kernel
theorem dL_house_1 : decode cL_house 1 = .ok (.iconst 0, 1) := by decide +kernel
theorem dL_house_2 : decode cL_house 2 = .ok (.aload_n 0, 1) := by decide +kernel
theorem dL_house_3 : decode cL_house 3 = .ok (.invokevirtual 7, 3) := by decide +kernel
theorem dL_house_6 : decode cL_house 6 = .ok (.i2l, 1) := by decide +kernel
theorem dL_house_7 : decode cL_house 7 = .ok (.lastore, 1) := by decide +kernel
theorem dL_house_8 : decode cL_house 8 = .ok (.goto 6, 3) := by decide +kernel
theorem dL_house_11 : decode cL_house 11 = .ok (.astore_n 2, 1) := by decide +kernel
theorem dL_house_12 : decode cL_house 12 = .ok (.iconst 1, 1) := by decide +kernel
theorem dL_house_13 : decode cL_house 13 = .ok (.ireturn, 1) := by decide +kernel
theorem dL_house_14 : decode cL_house 14 = .ok (.iconst 0, 1) := by decide +kernel
theorem dL_house_15 : decode cL_house 15 = .ok (.ireturn, 1) := by decide +kernel
set_option maxRecDepth 20000 in
theorem ggL_book_X4_book : GoodIn wsL_book wsX4_book := goodIn_ca (goodIn_ca (goodIn_ca (goodIn_r _ [8, 9, 10, 11, 12, 13, 14, 15, 16, 17, 18, 19, 20, 21, 7, 22, 23, 24, 25, 26, 27, 28, 29, 30, 31, 32, 33, 34, 35, 36, 37, 38, 39, 40, 41, 42, 43, 44, 45, 46, 47, 48, 49, 50, 51, 52, 53, 54, 55, 56, 57, 58, 59, 60, 61, 62, 63, 64, 65, 66, 67, 68, 69, 70] (by decide +kernel) (by decide +kernel)) (goodIn_sub (fun _ h => List.mem_cons_of_mem _ (List.mem_append_left _ (List.mem_append_left _ (List.mem_append_right _ h)))) (by decide +kernel))) (goodIn_sub (fun _ h => List.mem_cons_of_mem _ (List.mem_append_left _ (List.mem_append_right _ h))) (by decide +kernel))) (goodIn_sub (fun _ h => List.mem_cons_of_mem _ (List.mem_append_right _ h)) (by decide +kernel))
set_option maxRecDepth 20000 in
theorem gL_book_X4_book : GoodIn wsL_book (wsV RL 15 RX4 yX4_book wsX4_book) := goodIn_app (goodIn_of _ (by decide +kernel)) ggL_book_X4_book
theorem dL_book_0 : decode cL_book 0 = .ok (.aload 7, 2) := by decide +kernel
theorem dL_book_2 : decode cL_book 2 = .ok (.iconst 0, 1) := by decide +kernel
theorem dL_book_3 : decode cL_book 3 = .ok (.aload_n 0, 1) := by decide +kernel
theorem dL_book_4 : decode cL_book 4 = .ok (.iload_n 1, 1) := by decide +kernel
theorem dL_book_5 : decode cL_book 5 = .ok (.iload_n 2, 1) := by decide +kernel
theorem dL_book_6 : decode cL_book 6 = .ok (.iload_n 3, 1) := by decide +kernel
theorem dL_book_7 : decode cL_book 7 = .ok (.iload 4, 2) := by decide +kernel
theorem dL_book_9 : decode cL_book 9 = .ok (.iload 5, 2) := by decide +kernel
theorem dL_book_11 : decode cL_book 11 = .ok (.iload 6, 2) := by decide +kernel
theorem dL_book_13 : decode cL_book 13 = .ok (.invokevirtual 15, 3) := by decide +kernel
theorem dL_book_16 : decode cL_book 16 = .ok (.i2l, 1) := by decide +kernel
theorem dL_book_17 : decode cL_book 17 = .ok (.lastore, 1) := by decide +kernel
theorem dL_book_18 : decode cL_book 18 = .ok (.goto 15, 3) := by decide +kernel
theorem dL_book_21 : decode cL_book 21 = .ok (.astore 8, 2) := by decide +kernel
theorem dL_book_23 : decode cL_book 23 = .ok (.iconst 1, 1) := by decide +kernel
theorem dL_book_24 : decode cL_book 24 = .ok (.ireturn, 1) := by decide +kernel
theorem dL_book_25 : decode cL_book 25 = .ok (.astore 8, 2) := by decide +kernel
theorem dL_book_27 : decode cL_book 27 = .ok (.iconst 2, 1) := by decide +kernel
theorem dL_book_28 : decode cL_book 28 = .ok (.ireturn, 1) := by decide +kernel
theorem dL_book_29 : decode cL_book 29 = .ok (.astore 8, 2) := by decide +kernel
theorem dL_book_31 : decode cL_book 31 = .ok (.iconst 3, 1) := by decide +kernel
theorem dL_book_32 : decode cL_book 32 = .ok (.ireturn, 1) := by decide +kernel
theorem dL_book_33 : decode cL_book 33 = .ok (.iconst 0, 1) := by decide +kernel
theorem dL_book_34 : decode cL_book 34 = .ok (.ireturn, 1) := by decide +kernel
set_option maxRecDepth 20000 in
theorem ggL_judge_X4_judge : GoodIn wsL_judge wsX4_judge := goodIn_ca (goodIn_ca (goodIn_r _ [7, 8, 9, 10, 11, 12, 13, 14, 15, 16, 6, 17, 18, 19, 20, 21, 22, 23, 24, 25, 26, 27, 28, 29, 30, 31, 32, 33, 34, 35, 36, 37, 38, 39, 40, 41, 42, 43, 44, 45, 46, 47, 48, 49, 50, 51, 52, 53, 54, 55, 56, 57, 58, 59, 60] (by decide +kernel) (by decide +kernel)) (goodIn_sub (fun _ h => List.mem_cons_of_mem _ (List.mem_append_left _ (List.mem_append_right _ h))) (by decide +kernel))) (goodIn_sub (fun _ h => List.mem_cons_of_mem _ (List.mem_append_right _ h)) (by decide +kernel))
set_option maxRecDepth 20000 in
theorem gL_judge_X4_judge : GoodIn wsL_judge (wsV RL 23 RX4 yX4_judge wsX4_judge) := goodIn_app (goodIn_of _ (by decide +kernel)) ggL_judge_X4_judge
theorem dL_judge_0 : decode cL_judge 0 = .ok (.aload 4, 2) := by decide +kernel
theorem dL_judge_2 : decode cL_judge 2 = .ok (.iconst 0, 1) := by decide +kernel
theorem dL_judge_3 : decode cL_judge 3 = .ok (.aload_n 0, 1) := by decide +kernel
theorem dL_judge_4 : decode cL_judge 4 = .ok (.iload_n 1, 1) := by decide +kernel
theorem dL_judge_5 : decode cL_judge 5 = .ok (.iload_n 2, 1) := by decide +kernel
theorem dL_judge_6 : decode cL_judge 6 = .ok (.iload_n 3, 1) := by decide +kernel
theorem dL_judge_7 : decode cL_judge 7 = .ok (.invokevirtual 23, 3) := by decide +kernel
theorem dL_judge_10 : decode cL_judge 10 = .ok (.i2l, 1) := by decide +kernel
theorem dL_judge_11 : decode cL_judge 11 = .ok (.lastore, 1) := by decide +kernel
theorem dL_judge_12 : decode cL_judge 12 = .ok (.goto 11, 3) := by decide +kernel
theorem dL_judge_15 : decode cL_judge 15 = .ok (.astore 5, 2) := by decide +kernel
theorem dL_judge_17 : decode cL_judge 17 = .ok (.iconst 1, 1) := by decide +kernel
theorem dL_judge_18 : decode cL_judge 18 = .ok (.ireturn, 1) := by decide +kernel
theorem dL_judge_19 : decode cL_judge 19 = .ok (.astore 5, 2) := by decide +kernel
theorem dL_judge_21 : decode cL_judge 21 = .ok (.iconst 2, 1) := by decide +kernel
theorem dL_judge_22 : decode cL_judge 22 = .ok (.ireturn, 1) := by decide +kernel
theorem dL_judge_23 : decode cL_judge 23 = .ok (.iconst 0, 1) := by decide +kernel
theorem dL_judge_24 : decode cL_judge 24 = .ok (.ireturn, 1) := by decide +kernel
set_option maxRecDepth 20000 in
theorem ggL_conflict_X4_conflict : GoodIn wsL_conflict wsX4_conflict := goodIn_ca (goodIn_ca (goodIn_r _ [7, 8, 9, 10, 11, 12, 13, 14, 15, 16, 6, 17, 18, 19, 20, 21, 22, 23, 24, 25, 26, 27, 28, 29, 30, 31, 32, 33, 34, 35, 36, 37, 38, 39, 40, 41, 42, 43, 44, 45, 46, 47, 48, 49, 50, 51, 52, 53, 54, 55, 56, 57, 58, 59, 60, 61, 62, 63, 64, 65, 66, 67, 68, 69] (by decide +kernel) (by decide +kernel)) (goodIn_sub (fun _ h => List.mem_cons_of_mem _ (List.mem_append_left _ (List.mem_append_right _ h))) (by decide +kernel))) (goodIn_sub (fun _ h => List.mem_cons_of_mem _ (List.mem_append_right _ h)) (by decide +kernel))
set_option maxRecDepth 20000 in
theorem gL_conflict_X4_conflict : GoodIn wsL_conflict (wsV RL 27 RX4 yX4_conflict wsX4_conflict) := goodIn_app (goodIn_of _ (by decide +kernel)) ggL_conflict_X4_conflict
theorem dL_conflict_0 : decode cL_conflict 0 = .ok (.aload_n 3, 1) := by decide +kernel
theorem dL_conflict_1 : decode cL_conflict 1 = .ok (.iconst 0, 1) := by decide +kernel
theorem dL_conflict_2 : decode cL_conflict 2 = .ok (.aload_n 0, 1) := by decide +kernel
theorem dL_conflict_3 : decode cL_conflict 3 = .ok (.iload_n 1, 1) := by decide +kernel
theorem dL_conflict_4 : decode cL_conflict 4 = .ok (.iload_n 2, 1) := by decide +kernel
theorem dL_conflict_5 : decode cL_conflict 5 = .ok (.invokevirtual 27, 3) := by decide +kernel
theorem dL_conflict_8 : decode cL_conflict 8 = .ok (.i2l, 1) := by decide +kernel
theorem dL_conflict_9 : decode cL_conflict 9 = .ok (.lastore, 1) := by decide +kernel
theorem dL_conflict_10 : decode cL_conflict 10 = .ok (.goto 11, 3) := by decide +kernel
theorem dL_conflict_13 : decode cL_conflict 13 = .ok (.astore 4, 2) := by decide +kernel
theorem dL_conflict_15 : decode cL_conflict 15 = .ok (.iconst 1, 1) := by decide +kernel
