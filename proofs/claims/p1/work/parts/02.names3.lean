set_option maxRecDepth 20000 in
theorem ggX4_ofJudge_X4_isJudge : GoodIn wsX4_ofJudge wsX4_isJudge := goodIn_r _ [15, 16, 34, 35, 36, 37, 38, 39, 40, 41, 42, 43, 44, 45, 46, 47, 48, 49, 50, 51, 52] (by decide +kernel) (by decide +kernel)
set_option maxRecDepth 20000 in
theorem gX4_ofJudge_X4_isJudge : GoodIn wsX4_ofJudge (wsV RX4 110 RX4 yX4_isJudge wsX4_isJudge) := goodIn_app (goodIn_of _ (by decide +kernel)) ggX4_ofJudge_X4_isJudge
theorem dX4_ofJudge_0 : decode cX4_ofJudge 0 = .ok (.aload_n 0, 1) := by decide +kernel
theorem dX4_ofJudge_1 : decode cX4_ofJudge 1 = .ok (.iload_n 1, 1) := by decide +kernel
theorem dX4_ofJudge_2 : decode cX4_ofJudge 2 = .ok (.invokevirtual 110, 3) := by decide +kernel
theorem dX4_ofJudge_5 : decode cX4_ofJudge 5 = .ok (.ifCond .ne 13, 3) := by decide +kernel
theorem dX4_ofJudge_8 : decode cX4_ofJudge 8 = .ok (.new 68, 3) := by decide +kernel
theorem dX4_ofJudge_11 : decode cX4_ofJudge 11 = .ok (.dup, 1) := by decide +kernel
theorem dX4_ofJudge_12 : decode cX4_ofJudge 12 = .ok (.ldc 113, 2) := by decide +kernel
theorem dX4_ofJudge_14 : decode cX4_ofJudge 14 = .ok (.invokespecial 72, 3) := by decide +kernel
theorem dX4_ofJudge_17 : decode cX4_ofJudge 17 = .ok (.athrow, 1) := by decide +kernel
set_option maxRecDepth 20000 in
theorem ggX4_mark_X4_isJudge : GoodIn wsX4_mark wsX4_isJudge := goodIn_r _ [9, 10, 16, 17, 18, 19, 20, 21, 22, 23, 24, 25, 26, 27, 28, 29, 30, 31, 32, 33, 34] (by decide +kernel) (by decide +kernel)
set_option maxRecDepth 20000 in
theorem gX4_mark_X4_isJudge : GoodIn wsX4_mark (wsV RX4 110 RX4 yX4_isJudge wsX4_isJudge) := goodIn_app (goodIn_of _ (by decide +kernel)) ggX4_mark_X4_isJudge
theorem dX4_mark_0 : decode cX4_mark 0 = .ok (.aload_n 0, 1) := by decide +kernel
theorem dX4_mark_1 : decode cX4_mark 1 = .ok (.iload_n 1, 1) := by decide +kernel
theorem dX4_mark_2 : decode cX4_mark 2 = .ok (.invokevirtual 110, 3) := by decide +kernel
theorem dX4_mark_5 : decode cX4_mark 5 = .ok (.ifCond .eq 11, 3) := by decide +kernel
theorem dX4_mark_16 : decode cX4_mark 16 = .ok (.new 68, 3) := by decide +kernel
theorem dX4_mark_19 : decode cX4_mark 19 = .ok (.dup, 1) := by decide +kernel
theorem dX4_mark_20 : decode cX4_mark 20 = .ok (.ldc 164, 2) := by decide +kernel
theorem dX4_mark_22 : decode cX4_mark 22 = .ok (.invokespecial 72, 3) := by decide +kernel
theorem dX4_mark_25 : decode cX4_mark 25 = .ok (.athrow, 1) := by decide +kernel
set_option maxRecDepth 20000 in
theorem ggX4_many_X4_enteredCount : GoodIn wsX4_many wsX4_enteredCount := goodIn_r _ [20, 7, 21, 22, 23, 19, 24, 25, 26, 3, 44, 45, 46, 47, 48, 49, 50, 51, 52, 53, 54, 55, 56, 57, 58, 59, 60, 61, 62, 67, 68, 69, 70, 71, 72, 73, 74, 75, 76, 77] (by decide +kernel) (by decide +kernel)
set_option maxRecDepth 20000 in
theorem gX4_many_X4_enteredCount : GoodIn wsX4_many (wsV RX4 176 RX4 yX4_enteredCount wsX4_enteredCount) := goodIn_app (goodIn_of _ (by decide +kernel)) ggX4_many_X4_enteredCount
set_option maxRecDepth 20000 in
theorem ggX4_many_J6_bitCount_0f7a4 : GoodIn wsX4_many wsJ6_bitCount_0f7a4 := goodIn_r _ [30, 31, 32, 33] (by decide +kernel) (by decide +kernel)
set_option maxRecDepth 20000 in
theorem gX4_many_J6_bitCount_0f7a4 : GoodIn wsX4_many (va_wsS RX4 124 yJ6_bitCount_0f7a4 wsJ6_bitCount_0f7a4) := goodIn_app (goodIn_of _ (by decide +kernel)) ggX4_many_J6_bitCount_0f7a4
set_option maxRecDepth 20000 in
theorem ggX4_many_X4_soldEver : GoodIn wsX4_many wsX4_soldEver := goodIn_r _ [37, 7, 25, 38, 44, 45, 46, 47, 48, 49, 50, 51, 52, 53, 54, 55, 56, 57, 58, 59, 60, 61, 62, 67, 68, 69, 70, 71, 72, 73, 74, 75, 76, 77] (by decide +kernel) (by decide +kernel)
set_option maxRecDepth 20000 in
theorem gX4_many_X4_soldEver : GoodIn wsX4_many (wsV RX4 350 RX4 yX4_soldEver wsX4_soldEver) := goodIn_app (goodIn_of _ (by decide +kernel)) ggX4_many_X4_soldEver
set_option maxRecDepth 20000 in
theorem ggX4_many_X4_missedEver : GoodIn wsX4_many wsX4_missedEver := goodIn_r _ [42, 7, 25, 43, 44, 45, 46, 47, 48, 49, 50, 51, 52, 53, 54, 55, 56, 57, 58, 59, 60, 61, 62, 67, 68, 69, 70, 71, 72, 73, 74, 75, 76, 77] (by decide +kernel) (by decide +kernel)
set_option maxRecDepth 20000 in
theorem gX4_many_X4_missedEver : GoodIn wsX4_many (wsV RX4 353 RX4 yX4_missedEver wsX4_missedEver) := goodIn_app (goodIn_of _ (by decide +kernel)) ggX4_many_X4_missedEver
theorem dX4_many_0 : decode cX4_many 0 = .ok (.iload_n 1, 1) := by decide +kernel
theorem dX4_many_1 : decode cX4_many 1 = .ok (.tableswitch 156 0 14 #[75, 80, 85, 90, 95, 100, 105, 110, 115, 120, 125, 130, 138, 143, 148], 75) := by decide +kernel
theorem dX4_many_76 : decode cX4_many 76 = .ok (.aload_n 0, 1) := by decide +kernel
theorem dX4_many_77 : decode cX4_many 77 = .ok (.getfield 94, 3) := by decide +kernel
theorem dX4_many_80 : decode cX4_many 80 = .ok (.ireturn, 1) := by decide +kernel
theorem dX4_many_81 : decode cX4_many 81 = .ok (.aload_n 0, 1) := by decide +kernel
theorem dX4_many_82 : decode cX4_many 82 = .ok (.getfield 37, 3) := by decide +kernel
theorem dX4_many_85 : decode cX4_many 85 = .ok (.ireturn, 1) := by decide +kernel
theorem dX4_many_86 : decode cX4_many 86 = .ok (.aload_n 0, 1) := by decide +kernel
theorem dX4_many_87 : decode cX4_many 87 = .ok (.getfield 197, 3) := by decide +kernel
theorem dX4_many_90 : decode cX4_many 90 = .ok (.ireturn, 1) := by decide +kernel
theorem dX4_many_91 : decode cX4_many 91 = .ok (.aload_n 0, 1) := by decide +kernel
theorem dX4_many_92 : decode cX4_many 92 = .ok (.getfield 54, 3) := by decide +kernel
theorem dX4_many_95 : decode cX4_many 95 = .ok (.ireturn, 1) := by decide +kernel
theorem dX4_many_96 : decode cX4_many 96 = .ok (.aload_n 0, 1) := by decide +kernel
theorem dX4_many_97 : decode cX4_many 97 = .ok (.getfield 85, 3) := by decide +kernel
theorem dX4_many_100 : decode cX4_many 100 = .ok (.ireturn, 1) := by decide +kernel
theorem dX4_many_101 : decode cX4_many 101 = .ok (.aload_n 0, 1) := by decide +kernel
theorem dX4_many_102 : decode cX4_many 102 = .ok (.getfield 102, 3) := by decide +kernel
theorem dX4_many_105 : decode cX4_many 105 = .ok (.ireturn, 1) := by decide +kernel
theorem dX4_many_106 : decode cX4_many 106 = .ok (.aload_n 0, 1) := by decide +kernel
theorem dX4_many_107 : decode cX4_many 107 = .ok (.invokevirtual 176, 3) := by decide +kernel
theorem dX4_many_110 : decode cX4_many 110 = .ok (.ireturn, 1) := by decide +kernel
theorem dX4_many_111 : decode cX4_many 111 = .ok (.aload_n 0, 1) := by decide +kernel
theorem dX4_many_112 : decode cX4_many 112 = .ok (.getfield 220, 3) := by decide +kernel
theorem dX4_many_115 : decode cX4_many 115 = .ok (.ireturn, 1) := by decide +kernel
theorem dX4_many_116 : decode cX4_many 116 = .ok (.aload_n 0, 1) := by decide +kernel
theorem dX4_many_117 : decode cX4_many 117 = .ok (.getfield 246, 3) := by decide +kernel
theorem dX4_many_120 : decode cX4_many 120 = .ok (.ireturn, 1) := by decide +kernel
theorem dX4_many_121 : decode cX4_many 121 = .ok (.aload_n 0, 1) := by decide +kernel
theorem dX4_many_122 : decode cX4_many 122 = .ok (.getfield 41, 3) := by decide +kernel
theorem dX4_many_125 : decode cX4_many 125 = .ok (.ireturn, 1) := by decide +kernel
theorem dX4_many_126 : decode cX4_many 126 = .ok (.aload_n 0, 1) := by decide +kernel
theorem dX4_many_127 : decode cX4_many 127 = .ok (.getfield 44, 3) := by decide +kernel
theorem dX4_many_130 : decode cX4_many 130 = .ok (.ireturn, 1) := by decide +kernel
theorem dX4_many_131 : decode cX4_many 131 = .ok (.aload_n 0, 1) := by decide +kernel
theorem dX4_many_132 : decode cX4_many 132 = .ok (.getfield 273, 3) := by decide +kernel
theorem dX4_many_135 : decode cX4_many 135 = .ok (.invokestatic 124, 3) := by decide +kernel
theorem dX4_many_138 : decode cX4_many 138 = .ok (.ireturn, 1) := by decide +kernel
theorem dX4_many_139 : decode cX4_many 139 = .ok (.aload_n 0, 1) := by decide +kernel
theorem dX4_many_140 : decode cX4_many 140 = .ok (.invokevirtual 350, 3) := by decide +kernel
theorem dX4_many_143 : decode cX4_many 143 = .ok (.ireturn, 1) := by decide +kernel
theorem dX4_many_144 : decode cX4_many 144 = .ok (.aload_n 0, 1) := by decide +kernel
theorem dX4_many_145 : decode cX4_many 145 = .ok (.invokevirtual 353, 3) := by decide +kernel
theorem dX4_many_148 : decode cX4_many 148 = .ok (.ireturn, 1) := by decide +kernel
theorem dX4_many_149 : decode cX4_many 149 = .ok (.aload_n 0, 1) := by decide +kernel
theorem dX4_many_150 : decode cX4_many 150 = .ok (.getfield 30, 3) := by decide +kernel
theorem dX4_many_153 : decode cX4_many 153 = .ok (.getfield 135, 3) := by decide +kernel
theorem dX4_many_156 : decode cX4_many 156 = .ok (.ireturn, 1) := by decide +kernel
theorem dX4_many_157 : decode cX4_many 157 = .ok (.new 80, 3) := by decide +kernel
theorem dX4_many_160 : decode cX4_many 160 = .ok (.dup, 1) := by decide +kernel
theorem dX4_many_161 : decode cX4_many 161 = .ok (.ldc_w 356, 3) := by decide +kernel
theorem dX4_many_164 : decode cX4_many 164 = .ok (.invokespecial 84, 3) := by decide +kernel
theorem dX4_many_167 : decode cX4_many 167 = .ok (.athrow, 1) := by decide +kernel
theorem dX4_meanMark_0 : decode cX4_meanMark 0 = .ok (.iconst 0, 1) := by decide +kernel
theorem dX4_meanMark_1 : decode cX4_meanMark 1 = .ok (.istore_n 1, 1) := by decide +kernel
theorem dX4_meanMark_2 : decode cX4_meanMark 2 = .ok (.iconst 0, 1) := by decide +kernel
theorem dX4_meanMark_3 : decode cX4_meanMark 3 = .ok (.istore_n 2, 1) := by decide +kernel
theorem dX4_meanMark_4 : decode cX4_meanMark 4 = .ok (.iconst 0, 1) := by decide +kernel
theorem dX4_meanMark_5 : decode cX4_meanMark 5 = .ok (.istore_n 3, 1) := by decide +kernel
theorem dX4_meanMark_6 : decode cX4_meanMark 6 = .ok (.iload_n 3, 1) := by decide +kernel
theorem dX4_meanMark_7 : decode cX4_meanMark 7 = .ok (.aload_n 0, 1) := by decide +kernel
theorem dX4_meanMark_8 : decode cX4_meanMark 8 = .ok (.getfield 102, 3) := by decide +kernel
theorem dX4_meanMark_11 : decode cX4_meanMark 11 = .ok (.if_icmp .ge 33, 3) := by decide +kernel
theorem dX4_meanMark_44 : decode cX4_meanMark 44 = .ok (.iload_n 2, 1) := by decide +kernel
theorem dX4_meanMark_45 : decode cX4_meanMark 45 = .ok (.ifCond .ne 7, 3) := by decide +kernel
theorem dX4_meanMark_48 : decode cX4_meanMark 48 = .ok (.dconst 0, 1) := by decide +kernel
theorem dX4_meanMark_49 : decode cX4_meanMark 49 = .ok (.goto 8, 3) := by decide +kernel
theorem dX4_meanMark_57 : decode cX4_meanMark 57 = .ok (.dreturn, 1) := by decide +kernel
set_option maxRecDepth 20000 in
theorem ggX4_wins_X4_isWithin : GoodIn wsX4_wins wsX4_isWithin := goodIn_r _ [6] (by decide +kernel) (by decide +kernel)
set_option maxRecDepth 20000 in
theorem gX4_wins_X4_isWithin : GoodIn wsX4_wins (va_wsS RX4 76 yX4_isWithin wsX4_isWithin) := goodIn_app (goodIn_of _ (by decide +kernel)) ggX4_wins_X4_isWithin
set_option maxRecDepth 20000 in
theorem ggX4_wins_X4_winnerWithout : GoodIn wsX4_wins wsX4_winnerWithout := goodIn_r _ [10, 11, 12, 13, 14, 15, 5, 16, 17, 18, 19, 20, 21, 22, 23, 24, 25, 26, 27, 28, 29, 30, 31, 32, 33, 34, 35, 36, 37, 38, 39, 40, 41, 42, 43, 44, 45, 46, 47, 48, 49, 50, 51, 52, 53, 54, 55, 56, 57, 58, 59, 60, 61, 62, 63, 64, 65, 66, 67, 68, 69, 70, 71, 72, 73, 74, 75, 76, 77, 78, 79, 80, 81, 82, 83, 84, 85, 86, 87, 88, 89, 90, 91, 92, 93, 94, 95, 96, 97, 98, 99, 100, 101, 102, 103, 104, 105, 106, 107, 108, 109, 110, 111, 112, 113, 114, 115, 116, 117] (by decide +kernel) (by decide +kernel)
set_option maxRecDepth 20000 in
theorem gX4_wins_X4_winnerWithout : GoodIn wsX4_wins (wsV RX4 265 RX4 yX4_winnerWithout wsX4_winnerWithout) := goodIn_app (goodIn_of _ (by decide +kernel)) ggX4_wins_X4_winnerWithout
theorem dX4_wins_0 : decode cX4_wins 0 = .ok (.iload_n 1, 1) := by decide +kernel
theorem dX4_wins_1 : decode cX4_wins 1 = .ok (.iconst 0, 1) := by decide +kernel
theorem dX4_wins_2 : decode cX4_wins 2 = .ok (.bipush 31, 2) := by decide +kernel
theorem dX4_wins_4 : decode cX4_wins 4 = .ok (.invokestatic 76, 3) := by decide +kernel
theorem dX4_wins_7 : decode cX4_wins 7 = .ok (.ifCond .ne 14, 3) := by decide +kernel
theorem dX4_wins_10 : decode cX4_wins 10 = .ok (.new 80, 3) := by decide +kernel
theorem dX4_wins_13 : decode cX4_wins 13 = .ok (.dup, 1) := by decide +kernel
theorem dX4_wins_14 : decode cX4_wins 14 = .ok (.ldc_w 361, 3) := by decide +kernel
theorem dX4_wins_17 : decode cX4_wins 17 = .ok (.invokespecial 84, 3) := by decide +kernel
theorem dX4_wins_20 : decode cX4_wins 20 = .ok (.athrow, 1) := by decide +kernel
theorem dX4_wins_21 : decode cX4_wins 21 = .ok (.aload_n 0, 1) := by decide +kernel
theorem dX4_wins_22 : decode cX4_wins 22 = .ok (.iconst 0, 1) := by decide +kernel
theorem dX4_wins_23 : decode cX4_wins 23 = .ok (.iload_n 1, 1) := by decide +kernel
theorem dX4_wins_24 : decode cX4_wins 24 = .ok (.invokevirtual 265, 3) := by decide +kernel
theorem dX4_wins_27 : decode cX4_wins 27 = .ok (.ireturn, 1) := by decide +kernel
theorem dX4_beatsAll_0 : decode cX4_beatsAll 0 = .ok (.iconst 0, 1) := by decide +kernel
theorem dX4_beatsAll_1 : decode cX4_beatsAll 1 = .ok (.istore_n 1, 1) := by decide +kernel
theorem dX4_beatsAll_2 : decode cX4_beatsAll 2 = .ok (.iload_n 1, 1) := by decide +kernel
theorem dX4_beatsAll_3 : decode cX4_beatsAll 3 = .ok (.aload_n 0, 1) := by decide +kernel
theorem dX4_beatsAll_4 : decode cX4_beatsAll 4 = .ok (.getfield 85, 3) := by decide +kernel
theorem dX4_beatsAll_7 : decode cX4_beatsAll 7 = .ok (.if_icmp .ge 30, 3) := by decide +kernel
theorem dX4_beatsAll_37 : decode cX4_beatsAll 37 = .ok (.iconst (-1), 1) := by decide +kernel
theorem dX4_beatsAll_38 : decode cX4_beatsAll 38 = .ok (.ireturn, 1) := by decide +kernel
set_option maxRecDepth 20000 in
theorem ggX4_spoiled_X4_isBook : GoodIn wsX4_spoiled wsX4_isBook := goodIn_r _ [8, 9, 73, 74, 75, 76, 77, 78, 79, 80, 81, 82, 83, 84, 85, 86, 87, 88, 89, 90, 91] (by decide +kernel) (by decide +kernel)
set_option maxRecDepth 20000 in
theorem gX4_spoiled_X4_isBook : GoodIn wsX4_spoiled (wsV RX4 138 RX4 yX4_isBook wsX4_isBook) := goodIn_app (goodIn_of _ (by decide +kernel)) ggX4_spoiled_X4_isBook
theorem dX4_spoiled_0 : decode cX4_spoiled 0 = .ok (.aload_n 0, 1) := by decide +kernel
theorem dX4_spoiled_1 : decode cX4_spoiled 1 = .ok (.iload_n 1, 1) := by decide +kernel
theorem dX4_spoiled_2 : decode cX4_spoiled 2 = .ok (.invokevirtual 138, 3) := by decide +kernel
theorem dX4_spoiled_5 : decode cX4_spoiled 5 = .ok (.ifCond .ne 13, 3) := by decide +kernel
theorem dX4_spoiled_8 : decode cX4_spoiled 8 = .ok (.new 68, 3) := by decide +kernel
theorem dX4_spoiled_11 : decode cX4_spoiled 11 = .ok (.dup, 1) := by decide +kernel
theorem dX4_spoiled_12 : decode cX4_spoiled 12 = .ok (.ldc 141, 2) := by decide +kernel
theorem dX4_spoiled_14 : decode cX4_spoiled 14 = .ok (.invokespecial 72, 3) := by decide +kernel
theorem dX4_spoiled_17 : decode cX4_spoiled 17 = .ok (.athrow, 1) := by decide +kernel
theorem dX4_readIn_0 : decode cX4_readIn 0 = .ok (.aload_n 0, 1) := by decide +kernel
theorem dX4_readIn_1 : decode cX4_readIn 1 = .ok (.getfield 37, 3) := by decide +kernel
theorem dX4_readIn_4 : decode cX4_readIn 4 = .ok (.iconst 1, 1) := by decide +kernel
theorem dX4_readIn_5 : decode cX4_readIn 5 = .ok (.if_icmp .eq 5, 3) := by decide +kernel
theorem dX4_readIn_8 : decode cX4_readIn 8 = .ok (.iconst (-1), 1) := by decide +kernel
theorem dX4_readIn_9 : decode cX4_readIn 9 = .ok (.ireturn, 1) := by decide +kernel
set_option maxRecDepth 20000 in
theorem ggX4_wouldMiss_X4_isWithin : GoodIn wsX4_wouldMiss wsX4_isWithin := goodIn_r _ [13] (by decide +kernel) (by decide +kernel)
set_option maxRecDepth 20000 in
theorem gX4_wouldMiss_X4_isWithin : GoodIn wsX4_wouldMiss (va_wsS RX4 76 yX4_isWithin wsX4_isWithin) := goodIn_app (goodIn_of _ (by decide +kernel)) ggX4_wouldMiss_X4_isWithin
theorem dX4_wouldMiss_0 : decode cX4_wouldMiss 0 = .ok (.iload_n 1, 1) := by decide +kernel
theorem dX4_wouldMiss_1 : decode cX4_wouldMiss 1 = .ok (.iconst 1, 1) := by decide +kernel
theorem dX4_wouldMiss_2 : decode cX4_wouldMiss 2 = .ok (.bipush 60, 2) := by decide +kernel
theorem dX4_wouldMiss_4 : decode cX4_wouldMiss 4 = .ok (.invokestatic 76, 3) := by decide +kernel
theorem dX4_wouldMiss_7 : decode cX4_wouldMiss 7 = .ok (.ifCond .ne 13, 3) := by decide +kernel
theorem dX4_wouldMiss_10 : decode cX4_wouldMiss 10 = .ok (.new 80, 3) := by decide +kernel
theorem dX4_wouldMiss_13 : decode cX4_wouldMiss 13 = .ok (.dup, 1) := by decide +kernel
theorem dX4_wouldMiss_14 : decode cX4_wouldMiss 14 = .ok (.ldc 195, 2) := by decide +kernel
theorem dX4_wouldMiss_16 : decode cX4_wouldMiss 16 = .ok (.invokespecial 84, 3) := by decide +kernel
theorem dX4_wouldMiss_19 : decode cX4_wouldMiss 19 = .ok (.athrow, 1) := by decide +kernel
theorem dX4_wouldMiss_20 : decode cX4_wouldMiss 20 = .ok (.iconst 0, 1) := by decide +kernel
theorem dX4_wouldMiss_21 : decode cX4_wouldMiss 21 = .ok (.istore_n 2, 1) := by decide +kernel
theorem dX4_wouldMiss_22 : decode cX4_wouldMiss 22 = .ok (.iconst 0, 1) := by decide +kernel
theorem dX4_wouldMiss_23 : decode cX4_wouldMiss 23 = .ok (.istore_n 3, 1) := by decide +kernel
theorem dX4_wouldMiss_24 : decode cX4_wouldMiss 24 = .ok (.iload_n 3, 1) := by decide +kernel
theorem dX4_wouldMiss_25 : decode cX4_wouldMiss 25 = .ok (.aload_n 0, 1) := by decide +kernel
theorem dX4_wouldMiss_26 : decode cX4_wouldMiss 26 = .ok (.getfield 85, 3) := by decide +kernel
theorem dX4_wouldMiss_29 : decode cX4_wouldMiss 29 = .ok (.if_icmp .ge 33, 3) := by decide +kernel
theorem dX4_wouldMiss_62 : decode cX4_wouldMiss 62 = .ok (.iload_n 2, 1) := by decide +kernel
theorem dX4_wouldMiss_63 : decode cX4_wouldMiss 63 = .ok (.ireturn, 1) := by decide +kernel
set_option maxRecDepth 20000 in
theorem ggX4_digest_X4_many : GoodIn wsX4_digest wsX4_many := goodIn_ca (goodIn_r _ [10, 11, 12, 13, 14, 15, 3, 4, 5, 16, 17, 18, 19, 20, 21, 22, 23, 24, 25, 9, 26, 27, 28, 29, 30, 31, 32, 33, 34, 35, 36, 37, 38, 39, 40, 41, 42, 43, 44, 45, 46, 47, 48, 49, 259, 260, 261, 262, 263, 264, 265, 266, 267, 268, 269, 270, 271, 272, 273, 274, 275, 276, 277, 278, 279, 280, 281, 282, 283, 284, 285, 286, 287, 288, 289, 290, 291, 292] (by decide +kernel) (by decide +kernel)) (goodIn_sub (fun _ h => List.mem_cons_of_mem _ (List.mem_append_left _ (List.mem_append_right _ h))) (by decide +kernel))
set_option maxRecDepth 20000 in
theorem gX4_digest_X4_many : GoodIn wsX4_digest (wsV RX4 379 RX4 yX4_many wsX4_many) := goodIn_app (goodIn_of _ (by decide +kernel)) ggX4_digest_X4_many
set_option maxRecDepth 20000 in
theorem ggX4_digest_X4_wins : GoodIn wsX4_digest wsX4_wins := goodIn_ca (goodIn_r _ [220, 11, 12, 221, 113, 9, 114, 158, 159, 160, 161, 17, 20, 162, 163, 164, 165, 166, 5, 123, 78, 79, 80, 167, 168, 169, 170, 4, 31, 92, 129, 130, 131, 132, 133, 134, 85, 86, 87, 171, 172, 173, 174, 175, 176, 177, 178, 179, 180, 181, 182, 183, 184, 119, 120, 121, 122, 124, 125, 126, 127, 128, 135, 136, 137, 138, 139, 140, 141, 142, 143, 144, 259, 260, 261, 262, 263, 264, 265, 266, 267, 268, 269, 270, 271, 272, 273, 274, 275, 276, 277, 282, 283, 284, 285, 286, 287, 288, 289, 290, 291, 292, 295, 296, 297, 298, 299, 300, 301, 302, 303, 304, 305, 306, 307, 308, 309, 310] (by decide +kernel) (by decide +kernel)) (goodIn_sub (fun _ h => List.mem_cons_of_mem _ (List.mem_append_left _ (List.mem_append_right _ h))) (by decide +kernel))
set_option maxRecDepth 20000 in
theorem gX4_digest_X4_wins : GoodIn wsX4_digest (wsV RX4 397 RX4 yX4_wins wsX4_wins) := goodIn_app (goodIn_of _ (by decide +kernel)) ggX4_digest_X4_wins
set_option maxRecDepth 20000 in
theorem ggX4_digest_X4_beatsAll : GoodIn wsX4_digest wsX4_beatsAll := goodIn_r _ [225, 4, 17, 78, 79, 9, 80, 226, 227, 228, 229, 230, 231, 232, 233, 5, 123, 85, 86, 87, 204, 205, 206, 132, 207, 175, 167, 168, 169, 170, 31, 92, 129, 130, 131, 133, 134, 171, 172, 173, 174, 176, 259, 260, 261, 262, 263, 264, 265, 266, 267, 268, 269, 270, 271, 272, 273, 274, 275, 276, 277, 295, 296, 297, 298, 299, 300, 301, 302, 303, 304, 305, 306, 307, 308, 309, 310, 282, 283, 284, 285, 286, 287, 288, 289, 290, 291, 292] (by decide +kernel) (by decide +kernel)
set_option maxRecDepth 20000 in
theorem gX4_digest_X4_beatsAll : GoodIn wsX4_digest (wsV RX4 400 RX4 yX4_beatsAll wsX4_beatsAll) := goodIn_app (goodIn_of _ (by decide +kernel)) ggX4_digest_X4_beatsAll
set_option maxRecDepth 20000 in
theorem ggX4_digest_X4_readIn : GoodIn wsX4_digest wsX4_readIn := goodIn_r _ [237, 14, 5, 123, 238, 239, 71, 240, 241, 242, 243, 132, 244, 203, 202, 245, 246, 247, 248, 249, 250, 259, 260, 261, 262, 263, 264, 265, 266, 267, 268, 269, 270, 271, 272, 273, 274, 275, 276, 277, 295, 296, 297, 298, 299, 300, 301, 302, 303, 304, 305, 306, 307, 308, 309, 310] (by decide +kernel) (by decide +kernel)
set_option maxRecDepth 20000 in
theorem gX4_digest_X4_readIn : GoodIn wsX4_digest (wsV RX4 403 RX4 yX4_readIn wsX4_readIn) := goodIn_app (goodIn_of _ (by decide +kernel)) ggX4_digest_X4_readIn
set_option maxRecDepth 20000 in
theorem ggX4_digest_X4_wouldMiss : GoodIn wsX4_digest wsX4_wouldMiss := goodIn_ca (goodIn_r _ [254, 11, 12, 4, 31, 93, 238, 239, 71, 240, 221, 113, 9, 114, 255, 256, 257, 258, 18, 19, 17, 16, 78, 79, 80, 259, 260, 261, 262, 263, 264, 265, 266, 267, 268, 269, 270, 271, 272, 273, 274, 275, 276, 277, 282, 283, 284, 285, 286, 287, 288, 289, 290, 291, 292] (by decide +kernel) (by decide +kernel)) (goodIn_sub (fun _ h => List.mem_cons_of_mem _ (List.mem_append_left _ (List.mem_append_right _ h))) (by decide +kernel))
set_option maxRecDepth 20000 in
theorem gX4_digest_X4_wouldMiss : GoodIn wsX4_digest (wsV RX4 406 RX4 yX4_wouldMiss wsX4_wouldMiss) := goodIn_app (goodIn_of _ (by decide +kernel)) ggX4_digest_X4_wouldMiss
theorem dX4_digest_0 : decode cX4_digest 0 = .ok (.ldc2_w 375, 3) := by decide +kernel
theorem dX4_digest_3 : decode cX4_digest 3 = .ok (.lstore_n 1, 1) := by decide +kernel
theorem dX4_digest_4 : decode cX4_digest 4 = .ok (.iconst 0, 1) := by decide +kernel
theorem dX4_digest_5 : decode cX4_digest 5 = .ok (.istore_n 3, 1) := by decide +kernel
theorem dX4_digest_6 : decode cX4_digest 6 = .ok (.iload_n 3, 1) := by decide +kernel
theorem dX4_digest_7 : decode cX4_digest 7 = .ok (.bipush 14, 2) := by decide +kernel
theorem dX4_digest_9 : decode cX4_digest 9 = .ok (.if_icmp .gt 22, 3) := by decide +kernel
theorem dX4_digest_12 : decode cX4_digest 12 = .ok (.lload_n 1, 1) := by decide +kernel
theorem dX4_digest_13 : decode cX4_digest 13 = .ok (.ldc2_w 377, 3) := by decide +kernel
theorem dX4_digest_16 : decode cX4_digest 16 = .ok (.lmul, 1) := by decide +kernel
theorem dX4_digest_17 : decode cX4_digest 17 = .ok (.aload_n 0, 1) := by decide +kernel
theorem dX4_digest_18 : decode cX4_digest 18 = .ok (.iload_n 3, 1) := by decide +kernel
theorem dX4_digest_19 : decode cX4_digest 19 = .ok (.invokevirtual 379, 3) := by decide +kernel
theorem dX4_digest_22 : decode cX4_digest 22 = .ok (.i2l, 1) := by decide +kernel
theorem dX4_digest_23 : decode cX4_digest 23 = .ok (.ladd, 1) := by decide +kernel
theorem dX4_digest_24 : decode cX4_digest 24 = .ok (.lstore_n 1, 1) := by decide +kernel
theorem dX4_digest_25 : decode cX4_digest 25 = .ok (.iinc 3 1, 3) := by decide +kernel
theorem dX4_digest_28 : decode cX4_digest 28 = .ok (.goto (-22), 3) := by decide +kernel
theorem dX4_digest_31 : decode cX4_digest 31 = .ok (.iconst 0, 1) := by decide +kernel
theorem dX4_digest_32 : decode cX4_digest 32 = .ok (.istore_n 3, 1) := by decide +kernel
theorem dX4_digest_33 : decode cX4_digest 33 = .ok (.iload_n 3, 1) := by decide +kernel
theorem dX4_digest_34 : decode cX4_digest 34 = .ok (.aload_n 0, 1) := by decide +kernel
theorem dX4_digest_35 : decode cX4_digest 35 = .ok (.getfield 54, 3) := by decide +kernel
theorem dX4_digest_38 : decode cX4_digest 38 = .ok (.if_icmp .ge 39, 3) := by decide +kernel
theorem dX4_digest_77 : decode cX4_digest 77 = .ok (.iconst 0, 1) := by decide +kernel
theorem dX4_digest_78 : decode cX4_digest 78 = .ok (.istore_n 3, 1) := by decide +kernel
theorem dX4_digest_79 : decode cX4_digest 79 = .ok (.iload_n 3, 1) := by decide +kernel
theorem dX4_digest_80 : decode cX4_digest 80 = .ok (.aload_n 0, 1) := by decide +kernel
theorem dX4_digest_81 : decode cX4_digest 81 = .ok (.getfield 85, 3) := by decide +kernel
theorem dX4_digest_84 : decode cX4_digest 84 = .ok (.if_icmp .ge 53, 3) := by decide +kernel
theorem dX4_digest_137 : decode cX4_digest 137 = .ok (.iconst 0, 1) := by decide +kernel
theorem dX4_digest_138 : decode cX4_digest 138 = .ok (.istore_n 3, 1) := by decide +kernel
theorem dX4_digest_139 : decode cX4_digest 139 = .ok (.iload_n 3, 1) := by decide +kernel
theorem dX4_digest_140 : decode cX4_digest 140 = .ok (.aload_n 0, 1) := by decide +kernel
theorem dX4_digest_141 : decode cX4_digest 141 = .ok (.getfield 102, 3) := by decide +kernel
theorem dX4_digest_144 : decode cX4_digest 144 = .ok (.if_icmp .ge 73, 3) := by decide +kernel
theorem dX4_digest_217 : decode cX4_digest 217 = .ok (.lload_n 1, 1) := by decide +kernel
theorem dX4_digest_218 : decode cX4_digest 218 = .ok (.ldc2_w 377, 3) := by decide +kernel
theorem dX4_digest_221 : decode cX4_digest 221 = .ok (.lmul, 1) := by decide +kernel
theorem dX4_digest_222 : decode cX4_digest 222 = .ok (.aload_n 0, 1) := by decide +kernel
theorem dX4_digest_223 : decode cX4_digest 223 = .ok (.iconst 0, 1) := by decide +kernel
theorem dX4_digest_224 : decode cX4_digest 224 = .ok (.invokevirtual 397, 3) := by decide +kernel
theorem dX4_digest_227 : decode cX4_digest 227 = .ok (.i2l, 1) := by decide +kernel
theorem dX4_digest_228 : decode cX4_digest 228 = .ok (.ladd, 1) := by decide +kernel
theorem dX4_digest_229 : decode cX4_digest 229 = .ok (.lstore_n 1, 1) := by decide +kernel
theorem dX4_digest_230 : decode cX4_digest 230 = .ok (.lload_n 1, 1) := by decide +kernel
theorem dX4_digest_231 : decode cX4_digest 231 = .ok (.ldc2_w 377, 3) := by decide +kernel
theorem dX4_digest_234 : decode cX4_digest 234 = .ok (.lmul, 1) := by decide +kernel
theorem dX4_digest_235 : decode cX4_digest 235 = .ok (.aload_n 0, 1) := by decide +kernel
theorem dX4_digest_236 : decode cX4_digest 236 = .ok (.iconst 1, 1) := by decide +kernel
theorem dX4_digest_237 : decode cX4_digest 237 = .ok (.invokevirtual 397, 3) := by decide +kernel
theorem dX4_digest_240 : decode cX4_digest 240 = .ok (.i2l, 1) := by decide +kernel
theorem dX4_digest_241 : decode cX4_digest 241 = .ok (.ladd, 1) := by decide +kernel
theorem dX4_digest_242 : decode cX4_digest 242 = .ok (.lstore_n 1, 1) := by decide +kernel
theorem dX4_digest_243 : decode cX4_digest 243 = .ok (.lload_n 1, 1) := by decide +kernel
theorem dX4_digest_244 : decode cX4_digest 244 = .ok (.ldc2_w 377, 3) := by decide +kernel
theorem dX4_digest_247 : decode cX4_digest 247 = .ok (.lmul, 1) := by decide +kernel
theorem dX4_digest_248 : decode cX4_digest 248 = .ok (.aload_n 0, 1) := by decide +kernel
theorem dX4_digest_249 : decode cX4_digest 249 = .ok (.invokevirtual 400, 3) := by decide +kernel
theorem dX4_digest_252 : decode cX4_digest 252 = .ok (.i2l, 1) := by decide +kernel
theorem dX4_digest_253 : decode cX4_digest 253 = .ok (.ladd, 1) := by decide +kernel
theorem dX4_digest_254 : decode cX4_digest 254 = .ok (.lstore_n 1, 1) := by decide +kernel
theorem dX4_digest_255 : decode cX4_digest 255 = .ok (.lload_n 1, 1) := by decide +kernel
theorem dX4_digest_256 : decode cX4_digest 256 = .ok (.ldc2_w 377, 3) := by decide +kernel
theorem dX4_digest_259 : decode cX4_digest 259 = .ok (.lmul, 1) := by decide +kernel
theorem dX4_digest_260 : decode cX4_digest 260 = .ok (.aload_n 0, 1) := by decide +kernel
theorem dX4_digest_261 : decode cX4_digest 261 = .ok (.invokevirtual 403, 3) := by decide +kernel
theorem dX4_digest_264 : decode cX4_digest 264 = .ok (.i2l, 1) := by decide +kernel
theorem dX4_digest_265 : decode cX4_digest 265 = .ok (.ladd, 1) := by decide +kernel
theorem dX4_digest_266 : decode cX4_digest 266 = .ok (.lstore_n 1, 1) := by decide +kernel
theorem dX4_digest_267 : decode cX4_digest 267 = .ok (.lload_n 1, 1) := by decide +kernel
theorem dX4_digest_268 : decode cX4_digest 268 = .ok (.ldc2_w 377, 3) := by decide +kernel
theorem dX4_digest_271 : decode cX4_digest 271 = .ok (.lmul, 1) := by decide +kernel
theorem dX4_digest_272 : decode cX4_digest 272 = .ok (.aload_n 0, 1) := by decide +kernel
theorem dX4_digest_273 : decode cX4_digest 273 = .ok (.bipush 7, 2) := by decide +kernel
theorem dX4_digest_275 : decode cX4_digest 275 = .ok (.invokevirtual 406, 3) := by decide +kernel
theorem dX4_digest_278 : decode cX4_digest 278 = .ok (.i2l, 1) := by decide +kernel
theorem dX4_digest_279 : decode cX4_digest 279 = .ok (.ladd, 1) := by decide +kernel
theorem dX4_digest_280 : decode cX4_digest 280 = .ok (.lreturn, 1) := by decide +kernel
theorem dX4_isWithin_0 : decode cX4_isWithin 0 = .ok (.iload_n 0, 1) := by decide +kernel
theorem dX4_isWithin_1 : decode cX4_isWithin 1 = .ok (.iload_n 1, 1) := by decide +kernel
theorem dX4_isWithin_2 : decode cX4_isWithin 2 = .ok (.if_icmp .lt 12, 3) := by decide +kernel
theorem dX4_isWithin_5 : decode cX4_isWithin 5 = .ok (.iload_n 0, 1) := by decide +kernel
theorem dX4_isWithin_6 : decode cX4_isWithin 6 = .ok (.iload_n 2, 1) := by decide +kernel
theorem dX4_isWithin_7 : decode cX4_isWithin 7 = .ok (.if_icmp .gt 7, 3) := by decide +kernel
theorem dX4_isWithin_10 : decode cX4_isWithin 10 = .ok (.iconst 1, 1) := by decide +kernel
theorem dX4_isWithin_11 : decode cX4_isWithin 11 = .ok (.goto 4, 3) := by decide +kernel
theorem dX4_isWithin_14 : decode cX4_isWithin 14 = .ok (.iconst 0, 1) := by decide +kernel
theorem dX4_isWithin_15 : decode cX4_isWithin 15 = .ok (.ireturn, 1) := by decide +kernel
theorem dX4_isHouse_0 : decode cX4_isHouse 0 = .ok (.iload_n 1, 1) := by decide +kernel
theorem dX4_isHouse_1 : decode cX4_isHouse 1 = .ok (.ifCond .lt 15, 3) := by decide +kernel
theorem dX4_isHouse_4 : decode cX4_isHouse 4 = .ok (.iload_n 1, 1) := by decide +kernel
theorem dX4_isHouse_5 : decode cX4_isHouse 5 = .ok (.aload_n 0, 1) := by decide +kernel
theorem dX4_isHouse_6 : decode cX4_isHouse 6 = .ok (.getfield 54, 3) := by decide +kernel
theorem dX4_isHouse_9 : decode cX4_isHouse 9 = .ok (.if_icmp .ge 7, 3) := by decide +kernel
theorem dX4_isHouse_16 : decode cX4_isHouse 16 = .ok (.iconst 0, 1) := by decide +kernel
theorem dX4_isHouse_17 : decode cX4_isHouse 17 = .ok (.ireturn, 1) := by decide +kernel
theorem dX4_isBook_0 : decode cX4_isBook 0 = .ok (.iload_n 1, 1) := by decide +kernel
theorem dX4_isBook_1 : decode cX4_isBook 1 = .ok (.ifCond .lt 15, 3) := by decide +kernel
theorem dX4_isBook_4 : decode cX4_isBook 4 = .ok (.iload_n 1, 1) := by decide +kernel
theorem dX4_isBook_5 : decode cX4_isBook 5 = .ok (.aload_n 0, 1) := by decide +kernel
theorem dX4_isBook_6 : decode cX4_isBook 6 = .ok (.getfield 85, 3) := by decide +kernel
theorem dX4_isBook_9 : decode cX4_isBook 9 = .ok (.if_icmp .ge 7, 3) := by decide +kernel
theorem dX4_isBook_16 : decode cX4_isBook 16 = .ok (.iconst 0, 1) := by decide +kernel
theorem dX4_isBook_17 : decode cX4_isBook 17 = .ok (.ireturn, 1) := by decide +kernel
theorem dX4_isJudge_0 : decode cX4_isJudge 0 = .ok (.iload_n 1, 1) := by decide +kernel
theorem dX4_isJudge_1 : decode cX4_isJudge 1 = .ok (.ifCond .lt 15, 3) := by decide +kernel
theorem dX4_isJudge_4 : decode cX4_isJudge 4 = .ok (.iload_n 1, 1) := by decide +kernel
theorem dX4_isJudge_5 : decode cX4_isJudge 5 = .ok (.aload_n 0, 1) := by decide +kernel
theorem dX4_isJudge_6 : decode cX4_isJudge 6 = .ok (.getfield 102, 3) := by decide +kernel
theorem dX4_isJudge_9 : decode cX4_isJudge 9 = .ok (.if_icmp .ge 7, 3) := by decide +kernel
theorem dX4_isJudge_16 : decode cX4_isJudge 16 = .ok (.iconst 0, 1) := by decide +kernel
theorem dX4_isJudge_17 : decode cX4_isJudge 17 = .ok (.ireturn, 1) := by decide +kernel
theorem dX4_enteredCount_0 : decode cX4_enteredCount 0 = .ok (.iconst 0, 1) := by decide +kernel
theorem dX4_enteredCount_1 : decode cX4_enteredCount 1 = .ok (.istore_n 1, 1) := by decide +kernel
theorem dX4_enteredCount_2 : decode cX4_enteredCount 2 = .ok (.iconst 0, 1) := by decide +kernel
theorem dX4_enteredCount_3 : decode cX4_enteredCount 3 = .ok (.istore_n 2, 1) := by decide +kernel
theorem dX4_enteredCount_4 : decode cX4_enteredCount 4 = .ok (.iload_n 2, 1) := by decide +kernel
theorem dX4_enteredCount_5 : decode cX4_enteredCount 5 = .ok (.aload_n 0, 1) := by decide +kernel
theorem dX4_enteredCount_6 : decode cX4_enteredCount 6 = .ok (.getfield 85, 3) := by decide +kernel
theorem dX4_enteredCount_9 : decode cX4_enteredCount 9 = .ok (.if_icmp .ge 20, 3) := by decide +kernel
theorem dX4_enteredCount_29 : decode cX4_enteredCount 29 = .ok (.iload_n 1, 1) := by decide +kernel
theorem dX4_enteredCount_30 : decode cX4_enteredCount 30 = .ok (.ireturn, 1) := by decide +kernel
theorem dX4_readForDay_0 : decode cX4_readForDay 0 = .ok (.iconst 0, 1) := by decide +kernel
theorem dX4_readForDay_1 : decode cX4_readForDay 1 = .ok (.istore_n 1, 1) := by decide +kernel
theorem dX4_readForDay_2 : decode cX4_readForDay 2 = .ok (.aload_n 0, 1) := by decide +kernel
theorem dX4_readForDay_3 : decode cX4_readForDay 3 = .ok (.getfield 37, 3) := by decide +kernel
theorem dX4_readForDay_6 : decode cX4_readForDay 6 = .ok (.iconst 1, 1) := by decide +kernel
theorem dX4_readForDay_7 : decode cX4_readForDay 7 = .ok (.if_icmp .ne 35, 3) := by decide +kernel
theorem dX4_readForDay_42 : decode cX4_readForDay 42 = .ok (.iload_n 1, 1) := by decide +kernel
theorem dX4_readForDay_43 : decode cX4_readForDay 43 = .ok (.ireturn, 1) := by decide +kernel
theorem dX4_sellFor_0 : decode cX4_sellFor 0 = .ok (.iconst 0, 1) := by decide +kernel
theorem dX4_sellFor_1 : decode cX4_sellFor 1 = .ok (.istore_n 2, 1) := by decide +kernel
theorem dX4_sellFor_2 : decode cX4_sellFor 2 = .ok (.iload_n 2, 1) := by decide +kernel
theorem dX4_sellFor_3 : decode cX4_sellFor 3 = .ok (.aload_n 0, 1) := by decide +kernel
theorem dX4_sellFor_4 : decode cX4_sellFor 4 = .ok (.getfield 85, 3) := by decide +kernel
theorem dX4_sellFor_7 : decode cX4_sellFor 7 = .ok (.if_icmp .ge 49, 3) := by decide +kernel
theorem dX4_sellFor_56 : decode cX4_sellFor 56 = .ok (.return_, 1) := by decide +kernel
theorem dX4_soldEver_0 : decode cX4_soldEver 0 = .ok (.iconst 0, 1) := by decide +kernel
theorem dX4_soldEver_1 : decode cX4_soldEver 1 = .ok (.istore_n 1, 1) := by decide +kernel
theorem dX4_soldEver_2 : decode cX4_soldEver 2 = .ok (.iconst 0, 1) := by decide +kernel
theorem dX4_soldEver_3 : decode cX4_soldEver 3 = .ok (.istore_n 2, 1) := by decide +kernel
theorem dX4_soldEver_4 : decode cX4_soldEver 4 = .ok (.iload_n 2, 1) := by decide +kernel
theorem dX4_soldEver_5 : decode cX4_soldEver 5 = .ok (.aload_n 0, 1) := by decide +kernel
theorem dX4_soldEver_6 : decode cX4_soldEver 6 = .ok (.getfield 85, 3) := by decide +kernel
theorem dX4_soldEver_9 : decode cX4_soldEver 9 = .ok (.if_icmp .ge 21, 3) := by decide +kernel
theorem dX4_soldEver_30 : decode cX4_soldEver 30 = .ok (.iload_n 1, 1) := by decide +kernel
theorem dX4_soldEver_31 : decode cX4_soldEver 31 = .ok (.ireturn, 1) := by decide +kernel
theorem dX4_missedEver_0 : decode cX4_missedEver 0 = .ok (.iconst 0, 1) := by decide +kernel
theorem dX4_missedEver_1 : decode cX4_missedEver 1 = .ok (.istore_n 1, 1) := by decide +kernel
theorem dX4_missedEver_2 : decode cX4_missedEver 2 = .ok (.iconst 0, 1) := by decide +kernel
theorem dX4_missedEver_3 : decode cX4_missedEver 3 = .ok (.istore_n 2, 1) := by decide +kernel
theorem dX4_missedEver_4 : decode cX4_missedEver 4 = .ok (.iload_n 2, 1) := by decide +kernel
theorem dX4_missedEver_5 : decode cX4_missedEver 5 = .ok (.aload_n 0, 1) := by decide +kernel
theorem dX4_missedEver_6 : decode cX4_missedEver 6 = .ok (.getfield 85, 3) := by decide +kernel
theorem dX4_missedEver_9 : decode cX4_missedEver 9 = .ok (.if_icmp .ge 21, 3) := by decide +kernel
theorem dX4_missedEver_30 : decode cX4_missedEver 30 = .ok (.iload_n 1, 1) := by decide +kernel
theorem dX4_missedEver_31 : decode cX4_missedEver 31 = .ok (.ireturn, 1) := by decide +kernel
