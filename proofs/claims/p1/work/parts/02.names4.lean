theorem dX4_winnerWithout_0 : decode cX4_winnerWithout 0 = .ok (.aload_n 0, 1) := by decide +kernel
theorem dX4_winnerWithout_1 : decode cX4_winnerWithout 1 = .ok (.getfield 246, 3) := by decide +kernel
theorem dX4_winnerWithout_4 : decode cX4_winnerWithout 4 = .ok (.aload_n 0, 1) := by decide +kernel
theorem dX4_winnerWithout_5 : decode cX4_winnerWithout 5 = .ok (.getfield 273, 3) := by decide +kernel
theorem dX4_winnerWithout_8 : decode cX4_winnerWithout 8 = .ok (.iconst (-1), 1) := by decide +kernel
theorem dX4_winnerWithout_9 : decode cX4_winnerWithout 9 = .ok (.ixor, 1) := by decide +kernel
theorem dX4_winnerWithout_10 : decode cX4_winnerWithout 10 = .ok (.iand, 1) := by decide +kernel
theorem dX4_winnerWithout_11 : decode cX4_winnerWithout 11 = .ok (.iload_n 1, 1) := by decide +kernel
theorem dX4_winnerWithout_12 : decode cX4_winnerWithout 12 = .ok (.iconst (-1), 1) := by decide +kernel
theorem dX4_winnerWithout_13 : decode cX4_winnerWithout 13 = .ok (.ixor, 1) := by decide +kernel
theorem dX4_winnerWithout_14 : decode cX4_winnerWithout 14 = .ok (.iand, 1) := by decide +kernel
theorem dX4_winnerWithout_15 : decode cX4_winnerWithout 15 = .ok (.istore_n 3, 1) := by decide +kernel
theorem dX4_winnerWithout_16 : decode cX4_winnerWithout 16 = .ok (.iconst (-1), 1) := by decide +kernel
theorem dX4_winnerWithout_17 : decode cX4_winnerWithout 17 = .ok (.istore 4, 2) := by decide +kernel
theorem dX4_winnerWithout_19 : decode cX4_winnerWithout 19 = .ok (.iconst 0, 1) := by decide +kernel
theorem dX4_winnerWithout_20 : decode cX4_winnerWithout 20 = .ok (.istore 5, 2) := by decide +kernel
theorem dX4_winnerWithout_22 : decode cX4_winnerWithout 22 = .ok (.iload 5, 2) := by decide +kernel
theorem dX4_winnerWithout_24 : decode cX4_winnerWithout 24 = .ok (.bipush 16, 2) := by decide +kernel
theorem dX4_winnerWithout_26 : decode cX4_winnerWithout 26 = .ok (.if_icmp .ge 56, 3) := by decide +kernel
theorem dX4_winnerWithout_29 : decode cX4_winnerWithout 29 = .ok (.iload_n 3, 1) := by decide +kernel
theorem dX4_winnerWithout_30 : decode cX4_winnerWithout 30 = .ok (.ifCond .eq 52, 3) := by decide +kernel
theorem dX4_winnerWithout_82 : decode cX4_winnerWithout 82 = .ok (.iload 4, 2) := by decide +kernel
theorem dX4_winnerWithout_84 : decode cX4_winnerWithout 84 = .ok (.ireturn, 1) := by decide +kernel
set_option maxRecDepth 20000 in
theorem ggX5_init_Jx4a65c_init_da8c8 : GoodIn wsX5_init wsJx4a65c_init_da8c8 := goodIn_r _ [21, 22, 23, 24, 25, 26, 27, 28, 29, 30, 31, 32, 33, 2, 3, 80, 81, 82] (by decide +kernel) (by decide +kernel)
set_option maxRecDepth 20000 in
theorem gX5_init_Jx4a65c_init_da8c8 : GoodIn wsX5_init (wsJx4a65c_init_da8c8) := ggX5_init_Jx4a65c_init_da8c8
set_option maxRecDepth 20000 in
theorem ggX5_init_X5_clear : GoodIn wsX5_init wsX5_clear := goodIn_r _ [38, 15, 16, 13, 39, 9, 40, 7, 41, 42, 43, 17, 44, 45, 46, 6, 47, 48, 49, 50, 51, 52, 53, 54, 55, 2, 3, 56, 57, 58, 59, 60, 61, 62, 63, 64, 65, 66, 67, 68, 69, 70, 71, 72, 73, 74, 75, 76, 77, 78, 23, 79, 83, 84, 85, 86, 87, 88, 89, 90, 91, 92, 93, 94, 95, 96, 97, 98, 99, 100, 101, 102, 103, 104, 105, 106, 80, 81, 82] (by decide +kernel) (by decide +kernel)
set_option maxRecDepth 20000 in
theorem gX5_init_X5_clear : GoodIn wsX5_init (wsV RX5 47 RX5 yX5_clear wsX5_clear) := goodIn_app (goodIn_of _ (by decide +kernel)) ggX5_init_X5_clear
theorem dX5_init_0 : decode cX5_init 0 = .ok (.aload_n 0, 1) := by decide +kernel
theorem dX5_init_1 : decode cX5_init 1 = .ok (.invokespecial 1, 3) := by decide +kernel
theorem dX5_init_4 : decode cX5_init 4 = .ok (.aload_n 0, 1) := by decide +kernel
theorem dX5_init_5 : decode cX5_init 5 = .ok (.new 7, 3) := by decide +kernel
theorem dX5_init_8 : decode cX5_init 8 = .ok (.dup, 1) := by decide +kernel
theorem dX5_init_9 : decode cX5_init 9 = .ok (.invokespecial 9, 3) := by decide +kernel
theorem dX5_init_12 : decode cX5_init 12 = .ok (.putfield 10, 3) := by decide +kernel
theorem dX5_init_15 : decode cX5_init 15 = .ok (.aload_n 0, 1) := by decide +kernel
theorem dX5_init_16 : decode cX5_init 16 = .ok (.new 7, 3) := by decide +kernel
theorem dX5_init_19 : decode cX5_init 19 = .ok (.dup, 1) := by decide +kernel
theorem dX5_init_20 : decode cX5_init 20 = .ok (.invokespecial 9, 3) := by decide +kernel
theorem dX5_init_23 : decode cX5_init 23 = .ok (.putfield 16, 3) := by decide +kernel
theorem dX5_init_26 : decode cX5_init 26 = .ok (.aload_n 0, 1) := by decide +kernel
theorem dX5_init_27 : decode cX5_init 27 = .ok (.new 7, 3) := by decide +kernel
theorem dX5_init_30 : decode cX5_init 30 = .ok (.dup, 1) := by decide +kernel
theorem dX5_init_31 : decode cX5_init 31 = .ok (.invokespecial 9, 3) := by decide +kernel
theorem dX5_init_34 : decode cX5_init 34 = .ok (.putfield 19, 3) := by decide +kernel
theorem dX5_init_37 : decode cX5_init 37 = .ok (.aload_n 0, 1) := by decide +kernel
theorem dX5_init_38 : decode cX5_init 38 = .ok (.iconst 4, 1) := by decide +kernel
theorem dX5_init_39 : decode cX5_init 39 = .ok (.newarray .int, 2) := by decide +kernel
theorem dX5_init_41 : decode cX5_init 41 = .ok (.dup, 1) := by decide +kernel
theorem dX5_init_42 : decode cX5_init 42 = .ok (.iconst 0, 1) := by decide +kernel
theorem dX5_init_43 : decode cX5_init 43 = .ok (.bipush 7, 2) := by decide +kernel
theorem dX5_init_45 : decode cX5_init 45 = .ok (.iastore, 1) := by decide +kernel
theorem dX5_init_46 : decode cX5_init 46 = .ok (.dup, 1) := by decide +kernel
theorem dX5_init_47 : decode cX5_init 47 = .ok (.iconst 1, 1) := by decide +kernel
theorem dX5_init_48 : decode cX5_init 48 = .ok (.bipush 100, 2) := by decide +kernel
theorem dX5_init_50 : decode cX5_init 50 = .ok (.iastore, 1) := by decide +kernel
theorem dX5_init_51 : decode cX5_init 51 = .ok (.dup, 1) := by decide +kernel
theorem dX5_init_52 : decode cX5_init 52 = .ok (.iconst 2, 1) := by decide +kernel
theorem dX5_init_53 : decode cX5_init 53 = .ok (.sipush 800, 3) := by decide +kernel
theorem dX5_init_56 : decode cX5_init 56 = .ok (.iastore, 1) := by decide +kernel
theorem dX5_init_57 : decode cX5_init 57 = .ok (.dup, 1) := by decide +kernel
theorem dX5_init_58 : decode cX5_init 58 = .ok (.iconst 3, 1) := by decide +kernel
theorem dX5_init_59 : decode cX5_init 59 = .ok (.bipush 10, 2) := by decide +kernel
theorem dX5_init_61 : decode cX5_init 61 = .ok (.iastore, 1) := by decide +kernel
theorem dX5_init_62 : decode cX5_init 62 = .ok (.putfield 22, 3) := by decide +kernel
theorem dX5_init_65 : decode cX5_init 65 = .ok (.aload_n 0, 1) := by decide +kernel
theorem dX5_init_66 : decode cX5_init 66 = .ok (.iconst 4, 1) := by decide +kernel
theorem dX5_init_67 : decode cX5_init 67 = .ok (.newarray .int, 2) := by decide +kernel
theorem dX5_init_69 : decode cX5_init 69 = .ok (.dup, 1) := by decide +kernel
theorem dX5_init_70 : decode cX5_init 70 = .ok (.iconst 0, 1) := by decide +kernel
theorem dX5_init_71 : decode cX5_init 71 = .ok (.bipush 7, 2) := by decide +kernel
theorem dX5_init_73 : decode cX5_init 73 = .ok (.iastore, 1) := by decide +kernel
theorem dX5_init_74 : decode cX5_init 74 = .ok (.dup, 1) := by decide +kernel
theorem dX5_init_75 : decode cX5_init 75 = .ok (.iconst 1, 1) := by decide +kernel
theorem dX5_init_76 : decode cX5_init 76 = .ok (.bipush 100, 2) := by decide +kernel
theorem dX5_init_78 : decode cX5_init 78 = .ok (.iastore, 1) := by decide +kernel
theorem dX5_init_79 : decode cX5_init 79 = .ok (.dup, 1) := by decide +kernel
theorem dX5_init_80 : decode cX5_init 80 = .ok (.iconst 2, 1) := by decide +kernel
theorem dX5_init_81 : decode cX5_init 81 = .ok (.sipush 800, 3) := by decide +kernel
theorem dX5_init_84 : decode cX5_init 84 = .ok (.iastore, 1) := by decide +kernel
theorem dX5_init_85 : decode cX5_init 85 = .ok (.dup, 1) := by decide +kernel
theorem dX5_init_86 : decode cX5_init 86 = .ok (.iconst 3, 1) := by decide +kernel
theorem dX5_init_87 : decode cX5_init 87 = .ok (.bipush 10, 2) := by decide +kernel
theorem dX5_init_89 : decode cX5_init 89 = .ok (.iastore, 1) := by decide +kernel
theorem dX5_init_90 : decode cX5_init 90 = .ok (.putfield 26, 3) := by decide +kernel
theorem dX5_init_93 : decode cX5_init 93 = .ok (.aload_n 0, 1) := by decide +kernel
theorem dX5_init_94 : decode cX5_init 94 = .ok (.new 7, 3) := by decide +kernel
theorem dX5_init_97 : decode cX5_init 97 = .ok (.dup, 1) := by decide +kernel
theorem dX5_init_98 : decode cX5_init 98 = .ok (.invokespecial 9, 3) := by decide +kernel
theorem dX5_init_101 : decode cX5_init 101 = .ok (.putfield 29, 3) := by decide +kernel
theorem dX5_init_104 : decode cX5_init 104 = .ok (.aload_n 0, 1) := by decide +kernel
theorem dX5_init_105 : decode cX5_init 105 = .ok (.iconst 5, 1) := by decide +kernel
theorem dX5_init_106 : decode cX5_init 106 = .ok (.bipush 16, 2) := by decide +kernel
theorem dX5_init_108 : decode cX5_init 108 = .ok (.multianewarray 32 2, 4) := by decide +kernel
theorem dX5_init_112 : decode cX5_init 112 = .ok (.putfield 34, 3) := by decide +kernel
theorem dX5_init_115 : decode cX5_init 115 = .ok (.aload_n 0, 1) := by decide +kernel
theorem dX5_init_116 : decode cX5_init 116 = .ok (.iconst 5, 1) := by decide +kernel
theorem dX5_init_117 : decode cX5_init 117 = .ok (.bipush 16, 2) := by decide +kernel
theorem dX5_init_119 : decode cX5_init 119 = .ok (.multianewarray 32 2, 4) := by decide +kernel
theorem dX5_init_123 : decode cX5_init 123 = .ok (.putfield 37, 3) := by decide +kernel
theorem dX5_init_126 : decode cX5_init 126 = .ok (.aload_n 0, 1) := by decide +kernel
theorem dX5_init_127 : decode cX5_init 127 = .ok (.iconst (-1), 1) := by decide +kernel
theorem dX5_init_128 : decode cX5_init 128 = .ok (.putfield 40, 3) := by decide +kernel
theorem dX5_init_131 : decode cX5_init 131 = .ok (.aload_n 0, 1) := by decide +kernel
theorem dX5_init_132 : decode cX5_init 132 = .ok (.iconst (-1), 1) := by decide +kernel
theorem dX5_init_133 : decode cX5_init 133 = .ok (.putfield 44, 3) := by decide +kernel
theorem dX5_init_136 : decode cX5_init 136 = .ok (.aload_n 0, 1) := by decide +kernel
theorem dX5_init_137 : decode cX5_init 137 = .ok (.invokevirtual 47, 3) := by decide +kernel
theorem dX5_init_140 : decode cX5_init 140 = .ok (.return_, 1) := by decide +kernel
theorem dX5_thrown_0 : decode cX5_thrown 0 = .ok (.aload_n 0, 1) := by decide +kernel
theorem dX5_thrown_1 : decode cX5_thrown 1 = .ok (.getfield 50, 3) := by decide +kernel
theorem dX5_thrown_4 : decode cX5_thrown 4 = .ok (.ireturn, 1) := by decide +kernel
theorem dX5_refuse_0 : decode cX5_refuse 0 = .ok (.aload_n 0, 1) := by decide +kernel
theorem dX5_refuse_1 : decode cX5_refuse 1 = .ok (.iload_n 1, 1) := by decide +kernel
theorem dX5_refuse_2 : decode cX5_refuse 2 = .ok (.putfield 50, 3) := by decide +kernel
theorem dX5_refuse_5 : decode cX5_refuse 5 = .ok (.iconst 0, 1) := by decide +kernel
theorem dX5_refuse_6 : decode cX5_refuse 6 = .ok (.ireturn, 1) := by decide +kernel
theorem dX5_is_0 : decode cX5_is 0 = .ok (.iload_n 0, 1) := by decide +kernel
theorem dX5_is_1 : decode cX5_is 1 = .ok (.iload_n 1, 1) := by decide +kernel
theorem dX5_is_2 : decode cX5_is 2 = .ok (.if_icmp .lt 12, 3) := by decide +kernel
theorem dX5_is_5 : decode cX5_is 5 = .ok (.iload_n 0, 1) := by decide +kernel
theorem dX5_is_6 : decode cX5_is 6 = .ok (.iload_n 2, 1) := by decide +kernel
theorem dX5_is_7 : decode cX5_is 7 = .ok (.if_icmp .gt 7, 3) := by decide +kernel
theorem dX5_is_10 : decode cX5_is 10 = .ok (.iconst 1, 1) := by decide +kernel
theorem dX5_is_11 : decode cX5_is 11 = .ok (.goto 4, 3) := by decide +kernel
theorem dX5_is_14 : decode cX5_is 14 = .ok (.iconst 0, 1) := by decide +kernel
theorem dX5_is_15 : decode cX5_is 15 = .ok (.ireturn, 1) := by decide +kernel
set_option maxRecDepth 20000 in
theorem ggX5_isHouse_Jx4a65c_size_8abf5 : GoodIn wsX5_isHouse wsJx4a65c_size_8abf5 := goodIn_r _ [6, 7, 32, 33, 34] (by decide +kernel) (by decide +kernel)
set_option maxRecDepth 20000 in
theorem gX5_isHouse_Jx4a65c_size_8abf5 : GoodIn wsX5_isHouse (wsV RX5 53 RJx4a65c yJx4a65c_size_8abf5 wsJx4a65c_size_8abf5) := goodIn_app (goodIn_of _ (by decide +kernel)) ggX5_isHouse_Jx4a65c_size_8abf5
set_option maxRecDepth 20000 in
theorem ggX5_isHouse_X5_is : GoodIn wsX5_isHouse wsX5_is := goodIn_r _ [11] (by decide +kernel) (by decide +kernel)
set_option maxRecDepth 20000 in
theorem gX5_isHouse_X5_is : GoodIn wsX5_isHouse (va_wsS RX5 57 yX5_is wsX5_is) := goodIn_app (goodIn_of _ (by decide +kernel)) ggX5_isHouse_X5_is
theorem dX5_isHouse_0 : decode cX5_isHouse 0 = .ok (.iload_n 1, 1) := by decide +kernel
theorem dX5_isHouse_1 : decode cX5_isHouse 1 = .ok (.iconst 0, 1) := by decide +kernel
theorem dX5_isHouse_2 : decode cX5_isHouse 2 = .ok (.aload_n 0, 1) := by decide +kernel
theorem dX5_isHouse_3 : decode cX5_isHouse 3 = .ok (.getfield 10, 3) := by decide +kernel
theorem dX5_isHouse_6 : decode cX5_isHouse 6 = .ok (.invokevirtual 53, 3) := by decide +kernel
theorem dX5_isHouse_9 : decode cX5_isHouse 9 = .ok (.iconst 1, 1) := by decide +kernel
theorem dX5_isHouse_10 : decode cX5_isHouse 10 = .ok (.isub, 1) := by decide +kernel
theorem dX5_isHouse_11 : decode cX5_isHouse 11 = .ok (.invokestatic 57, 3) := by decide +kernel
theorem dX5_isHouse_14 : decode cX5_isHouse 14 = .ok (.ireturn, 1) := by decide +kernel
set_option maxRecDepth 20000 in
theorem ggX5_isBook_Jx4a65c_size_8abf5 : GoodIn wsX5_isBook wsJx4a65c_size_8abf5 := goodIn_r _ [6, 7, 32, 33, 34] (by decide +kernel) (by decide +kernel)
set_option maxRecDepth 20000 in
theorem gX5_isBook_Jx4a65c_size_8abf5 : GoodIn wsX5_isBook (wsV RX5 53 RJx4a65c yJx4a65c_size_8abf5 wsJx4a65c_size_8abf5) := goodIn_app (goodIn_of _ (by decide +kernel)) ggX5_isBook_Jx4a65c_size_8abf5
set_option maxRecDepth 20000 in
theorem ggX5_isBook_X5_is : GoodIn wsX5_isBook wsX5_is := goodIn_r _ [11] (by decide +kernel) (by decide +kernel)
set_option maxRecDepth 20000 in
theorem gX5_isBook_X5_is : GoodIn wsX5_isBook (va_wsS RX5 57 yX5_is wsX5_is) := goodIn_app (goodIn_of _ (by decide +kernel)) ggX5_isBook_X5_is
theorem dX5_isBook_0 : decode cX5_isBook 0 = .ok (.iload_n 1, 1) := by decide +kernel
theorem dX5_isBook_1 : decode cX5_isBook 1 = .ok (.iconst 0, 1) := by decide +kernel
theorem dX5_isBook_2 : decode cX5_isBook 2 = .ok (.aload_n 0, 1) := by decide +kernel
theorem dX5_isBook_3 : decode cX5_isBook 3 = .ok (.getfield 16, 3) := by decide +kernel
theorem dX5_isBook_6 : decode cX5_isBook 6 = .ok (.invokevirtual 53, 3) := by decide +kernel
theorem dX5_isBook_9 : decode cX5_isBook 9 = .ok (.iconst 1, 1) := by decide +kernel
theorem dX5_isBook_10 : decode cX5_isBook 10 = .ok (.isub, 1) := by decide +kernel
theorem dX5_isBook_11 : decode cX5_isBook 11 = .ok (.invokestatic 57, 3) := by decide +kernel
theorem dX5_isBook_14 : decode cX5_isBook 14 = .ok (.ireturn, 1) := by decide +kernel
set_option maxRecDepth 20000 in
theorem ggX5_isJudge_Jx4a65c_size_8abf5 : GoodIn wsX5_isJudge wsJx4a65c_size_8abf5 := goodIn_r _ [6, 7, 32, 33, 34] (by decide +kernel) (by decide +kernel)
set_option maxRecDepth 20000 in
theorem gX5_isJudge_Jx4a65c_size_8abf5 : GoodIn wsX5_isJudge (wsV RX5 53 RJx4a65c yJx4a65c_size_8abf5 wsJx4a65c_size_8abf5) := goodIn_app (goodIn_of _ (by decide +kernel)) ggX5_isJudge_Jx4a65c_size_8abf5
set_option maxRecDepth 20000 in
theorem ggX5_isJudge_X5_is : GoodIn wsX5_isJudge wsX5_is := goodIn_r _ [11] (by decide +kernel) (by decide +kernel)
set_option maxRecDepth 20000 in
theorem gX5_isJudge_X5_is : GoodIn wsX5_isJudge (va_wsS RX5 57 yX5_is wsX5_is) := goodIn_app (goodIn_of _ (by decide +kernel)) ggX5_isJudge_X5_is
theorem dX5_isJudge_0 : decode cX5_isJudge 0 = .ok (.iload_n 1, 1) := by decide +kernel
theorem dX5_isJudge_1 : decode cX5_isJudge 1 = .ok (.iconst 0, 1) := by decide +kernel
theorem dX5_isJudge_2 : decode cX5_isJudge 2 = .ok (.aload_n 0, 1) := by decide +kernel
theorem dX5_isJudge_3 : decode cX5_isJudge 3 = .ok (.getfield 19, 3) := by decide +kernel
theorem dX5_isJudge_6 : decode cX5_isJudge 6 = .ok (.invokevirtual 53, 3) := by decide +kernel
theorem dX5_isJudge_9 : decode cX5_isJudge 9 = .ok (.iconst 1, 1) := by decide +kernel
theorem dX5_isJudge_10 : decode cX5_isJudge 10 = .ok (.isub, 1) := by decide +kernel
theorem dX5_isJudge_11 : decode cX5_isJudge 11 = .ok (.invokestatic 57, 3) := by decide +kernel
theorem dX5_isJudge_14 : decode cX5_isJudge 14 = .ok (.ireturn, 1) := by decide +kernel
set_option maxRecDepth 20000 in
theorem ggX5_clear_Jx4a65c_iterator_32c93 : GoodIn wsX5_clear wsJx4a65c_iterator_32c93 := goodIn_r _ [16, 17, 18, 19, 20, 21, 22, 23, 24, 25, 26, 27, 28, 29, 30, 72, 73, 74, 75, 76, 77, 78] (by decide +kernel) (by decide +kernel)
set_option maxRecDepth 20000 in
theorem gX5_clear_Jx4a65c_iterator_32c93 : GoodIn wsX5_clear (wsV RX5 61 RJx4a65c yJx4a65c_iterator_32c93 wsJx4a65c_iterator_32c93) := goodIn_app (goodIn_of _ (by decide +kernel)) ggX5_clear_Jx4a65c_iterator_32c93
set_option maxRecDepth 20000 in
theorem ggX5_clear_Jx35411_hasNext_aae02 : GoodIn wsX5_clear wsJx35411_hasNext_aae02 := goodIn_r _ [34, 35, 23, 72, 73, 74, 75, 76, 77, 78] (by decide +kernel) (by decide +kernel)
set_option maxRecDepth 20000 in
theorem gX5_clear_Jx35411_hasNext_aae02_f65Jx35411 : GoodIn wsX5_clear (va_wsF RX5 65 RJx35411 ⟨"java/util/Iterator", "hasNext", "()Z"⟩ yJx35411_hasNext_aae02 wsJx35411_hasNext_aae02) := goodIn_app (goodIn_of _ (by decide +kernel)) ggX5_clear_Jx35411_hasNext_aae02
theorem dX5_clear_0 : decode cX5_clear 0 = .ok (.iconst 0, 1) := by decide +kernel
theorem dX5_clear_1 : decode cX5_clear 1 = .ok (.istore_n 1, 1) := by decide +kernel
theorem dX5_clear_2 : decode cX5_clear 2 = .ok (.iload_n 1, 1) := by decide +kernel
theorem dX5_clear_3 : decode cX5_clear 3 = .ok (.iconst 5, 1) := by decide +kernel
theorem dX5_clear_4 : decode cX5_clear 4 = .ok (.if_icmp .ge 41, 3) := by decide +kernel
theorem dX5_clear_7 : decode cX5_clear 7 = .ok (.iconst 0, 1) := by decide +kernel
theorem dX5_clear_8 : decode cX5_clear 8 = .ok (.istore_n 2, 1) := by decide +kernel
theorem dX5_clear_9 : decode cX5_clear 9 = .ok (.iload_n 2, 1) := by decide +kernel
theorem dX5_clear_10 : decode cX5_clear 10 = .ok (.bipush 16, 2) := by decide +kernel
theorem dX5_clear_12 : decode cX5_clear 12 = .ok (.if_icmp .ge 27, 3) := by decide +kernel
theorem dX5_clear_15 : decode cX5_clear 15 = .ok (.aload_n 0, 1) := by decide +kernel
theorem dX5_clear_16 : decode cX5_clear 16 = .ok (.getfield 34, 3) := by decide +kernel
theorem dX5_clear_19 : decode cX5_clear 19 = .ok (.iload_n 1, 1) := by decide +kernel
theorem dX5_clear_20 : decode cX5_clear 20 = .ok (.aaload, 1) := by decide +kernel
theorem dX5_clear_21 : decode cX5_clear 21 = .ok (.iload_n 2, 1) := by decide +kernel
theorem dX5_clear_22 : decode cX5_clear 22 = .ok (.iconst (-1), 1) := by decide +kernel
theorem dX5_clear_23 : decode cX5_clear 23 = .ok (.iastore, 1) := by decide +kernel
theorem dX5_clear_24 : decode cX5_clear 24 = .ok (.aload_n 0, 1) := by decide +kernel
theorem dX5_clear_25 : decode cX5_clear 25 = .ok (.getfield 37, 3) := by decide +kernel
theorem dX5_clear_28 : decode cX5_clear 28 = .ok (.iload_n 1, 1) := by decide +kernel
theorem dX5_clear_29 : decode cX5_clear 29 = .ok (.aaload, 1) := by decide +kernel
theorem dX5_clear_30 : decode cX5_clear 30 = .ok (.iload_n 2, 1) := by decide +kernel
theorem dX5_clear_31 : decode cX5_clear 31 = .ok (.iconst 0, 1) := by decide +kernel
theorem dX5_clear_32 : decode cX5_clear 32 = .ok (.iastore, 1) := by decide +kernel
theorem dX5_clear_33 : decode cX5_clear 33 = .ok (.iinc 2 1, 3) := by decide +kernel
theorem dX5_clear_36 : decode cX5_clear 36 = .ok (.goto (-27), 3) := by decide +kernel
theorem dX5_clear_39 : decode cX5_clear 39 = .ok (.iinc 1 1, 3) := by decide +kernel
theorem dX5_clear_42 : decode cX5_clear 42 = .ok (.goto (-40), 3) := by decide +kernel
theorem dX5_clear_45 : decode cX5_clear 45 = .ok (.aload_n 0, 1) := by decide +kernel
theorem dX5_clear_46 : decode cX5_clear 46 = .ok (.getfield 29, 3) := by decide +kernel
theorem dX5_clear_49 : decode cX5_clear 49 = .ok (.invokevirtual 61, 3) := by decide +kernel
theorem dX5_clear_52 : decode cX5_clear 52 = .ok (.astore_n 1, 1) := by decide +kernel
theorem dX5_clear_53 : decode cX5_clear 53 = .ok (.aload_n 1, 1) := by decide +kernel
theorem dX5_clear_54 : decode cX5_clear 54 = .ok (.invokeinterface 65 1, 5) := by decide +kernel
theorem dX5_clear_59 : decode cX5_clear 59 = .ok (.ifCond .eq 20, 3) := by decide +kernel
theorem dX5_clear_79 : decode cX5_clear 79 = .ok (.aload_n 0, 1) := by decide +kernel
theorem dX5_clear_80 : decode cX5_clear 80 = .ok (.getfield 19, 3) := by decide +kernel
theorem dX5_clear_83 : decode cX5_clear 83 = .ok (.invokevirtual 61, 3) := by decide +kernel
theorem dX5_clear_86 : decode cX5_clear 86 = .ok (.astore_n 1, 1) := by decide +kernel
theorem dX5_clear_87 : decode cX5_clear 87 = .ok (.aload_n 1, 1) := by decide +kernel
theorem dX5_clear_88 : decode cX5_clear 88 = .ok (.invokeinterface 65 1, 5) := by decide +kernel
theorem dX5_clear_93 : decode cX5_clear 93 = .ok (.ifCond .eq 29, 3) := by decide +kernel
theorem dX5_clear_122 : decode cX5_clear 122 = .ok (.aload_n 0, 1) := by decide +kernel
theorem dX5_clear_123 : decode cX5_clear 123 = .ok (.getfield 10, 3) := by decide +kernel
theorem dX5_clear_126 : decode cX5_clear 126 = .ok (.invokevirtual 61, 3) := by decide +kernel
theorem dX5_clear_129 : decode cX5_clear 129 = .ok (.astore_n 1, 1) := by decide +kernel
theorem dX5_clear_130 : decode cX5_clear 130 = .ok (.aload_n 1, 1) := by decide +kernel
theorem dX5_clear_131 : decode cX5_clear 131 = .ok (.invokeinterface 65 1, 5) := by decide +kernel
theorem dX5_clear_136 : decode cX5_clear 136 = .ok (.ifCond .eq 20, 3) := by decide +kernel
theorem dX5_clear_156 : decode cX5_clear 156 = .ok (.aload_n 0, 1) := by decide +kernel
theorem dX5_clear_157 : decode cX5_clear 157 = .ok (.iconst 0, 1) := by decide +kernel
theorem dX5_clear_158 : decode cX5_clear 158 = .ok (.putfield 77, 3) := by decide +kernel
theorem dX5_clear_161 : decode cX5_clear 161 = .ok (.aload_n 0, 1) := by decide +kernel
theorem dX5_clear_162 : decode cX5_clear 162 = .ok (.iconst 0, 1) := by decide +kernel
theorem dX5_clear_163 : decode cX5_clear 163 = .ok (.putfield 80, 3) := by decide +kernel
theorem dX5_clear_166 : decode cX5_clear 166 = .ok (.aload_n 0, 1) := by decide +kernel
theorem dX5_clear_167 : decode cX5_clear 167 = .ok (.iconst 0, 1) := by decide +kernel
theorem dX5_clear_168 : decode cX5_clear 168 = .ok (.putfield 83, 3) := by decide +kernel
theorem dX5_clear_171 : decode cX5_clear 171 = .ok (.aload_n 0, 1) := by decide +kernel
theorem dX5_clear_172 : decode cX5_clear 172 = .ok (.iconst (-1), 1) := by decide +kernel
theorem dX5_clear_173 : decode cX5_clear 173 = .ok (.putfield 40, 3) := by decide +kernel
theorem dX5_clear_176 : decode cX5_clear 176 = .ok (.return_, 1) := by decide +kernel
set_option maxRecDepth 20000 in
theorem ggX5_house_Jx4a65c_size_8abf5 : GoodIn wsX5_house wsJx4a65c_size_8abf5 := goodIn_r _ [8, 9, 89, 90, 91] (by decide +kernel) (by decide +kernel)
set_option maxRecDepth 20000 in
theorem gX5_house_Jx4a65c_size_8abf5 : GoodIn wsX5_house (wsV RX5 53 RJx4a65c yJx4a65c_size_8abf5 wsJx4a65c_size_8abf5) := goodIn_app (goodIn_of _ (by decide +kernel)) ggX5_house_Jx4a65c_size_8abf5
set_option maxRecDepth 20000 in
theorem ggX5_house_Jx4a65c_add_9ea2d : GoodIn wsX5_house wsJx4a65c_add_9ea2d := goodIn_r _ [18, 19, 20, 21, 9, 22, 23, 24, 7, 25, 26, 27, 28, 29, 30, 31, 32, 33, 34, 35, 36, 37, 38, 39, 40, 41, 42, 43, 44, 45, 46, 47, 48, 49, 50, 51, 52, 53, 54, 55, 56, 57, 58, 59, 60, 61, 62, 63, 64, 65, 66, 67, 68, 89, 90, 91] (by decide +kernel) (by decide +kernel)
set_option maxRecDepth 20000 in
theorem gX5_house_Jx4a65c_add_9ea2d : GoodIn wsX5_house (wsV RX5 90 RJx4a65c yJx4a65c_add_9ea2d wsJx4a65c_add_9ea2d) := goodIn_app (goodIn_of _ (by decide +kernel)) ggX5_house_Jx4a65c_add_9ea2d
theorem dX5_house_0 : decode cX5_house 0 = .ok (.aload_n 0, 1) := by decide +kernel
theorem dX5_house_1 : decode cX5_house 1 = .ok (.iconst 0, 1) := by decide +kernel
theorem dX5_house_2 : decode cX5_house 2 = .ok (.putfield 50, 3) := by decide +kernel
theorem dX5_house_5 : decode cX5_house 5 = .ok (.aload_n 0, 1) := by decide +kernel
theorem dX5_house_6 : decode cX5_house 6 = .ok (.getfield 10, 3) := by decide +kernel
theorem dX5_house_9 : decode cX5_house 9 = .ok (.invokevirtual 53, 3) := by decide +kernel
theorem dX5_house_12 : decode cX5_house 12 = .ok (.iconst 5, 1) := by decide +kernel
theorem dX5_house_13 : decode cX5_house 13 = .ok (.if_icmp .ne 9, 3) := by decide +kernel
theorem dX5_house_22 : decode cX5_house 22 = .ok (.iconst 3, 1) := by decide +kernel
theorem dX5_house_23 : decode cX5_house 23 = .ok (.newarray .int, 2) := by decide +kernel
theorem dX5_house_25 : decode cX5_house 25 = .ok (.dup, 1) := by decide +kernel
theorem dX5_house_26 : decode cX5_house 26 = .ok (.iconst 0, 1) := by decide +kernel
theorem dX5_house_27 : decode cX5_house 27 = .ok (.bipush 100, 2) := by decide +kernel
theorem dX5_house_29 : decode cX5_house 29 = .ok (.iastore, 1) := by decide +kernel
theorem dX5_house_30 : decode cX5_house 30 = .ok (.dup, 1) := by decide +kernel
theorem dX5_house_31 : decode cX5_house 31 = .ok (.iconst 1, 1) := by decide +kernel
theorem dX5_house_32 : decode cX5_house 32 = .ok (.iconst 0, 1) := by decide +kernel
theorem dX5_house_33 : decode cX5_house 33 = .ok (.iastore, 1) := by decide +kernel
theorem dX5_house_34 : decode cX5_house 34 = .ok (.dup, 1) := by decide +kernel
theorem dX5_house_35 : decode cX5_house 35 = .ok (.iconst 2, 1) := by decide +kernel
theorem dX5_house_36 : decode cX5_house 36 = .ok (.iconst 0, 1) := by decide +kernel
theorem dX5_house_37 : decode cX5_house 37 = .ok (.iastore, 1) := by decide +kernel
theorem dX5_house_38 : decode cX5_house 38 = .ok (.astore_n 1, 1) := by decide +kernel
theorem dX5_house_39 : decode cX5_house 39 = .ok (.aload_n 0, 1) := by decide +kernel
theorem dX5_house_40 : decode cX5_house 40 = .ok (.getfield 10, 3) := by decide +kernel
theorem dX5_house_43 : decode cX5_house 43 = .ok (.aload_n 1, 1) := by decide +kernel
theorem dX5_house_44 : decode cX5_house 44 = .ok (.invokevirtual 90, 3) := by decide +kernel
theorem dX5_house_47 : decode cX5_house 47 = .ok (.pop, 1) := by decide +kernel
theorem dX5_house_48 : decode cX5_house 48 = .ok (.aload_n 0, 1) := by decide +kernel
theorem dX5_house_49 : decode cX5_house 49 = .ok (.getfield 10, 3) := by decide +kernel
theorem dX5_house_52 : decode cX5_house 52 = .ok (.invokevirtual 53, 3) := by decide +kernel
theorem dX5_house_55 : decode cX5_house 55 = .ok (.iconst 1, 1) := by decide +kernel
theorem dX5_house_56 : decode cX5_house 56 = .ok (.isub, 1) := by decide +kernel
theorem dX5_house_57 : decode cX5_house 57 = .ok (.ireturn, 1) := by decide +kernel
set_option maxRecDepth 20000 in
theorem ggX5_book_X5_isHouse : GoodIn wsX5_book wsX5_isHouse := goodIn_r _ [9, 10, 11, 12, 13, 14, 15, 16, 17, 18, 8, 19, 78, 79, 80, 81, 82, 83, 84, 85, 86, 87, 88, 89, 90, 91, 92, 93, 94, 95, 96, 97, 98, 99, 100] (by decide +kernel) (by decide +kernel)
set_option maxRecDepth 20000 in
theorem gX5_book_X5_isHouse : GoodIn wsX5_book (wsV RX5 94 RX5 yX5_isHouse wsX5_isHouse) := goodIn_app (goodIn_of _ (by decide +kernel)) ggX5_book_X5_isHouse
set_option maxRecDepth 20000 in
theorem ggX5_book_X5_refuse : GoodIn wsX5_book wsX5_refuse := goodIn_r _ [23, 1, 78, 79, 80, 81, 82, 83, 84, 85, 86, 87, 88, 89, 90, 91, 92, 93, 94, 95, 96, 97] (by decide +kernel) (by decide +kernel)
set_option maxRecDepth 20000 in
theorem gX5_book_X5_refuse : GoodIn wsX5_book (wsV RX5 86 RX5 yX5_refuse wsX5_refuse) := goodIn_app (goodIn_of _ (by decide +kernel)) ggX5_book_X5_refuse
theorem dX5_book_0 : decode cX5_book 0 = .ok (.aload_n 0, 1) := by decide +kernel
theorem dX5_book_1 : decode cX5_book 1 = .ok (.iconst 0, 1) := by decide +kernel
theorem dX5_book_2 : decode cX5_book 2 = .ok (.putfield 50, 3) := by decide +kernel
theorem dX5_book_5 : decode cX5_book 5 = .ok (.aload_n 0, 1) := by decide +kernel
theorem dX5_book_6 : decode cX5_book 6 = .ok (.iload_n 1, 1) := by decide +kernel
theorem dX5_book_7 : decode cX5_book 7 = .ok (.invokevirtual 94, 3) := by decide +kernel
theorem dX5_book_10 : decode cX5_book 10 = .ok (.ifCond .ne 9, 3) := by decide +kernel
theorem dX5_book_13 : decode cX5_book 13 = .ok (.aload_n 0, 1) := by decide +kernel
theorem dX5_book_14 : decode cX5_book 14 = .ok (.iconst 1, 1) := by decide +kernel
theorem dX5_book_15 : decode cX5_book 15 = .ok (.invokevirtual 86, 3) := by decide +kernel
theorem dX5_book_18 : decode cX5_book 18 = .ok (.ireturn, 1) := by decide +kernel
set_option maxRecDepth 20000 in
theorem ggX5_judge_X5_is : GoodIn wsX5_judge wsX5_is := goodIn_r _ [12] (by decide +kernel) (by decide +kernel)
set_option maxRecDepth 20000 in
theorem gX5_judge_X5_is : GoodIn wsX5_judge (va_wsS RX5 57 yX5_is wsX5_is) := goodIn_app (goodIn_of _ (by decide +kernel)) ggX5_judge_X5_is
set_option maxRecDepth 20000 in
theorem ggX5_judge_X5_refuse : GoodIn wsX5_judge wsX5_refuse := goodIn_r _ [16, 1, 91, 92, 93, 94, 95, 96, 97, 98, 99, 100, 101, 102, 103, 104, 105, 106, 107, 108, 109, 110] (by decide +kernel) (by decide +kernel)
set_option maxRecDepth 20000 in
theorem gX5_judge_X5_refuse : GoodIn wsX5_judge (wsV RX5 86 RX5 yX5_refuse wsX5_refuse) := goodIn_app (goodIn_of _ (by decide +kernel)) ggX5_judge_X5_refuse
set_option maxRecDepth 20000 in
theorem ggX5_judge_Jx4a65c_size_8abf5 : GoodIn wsX5_judge wsJx4a65c_size_8abf5 := goodIn_r _ [20, 21, 111, 112, 113] (by decide +kernel) (by decide +kernel)
set_option maxRecDepth 20000 in
theorem gX5_judge_Jx4a65c_size_8abf5 : GoodIn wsX5_judge (wsV RX5 53 RJx4a65c yJx4a65c_size_8abf5 wsJx4a65c_size_8abf5) := goodIn_app (goodIn_of _ (by decide +kernel)) ggX5_judge_Jx4a65c_size_8abf5
set_option maxRecDepth 20000 in
theorem ggX5_judge_Jx4a65c_add_9ea2d : GoodIn wsX5_judge wsJx4a65c_add_9ea2d := goodIn_r _ [25, 26, 27, 28, 21, 29, 30, 31, 8, 32, 33, 34, 35, 36, 37, 38, 39, 40, 41, 42, 43, 44, 45, 46, 47, 48, 49, 50, 51, 52, 53, 54, 55, 56, 57, 58, 59, 60, 61, 62, 63, 64, 65, 66, 67, 68, 69, 70, 71, 72, 73, 74, 75, 111, 112, 113] (by decide +kernel) (by decide +kernel)
set_option maxRecDepth 20000 in
theorem gX5_judge_Jx4a65c_add_9ea2d : GoodIn wsX5_judge (wsV RX5 90 RJx4a65c yJx4a65c_add_9ea2d wsJx4a65c_add_9ea2d) := goodIn_app (goodIn_of _ (by decide +kernel)) ggX5_judge_Jx4a65c_add_9ea2d
set_option maxRecDepth 20000 in
theorem ggX5_judge_Jx4a65c_init_da8c8 : GoodIn wsX5_judge wsJx4a65c_init_da8c8 := goodIn_r _ [78, 41, 28, 79, 80, 81, 82, 83, 84, 85, 86, 87, 88, 89, 90, 111, 112, 113] (by decide +kernel) (by decide +kernel)
set_option maxRecDepth 20000 in
theorem gX5_judge_Jx4a65c_init_da8c8 : GoodIn wsX5_judge (wsJx4a65c_init_da8c8) := ggX5_judge_Jx4a65c_init_da8c8
theorem dX5_judge_0 : decode cX5_judge 0 = .ok (.aload_n 0, 1) := by decide +kernel
theorem dX5_judge_1 : decode cX5_judge 1 = .ok (.iconst 0, 1) := by decide +kernel
theorem dX5_judge_2 : decode cX5_judge 2 = .ok (.putfield 50, 3) := by decide +kernel
theorem dX5_judge_5 : decode cX5_judge 5 = .ok (.iload_n 1, 1) := by decide +kernel
theorem dX5_judge_6 : decode cX5_judge 6 = .ok (.bipush 20, 2) := by decide +kernel
theorem dX5_judge_8 : decode cX5_judge 8 = .ok (.sipush 200, 3) := by decide +kernel
theorem dX5_judge_11 : decode cX5_judge 11 = .ok (.invokestatic 57, 3) := by decide +kernel
theorem dX5_judge_14 : decode cX5_judge 14 = .ok (.ifCond .eq 24, 3) := by decide +kernel
theorem dX5_judge_17 : decode cX5_judge 17 = .ok (.iload_n 2, 1) := by decide +kernel
theorem dX5_judge_18 : decode cX5_judge 18 = .ok (.iconst 0, 1) := by decide +kernel
theorem dX5_judge_19 : decode cX5_judge 19 = .ok (.bipush 9, 2) := by decide +kernel
theorem dX5_judge_21 : decode cX5_judge 21 = .ok (.invokestatic 57, 3) := by decide +kernel
theorem dX5_judge_24 : decode cX5_judge 24 = .ok (.ifCond .eq 14, 3) := by decide +kernel
theorem dX5_judge_27 : decode cX5_judge 27 = .ok (.iload_n 3, 1) := by decide +kernel
theorem dX5_judge_28 : decode cX5_judge 28 = .ok (.bipush (-10), 2) := by decide +kernel
theorem dX5_judge_30 : decode cX5_judge 30 = .ok (.bipush 10, 2) := by decide +kernel
theorem dX5_judge_32 : decode cX5_judge 32 = .ok (.invokestatic 57, 3) := by decide +kernel
theorem dX5_judge_35 : decode cX5_judge 35 = .ok (.ifCond .ne 9, 3) := by decide +kernel
theorem dX5_judge_38 : decode cX5_judge 38 = .ok (.aload_n 0, 1) := by decide +kernel
theorem dX5_judge_39 : decode cX5_judge 39 = .ok (.iconst 1, 1) := by decide +kernel
theorem dX5_judge_40 : decode cX5_judge 40 = .ok (.invokevirtual 86, 3) := by decide +kernel
theorem dX5_judge_43 : decode cX5_judge 43 = .ok (.ireturn, 1) := by decide +kernel
theorem dX5_judge_44 : decode cX5_judge 44 = .ok (.aload_n 0, 1) := by decide +kernel
theorem dX5_judge_45 : decode cX5_judge 45 = .ok (.getfield 19, 3) := by decide +kernel
theorem dX5_judge_48 : decode cX5_judge 48 = .ok (.invokevirtual 53, 3) := by decide +kernel
theorem dX5_judge_51 : decode cX5_judge 51 = .ok (.iconst 5, 1) := by decide +kernel
theorem dX5_judge_52 : decode cX5_judge 52 = .ok (.if_icmp .eq 10, 3) := by decide +kernel
theorem dX5_judge_55 : decode cX5_judge 55 = .ok (.aload_n 0, 1) := by decide +kernel
theorem dX5_judge_56 : decode cX5_judge 56 = .ok (.getfield 101, 3) := by decide +kernel
theorem dX5_judge_59 : decode cX5_judge 59 = .ok (.ifCond .eq 9, 3) := by decide +kernel
theorem dX5_judge_68 : decode cX5_judge 68 = .ok (.bipush 7, 2) := by decide +kernel
theorem dX5_judge_70 : decode cX5_judge 70 = .ok (.newarray .int, 2) := by decide +kernel
theorem dX5_judge_72 : decode cX5_judge 72 = .ok (.dup, 1) := by decide +kernel
theorem dX5_judge_73 : decode cX5_judge 73 = .ok (.iconst 0, 1) := by decide +kernel
theorem dX5_judge_74 : decode cX5_judge 74 = .ok (.iload_n 1, 1) := by decide +kernel
theorem dX5_judge_75 : decode cX5_judge 75 = .ok (.iastore, 1) := by decide +kernel
theorem dX5_judge_76 : decode cX5_judge 76 = .ok (.dup, 1) := by decide +kernel
theorem dX5_judge_77 : decode cX5_judge 77 = .ok (.iconst 1, 1) := by decide +kernel
theorem dX5_judge_78 : decode cX5_judge 78 = .ok (.iload_n 2, 1) := by decide +kernel
theorem dX5_judge_79 : decode cX5_judge 79 = .ok (.iastore, 1) := by decide +kernel
theorem dX5_judge_80 : decode cX5_judge 80 = .ok (.dup, 1) := by decide +kernel
theorem dX5_judge_81 : decode cX5_judge 81 = .ok (.iconst 2, 1) := by decide +kernel
theorem dX5_judge_82 : decode cX5_judge 82 = .ok (.iload_n 3, 1) := by decide +kernel
theorem dX5_judge_83 : decode cX5_judge 83 = .ok (.iastore, 1) := by decide +kernel
theorem dX5_judge_84 : decode cX5_judge 84 = .ok (.dup, 1) := by decide +kernel
theorem dX5_judge_85 : decode cX5_judge 85 = .ok (.iconst 3, 1) := by decide +kernel
theorem dX5_judge_86 : decode cX5_judge 86 = .ok (.iconst 0, 1) := by decide +kernel
theorem dX5_judge_87 : decode cX5_judge 87 = .ok (.iastore, 1) := by decide +kernel
theorem dX5_judge_88 : decode cX5_judge 88 = .ok (.dup, 1) := by decide +kernel
theorem dX5_judge_89 : decode cX5_judge 89 = .ok (.iconst 4, 1) := by decide +kernel
theorem dX5_judge_90 : decode cX5_judge 90 = .ok (.iconst 0, 1) := by decide +kernel
theorem dX5_judge_91 : decode cX5_judge 91 = .ok (.iastore, 1) := by decide +kernel
theorem dX5_judge_92 : decode cX5_judge 92 = .ok (.dup, 1) := by decide +kernel
theorem dX5_judge_93 : decode cX5_judge 93 = .ok (.iconst 5, 1) := by decide +kernel
theorem dX5_judge_94 : decode cX5_judge 94 = .ok (.iconst 0, 1) := by decide +kernel
theorem dX5_judge_95 : decode cX5_judge 95 = .ok (.iastore, 1) := by decide +kernel
theorem dX5_judge_96 : decode cX5_judge 96 = .ok (.dup, 1) := by decide +kernel
theorem dX5_judge_97 : decode cX5_judge 97 = .ok (.bipush 6, 2) := by decide +kernel
theorem dX5_judge_99 : decode cX5_judge 99 = .ok (.iconst 0, 1) := by decide +kernel
theorem dX5_judge_100 : decode cX5_judge 100 = .ok (.iastore, 1) := by decide +kernel
theorem dX5_judge_101 : decode cX5_judge 101 = .ok (.astore 4, 2) := by decide +kernel
theorem dX5_judge_103 : decode cX5_judge 103 = .ok (.aload_n 0, 1) := by decide +kernel
theorem dX5_judge_104 : decode cX5_judge 104 = .ok (.getfield 19, 3) := by decide +kernel
theorem dX5_judge_107 : decode cX5_judge 107 = .ok (.aload 4, 2) := by decide +kernel
theorem dX5_judge_109 : decode cX5_judge 109 = .ok (.invokevirtual 90, 3) := by decide +kernel
theorem dX5_judge_112 : decode cX5_judge 112 = .ok (.pop, 1) := by decide +kernel
theorem dX5_judge_113 : decode cX5_judge 113 = .ok (.aload_n 0, 1) := by decide +kernel
theorem dX5_judge_114 : decode cX5_judge 114 = .ok (.getfield 29, 3) := by decide +kernel
theorem dX5_judge_117 : decode cX5_judge 117 = .ok (.new 7, 3) := by decide +kernel
theorem dX5_judge_120 : decode cX5_judge 120 = .ok (.dup, 1) := by decide +kernel
theorem dX5_judge_121 : decode cX5_judge 121 = .ok (.invokespecial 9, 3) := by decide +kernel
theorem dX5_judge_124 : decode cX5_judge 124 = .ok (.invokevirtual 90, 3) := by decide +kernel
theorem dX5_judge_127 : decode cX5_judge 127 = .ok (.pop, 1) := by decide +kernel
theorem dX5_judge_128 : decode cX5_judge 128 = .ok (.aload_n 0, 1) := by decide +kernel
theorem dX5_judge_129 : decode cX5_judge 129 = .ok (.getfield 19, 3) := by decide +kernel
theorem dX5_judge_132 : decode cX5_judge 132 = .ok (.invokevirtual 53, 3) := by decide +kernel
theorem dX5_judge_135 : decode cX5_judge 135 = .ok (.iconst 1, 1) := by decide +kernel
theorem dX5_judge_136 : decode cX5_judge 136 = .ok (.isub, 1) := by decide +kernel
theorem dX5_judge_137 : decode cX5_judge 137 = .ok (.ireturn, 1) := by decide +kernel
set_option maxRecDepth 20000 in
theorem ggX5_conflict_X5_isJudge : GoodIn wsX5_conflict wsX5_isJudge := goodIn_r _ [8, 2, 9, 10, 11, 12, 13, 14, 15, 16, 7, 17, 46, 47, 48, 49, 50, 51, 52, 53, 54, 55, 56, 57, 58, 59, 60, 61, 62, 63, 64, 65, 66, 67, 68] (by decide +kernel) (by decide +kernel)
set_option maxRecDepth 20000 in
theorem gX5_conflict_X5_isJudge : GoodIn wsX5_conflict (wsV RX5 104 RX5 yX5_isJudge wsX5_isJudge) := goodIn_app (goodIn_of _ (by decide +kernel)) ggX5_conflict_X5_isJudge
set_option maxRecDepth 20000 in
theorem ggX5_conflict_X5_refuse : GoodIn wsX5_conflict wsX5_refuse := goodIn_r _ [21, 1, 46, 47, 48, 49, 50, 51, 52, 53, 54, 55, 56, 57, 58, 59, 60, 61, 62, 63, 64, 65] (by decide +kernel) (by decide +kernel)
set_option maxRecDepth 20000 in
theorem gX5_conflict_X5_refuse : GoodIn wsX5_conflict (wsV RX5 86 RX5 yX5_refuse wsX5_refuse) := goodIn_app (goodIn_of _ (by decide +kernel)) ggX5_conflict_X5_refuse
theorem dX5_conflict_0 : decode cX5_conflict 0 = .ok (.aload_n 0, 1) := by decide +kernel
theorem dX5_conflict_1 : decode cX5_conflict 1 = .ok (.iconst 0, 1) := by decide +kernel
theorem dX5_conflict_2 : decode cX5_conflict 2 = .ok (.putfield 50, 3) := by decide +kernel
theorem dX5_conflict_5 : decode cX5_conflict 5 = .ok (.aload_n 0, 1) := by decide +kernel
theorem dX5_conflict_6 : decode cX5_conflict 6 = .ok (.iload_n 1, 1) := by decide +kernel
theorem dX5_conflict_7 : decode cX5_conflict 7 = .ok (.invokevirtual 104, 3) := by decide +kernel
theorem dX5_conflict_10 : decode cX5_conflict 10 = .ok (.ifCond .ne 9, 3) := by decide +kernel
theorem dX5_conflict_13 : decode cX5_conflict 13 = .ok (.aload_n 0, 1) := by decide +kernel
theorem dX5_conflict_14 : decode cX5_conflict 14 = .ok (.iconst 1, 1) := by decide +kernel
theorem dX5_conflict_15 : decode cX5_conflict 15 = .ok (.invokevirtual 86, 3) := by decide +kernel
theorem dX5_conflict_18 : decode cX5_conflict 18 = .ok (.ireturn, 1) := by decide +kernel
set_option maxRecDepth 20000 in
theorem ggX5_rules_X5_is : GoodIn wsX5_rules wsX5_is := goodIn_r _ [12] (by decide +kernel) (by decide +kernel)
set_option maxRecDepth 20000 in
theorem gX5_rules_X5_is : GoodIn wsX5_rules (va_wsS RX5 57 yX5_is wsX5_is) := goodIn_app (goodIn_of _ (by decide +kernel)) ggX5_rules_X5_is
set_option maxRecDepth 20000 in
theorem ggX5_rules_X5_refuse : GoodIn wsX5_rules wsX5_refuse := goodIn_r _ [16, 1, 17, 18, 19, 20, 21, 22, 23, 24, 25, 26, 27, 28, 29, 30, 31, 32, 33, 34, 35, 36] (by decide +kernel) (by decide +kernel)
set_option maxRecDepth 20000 in
theorem gX5_rules_X5_refuse : GoodIn wsX5_rules (wsV RX5 86 RX5 yX5_refuse wsX5_refuse) := goodIn_app (goodIn_of _ (by decide +kernel)) ggX5_rules_X5_refuse
theorem dX5_rules_0 : decode cX5_rules 0 = .ok (.aload_n 0, 1) := by decide +kernel
theorem dX5_rules_1 : decode cX5_rules 1 = .ok (.iconst 0, 1) := by decide +kernel
theorem dX5_rules_2 : decode cX5_rules 2 = .ok (.putfield 50, 3) := by decide +kernel
theorem dX5_rules_5 : decode cX5_rules 5 = .ok (.iload_n 1, 1) := by decide +kernel
theorem dX5_rules_6 : decode cX5_rules 6 = .ok (.iconst 1, 1) := by decide +kernel
theorem dX5_rules_7 : decode cX5_rules 7 = .ok (.bipush 7, 2) := by decide +kernel
theorem dX5_rules_9 : decode cX5_rules 9 = .ok (.invokestatic 57, 3) := by decide +kernel
theorem dX5_rules_12 : decode cX5_rules 12 = .ok (.ifCond .eq 31, 3) := by decide +kernel
theorem dX5_rules_15 : decode cX5_rules 15 = .ok (.iload_n 2, 1) := by decide +kernel
theorem dX5_rules_16 : decode cX5_rules 16 = .ok (.bipush 50, 2) := by decide +kernel
theorem dX5_rules_18 : decode cX5_rules 18 = .ok (.iload_n 3, 1) := by decide +kernel
theorem dX5_rules_19 : decode cX5_rules 19 = .ok (.invokestatic 57, 3) := by decide +kernel
theorem dX5_rules_22 : decode cX5_rules 22 = .ok (.ifCond .eq 21, 3) := by decide +kernel
theorem dX5_rules_25 : decode cX5_rules 25 = .ok (.iload_n 3, 1) := by decide +kernel
theorem dX5_rules_26 : decode cX5_rules 26 = .ok (.sipush 900, 3) := by decide +kernel
theorem dX5_rules_29 : decode cX5_rules 29 = .ok (.if_icmp .gt 14, 3) := by decide +kernel
theorem dX5_rules_32 : decode cX5_rules 32 = .ok (.iload 4, 2) := by decide +kernel
theorem dX5_rules_34 : decode cX5_rules 34 = .ok (.iconst 0, 1) := by decide +kernel
theorem dX5_rules_35 : decode cX5_rules 35 = .ok (.bipush 50, 2) := by decide +kernel
theorem dX5_rules_37 : decode cX5_rules 37 = .ok (.invokestatic 57, 3) := by decide +kernel
theorem dX5_rules_40 : decode cX5_rules 40 = .ok (.ifCond .ne 9, 3) := by decide +kernel
theorem dX5_rules_43 : decode cX5_rules 43 = .ok (.aload_n 0, 1) := by decide +kernel
theorem dX5_rules_44 : decode cX5_rules 44 = .ok (.iconst 1, 1) := by decide +kernel
theorem dX5_rules_45 : decode cX5_rules 45 = .ok (.invokevirtual 86, 3) := by decide +kernel
theorem dX5_rules_48 : decode cX5_rules 48 = .ok (.ireturn, 1) := by decide +kernel
theorem dX5_rules_49 : decode cX5_rules 49 = .ok (.iconst 4, 1) := by decide +kernel
theorem dX5_rules_50 : decode cX5_rules 50 = .ok (.newarray .int, 2) := by decide +kernel
theorem dX5_rules_52 : decode cX5_rules 52 = .ok (.dup, 1) := by decide +kernel
theorem dX5_rules_53 : decode cX5_rules 53 = .ok (.iconst 0, 1) := by decide +kernel
theorem dX5_rules_54 : decode cX5_rules 54 = .ok (.iload_n 1, 1) := by decide +kernel
theorem dX5_rules_55 : decode cX5_rules 55 = .ok (.iastore, 1) := by decide +kernel
theorem dX5_rules_56 : decode cX5_rules 56 = .ok (.dup, 1) := by decide +kernel
theorem dX5_rules_57 : decode cX5_rules 57 = .ok (.iconst 1, 1) := by decide +kernel
theorem dX5_rules_58 : decode cX5_rules 58 = .ok (.iload_n 2, 1) := by decide +kernel
theorem dX5_rules_59 : decode cX5_rules 59 = .ok (.iastore, 1) := by decide +kernel
theorem dX5_rules_60 : decode cX5_rules 60 = .ok (.dup, 1) := by decide +kernel
theorem dX5_rules_61 : decode cX5_rules 61 = .ok (.iconst 2, 1) := by decide +kernel
theorem dX5_rules_62 : decode cX5_rules 62 = .ok (.iload_n 3, 1) := by decide +kernel
theorem dX5_rules_63 : decode cX5_rules 63 = .ok (.iastore, 1) := by decide +kernel
theorem dX5_rules_64 : decode cX5_rules 64 = .ok (.dup, 1) := by decide +kernel
theorem dX5_rules_65 : decode cX5_rules 65 = .ok (.iconst 3, 1) := by decide +kernel
theorem dX5_rules_66 : decode cX5_rules 66 = .ok (.iload 4, 2) := by decide +kernel
theorem dX5_rules_68 : decode cX5_rules 68 = .ok (.iastore, 1) := by decide +kernel
theorem dX5_rules_69 : decode cX5_rules 69 = .ok (.astore 5, 2) := by decide +kernel
theorem dX5_rules_71 : decode cX5_rules 71 = .ok (.aload 5, 2) := by decide +kernel
theorem dX5_rules_73 : decode cX5_rules 73 = .ok (.iconst 0, 1) := by decide +kernel
theorem dX5_rules_74 : decode cX5_rules 74 = .ok (.aload_n 0, 1) := by decide +kernel
theorem dX5_rules_75 : decode cX5_rules 75 = .ok (.getfield 26, 3) := by decide +kernel
theorem dX5_rules_78 : decode cX5_rules 78 = .ok (.iconst 0, 1) := by decide +kernel
theorem dX5_rules_79 : decode cX5_rules 79 = .ok (.iconst 4, 1) := by decide +kernel
theorem dX5_rules_80 : decode cX5_rules 80 = .ok (.invokestatic 116, 3) := by decide +kernel
theorem dX5_rules_83 : decode cX5_rules 83 = .ok (.aload_n 0, 1) := by decide +kernel
theorem dX5_rules_84 : decode cX5_rules 84 = .ok (.getfield 22, 3) := by decide +kernel
theorem dX5_rules_87 : decode cX5_rules 87 = .ok (.iconst 3, 1) := by decide +kernel
theorem dX5_rules_88 : decode cX5_rules 88 = .ok (.iaload, 1) := by decide +kernel
theorem dX5_rules_89 : decode cX5_rules 89 = .ok (.ireturn, 1) := by decide +kernel
set_option maxRecDepth 20000 in
theorem ggX5_entered_Jx4a65c_size_8abf5 : GoodIn wsX5_entered wsJx4a65c_size_8abf5 := goodIn_r _ [6, 7, 52, 53, 54] (by decide +kernel) (by decide +kernel)
set_option maxRecDepth 20000 in
theorem gX5_entered_Jx4a65c_size_8abf5 : GoodIn wsX5_entered (wsV RX5 53 RJx4a65c yJx4a65c_size_8abf5 wsJx4a65c_size_8abf5) := goodIn_app (goodIn_of _ (by decide +kernel)) ggX5_entered_Jx4a65c_size_8abf5
theorem dX5_entered_0 : decode cX5_entered 0 = .ok (.iconst 0, 1) := by decide +kernel
theorem dX5_entered_1 : decode cX5_entered 1 = .ok (.istore_n 1, 1) := by decide +kernel
theorem dX5_entered_2 : decode cX5_entered 2 = .ok (.iconst 0, 1) := by decide +kernel
theorem dX5_entered_3 : decode cX5_entered 3 = .ok (.istore_n 2, 1) := by decide +kernel
theorem dX5_entered_4 : decode cX5_entered 4 = .ok (.iload_n 2, 1) := by decide +kernel
theorem dX5_entered_5 : decode cX5_entered 5 = .ok (.aload_n 0, 1) := by decide +kernel
theorem dX5_entered_6 : decode cX5_entered 6 = .ok (.getfield 16, 3) := by decide +kernel
theorem dX5_entered_9 : decode cX5_entered 9 = .ok (.invokevirtual 53, 3) := by decide +kernel
theorem dX5_entered_12 : decode cX5_entered 12 = .ok (.if_icmp .ge 25, 3) := by decide +kernel
theorem dX5_entered_37 : decode cX5_entered 37 = .ok (.iload_n 1, 1) := by decide +kernel
theorem dX5_entered_38 : decode cX5_entered 38 = .ok (.ireturn, 1) := by decide +kernel
set_option maxRecDepth 20000 in
theorem ggX5_enter_X5_isBook : GoodIn wsX5_enter wsX5_isBook := goodIn_r _ [10, 3, 11, 12, 13, 14, 15, 16, 17, 18, 9, 19, 72, 73, 74, 75, 76, 77, 78, 79, 80, 81, 82, 83, 84, 85, 86, 87, 88, 89, 90, 91, 92, 93, 94] (by decide +kernel) (by decide +kernel)
set_option maxRecDepth 20000 in
theorem gX5_enter_X5_isBook : GoodIn wsX5_enter (wsV RX5 141 RX5 yX5_isBook wsX5_isBook) := goodIn_app (goodIn_of _ (by decide +kernel)) ggX5_enter_X5_isBook
set_option maxRecDepth 20000 in
theorem ggX5_enter_X5_refuse : GoodIn wsX5_enter wsX5_refuse := goodIn_r _ [23, 1, 72, 73, 74, 75, 76, 77, 78, 79, 80, 81, 82, 83, 84, 85, 86, 87, 88, 89, 90, 91] (by decide +kernel) (by decide +kernel)
set_option maxRecDepth 20000 in
theorem gX5_enter_X5_refuse : GoodIn wsX5_enter (wsV RX5 86 RX5 yX5_refuse wsX5_refuse) := goodIn_app (goodIn_of _ (by decide +kernel)) ggX5_enter_X5_refuse
theorem dX5_enter_0 : decode cX5_enter 0 = .ok (.aload_n 0, 1) := by decide +kernel
theorem dX5_enter_1 : decode cX5_enter 1 = .ok (.iconst 0, 1) := by decide +kernel
theorem dX5_enter_2 : decode cX5_enter 2 = .ok (.putfield 50, 3) := by decide +kernel
theorem dX5_enter_5 : decode cX5_enter 5 = .ok (.aload_n 0, 1) := by decide +kernel
theorem dX5_enter_6 : decode cX5_enter 6 = .ok (.iload_n 1, 1) := by decide +kernel
theorem dX5_enter_7 : decode cX5_enter 7 = .ok (.invokevirtual 141, 3) := by decide +kernel
theorem dX5_enter_10 : decode cX5_enter 10 = .ok (.ifCond .ne 9, 3) := by decide +kernel
theorem dX5_enter_13 : decode cX5_enter 13 = .ok (.aload_n 0, 1) := by decide +kernel
theorem dX5_enter_14 : decode cX5_enter 14 = .ok (.iconst 1, 1) := by decide +kernel
theorem dX5_enter_15 : decode cX5_enter 15 = .ok (.invokevirtual 86, 3) := by decide +kernel
theorem dX5_enter_18 : decode cX5_enter 18 = .ok (.ireturn, 1) := by decide +kernel
set_option maxRecDepth 20000 in
theorem ggX5_callIn_X5_isJudge : GoodIn wsX5_callIn wsX5_isJudge := goodIn_r _ [10, 3, 11, 12, 13, 14, 15, 16, 17, 18, 9, 19, 72, 73, 74, 75, 76, 77, 78, 79, 80, 81, 82, 83, 84, 85, 86, 87, 88, 89, 90, 91, 92, 93, 94] (by decide +kernel) (by decide +kernel)
set_option maxRecDepth 20000 in
theorem gX5_callIn_X5_isJudge : GoodIn wsX5_callIn (wsV RX5 104 RX5 yX5_isJudge wsX5_isJudge) := goodIn_app (goodIn_of _ (by decide +kernel)) ggX5_callIn_X5_isJudge
set_option maxRecDepth 20000 in
theorem ggX5_callIn_X5_refuse : GoodIn wsX5_callIn wsX5_refuse := goodIn_r _ [28, 1, 72, 73, 74, 75, 76, 77, 78, 79, 80, 81, 82, 83, 84, 85, 86, 87, 88, 89, 90, 91] (by decide +kernel) (by decide +kernel)
set_option maxRecDepth 20000 in
theorem gX5_callIn_X5_refuse : GoodIn wsX5_callIn (wsV RX5 86 RX5 yX5_refuse wsX5_refuse) := goodIn_app (goodIn_of _ (by decide +kernel)) ggX5_callIn_X5_refuse
theorem dX5_callIn_0 : decode cX5_callIn 0 = .ok (.aload_n 0, 1) := by decide +kernel
theorem dX5_callIn_1 : decode cX5_callIn 1 = .ok (.iconst 0, 1) := by decide +kernel
theorem dX5_callIn_2 : decode cX5_callIn 2 = .ok (.putfield 50, 3) := by decide +kernel
theorem dX5_callIn_5 : decode cX5_callIn 5 = .ok (.aload_n 0, 1) := by decide +kernel
theorem dX5_callIn_6 : decode cX5_callIn 6 = .ok (.iload_n 1, 1) := by decide +kernel
theorem dX5_callIn_7 : decode cX5_callIn 7 = .ok (.invokevirtual 104, 3) := by decide +kernel
theorem dX5_callIn_10 : decode cX5_callIn 10 = .ok (.ifCond .eq 11, 3) := by decide +kernel
theorem dX5_callIn_21 : decode cX5_callIn 21 = .ok (.aload_n 0, 1) := by decide +kernel
theorem dX5_callIn_22 : decode cX5_callIn 22 = .ok (.iconst 1, 1) := by decide +kernel
theorem dX5_callIn_23 : decode cX5_callIn 23 = .ok (.invokevirtual 86, 3) := by decide +kernel
theorem dX5_callIn_26 : decode cX5_callIn 26 = .ok (.ireturn, 1) := by decide +kernel
set_option maxRecDepth 20000 in
theorem ggX5_read_Jx4a65c_size_8abf5 : GoodIn wsX5_read wsJx4a65c_size_8abf5 := goodIn_r _ [11, 12, 185, 186, 187] (by decide +kernel) (by decide +kernel)
set_option maxRecDepth 20000 in
theorem gX5_read_Jx4a65c_size_8abf5 : GoodIn wsX5_read (wsV RX5 53 RJx4a65c yJx4a65c_size_8abf5 wsJx4a65c_size_8abf5) := goodIn_app (goodIn_of _ (by decide +kernel)) ggX5_read_Jx4a65c_size_8abf5
set_option maxRecDepth 20000 in
theorem ggX5_read_X5_refuse : GoodIn wsX5_read wsX5_refuse := goodIn_r _ [44, 1, 165, 166, 167, 168, 169, 170, 171, 172, 173, 174, 175, 176, 177, 178, 179, 180, 181, 182, 183, 184] (by decide +kernel) (by decide +kernel)
set_option maxRecDepth 20000 in
theorem gX5_read_X5_refuse : GoodIn wsX5_read (wsV RX5 86 RX5 yX5_refuse wsX5_refuse) := goodIn_app (goodIn_of _ (by decide +kernel)) ggX5_read_X5_refuse
theorem dX5_read_0 : decode cX5_read 0 = .ok (.aload_n 0, 1) := by decide +kernel
theorem dX5_read_1 : decode cX5_read 1 = .ok (.iconst 0, 1) := by decide +kernel
theorem dX5_read_2 : decode cX5_read 2 = .ok (.putfield 50, 3) := by decide +kernel
theorem dX5_read_5 : decode cX5_read 5 = .ok (.aload_n 0, 1) := by decide +kernel
theorem dX5_read_6 : decode cX5_read 6 = .ok (.getfield 101, 3) := by decide +kernel
theorem dX5_read_9 : decode cX5_read 9 = .ok (.ifCond .ne 22, 3) := by decide +kernel
theorem dX5_read_12 : decode cX5_read 12 = .ok (.aload_n 0, 1) := by decide +kernel
theorem dX5_read_13 : decode cX5_read 13 = .ok (.getfield 19, 3) := by decide +kernel
theorem dX5_read_16 : decode cX5_read 16 = .ok (.invokevirtual 53, 3) := by decide +kernel
theorem dX5_read_19 : decode cX5_read 19 = .ok (.iconst 3, 1) := by decide +kernel
theorem dX5_read_20 : decode cX5_read 20 = .ok (.if_icmp .lt 11, 3) := by decide +kernel
theorem dX5_read_31 : decode cX5_read 31 = .ok (.aload_n 0, 1) := by decide +kernel
theorem dX5_read_32 : decode cX5_read 32 = .ok (.iconst 1, 1) := by decide +kernel
theorem dX5_read_33 : decode cX5_read 33 = .ok (.invokevirtual 86, 3) := by decide +kernel
theorem dX5_read_36 : decode cX5_read 36 = .ok (.ireturn, 1) := by decide +kernel
set_option maxRecDepth 20000 in
theorem ggX5_print_X5_isBook : GoodIn wsX5_print wsX5_isBook := goodIn_r _ [12, 2, 13, 14, 15, 16, 17, 18, 19, 20, 11, 21, 43, 44, 45, 46, 47, 48, 49, 50, 51, 52, 53, 54, 55, 56, 57, 58, 59, 60, 61, 62, 63, 64, 65] (by decide +kernel) (by decide +kernel)
set_option maxRecDepth 20000 in
theorem gX5_print_X5_isBook : GoodIn wsX5_print (wsV RX5 141 RX5 yX5_isBook wsX5_isBook) := goodIn_app (goodIn_of _ (by decide +kernel)) ggX5_print_X5_isBook
set_option maxRecDepth 20000 in
theorem ggX5_print_X5_refuse : GoodIn wsX5_print wsX5_refuse := goodIn_r _ [25, 1, 43, 44, 45, 46, 47, 48, 49, 50, 51, 52, 53, 54, 55, 56, 57, 58, 59, 60, 61, 62] (by decide +kernel) (by decide +kernel)
set_option maxRecDepth 20000 in
theorem gX5_print_X5_refuse : GoodIn wsX5_print (wsV RX5 86 RX5 yX5_refuse wsX5_refuse) := goodIn_app (goodIn_of _ (by decide +kernel)) ggX5_print_X5_refuse
theorem dX5_print_0 : decode cX5_print 0 = .ok (.aload_n 0, 1) := by decide +kernel
theorem dX5_print_1 : decode cX5_print 1 = .ok (.iconst 0, 1) := by decide +kernel
theorem dX5_print_2 : decode cX5_print 2 = .ok (.putfield 50, 3) := by decide +kernel
theorem dX5_print_5 : decode cX5_print 5 = .ok (.aload_n 0, 1) := by decide +kernel
theorem dX5_print_6 : decode cX5_print 6 = .ok (.iload_n 1, 1) := by decide +kernel
theorem dX5_print_7 : decode cX5_print 7 = .ok (.invokevirtual 141, 3) := by decide +kernel
theorem dX5_print_10 : decode cX5_print 10 = .ok (.ifCond .ne 9, 3) := by decide +kernel
theorem dX5_print_13 : decode cX5_print 13 = .ok (.aload_n 0, 1) := by decide +kernel
theorem dX5_print_14 : decode cX5_print 14 = .ok (.iconst 1, 1) := by decide +kernel
theorem dX5_print_15 : decode cX5_print 15 = .ok (.invokevirtual 86, 3) := by decide +kernel
theorem dX5_print_18 : decode cX5_print 18 = .ok (.ireturn, 1) := by decide +kernel
